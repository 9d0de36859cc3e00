section
-- ===== PART A: goes FIRST, ahead of the names: the tables' words, and 'selects' of the private methods out of them =====
/-- a private method of a class that the tables say can be made, by its rows of tables_1 -/
def lw_okq (q : MethodName × Nat) : Prop := (q.1.cls ≠ "java/lang/invoke/MethodHandle" ∧ q.1.cls ≠ "java/lang/invoke/VarHandle") ∧ Cond.instantiable q.1.cls q.2 ∈ tables_1 ∧ Cond.privateMethod q.1 ∈ tables_1 ∧ Cond.instanceMethod q.1 ∈ tables_1
theorem lw_p0 : lw_okq (⟨"DotPress", "refuse", "(I)I"⟩, 19) := ⟨⟨by decide +kernel, by decide +kernel⟩, List.mem_of_getElem? (i := 25) (by decide +kernel), List.mem_of_getElem? (i := 347) (by decide +kernel), List.mem_of_getElem? (i := 348) (by decide +kernel)⟩
theorem lw_p1 : lw_okq (⟨"DotPress", "feedFour", "(I)V"⟩, 19) := ⟨⟨by decide +kernel, by decide +kernel⟩, List.mem_of_getElem? (i := 25) (by decide +kernel), List.mem_of_getElem? (i := 351) (by decide +kernel), List.mem_of_getElem? (i := 352) (by decide +kernel)⟩
theorem lw_p2 : lw_okq (⟨"DotPress", "done", "(I)I"⟩, 19) := ⟨⟨by decide +kernel, by decide +kernel⟩, List.mem_of_getElem? (i := 25) (by decide +kernel), List.mem_of_getElem? (i := 375) (by decide +kernel), List.mem_of_getElem? (i := 376) (by decide +kernel)⟩
theorem lw_p3 : lw_okq (⟨"java/util/ArrayList", "add", "(Ljava/lang/Object;[Ljava/lang/Object;I)V"⟩, 3) := ⟨⟨by decide +kernel, by decide +kernel⟩, List.mem_of_getElem? (i := 65) (by decide +kernel), List.mem_of_getElem? (i := 466) (by decide +kernel), List.mem_of_getElem? (i := 467) (by decide +kernel)⟩
theorem lw_p4 : lw_okq (⟨"java/util/ArrayList", "grow", "()[Ljava/lang/Object;"⟩, 3) := ⟨⟨by decide +kernel, by decide +kernel⟩, List.mem_of_getElem? (i := 65) (by decide +kernel), List.mem_of_getElem? (i := 470) (by decide +kernel), List.mem_of_getElem? (i := 471) (by decide +kernel)⟩
theorem lw_p5 : lw_okq (⟨"java/util/ArrayList", "grow", "(I)[Ljava/lang/Object;"⟩, 3) := ⟨⟨by decide +kernel, by decide +kernel⟩, List.mem_of_getElem? (i := 65) (by decide +kernel), List.mem_of_getElem? (i := 474) (by decide +kernel), List.mem_of_getElem? (i := 475) (by decide +kernel)⟩
theorem lw_p6 : lw_okq (⟨"java/util/ArrayList", "fastRemove", "([Ljava/lang/Object;I)V"⟩, 3) := ⟨⟨by decide +kernel, by decide +kernel⟩, List.mem_of_getElem? (i := 65) (by decide +kernel), List.mem_of_getElem? (i := 552) (by decide +kernel), List.mem_of_getElem? (i := 553) (by decide +kernel)⟩
theorem lw_p7 : lw_okq (⟨"DotPress", "addRule", "(III)I"⟩, 19) := ⟨⟨by decide +kernel, by decide +kernel⟩, List.mem_of_getElem? (i := 25) (by decide +kernel), List.mem_of_getElem? (i := 586) (by decide +kernel), List.mem_of_getElem? (i := 587) (by decide +kernel)⟩
theorem lw_p8 : lw_okq (⟨"DotPress", "isRowOfCells", "(II)Z"⟩, 19) := ⟨⟨by decide +kernel, by decide +kernel⟩, List.mem_of_getElem? (i := 25) (by decide +kernel), List.mem_of_getElem? (i := 601) (by decide +kernel), List.mem_of_getElem? (i := 602) (by decide +kernel)⟩
theorem lw_p9 : lw_okq (⟨"DotPress", "changeIndicator", "(II)I"⟩, 19) := ⟨⟨by decide +kernel, by decide +kernel⟩, List.mem_of_getElem? (i := 25) (by decide +kernel), List.mem_of_getElem? (i := 660) (by decide +kernel), List.mem_of_getElem? (i := 661) (by decide +kernel)⟩
theorem lw_p10 : lw_okq (⟨"DotPress", "addText", "()I"⟩, 19) := ⟨⟨by decide +kernel, by decide +kernel⟩, List.mem_of_getElem? (i := 25) (by decide +kernel), List.mem_of_getElem? (i := 692) (by decide +kernel), List.mem_of_getElem? (i := 693) (by decide +kernel)⟩
theorem lw_p11 : lw_okq (⟨"DotPress$Source", "enterLine", "(LDotPress$Ints;)I"⟩, 8) := ⟨⟨by decide +kernel, by decide +kernel⟩, List.mem_of_getElem? (i := 98) (by decide +kernel), List.mem_of_getElem? (i := 734) (by decide +kernel), List.mem_of_getElem? (i := 735) (by decide +kernel)⟩
theorem lw_p12 : lw_okq (⟨"DotPress$Setting", "setPart", "(LDotPress$Table;II)I"⟩, 12) := ⟨⟨by decide +kernel, by decide +kernel⟩, List.mem_of_getElem? (i := 131) (by decide +kernel), List.mem_of_getElem? (i := 806) (by decide +kernel), List.mem_of_getElem? (i := 807) (by decide +kernel)⟩
theorem lw_p13 : lw_okq (⟨"DotPress$Setting", "numberAhead", "(LDotPress$Table;I)LDotPress$Row;"⟩, 12) := ⟨⟨by decide +kernel, by decide +kernel⟩, List.mem_of_getElem? (i := 131) (by decide +kernel), List.mem_of_getElem? (i := 810) (by decide +kernel), List.mem_of_getElem? (i := 811) (by decide +kernel)⟩
theorem lw_p14 : lw_okq (⟨"DotPress$Setting", "find", "(LDotPress$Table;II)LDotPress$Row;"⟩, 12) := ⟨⟨by decide +kernel, by decide +kernel⟩, List.mem_of_getElem? (i := 131) (by decide +kernel), List.mem_of_getElem? (i := 817) (by decide +kernel), List.mem_of_getElem? (i := 818) (by decide +kernel)⟩
theorem lw_p15 : lw_okq (⟨"DotPress$Setting", "countFind", "(I)V"⟩, 12) := ⟨⟨by decide +kernel, by decide +kernel⟩, List.mem_of_getElem? (i := 131) (by decide +kernel), List.mem_of_getElem? (i := 821) (by decide +kernel), List.mem_of_getElem? (i := 822) (by decide +kernel)⟩
def lw_privs_1 : List (MethodName × Nat) := [(⟨"DotPress", "refuse", "(I)I"⟩, 19), (⟨"DotPress", "feedFour", "(I)V"⟩, 19), (⟨"DotPress", "done", "(I)I"⟩, 19), (⟨"java/util/ArrayList", "add", "(Ljava/lang/Object;[Ljava/lang/Object;I)V"⟩, 3), (⟨"java/util/ArrayList", "grow", "()[Ljava/lang/Object;"⟩, 3), (⟨"java/util/ArrayList", "grow", "(I)[Ljava/lang/Object;"⟩, 3), (⟨"java/util/ArrayList", "fastRemove", "([Ljava/lang/Object;I)V"⟩, 3), (⟨"DotPress", "addRule", "(III)I"⟩, 19), (⟨"DotPress", "isRowOfCells", "(II)Z"⟩, 19), (⟨"DotPress", "changeIndicator", "(II)I"⟩, 19), (⟨"DotPress", "addText", "()I"⟩, 19), (⟨"DotPress$Source", "enterLine", "(LDotPress$Ints;)I"⟩, 8), (⟨"DotPress$Setting", "setPart", "(LDotPress$Table;II)I"⟩, 12), (⟨"DotPress$Setting", "numberAhead", "(LDotPress$Table;I)LDotPress$Row;"⟩, 12), (⟨"DotPress$Setting", "find", "(LDotPress$Table;II)LDotPress$Row;"⟩, 12), (⟨"DotPress$Setting", "countFind", "(I)V"⟩, 12)]
theorem lw_r1 : ∀ q ∈ lw_privs_1, lw_okq q := List.forall_mem_cons.mpr ⟨lw_p0, List.forall_mem_cons.mpr ⟨lw_p1, List.forall_mem_cons.mpr ⟨lw_p2, List.forall_mem_cons.mpr ⟨lw_p3, List.forall_mem_cons.mpr ⟨lw_p4, List.forall_mem_cons.mpr ⟨lw_p5, List.forall_mem_cons.mpr ⟨lw_p6, List.forall_mem_cons.mpr ⟨lw_p7, List.forall_mem_cons.mpr ⟨lw_p8, List.forall_mem_cons.mpr ⟨lw_p9, List.forall_mem_cons.mpr ⟨lw_p10, List.forall_mem_cons.mpr ⟨lw_p11, List.forall_mem_cons.mpr ⟨lw_p12, List.forall_mem_cons.mpr ⟨lw_p13, List.forall_mem_cons.mpr ⟨lw_p14, List.forall_mem_cons.mpr ⟨lw_p15, fun _ h => absurd h List.not_mem_nil⟩⟩⟩⟩⟩⟩⟩⟩⟩⟩⟩⟩⟩⟩⟩⟩
theorem lw_p16 : lw_okq (⟨"DotPress$Setting", "findOwn", "(LDotPress$Table;IILDotPress$Row;)LDotPress$Row;"⟩, 12) := ⟨⟨by decide +kernel, by decide +kernel⟩, List.mem_of_getElem? (i := 131) (by decide +kernel), List.mem_of_getElem? (i := 825) (by decide +kernel), List.mem_of_getElem? (i := 826) (by decide +kernel)⟩
theorem lw_p17 : lw_okq (⟨"DotPress$Setting", "fits", "(LDotPress$Row;I)Z"⟩, 12) := ⟨⟨by decide +kernel, by decide +kernel⟩, List.mem_of_getElem? (i := 131) (by decide +kernel), List.mem_of_getElem? (i := 833) (by decide +kernel), List.mem_of_getElem? (i := 834) (by decide +kernel)⟩
theorem lw_p18 : lw_okq (⟨"DotPress$Setting", "markStart", "(II)V"⟩, 12) := ⟨⟨by decide +kernel, by decide +kernel⟩, List.mem_of_getElem? (i := 131) (by decide +kernel), List.mem_of_getElem? (i := 843) (by decide +kernel), List.mem_of_getElem? (i := 844) (by decide +kernel)⟩
theorem lw_p19 : lw_okq (⟨"DotPress$Setting", "push", "(LDotPress$Row;)V"⟩, 12) := ⟨⟨by decide +kernel, by decide +kernel⟩, List.mem_of_getElem? (i := 131) (by decide +kernel), List.mem_of_getElem? (i := 847) (by decide +kernel), List.mem_of_getElem? (i := 848) (by decide +kernel)⟩
theorem lw_p20 : lw_okq (⟨"DotPress$Setting", "setTurn", "(LDotPress$Row;I)I"⟩, 12) := ⟨⟨by decide +kernel, by decide +kernel⟩, List.mem_of_getElem? (i := 131) (by decide +kernel), List.mem_of_getElem? (i := 852) (by decide +kernel), List.mem_of_getElem? (i := 853) (by decide +kernel)⟩
theorem lw_p21 : lw_okq (⟨"DotPress", "publish", "()I"⟩, 19) := ⟨⟨by decide +kernel, by decide +kernel⟩, List.mem_of_getElem? (i := 25) (by decide +kernel), List.mem_of_getElem? (i := 873) (by decide +kernel), List.mem_of_getElem? (i := 874) (by decide +kernel)⟩
theorem lw_p22 : lw_okq (⟨"DotPress", "refuseAt", "(II)I"⟩, 19) := ⟨⟨by decide +kernel, by decide +kernel⟩, List.mem_of_getElem? (i := 25) (by decide +kernel), List.mem_of_getElem? (i := 881) (by decide +kernel), List.mem_of_getElem? (i := 882) (by decide +kernel)⟩
theorem lw_p23 : lw_okq (⟨"DotPress", "linesOfPage", "()I"⟩, 19) := ⟨⟨by decide +kernel, by decide +kernel⟩, List.mem_of_getElem? (i := 25) (by decide +kernel), List.mem_of_getElem? (i := 899) (by decide +kernel), List.mem_of_getElem? (i := 900) (by decide +kernel)⟩
theorem lw_p24 : lw_okq (⟨"DotPress", "pagesHaveHeader", "()Z"⟩, 19) := ⟨⟨by decide +kernel, by decide +kernel⟩, List.mem_of_getElem? (i := 25) (by decide +kernel), List.mem_of_getElem? (i := 903) (by decide +kernel), List.mem_of_getElem? (i := 904) (by decide +kernel)⟩
theorem lw_p25 : lw_okq (⟨"DotPress", "cellOfLine", "(II)I"⟩, 19) := ⟨⟨by decide +kernel, by decide +kernel⟩, List.mem_of_getElem? (i := 25) (by decide +kernel), List.mem_of_getElem? (i := 923) (by decide +kernel), List.mem_of_getElem? (i := 924) (by decide +kernel)⟩
theorem lw_p26 : lw_okq (⟨"DotPress", "chainLines", "(II)V"⟩, 19) := ⟨⟨by decide +kernel, by decide +kernel⟩, List.mem_of_getElem? (i := 25) (by decide +kernel), List.mem_of_getElem? (i := 989) (by decide +kernel), List.mem_of_getElem? (i := 990) (by decide +kernel)⟩
theorem lw_p27 : lw_okq (⟨"DotPress$Reader", "decodeWord", "(I)I"⟩, 8) := ⟨⟨by decide +kernel, by decide +kernel⟩, List.mem_of_getElem? (i := 180) (by decide +kernel), List.mem_of_getElem? (i := 1037) (by decide +kernel), List.mem_of_getElem? (i := 1038) (by decide +kernel)⟩
theorem lw_p28 : lw_okq (⟨"DotPress$Reader", "longestAt", "(ZI)LDotPress$Row;"⟩, 8) := ⟨⟨by decide +kernel, by decide +kernel⟩, List.mem_of_getElem? (i := 180) (by decide +kernel), List.mem_of_getElem? (i := 1041) (by decide +kernel), List.mem_of_getElem? (i := 1042) (by decide +kernel)⟩
theorem lw_p29 : lw_okq (⟨"DotPress$Readings", "markEnds", "()V"⟩, 11) := ⟨⟨by decide +kernel, by decide +kernel⟩, List.mem_of_getElem? (i := 221) (by decide +kernel), List.mem_of_getElem? (i := 1091) (by decide +kernel), List.mem_of_getElem? (i := 1092) (by decide +kernel)⟩
theorem lw_p30 : lw_okq (⟨"DotPress$Readings", "nextChoice", "(II)I"⟩, 11) := ⟨⟨by decide +kernel, by decide +kernel⟩, List.mem_of_getElem? (i := 221) (by decide +kernel), List.mem_of_getElem? (i := 1095) (by decide +kernel), List.mem_of_getElem? (i := 1096) (by decide +kernel)⟩
theorem lw_p31 : lw_okq (⟨"DotPress$Readings", "nodeBehind", "(II)I"⟩, 11) := ⟨⟨by decide +kernel, by decide +kernel⟩, List.mem_of_getElem? (i := 221) (by decide +kernel), List.mem_of_getElem? (i := 1101) (by decide +kernel), List.mem_of_getElem? (i := 1102) (by decide +kernel)⟩
def lw_privs_2 : List (MethodName × Nat) := [(⟨"DotPress$Setting", "findOwn", "(LDotPress$Table;IILDotPress$Row;)LDotPress$Row;"⟩, 12), (⟨"DotPress$Setting", "fits", "(LDotPress$Row;I)Z"⟩, 12), (⟨"DotPress$Setting", "markStart", "(II)V"⟩, 12), (⟨"DotPress$Setting", "push", "(LDotPress$Row;)V"⟩, 12), (⟨"DotPress$Setting", "setTurn", "(LDotPress$Row;I)I"⟩, 12), (⟨"DotPress", "publish", "()I"⟩, 19), (⟨"DotPress", "refuseAt", "(II)I"⟩, 19), (⟨"DotPress", "linesOfPage", "()I"⟩, 19), (⟨"DotPress", "pagesHaveHeader", "()Z"⟩, 19), (⟨"DotPress", "cellOfLine", "(II)I"⟩, 19), (⟨"DotPress", "chainLines", "(II)V"⟩, 19), (⟨"DotPress$Reader", "decodeWord", "(I)I"⟩, 8), (⟨"DotPress$Reader", "longestAt", "(ZI)LDotPress$Row;"⟩, 8), (⟨"DotPress$Readings", "markEnds", "()V"⟩, 11), (⟨"DotPress$Readings", "nextChoice", "(II)I"⟩, 11), (⟨"DotPress$Readings", "nodeBehind", "(II)I"⟩, 11)]
theorem lw_r2 : ∀ q ∈ lw_privs_2, lw_okq q := List.forall_mem_cons.mpr ⟨lw_p16, List.forall_mem_cons.mpr ⟨lw_p17, List.forall_mem_cons.mpr ⟨lw_p18, List.forall_mem_cons.mpr ⟨lw_p19, List.forall_mem_cons.mpr ⟨lw_p20, List.forall_mem_cons.mpr ⟨lw_p21, List.forall_mem_cons.mpr ⟨lw_p22, List.forall_mem_cons.mpr ⟨lw_p23, List.forall_mem_cons.mpr ⟨lw_p24, List.forall_mem_cons.mpr ⟨lw_p25, List.forall_mem_cons.mpr ⟨lw_p26, List.forall_mem_cons.mpr ⟨lw_p27, List.forall_mem_cons.mpr ⟨lw_p28, List.forall_mem_cons.mpr ⟨lw_p29, List.forall_mem_cons.mpr ⟨lw_p30, List.forall_mem_cons.mpr ⟨lw_p31, fun _ h => absurd h List.not_mem_nil⟩⟩⟩⟩⟩⟩⟩⟩⟩⟩⟩⟩⟩⟩⟩⟩
theorem lw_p32 : lw_okq (⟨"DotPress$Readings", "looksLike", "(II)Z"⟩, 11) := ⟨⟨by decide +kernel, by decide +kernel⟩, List.mem_of_getElem? (i := 221) (by decide +kernel), List.mem_of_getElem? (i := 1105) (by decide +kernel), List.mem_of_getElem? (i := 1106) (by decide +kernel)⟩
theorem lw_p33 : lw_okq (⟨"DotPress$Readings", "looksLikeRow", "(LDotPress$Row;I)Z"⟩, 11) := ⟨⟨by decide +kernel, by decide +kernel⟩, List.mem_of_getElem? (i := 221) (by decide +kernel), List.mem_of_getElem? (i := 1111) (by decide +kernel), List.mem_of_getElem? (i := 1112) (by decide +kernel)⟩
theorem lw_p34 : lw_okq (⟨"DotPress$Readings", "walk", "(I)V"⟩, 11) := ⟨⟨by decide +kernel, by decide +kernel⟩, List.mem_of_getElem? (i := 221) (by decide +kernel), List.mem_of_getElem? (i := 1116) (by decide +kernel), List.mem_of_getElem? (i := 1117) (by decide +kernel)⟩
theorem lw_p35 : lw_okq (⟨"DotPress$Readings", "write", "(I)V"⟩, 11) := ⟨⟨by decide +kernel, by decide +kernel⟩, List.mem_of_getElem? (i := 221) (by decide +kernel), List.mem_of_getElem? (i := 1121) (by decide +kernel), List.mem_of_getElem? (i := 1122) (by decide +kernel)⟩
theorem lw_p36 : lw_okq (⟨"DotPress$Source", "markLetters", "(Ljava/util/ArrayList;)V"⟩, 8) := ⟨⟨by decide +kernel, by decide +kernel⟩, List.mem_of_getElem? (i := 98) (by decide +kernel), List.mem_of_getElem? (i := 1180) (by decide +kernel), List.mem_of_getElem? (i := 1181) (by decide +kernel)⟩
theorem lw_p37 : lw_okq (⟨"DotPress$Source", "lengthen", "(I)Z"⟩, 8) := ⟨⟨by decide +kernel, by decide +kernel⟩, List.mem_of_getElem? (i := 98) (by decide +kernel), List.mem_of_getElem? (i := 1191) (by decide +kernel), List.mem_of_getElem? (i := 1192) (by decide +kernel)⟩
theorem lw_p38 : lw_okq (⟨"DotPress", "isReadBack", "()Z"⟩, 19) := ⟨⟨by decide +kernel, by decide +kernel⟩, List.mem_of_getElem? (i := 25) (by decide +kernel), List.mem_of_getElem? (i := 1202) (by decide +kernel), List.mem_of_getElem? (i := 1203) (by decide +kernel)⟩
theorem lw_p39 : lw_okq (⟨"DotPressModel", "bad", "(I)I"⟩, 67) := ⟨⟨by decide +kernel, by decide +kernel⟩, List.mem_of_getElem? (i := 1250) (by decide +kernel), List.mem_of_getElem? (i := 1466) (by decide +kernel), List.mem_of_getElem? (i := 1467) (by decide +kernel)⟩
theorem lw_p40 : lw_okq (⟨"DotPressModel", "fine", "(I)I"⟩, 67) := ⟨⟨by decide +kernel, by decide +kernel⟩, List.mem_of_getElem? (i := 1250) (by decide +kernel), List.mem_of_getElem? (i := 1470) (by decide +kernel), List.mem_of_getElem? (i := 1471) (by decide +kernel)⟩
theorem lw_p41 : lw_okq (⟨"DotPressModel", "isTable", "(I)Z"⟩, 67) := ⟨⟨by decide +kernel, by decide +kernel⟩, List.mem_of_getElem? (i := 1250) (by decide +kernel), List.mem_of_getElem? (i := 1485) (by decide +kernel), List.mem_of_getElem? (i := 1486) (by decide +kernel)⟩
theorem lw_p42 : lw_okq (⟨"DotPressModel", "newTable", "(IIII)I"⟩, 67) := ⟨⟨by decide +kernel, by decide +kernel⟩, List.mem_of_getElem? (i := 1250) (by decide +kernel), List.mem_of_getElem? (i := 1489) (by decide +kernel), List.mem_of_getElem? (i := 1490) (by decide +kernel)⟩
theorem lw_p43 : lw_okq (⟨"DotPressModel", "step", "(IIII)V"⟩, 67) := ⟨⟨by decide +kernel, by decide +kernel⟩, List.mem_of_getElem? (i := 1250) (by decide +kernel), List.mem_of_getElem? (i := 1493) (by decide +kernel), List.mem_of_getElem? (i := 1494) (by decide +kernel)⟩
theorem lw_p44 : lw_okq (⟨"DotPressModel", "taken", "()I"⟩, 67) := ⟨⟨by decide +kernel, by decide +kernel⟩, List.mem_of_getElem? (i := 1250) (by decide +kernel), List.mem_of_getElem? (i := 1510) (by decide +kernel), List.mem_of_getElem? (i := 1511) (by decide +kernel)⟩
theorem lw_p45 : lw_okq (⟨"DotPressModel", "areCells", "(III)Z"⟩, 67) := ⟨⟨by decide +kernel, by decide +kernel⟩, List.mem_of_getElem? (i := 1250) (by decide +kernel), List.mem_of_getElem? (i := 1514) (by decide +kernel), List.mem_of_getElem? (i := 1515) (by decide +kernel)⟩
theorem lw_p46 : lw_okq (⟨"DotPressModel", "isWhole", "(I)Z"⟩, 67) := ⟨⟨by decide +kernel, by decide +kernel⟩, List.mem_of_getElem? (i := 1250) (by decide +kernel), List.mem_of_getElem? (i := 1549) (by decide +kernel), List.mem_of_getElem? (i := 1550) (by decide +kernel)⟩
theorem lw_p47 : lw_okq (⟨"DotPressModel", "lineEnd", "(I)I"⟩, 67) := ⟨⟨by decide +kernel, by decide +kernel⟩, List.mem_of_getElem? (i := 1250) (by decide +kernel), List.mem_of_getElem? (i := 1553) (by decide +kernel), List.mem_of_getElem? (i := 1554) (by decide +kernel)⟩
def lw_privs_3 : List (MethodName × Nat) := [(⟨"DotPress$Readings", "looksLike", "(II)Z"⟩, 11), (⟨"DotPress$Readings", "looksLikeRow", "(LDotPress$Row;I)Z"⟩, 11), (⟨"DotPress$Readings", "walk", "(I)V"⟩, 11), (⟨"DotPress$Readings", "write", "(I)V"⟩, 11), (⟨"DotPress$Source", "markLetters", "(Ljava/util/ArrayList;)V"⟩, 8), (⟨"DotPress$Source", "lengthen", "(I)Z"⟩, 8), (⟨"DotPress", "isReadBack", "()Z"⟩, 19), (⟨"DotPressModel", "bad", "(I)I"⟩, 67), (⟨"DotPressModel", "fine", "(I)I"⟩, 67), (⟨"DotPressModel", "isTable", "(I)Z"⟩, 67), (⟨"DotPressModel", "newTable", "(IIII)I"⟩, 67), (⟨"DotPressModel", "step", "(IIII)V"⟩, 67), (⟨"DotPressModel", "taken", "()I"⟩, 67), (⟨"DotPressModel", "areCells", "(III)Z"⟩, 67), (⟨"DotPressModel", "isWhole", "(I)Z"⟩, 67), (⟨"DotPressModel", "lineEnd", "(I)I"⟩, 67)]
theorem lw_r3 : ∀ q ∈ lw_privs_3, lw_okq q := List.forall_mem_cons.mpr ⟨lw_p32, List.forall_mem_cons.mpr ⟨lw_p33, List.forall_mem_cons.mpr ⟨lw_p34, List.forall_mem_cons.mpr ⟨lw_p35, List.forall_mem_cons.mpr ⟨lw_p36, List.forall_mem_cons.mpr ⟨lw_p37, List.forall_mem_cons.mpr ⟨lw_p38, List.forall_mem_cons.mpr ⟨lw_p39, List.forall_mem_cons.mpr ⟨lw_p40, List.forall_mem_cons.mpr ⟨lw_p41, List.forall_mem_cons.mpr ⟨lw_p42, List.forall_mem_cons.mpr ⟨lw_p43, List.forall_mem_cons.mpr ⟨lw_p44, List.forall_mem_cons.mpr ⟨lw_p45, List.forall_mem_cons.mpr ⟨lw_p46, List.forall_mem_cons.mpr ⟨lw_p47, fun _ h => absurd h List.not_mem_nil⟩⟩⟩⟩⟩⟩⟩⟩⟩⟩⟩⟩⟩⟩⟩⟩
theorem lw_p48 : lw_okq (⟨"DotPressModel", "newLine", "()Z"⟩, 67) := ⟨⟨by decide +kernel, by decide +kernel⟩, List.mem_of_getElem? (i := 1250) (by decide +kernel), List.mem_of_getElem? (i := 1557) (by decide +kernel), List.mem_of_getElem? (i := 1558) (by decide +kernel)⟩
theorem lw_p49 : lw_okq (⟨"DotPressModel", "takeWord", "(II)I"⟩, 67) := ⟨⟨by decide +kernel, by decide +kernel⟩, List.mem_of_getElem? (i := 1250) (by decide +kernel), List.mem_of_getElem? (i := 1561) (by decide +kernel), List.mem_of_getElem? (i := 1562) (by decide +kernel)⟩
theorem lw_p50 : lw_okq (⟨"DotPressModel", "setWord", "(I)Z"⟩, 67) := ⟨⟨by decide +kernel, by decide +kernel⟩, List.mem_of_getElem? (i := 1250) (by decide +kernel), List.mem_of_getElem? (i := 1565) (by decide +kernel), List.mem_of_getElem? (i := 1566) (by decide +kernel)⟩
theorem lw_p51 : lw_okq (⟨"DotPressModel", "setPart", "(III)Z"⟩, 67) := ⟨⟨by decide +kernel, by decide +kernel⟩, List.mem_of_getElem? (i := 1250) (by decide +kernel), List.mem_of_getElem? (i := 1569) (by decide +kernel), List.mem_of_getElem? (i := 1570) (by decide +kernel)⟩
theorem lw_p52 : lw_okq (⟨"DotPressModel", "putIndicator", "(II)V"⟩, 67) := ⟨⟨by decide +kernel, by decide +kernel⟩, List.mem_of_getElem? (i := 1250) (by decide +kernel), List.mem_of_getElem? (i := 1576) (by decide +kernel), List.mem_of_getElem? (i := 1577) (by decide +kernel)⟩
theorem lw_p53 : lw_okq (⟨"DotPressModel", "find", "(IIII)I"⟩, 67) := ⟨⟨by decide +kernel, by decide +kernel⟩, List.mem_of_getElem? (i := 1250) (by decide +kernel), List.mem_of_getElem? (i := 1580) (by decide +kernel), List.mem_of_getElem? (i := 1581) (by decide +kernel)⟩
theorem lw_p54 : lw_okq (⟨"DotPressModel", "contracted", "(IIII)I"⟩, 67) := ⟨⟨by decide +kernel, by decide +kernel⟩, List.mem_of_getElem? (i := 1250) (by decide +kernel), List.mem_of_getElem? (i := 1584) (by decide +kernel), List.mem_of_getElem? (i := 1585) (by decide +kernel)⟩
theorem lw_p55 : lw_okq (⟨"DotPressModel", "own", "(IIII)I"⟩, 67) := ⟨⟨by decide +kernel, by decide +kernel⟩, List.mem_of_getElem? (i := 1250) (by decide +kernel), List.mem_of_getElem? (i := 1588) (by decide +kernel), List.mem_of_getElem? (i := 1589) (by decide +kernel)⟩
theorem lw_p56 : lw_okq (⟨"DotPressModel", "fits", "(IIII)Z"⟩, 67) := ⟨⟨by decide +kernel, by decide +kernel⟩, List.mem_of_getElem? (i := 1250) (by decide +kernel), List.mem_of_getElem? (i := 1592) (by decide +kernel), List.mem_of_getElem? (i := 1593) (by decide +kernel)⟩
theorem lw_p57 : lw_okq (⟨"DotPressModel", "notSet", "()I"⟩, 67) := ⟨⟨by decide +kernel, by decide +kernel⟩, List.mem_of_getElem? (i := 1250) (by decide +kernel), List.mem_of_getElem? (i := 1602) (by decide +kernel), List.mem_of_getElem? (i := 1603) (by decide +kernel)⟩
theorem lw_p58 : lw_okq (⟨"DotPressModel", "badAt", "(II)I"⟩, 67) := ⟨⟨by decide +kernel, by decide +kernel⟩, List.mem_of_getElem? (i := 1250) (by decide +kernel), List.mem_of_getElem? (i := 1606) (by decide +kernel), List.mem_of_getElem? (i := 1607) (by decide +kernel)⟩
theorem lw_p59 : lw_okq (⟨"DotPressModel", "flow", "(I)Z"⟩, 67) := ⟨⟨by decide +kernel, by decide +kernel⟩, List.mem_of_getElem? (i := 1250) (by decide +kernel), List.mem_of_getElem? (i := 1610) (by decide +kernel), List.mem_of_getElem? (i := 1611) (by decide +kernel)⟩
theorem lw_p60 : lw_okq (⟨"DotPressModel", "breakOf", "(III)I"⟩, 67) := ⟨⟨by decide +kernel, by decide +kernel⟩, List.mem_of_getElem? (i := 1250) (by decide +kernel), List.mem_of_getElem? (i := 1614) (by decide +kernel), List.mem_of_getElem? (i := 1615) (by decide +kernel)⟩
theorem lw_p61 : lw_okq (⟨"DotPressModel", "putCell", "(I)V"⟩, 67) := ⟨⟨by decide +kernel, by decide +kernel⟩, List.mem_of_getElem? (i := 1250) (by decide +kernel), List.mem_of_getElem? (i := 1618) (by decide +kernel), List.mem_of_getElem? (i := 1619) (by decide +kernel)⟩
theorem lw_p62 : lw_okq (⟨"DotPressModel", "centre", "(I)V"⟩, 67) := ⟨⟨by decide +kernel, by decide +kernel⟩, List.mem_of_getElem? (i := 1250) (by decide +kernel), List.mem_of_getElem? (i := 1622) (by decide +kernel), List.mem_of_getElem? (i := 1623) (by decide +kernel)⟩
theorem lw_p63 : lw_okq (⟨"DotPressModel", "onPage", "()I"⟩, 67) := ⟨⟨by decide +kernel, by decide +kernel⟩, List.mem_of_getElem? (i := 1250) (by decide +kernel), List.mem_of_getElem? (i := 1639) (by decide +kernel), List.mem_of_getElem? (i := 1640) (by decide +kernel)⟩
def lw_privs_4 : List (MethodName × Nat) := [(⟨"DotPressModel", "newLine", "()Z"⟩, 67), (⟨"DotPressModel", "takeWord", "(II)I"⟩, 67), (⟨"DotPressModel", "setWord", "(I)Z"⟩, 67), (⟨"DotPressModel", "setPart", "(III)Z"⟩, 67), (⟨"DotPressModel", "putIndicator", "(II)V"⟩, 67), (⟨"DotPressModel", "find", "(IIII)I"⟩, 67), (⟨"DotPressModel", "contracted", "(IIII)I"⟩, 67), (⟨"DotPressModel", "own", "(IIII)I"⟩, 67), (⟨"DotPressModel", "fits", "(IIII)Z"⟩, 67), (⟨"DotPressModel", "notSet", "()I"⟩, 67), (⟨"DotPressModel", "badAt", "(II)I"⟩, 67), (⟨"DotPressModel", "flow", "(I)Z"⟩, 67), (⟨"DotPressModel", "breakOf", "(III)I"⟩, 67), (⟨"DotPressModel", "putCell", "(I)V"⟩, 67), (⟨"DotPressModel", "centre", "(I)V"⟩, 67), (⟨"DotPressModel", "onPage", "()I"⟩, 67)]
theorem lw_r4 : ∀ q ∈ lw_privs_4, lw_okq q := List.forall_mem_cons.mpr ⟨lw_p48, List.forall_mem_cons.mpr ⟨lw_p49, List.forall_mem_cons.mpr ⟨lw_p50, List.forall_mem_cons.mpr ⟨lw_p51, List.forall_mem_cons.mpr ⟨lw_p52, List.forall_mem_cons.mpr ⟨lw_p53, List.forall_mem_cons.mpr ⟨lw_p54, List.forall_mem_cons.mpr ⟨lw_p55, List.forall_mem_cons.mpr ⟨lw_p56, List.forall_mem_cons.mpr ⟨lw_p57, List.forall_mem_cons.mpr ⟨lw_p58, List.forall_mem_cons.mpr ⟨lw_p59, List.forall_mem_cons.mpr ⟨lw_p60, List.forall_mem_cons.mpr ⟨lw_p61, List.forall_mem_cons.mpr ⟨lw_p62, List.forall_mem_cons.mpr ⟨lw_p63, fun _ h => absurd h List.not_mem_nil⟩⟩⟩⟩⟩⟩⟩⟩⟩⟩⟩⟩⟩⟩⟩⟩
theorem lw_p64 : lw_okq (⟨"DotPressModel", "hasHead", "()Z"⟩, 67) := ⟨⟨by decide +kernel, by decide +kernel⟩, List.mem_of_getElem? (i := 1250) (by decide +kernel), List.mem_of_getElem? (i := 1643) (by decide +kernel), List.mem_of_getElem? (i := 1644) (by decide +kernel)⟩
theorem lw_p65 : lw_okq (⟨"DotPressModel", "lineFault", "(I)I"⟩, 67) := ⟨⟨by decide +kernel, by decide +kernel⟩, List.mem_of_getElem? (i := 1250) (by decide +kernel), List.mem_of_getElem? (i := 1651) (by decide +kernel), List.mem_of_getElem? (i := 1652) (by decide +kernel)⟩
theorem lw_p66 : lw_okq (⟨"DotPressModel", "putRow", "(II)V"⟩, 67) := ⟨⟨by decide +kernel, by decide +kernel⟩, List.mem_of_getElem? (i := 1250) (by decide +kernel), List.mem_of_getElem? (i := 1702) (by decide +kernel), List.mem_of_getElem? (i := 1703) (by decide +kernel)⟩
theorem lw_p67 : lw_okq (⟨"DotPressModel", "gather", "(I)V"⟩, 67) := ⟨⟨by decide +kernel, by decide +kernel⟩, List.mem_of_getElem? (i := 1250) (by decide +kernel), List.mem_of_getElem? (i := 1706) (by decide +kernel), List.mem_of_getElem? (i := 1707) (by decide +kernel)⟩
theorem lw_p68 : lw_okq (⟨"DotPressModel", "addRows", "(II)V"⟩, 67) := ⟨⟨by decide +kernel, by decide +kernel⟩, List.mem_of_getElem? (i := 1250) (by decide +kernel), List.mem_of_getElem? (i := 1710) (by decide +kernel), List.mem_of_getElem? (i := 1711) (by decide +kernel)⟩
theorem lw_p69 : lw_okq (⟨"DotPressModel", "addRow", "(IIII)V"⟩, 67) := ⟨⟨by decide +kernel, by decide +kernel⟩, List.mem_of_getElem? (i := 1250) (by decide +kernel), List.mem_of_getElem? (i := 1714) (by decide +kernel), List.mem_of_getElem? (i := 1715) (by decide +kernel)⟩
theorem lw_p70 : lw_okq (⟨"DotPressModel", "addIndicator", "(III)V"⟩, 67) := ⟨⟨by decide +kernel, by decide +kernel⟩, List.mem_of_getElem? (i := 1250) (by decide +kernel), List.mem_of_getElem? (i := 1718) (by decide +kernel), List.mem_of_getElem? (i := 1719) (by decide +kernel)⟩
theorem lw_p71 : lw_okq (⟨"DotPressModel", "readAll", "()I"⟩, 67) := ⟨⟨by decide +kernel, by decide +kernel⟩, List.mem_of_getElem? (i := 1250) (by decide +kernel), List.mem_of_getElem? (i := 1722) (by decide +kernel), List.mem_of_getElem? (i := 1723) (by decide +kernel)⟩
theorem lw_p72 : lw_okq (⟨"DotPressModel", "tell", "(I)Z"⟩, 67) := ⟨⟨by decide +kernel, by decide +kernel⟩, List.mem_of_getElem? (i := 1250) (by decide +kernel), List.mem_of_getElem? (i := 1726) (by decide +kernel), List.mem_of_getElem? (i := 1727) (by decide +kernel)⟩
theorem lw_p73 : lw_okq (⟨"DotPressModel", "readWord", "(II)I"⟩, 67) := ⟨⟨by decide +kernel, by decide +kernel⟩, List.mem_of_getElem? (i := 1250) (by decide +kernel), List.mem_of_getElem? (i := 1730) (by decide +kernel), List.mem_of_getElem? (i := 1731) (by decide +kernel)⟩
theorem lw_p74 : lw_okq (⟨"DotPressModel", "longest", "(III)I"⟩, 67) := ⟨⟨by decide +kernel, by decide +kernel⟩, List.mem_of_getElem? (i := 1250) (by decide +kernel), List.mem_of_getElem? (i := 1734) (by decide +kernel), List.mem_of_getElem? (i := 1735) (by decide +kernel)⟩
theorem lw_p75 : lw_okq (⟨"DotPressModel", "stands", "(III)Z"⟩, 67) := ⟨⟨by decide +kernel, by decide +kernel⟩, List.mem_of_getElem? (i := 1250) (by decide +kernel), List.mem_of_getElem? (i := 1738) (by decide +kernel), List.mem_of_getElem? (i := 1739) (by decide +kernel)⟩
theorem lw_p76 : lw_okq (⟨"DotPressModel", "rowCell", "(II)I"⟩, 67) := ⟨⟨by decide +kernel, by decide +kernel⟩, List.mem_of_getElem? (i := 1250) (by decide +kernel), List.mem_of_getElem? (i := 1742) (by decide +kernel), List.mem_of_getElem? (i := 1743) (by decide +kernel)⟩
theorem lw_p77 : lw_okq (⟨"DotPressModel", "isSmallRule", "(I)Z"⟩, 67) := ⟨⟨by decide +kernel, by decide +kernel⟩, List.mem_of_getElem? (i := 1250) (by decide +kernel), List.mem_of_getElem? (i := 1746) (by decide +kernel), List.mem_of_getElem? (i := 1747) (by decide +kernel)⟩
theorem lw_p78 : lw_okq (⟨"DotPressModel", "findCan", "()V"⟩, 67) := ⟨⟨by decide +kernel, by decide +kernel⟩, List.mem_of_getElem? (i := 1250) (by decide +kernel), List.mem_of_getElem? (i := 1762) (by decide +kernel), List.mem_of_getElem? (i := 1763) (by decide +kernel)⟩
theorem lw_p79 : lw_okq (⟨"DotPressModel", "mayBlank", "(IZ)Z"⟩, 67) := ⟨⟨by decide +kernel, by decide +kernel⟩, List.mem_of_getElem? (i := 1250) (by decide +kernel), List.mem_of_getElem? (i := 1766) (by decide +kernel), List.mem_of_getElem? (i := 1767) (by decide +kernel)⟩
def lw_privs_5 : List (MethodName × Nat) := [(⟨"DotPressModel", "hasHead", "()Z"⟩, 67), (⟨"DotPressModel", "lineFault", "(I)I"⟩, 67), (⟨"DotPressModel", "putRow", "(II)V"⟩, 67), (⟨"DotPressModel", "gather", "(I)V"⟩, 67), (⟨"DotPressModel", "addRows", "(II)V"⟩, 67), (⟨"DotPressModel", "addRow", "(IIII)V"⟩, 67), (⟨"DotPressModel", "addIndicator", "(III)V"⟩, 67), (⟨"DotPressModel", "readAll", "()I"⟩, 67), (⟨"DotPressModel", "tell", "(I)Z"⟩, 67), (⟨"DotPressModel", "readWord", "(II)I"⟩, 67), (⟨"DotPressModel", "longest", "(III)I"⟩, 67), (⟨"DotPressModel", "stands", "(III)Z"⟩, 67), (⟨"DotPressModel", "rowCell", "(II)I"⟩, 67), (⟨"DotPressModel", "isSmallRule", "(I)Z"⟩, 67), (⟨"DotPressModel", "findCan", "()V"⟩, 67), (⟨"DotPressModel", "mayBlank", "(IZ)Z"⟩, 67)]
theorem lw_r5 : ∀ q ∈ lw_privs_5, lw_okq q := List.forall_mem_cons.mpr ⟨lw_p64, List.forall_mem_cons.mpr ⟨lw_p65, List.forall_mem_cons.mpr ⟨lw_p66, List.forall_mem_cons.mpr ⟨lw_p67, List.forall_mem_cons.mpr ⟨lw_p68, List.forall_mem_cons.mpr ⟨lw_p69, List.forall_mem_cons.mpr ⟨lw_p70, List.forall_mem_cons.mpr ⟨lw_p71, List.forall_mem_cons.mpr ⟨lw_p72, List.forall_mem_cons.mpr ⟨lw_p73, List.forall_mem_cons.mpr ⟨lw_p74, List.forall_mem_cons.mpr ⟨lw_p75, List.forall_mem_cons.mpr ⟨lw_p76, List.forall_mem_cons.mpr ⟨lw_p77, List.forall_mem_cons.mpr ⟨lw_p78, List.forall_mem_cons.mpr ⟨lw_p79, fun _ h => absurd h List.not_mem_nil⟩⟩⟩⟩⟩⟩⟩⟩⟩⟩⟩⟩⟩⟩⟩⟩
theorem lw_p80 : lw_okq (⟨"DotPressModel", "looksLike", "(II)Z"⟩, 67) := ⟨⟨by decide +kernel, by decide +kernel⟩, List.mem_of_getElem? (i := 1250) (by decide +kernel), List.mem_of_getElem? (i := 1770) (by decide +kernel), List.mem_of_getElem? (i := 1771) (by decide +kernel)⟩
theorem lw_p81 : lw_okq (⟨"DotPressModel", "may", "(IIIZ)Z"⟩, 67) := ⟨⟨by decide +kernel, by decide +kernel⟩, List.mem_of_getElem? (i := 1250) (by decide +kernel), List.mem_of_getElem? (i := 1777) (by decide +kernel), List.mem_of_getElem? (i := 1778) (by decide +kernel)⟩
theorem lw_p82 : lw_okq (⟨"DotPressModel", "next", "(II)I"⟩, 67) := ⟨⟨by decide +kernel, by decide +kernel⟩, List.mem_of_getElem? (i := 1250) (by decide +kernel), List.mem_of_getElem? (i := 1781) (by decide +kernel), List.mem_of_getElem? (i := 1782) (by decide +kernel)⟩
theorem lw_p83 : lw_okq (⟨"DotPressModel", "go", "(IIZ)V"⟩, 67) := ⟨⟨by decide +kernel, by decide +kernel⟩, List.mem_of_getElem? (i := 1250) (by decide +kernel), List.mem_of_getElem? (i := 1785) (by decide +kernel), List.mem_of_getElem? (i := 1786) (by decide +kernel)⟩
theorem lw_p84 : lw_okq (⟨"DotPressModel", "keep", "()V"⟩, 67) := ⟨⟨by decide +kernel, by decide +kernel⟩, List.mem_of_getElem? (i := 1250) (by decide +kernel), List.mem_of_getElem? (i := 1789) (by decide +kernel), List.mem_of_getElem? (i := 1790) (by decide +kernel)⟩
theorem lw_p85 : lw_okq (⟨"DotPressModel", "isShort", "(I)Z"⟩, 67) := ⟨⟨by decide +kernel, by decide +kernel⟩, List.mem_of_getElem? (i := 1250) (by decide +kernel), List.mem_of_getElem? (i := 1805) (by decide +kernel), List.mem_of_getElem? (i := 1806) (by decide +kernel)⟩
theorem lw_p86 : lw_okq (⟨"DotPressModel", "isReadable", "(I)Z"⟩, 67) := ⟨⟨by decide +kernel, by decide +kernel⟩, List.mem_of_getElem? (i := 1250) (by decide +kernel), List.mem_of_getElem? (i := 1809) (by decide +kernel), List.mem_of_getElem? (i := 1810) (by decide +kernel)⟩
theorem lw_p87 : lw_okq (⟨"DotPressModel", "alike", "(II)I"⟩, 67) := ⟨⟨by decide +kernel, by decide +kernel⟩, List.mem_of_getElem? (i := 1250) (by decide +kernel), List.mem_of_getElem? (i := 1813) (by decide +kernel), List.mem_of_getElem? (i := 1814) (by decide +kernel)⟩
theorem lw_p88 : lw_okq (⟨"DotPressModel", "gatherSigns", "(I)V"⟩, 67) := ⟨⟨by decide +kernel, by decide +kernel⟩, List.mem_of_getElem? (i := 1250) (by decide +kernel), List.mem_of_getElem? (i := 1825) (by decide +kernel), List.mem_of_getElem? (i := 1826) (by decide +kernel)⟩
theorem lw_p89 : lw_okq (⟨"DotPressModel", "putBack", "()V"⟩, 67) := ⟨⟨by decide +kernel, by decide +kernel⟩, List.mem_of_getElem? (i := 1250) (by decide +kernel), List.mem_of_getElem? (i := 1829) (by decide +kernel), List.mem_of_getElem? (i := 1830) (by decide +kernel)⟩
theorem lw_p90 : lw_okq (⟨"DotPressModel", "isUnreadable", "(I)Z"⟩, 67) := ⟨⟨by decide +kernel, by decide +kernel⟩, List.mem_of_getElem? (i := 1250) (by decide +kernel), List.mem_of_getElem? (i := 1833) (by decide +kernel), List.mem_of_getElem? (i := 1834) (by decide +kernel)⟩
def lw_privs_6 : List (MethodName × Nat) := [(⟨"DotPressModel", "looksLike", "(II)Z"⟩, 67), (⟨"DotPressModel", "may", "(IIIZ)Z"⟩, 67), (⟨"DotPressModel", "next", "(II)I"⟩, 67), (⟨"DotPressModel", "go", "(IIZ)V"⟩, 67), (⟨"DotPressModel", "keep", "()V"⟩, 67), (⟨"DotPressModel", "isShort", "(I)Z"⟩, 67), (⟨"DotPressModel", "isReadable", "(I)Z"⟩, 67), (⟨"DotPressModel", "alike", "(II)I"⟩, 67), (⟨"DotPressModel", "gatherSigns", "(I)V"⟩, 67), (⟨"DotPressModel", "putBack", "()V"⟩, 67), (⟨"DotPressModel", "isUnreadable", "(I)Z"⟩, 67)]
theorem lw_r6 : ∀ q ∈ lw_privs_6, lw_okq q := List.forall_mem_cons.mpr ⟨lw_p80, List.forall_mem_cons.mpr ⟨lw_p81, List.forall_mem_cons.mpr ⟨lw_p82, List.forall_mem_cons.mpr ⟨lw_p83, List.forall_mem_cons.mpr ⟨lw_p84, List.forall_mem_cons.mpr ⟨lw_p85, List.forall_mem_cons.mpr ⟨lw_p86, List.forall_mem_cons.mpr ⟨lw_p87, List.forall_mem_cons.mpr ⟨lw_p88, List.forall_mem_cons.mpr ⟨lw_p89, List.forall_mem_cons.mpr ⟨lw_p90, fun _ h => absurd h List.not_mem_nil⟩⟩⟩⟩⟩⟩⟩⟩⟩⟩⟩
def lw_privs : List (MethodName × Nat) := lw_privs_1 ++ (lw_privs_2 ++ (lw_privs_3 ++ (lw_privs_4 ++ (lw_privs_5 ++ (lw_privs_6)))))
def lw_tbl : List Cond := k2_sels lw_privs ++ tables_1
theorem lw_privs_ok : ∀ q ∈ lw_privs, lw_okq q := by
  show ∀ q ∈ lw_privs_1 ++ (lw_privs_2 ++ (lw_privs_3 ++ (lw_privs_4 ++ (lw_privs_5 ++ (lw_privs_6))))), lw_okq q
  exact List.forall_mem_append.mpr ⟨lw_r1, List.forall_mem_append.mpr ⟨lw_r2, List.forall_mem_append.mpr ⟨lw_r3, List.forall_mem_append.mpr ⟨lw_r4, List.forall_mem_append.mpr ⟨lw_r5, lw_r6⟩⟩⟩⟩⟩
end
section
def RX0 : String := "DotPress$Change"
def TX0 : u_T := fun k => match k with
  | 0 => ("DotPress$Change", "what", "I", true)
  | 1 => ("DotPress$Change", "table", "LDotPress$Table;", true)
  | 2 => ("DotPress$Change", "row", "LDotPress$Row;", true)
  | _ => ("DotPress$Change", "number", "I", true)
def tyX0 : Nat → FieldType := fun k => match k with
  | 0 => .int
  | 1 => .object "DotPress$Table"
  | 2 => .object "DotPress$Row"
  | _ => .int
abbrev wsX00 : List Cond := u_ws RX0 TX0 4
theorem nmX0 : ∀ a, a < 4 → ∀ b, b < 4 → a ≠ b → (TX0 a).2.1 ≠ (TX0 b).2.1 := by decide +kernel
theorem tyX0_ok : ∀ k, k < 4 → parseFieldDescriptor (TX0 k).2.2.1 = some (tyX0 k) := by decide +kernel
abbrev cX0_init : ByteArray := prog_2_method_1_code
def yX0_init : MethodName := ⟨RX0, "<init>", "(ILDotPress$Table;LDotPress$Row;I)V"⟩
def RX1 : String := "DotPress$Ints"
def TX1 : u_T := fun k => match k with
  | 0 => ("DotPress$Ints", "limit", "I", true)
  | 1 => ("DotPress$Ints", "items", "[I", false)
  | _ => ("DotPress$Ints", "size", "I", false)
def tyX1 : Nat → FieldType := fun k => match k with
  | 0 => .int
  | 1 => .array .int
  | _ => .int
abbrev wsX10 : List Cond := u_ws RX1 TX1 3
theorem nmX1 : ∀ a, a < 3 → ∀ b, b < 3 → a ≠ b → (TX1 a).2.1 ≠ (TX1 b).2.1 := by decide +kernel
theorem tyX1_ok : ∀ k, k < 3 → parseFieldDescriptor (TX1 k).2.2.1 = some (tyX1 k) := by decide +kernel
abbrev cX1_init : ByteArray := prog_3_method_1_code
def yX1_init : MethodName := ⟨RX1, "<init>", "(I)V"⟩
abbrev cX1_add : ByteArray := prog_3_method_2_code
def yX1_add : MethodName := ⟨RX1, "add", "(I)V"⟩
abbrev cX1_addAll : ByteArray := prog_3_method_3_code
def yX1_addAll : MethodName := ⟨RX1, "addAll", "(LDotPress$Ints;)V"⟩
abbrev cX1_at : ByteArray := prog_3_method_4_code
def yX1_at : MethodName := ⟨RX1, "at", "(I)I"⟩
abbrev cX1_clear : ByteArray := prog_3_method_5_code
def yX1_clear : MethodName := ⟨RX1, "clear", "()V"⟩
abbrev cX1_keep : ByteArray := prog_3_method_6_code
def yX1_keep : MethodName := ⟨RX1, "keep", "(I)V"⟩
abbrev cX1_isWithin : ByteArray := prog_3_method_7_code
def yX1_isWithin : MethodName := ⟨RX1, "isWithin", "(IIII)Z"⟩
abbrev cX1_slice : ByteArray := prog_3_method_8_code
def yX1_slice : MethodName := ⟨RX1, "slice", "(II)[I"⟩
def RX2 : String := "DotPress$Line"
def TX2 : u_T := fun k => match k with
  | 0 => ("DotPress$Line", "cells", "[I", true)
  | 1 => ("DotPress$Line", "size", "I", false)
  | _ => ("DotPress$Line", "lacking", "Z", false)
def tyX2 : Nat → FieldType := fun k => match k with
  | 0 => .array .int
  | 1 => .int
  | _ => .boolean
abbrev wsX20 : List Cond := u_ws RX2 TX2 3
theorem nmX2 : ∀ a, a < 3 → ∀ b, b < 3 → a ≠ b → (TX2 a).2.1 ≠ (TX2 b).2.1 := by decide +kernel
theorem tyX2_ok : ∀ k, k < 3 → parseFieldDescriptor (TX2 k).2.2.1 = some (tyX2 k) := by decide +kernel
abbrev cX2_init : ByteArray := prog_4_method_1_code
def yX2_init : MethodName := ⟨RX2, "<init>", "()V"⟩
abbrev cX2_clear : ByteArray := prog_4_method_2_code
def yX2_clear : MethodName := ⟨RX2, "clear", "()V"⟩
abbrev cX2_add : ByteArray := prog_4_method_3_code
def yX2_add : MethodName := ⟨RX2, "add", "(I)V"⟩
abbrev cX2_addPart : ByteArray := prog_4_method_4_code
def yX2_addPart : MethodName := ⟨RX2, "addPart", "(LDotPress$Setting;II)V"⟩
abbrev cX2_resize : ByteArray := prog_4_method_5_code
def yX2_resize : MethodName := ⟨RX2, "resize", "(I)V"⟩
abbrev cX2_indent : ByteArray := prog_4_method_6_code
def yX2_indent : MethodName := ⟨RX2, "indent", "(I)V"⟩
abbrev cX2_become : ByteArray := prog_4_method_7_code
def yX2_become : MethodName := ⟨RX2, "become", "(LDotPress$Line;)V"⟩
abbrev cX2_hasCells : ByteArray := prog_4_method_8_code
def yX2_hasCells : MethodName := ⟨RX2, "hasCells", "(II)Z"⟩
abbrev cX2_endsWith : ByteArray := prog_4_method_9_code
def yX2_endsWith : MethodName := ⟨RX2, "endsWith", "(I)Z"⟩
abbrev cX2_dots : ByteArray := prog_4_method_10_code
def yX2_dots : MethodName := ⟨RX2, "dots", "()I"⟩
def RX3 : String := "DotPress$Reader"
def TX3 : u_T := fun k => match k with
  | 0 => ("DotPress$Reader", "first", "Ljava/util/ArrayList;", true)
  | 1 => ("DotPress$Reader", "second", "Ljava/util/ArrayList;", true)
  | 2 => ("DotPress$Reader", "firstBegins", "LDotPress$Ints;", true)
  | 3 => ("DotPress$Reader", "secondBegins", "LDotPress$Ints;", true)
  | 4 => ("DotPress$Reader", "cells", "LDotPress$Ints;", true)
  | 5 => ("DotPress$Reader", "places", "LDotPress$Ints;", true)
  | 6 => ("DotPress$Reader", "bytes", "LDotPress$Ints;", true)
  | _ => ("DotPress$Reader", "wrong", "I", false)
def tyX3 : Nat → FieldType := fun k => match k with
  | 0 => .object "java/util/ArrayList"
  | 1 => .object "java/util/ArrayList"
  | 2 => .object "DotPress$Ints"
  | 3 => .object "DotPress$Ints"
  | 4 => .object "DotPress$Ints"
  | 5 => .object "DotPress$Ints"
  | 6 => .object "DotPress$Ints"
  | _ => .int
abbrev wsX30 : List Cond := u_ws RX3 TX3 8
theorem nmX3 : ∀ a, a < 8 → ∀ b, b < 8 → a ≠ b → (TX3 a).2.1 ≠ (TX3 b).2.1 := by decide +kernel
theorem tyX3_ok : ∀ k, k < 8 → parseFieldDescriptor (TX3 k).2.2.1 = some (tyX3 k) := by decide +kernel
abbrev cX3_init : ByteArray := prog_5_method_1_code
def yX3_init : MethodName := ⟨RX3, "<init>", "()V"⟩
abbrev cX3_gather : ByteArray := prog_5_method_2_code
def yX3_gather : MethodName := ⟨RX3, "gather", "(LDotPress$Table;)V"⟩
abbrev cX3_markBegins : ByteArray := prog_5_method_3_code
def yX3_markBegins : MethodName := ⟨RX3, "markBegins", "(Ljava/util/ArrayList;LDotPress$Ints;)V"⟩
abbrev cX3_gatherPart : ByteArray := prog_5_method_4_code
def yX3_gatherPart : MethodName := ⟨RX3, "gatherPart", "(Ljava/util/ArrayList;LDotPress$Table;)V"⟩
abbrev cX3_addIndicator : ByteArray := prog_5_method_5_code
def yX3_addIndicator : MethodName := ⟨RX3, "addIndicator", "(Ljava/util/ArrayList;LDotPress$Row;)V"⟩
abbrev cX3_rowsOf : ByteArray := prog_5_method_6_code
def yX3_rowsOf : MethodName := ⟨RX3, "rowsOf", "(Z)Ljava/util/ArrayList;"⟩
abbrev cX3_isReadable : ByteArray := prog_5_method_7_code
def yX3_isReadable : MethodName := ⟨RX3, "isReadable", "(Ljava/util/ArrayList;I)Z"⟩
abbrev cX3_clearCells : ByteArray := prog_5_method_8_code
def yX3_clearCells : MethodName := ⟨RX3, "clearCells", "()V"⟩
abbrev cX3_addCell : ByteArray := prog_5_method_9_code
def yX3_addCell : MethodName := ⟨RX3, "addCell", "(II)V"⟩
abbrev cX3_chain : ByteArray := prog_5_method_10_code
def yX3_chain : MethodName := ⟨RX3, "chain", "(LDotPress$Line;IIZ)V"⟩
abbrev cX3_decode : ByteArray := prog_5_method_11_code
def yX3_decode : MethodName := ⟨RX3, "decode", "()Z"⟩
abbrev cX3_decodeWord : ByteArray := prog_5_method_12_code
def yX3_decodeWord : MethodName := ⟨RX3, "decodeWord", "(I)I"⟩
abbrev cX3_longestAt : ByteArray := prog_5_method_13_code
def yX3_longestAt : MethodName := ⟨RX3, "longestAt", "(ZI)LDotPress$Row;"⟩
abbrev cX3_placeOfWrong : ByteArray := prog_5_method_14_code
def yX3_placeOfWrong : MethodName := ⟨RX3, "placeOfWrong", "()I"⟩
def RX4 : String := "DotPress$Readings"
def TX4 : u_T := fun k => match k with
  | 0 => ("DotPress$Readings", "canEnd", "[Z", true)
  | 1 => ("DotPress$Readings", "nodes", "[I", true)
  | 2 => ("DotPress$Readings", "choices", "[I", true)
  | 3 => ("DotPress$Readings", "ends", "[I", true)
  | 4 => ("DotPress$Readings", "bytes", "LDotPress$Ints;", true)
  | 5 => ("DotPress$Readings", "count", "I", false)
  | 6 => ("DotPress$Readings", "leftSome", "Z", false)
  | 7 => ("DotPress$Readings", "rows", "LDotPress$Reader;", true)
  | 8 => ("DotPress$Readings", "cells", "[I", true)
  | 9 => ("DotPress$Readings", "size", "I", false)
  | _ => ("DotPress$Readings", "seen", "I", false)
def tyX4 : Nat → FieldType := fun k => match k with
  | 0 => .array .boolean
  | 1 => .array .int
  | 2 => .array .int
  | 3 => .array .int
  | 4 => .object "DotPress$Ints"
  | 5 => .int
  | 6 => .boolean
  | 7 => .object "DotPress$Reader"
  | 8 => .array .int
  | 9 => .int
  | _ => .int
abbrev wsX40 : List Cond := u_ws RX4 TX4 11
theorem nmX4 : ∀ a, a < 11 → ∀ b, b < 11 → a ≠ b → (TX4 a).2.1 ≠ (TX4 b).2.1 := by decide +kernel
theorem tyX4_ok : ∀ k, k < 11 → parseFieldDescriptor (TX4 k).2.2.1 = some (tyX4 k) := by decide +kernel
abbrev cX4_init : ByteArray := prog_6_method_1_code
def yX4_init : MethodName := ⟨RX4, "<init>", "(LDotPress$Reader;)V"⟩
abbrev cX4_byteOf : ByteArray := prog_6_method_2_code
def yX4_byteOf : MethodName := ⟨RX4, "byteOf", "(II)I"⟩
abbrev cX4_collect : ByteArray := prog_6_method_3_code
def yX4_collect : MethodName := ⟨RX4, "collect", "(LDotPress$Line;II)V"⟩
abbrev cX4_markEnds : ByteArray := prog_6_method_4_code
def yX4_markEnds : MethodName := ⟨RX4, "markEnds", "()V"⟩
abbrev cX4_walk : ByteArray := prog_6_method_5_code
def yX4_walk : MethodName := ⟨RX4, "walk", "(I)V"⟩
abbrev cX4_nextChoice : ByteArray := prog_6_method_6_code
def yX4_nextChoice : MethodName := ⟨RX4, "nextChoice", "(II)I"⟩
abbrev cX4_nodeBehind : ByteArray := prog_6_method_7_code
def yX4_nodeBehind : MethodName := ⟨RX4, "nodeBehind", "(II)I"⟩
abbrev cX4_looksLike : ByteArray := prog_6_method_8_code
def yX4_looksLike : MethodName := ⟨RX4, "looksLike", "(II)Z"⟩
abbrev cX4_looksLikeRow : ByteArray := prog_6_method_9_code
def yX4_looksLikeRow : MethodName := ⟨RX4, "looksLikeRow", "(LDotPress$Row;I)Z"⟩
abbrev cX4_write : ByteArray := prog_6_method_10_code
def yX4_write : MethodName := ⟨RX4, "write", "(I)V"⟩
def RX5 : String := "DotPress$Row"
def TX5 : u_T := fun k => match k with
  | 0 => ("DotPress$Row", "role", "I", true)
  | 1 => ("DotPress$Row", "letters", "[I", true)
  | 2 => ("DotPress$Row", "cells", "[I", true)
  | _ => ("DotPress$Row", "condition", "I", false)
def tyX5 : Nat → FieldType := fun k => match k with
  | 0 => .int
  | 1 => .array .int
  | 2 => .array .int
  | _ => .int
abbrev wsX50 : List Cond := u_ws RX5 TX5 4
theorem nmX5 : ∀ a, a < 4 → ∀ b, b < 4 → a ≠ b → (TX5 a).2.1 ≠ (TX5 b).2.1 := by decide +kernel
theorem tyX5_ok : ∀ k, k < 4 → parseFieldDescriptor (TX5 k).2.2.1 = some (tyX5 k) := by decide +kernel
abbrev cX5_init : ByteArray := prog_7_method_1_code
def yX5_init : MethodName := ⟨RX5, "<init>", "(I[I[I)V"⟩
abbrev cX5_beginsSmall : ByteArray := prog_7_method_2_code
def yX5_beginsSmall : MethodName := ⟨RX5, "beginsSmall", "()Z"⟩
abbrev cX5_alike : ByteArray := prog_7_method_3_code
def yX5_alike : MethodName := ⟨RX5, "alike", "(LDotPress$Row;)I"⟩
abbrev cX5_isAtBeginOf : ByteArray := prog_7_method_4_code
def yX5_isAtBeginOf : MethodName := ⟨RX5, "isAtBeginOf", "(LDotPress$Row;)Z"⟩
abbrev cX5_endsWith : ByteArray := prog_7_method_5_code
def yX5_endsWith : MethodName := ⟨RX5, "endsWith", "(I)Z"⟩
abbrev cX5_standsAt : ByteArray := prog_7_method_6_code
def yX5_standsAt : MethodName := ⟨RX5, "standsAt", "(LDotPress$Ints;I)Z"⟩
abbrev cX5_writeLetters : ByteArray := prog_7_method_7_code
def yX5_writeLetters : MethodName := ⟨RX5, "writeLetters", "(LDotPress$Ints;Z)V"⟩
def RX6 : String := "DotPress$Setting"
def TX6 : u_T := fun k => match k with
  | 0 => ("DotPress$Setting", "letters", "[I", true)
  | 1 => ("DotPress$Setting", "places", "[I", true)
  | 2 => ("DotPress$Setting", "breaks", "[Z", true)
  | 3 => ("DotPress$Setting", "starts", "[I", true)
  | 4 => ("DotPress$Setting", "size", "I", false)
  | 5 => ("DotPress$Setting", "breakComes", "Z", false)
  | 6 => ("DotPress$Setting", "cells", "[I", true)
  | 7 => ("DotPress$Setting", "count", "I", false)
  | 8 => ("DotPress$Setting", "finds", "[I", true)
  | 9 => ("DotPress$Setting", "unknown", "I", false)
  | 10 => ("DotPress$Setting", "partBegin", "I", false)
  | _ => ("DotPress$Setting", "partEnd", "I", false)
def tyX6 : Nat → FieldType := fun k => match k with
  | 0 => .array .int
  | 1 => .array .int
  | 2 => .array .boolean
  | 3 => .array .int
  | 4 => .int
  | 5 => .boolean
  | 6 => .array .int
  | 7 => .int
  | 8 => .array .int
  | 9 => .int
  | 10 => .int
  | _ => .int
abbrev wsX60 : List Cond := u_ws RX6 TX6 12
theorem nmX6 : ∀ a, a < 12 → ∀ b, b < 12 → a ≠ b → (TX6 a).2.1 ≠ (TX6 b).2.1 := by decide +kernel
theorem tyX6_ok : ∀ k, k < 12 → parseFieldDescriptor (TX6 k).2.2.1 = some (tyX6 k) := by decide +kernel
abbrev cX6_init : ByteArray := prog_8_method_1_code
def yX6_init : MethodName := ⟨RX6, "<init>", "()V"⟩
abbrev cX6_clear : ByteArray := prog_8_method_2_code
def yX6_clear : MethodName := ⟨RX6, "clear", "()V"⟩
abbrev cX6_put : ByteArray := prog_8_method_3_code
def yX6_put : MethodName := ⟨RX6, "put", "(II)V"⟩
abbrev cX6_putBreak : ByteArray := prog_8_method_4_code
def yX6_putBreak : MethodName := ⟨RX6, "putBreak", "()V"⟩
abbrev cX6_placeOfUnknown : ByteArray := prog_8_method_5_code
def yX6_placeOfUnknown : MethodName := ⟨RX6, "placeOfUnknown", "()I"⟩
abbrev cX6_findsOf : ByteArray := prog_8_method_6_code
def yX6_findsOf : MethodName := ⟨RX6, "findsOf", "(I)I"⟩
abbrev cX6_hasLetters : ByteArray := prog_8_method_7_code
def yX6_hasLetters : MethodName := ⟨RX6, "hasLetters", "(LDotPress$Ints;)Z"⟩
abbrev cX6_writeLetters : ByteArray := prog_8_method_8_code
def yX6_writeLetters : MethodName := ⟨RX6, "writeLetters", "(LDotPress$Ints;)V"⟩
abbrev cX6_setBy : ByteArray := prog_8_method_9_code
def yX6_setBy : MethodName := ⟨RX6, "setBy", "(LDotPress$Table;)I"⟩
abbrev cX6_setTurn : ByteArray := prog_8_method_10_code
def yX6_setTurn : MethodName := ⟨RX6, "setTurn", "(LDotPress$Row;I)I"⟩
abbrev cX6_setPart : ByteArray := prog_8_method_11_code
def yX6_setPart : MethodName := ⟨RX6, "setPart", "(LDotPress$Table;II)I"⟩
abbrev cX6_markStart : ByteArray := prog_8_method_12_code
def yX6_markStart : MethodName := ⟨RX6, "markStart", "(II)V"⟩
abbrev cX6_numberAhead : ByteArray := prog_8_method_13_code
def yX6_numberAhead : MethodName := ⟨RX6, "numberAhead", "(LDotPress$Table;I)LDotPress$Row;"⟩
abbrev cX6_push : ByteArray := prog_8_method_14_code
def yX6_push : MethodName := ⟨RX6, "push", "(LDotPress$Row;)V"⟩
abbrev cX6_find : ByteArray := prog_8_method_15_code
def yX6_find : MethodName := ⟨RX6, "find", "(LDotPress$Table;II)LDotPress$Row;"⟩
abbrev cX6_countFind : ByteArray := prog_8_method_16_code
def yX6_countFind : MethodName := ⟨RX6, "countFind", "(I)V"⟩
abbrev cX6_findOwn : ByteArray := prog_8_method_17_code
def yX6_findOwn : MethodName := ⟨RX6, "findOwn", "(LDotPress$Table;IILDotPress$Row;)LDotPress$Row;"⟩
abbrev cX6_fits : ByteArray := prog_8_method_18_code
def yX6_fits : MethodName := ⟨RX6, "fits", "(LDotPress$Row;I)Z"⟩
abbrev cX6_isSign : ByteArray := prog_8_method_19_code
def yX6_isSign : MethodName := ⟨RX6, "isSign", "(I)Z"⟩
abbrev cX6_lastBreak : ByteArray := prog_8_method_20_code
def yX6_lastBreak : MethodName := ⟨RX6, "lastBreak", "(III)I"⟩
def RX7 : String := "DotPress$Sheet"
def TX7 : u_T := fun k => match k with
  | 0 => ("DotPress$Sheet", "rows", "[LDotPress$Line;", true)
  | 1 => ("DotPress$Sheet", "count", "I", false)
  | _ => ("DotPress$Sheet", "textBegin", "I", false)
def tyX7 : Nat → FieldType := fun k => match k with
  | 0 => .array (.object "DotPress$Line")
  | 1 => .int
  | _ => .int
abbrev wsX70 : List Cond := u_ws RX7 TX7 3
theorem nmX7 : ∀ a, a < 3 → ∀ b, b < 3 → a ≠ b → (TX7 a).2.1 ≠ (TX7 b).2.1 := by decide +kernel
theorem tyX7_ok : ∀ k, k < 3 → parseFieldDescriptor (TX7 k).2.2.1 = some (tyX7 k) := by decide +kernel
abbrev cX7_init : ByteArray := prog_9_method_1_code
def yX7_init : MethodName := ⟨RX7, "<init>", "()V"⟩
abbrev cX7_clear : ByteArray := prog_9_method_2_code
def yX7_clear : MethodName := ⟨RX7, "clear", "()V"⟩
abbrev cX7_at : ByteArray := prog_9_method_3_code
def yX7_at : MethodName := ⟨RX7, "at", "(I)LDotPress$Line;"⟩
abbrev cX7_present : ByteArray := prog_9_method_4_code
def yX7_present : MethodName := ⟨RX7, "present", "(I)LDotPress$Line;"⟩
abbrev cX7_whyNone : ByteArray := prog_9_method_5_code
def yX7_whyNone : MethodName := ⟨RX7, "whyNone", "(I)I"⟩
abbrev cX7_begin : ByteArray := prog_9_method_6_code
def yX7_begin : MethodName := ⟨RX7, "begin", "()Z"⟩
abbrev cX7_take : ByteArray := prog_9_method_7_code
def yX7_take : MethodName := ⟨RX7, "take", "(LDotPress$Setting;III)Z"⟩
abbrev cX7_beginText : ByteArray := prog_9_method_8_code
def yX7_beginText : MethodName := ⟨RX7, "beginText", "()Z"⟩
abbrev cX7_endText : ByteArray := prog_9_method_9_code
def yX7_endText : MethodName := ⟨RX7, "endText", "(ZI)V"⟩
abbrev cX7_goOver : ByteArray := prog_9_method_10_code
def yX7_goOver : MethodName := ⟨RX7, "goOver", "(I)I"⟩
def RX8 : String := "DotPress$Source"
def TX8 : u_T := fun k => match k with
  | 0 => ("DotPress$Source", "at", "I", false)
  | 1 => ("DotPress$Source", "inLine", "Z", false)
  | 2 => ("DotPress$Source", "centred", "Z", false)
  | 3 => ("DotPress$Source", "isSpelt", "[Z", true)
  | 4 => ("DotPress$Source", "alphabet", "[I", true)
  | 5 => ("DotPress$Source", "alphabetSize", "I", false)
  | 6 => ("DotPress$Source", "turns", "[I", true)
  | _ => ("DotPress$Source", "spelling", "I", false)
def tyX8 : Nat → FieldType := fun k => match k with
  | 0 => .int
  | 1 => .boolean
  | 2 => .boolean
  | 3 => .array .boolean
  | 4 => .array .int
  | 5 => .int
  | 6 => .array .int
  | _ => .int
abbrev wsX80 : List Cond := u_ws RX8 TX8 8
theorem nmX8 : ∀ a, a < 8 → ∀ b, b < 8 → a ≠ b → (TX8 a).2.1 ≠ (TX8 b).2.1 := by decide +kernel
theorem tyX8_ok : ∀ k, k < 8 → parseFieldDescriptor (TX8 k).2.2.1 = some (tyX8 k) := by decide +kernel
abbrev cX8_init : ByteArray := prog_10_method_1_code
def yX8_init : MethodName := ⟨RX8, "<init>", "()V"⟩
abbrev cX8_restart : ByteArray := prog_10_method_2_code
def yX8_restart : MethodName := ⟨RX8, "restart", "()V"⟩
abbrev cX8_step : ByteArray := prog_10_method_3_code
def yX8_step : MethodName := ⟨RX8, "step", "(LDotPress$Ints;LDotPress$Setting;)I"⟩
abbrev cX8_enterLine : ByteArray := prog_10_method_4_code
def yX8_enterLine : MethodName := ⟨RX8, "enterLine", "(LDotPress$Ints;)I"⟩
abbrev cX8_gatherAlphabet : ByteArray := prog_10_method_5_code
def yX8_gatherAlphabet : MethodName := ⟨RX8, "gatherAlphabet", "(LDotPress$Reader;Z)V"⟩
abbrev cX8_markLetters : ByteArray := prog_10_method_6_code
def yX8_markLetters : MethodName := ⟨RX8, "markLetters", "(Ljava/util/ArrayList;)V"⟩
abbrev cX8_startSpelling : ByteArray := prog_10_method_7_code
def yX8_startSpelling : MethodName := ⟨RX8, "startSpelling", "(I)Z"⟩
abbrev cX8_lengthen : ByteArray := prog_10_method_8_code
def yX8_lengthen : MethodName := ⟨RX8, "lengthen", "(I)Z"⟩
abbrev cX8_spell : ByteArray := prog_10_method_9_code
def yX8_spell : MethodName := ⟨RX8, "spell", "(LDotPress$Setting;)V"⟩
abbrev cX8_spellNext : ByteArray := prog_10_method_10_code
def yX8_spellNext : MethodName := ⟨RX8, "spellNext", "(I)Z"⟩
def RX9 : String := "DotPress$Table"
def TX9 : u_T := fun k => match k with
  | 0 => ("DotPress$Table", "kind", "I", true)
  | 1 => ("DotPress$Table", "dots", "I", true)
  | 2 => ("DotPress$Table", "base", "LDotPress$Table;", true)
  | 3 => ("DotPress$Table", "second", "LDotPress$Table;", true)
  | 4 => ("DotPress$Table", "rules", "Ljava/util/ArrayList;", true)
  | 5 => ("DotPress$Table", "initials", "LDotPress$Ints;", true)
  | 6 => ("DotPress$Table", "indicators", "[LDotPress$Row;", true)
  | _ => ("DotPress$Table", "dropped", "Z", false)
def tyX9 : Nat → FieldType := fun k => match k with
  | 0 => .int
  | 1 => .int
  | 2 => .object "DotPress$Table"
  | 3 => .object "DotPress$Table"
  | 4 => .object "java/util/ArrayList"
  | 5 => .object "DotPress$Ints"
  | 6 => .array (.object "DotPress$Row")
  | _ => .boolean
abbrev wsX90 : List Cond := u_ws RX9 TX9 8
theorem nmX9 : ∀ a, a < 8 → ∀ b, b < 8 → a ≠ b → (TX9 a).2.1 ≠ (TX9 b).2.1 := by decide +kernel
theorem tyX9_ok : ∀ k, k < 8 → parseFieldDescriptor (TX9 k).2.2.1 = some (tyX9 k) := by decide +kernel
abbrev cX9_init : ByteArray := prog_11_method_1_code
def yX9_init : MethodName := ⟨RX9, "<init>", "(IILDotPress$Table;LDotPress$Table;)V"⟩
abbrev cX9_append : ByteArray := prog_11_method_2_code
def yX9_append : MethodName := ⟨RX9, "append", "(LDotPress$Row;)V"⟩
abbrev cX9_removeLast : ByteArray := prog_11_method_3_code
def yX9_removeLast : MethodName := ⟨RX9, "removeLast", "()V"⟩
abbrev cX9_mayHave : ByteArray := prog_11_method_4_code
def yX9_mayHave : MethodName := ⟨RX9, "mayHave", "(I)Z"⟩
abbrev cX9_isWhole : ByteArray := prog_11_method_5_code
def yX9_isWhole : MethodName := ⟨RX9, "isWhole", "()Z"⟩
abbrev cX9_isUpright : ByteArray := prog_11_method_6_code
def yX9_isUpright : MethodName := ⟨RX9, "isUpright", "(LDotPress$Table;)Z"⟩
abbrev cX9_hasShort : ByteArray := prog_11_method_7_code
def yX9_hasShort : MethodName := ⟨RX9, "hasShort", "()Z"⟩
abbrev cX9_isOverShort : ByteArray := prog_11_method_8_code
def yX9_isOverShort : MethodName := ⟨RX9, "isOverShort", "(LDotPress$Table;)Z"⟩
def RX10 : String := "DotPress$Tables"
def TX10 : u_T := fun k => match k with
  | 0 => ("DotPress$Tables", "made", "Ljava/util/ArrayList;", true)
  | _ => ("DotPress$Tables", "changes", "Ljava/util/ArrayList;", true)
def tyX10 : Nat → FieldType := fun k => match k with
  | 0 => .object "java/util/ArrayList"
  | _ => .object "java/util/ArrayList"
abbrev wsX100 : List Cond := u_ws RX10 TX10 2
theorem nmX10 : ∀ a, a < 2 → ∀ b, b < 2 → a ≠ b → (TX10 a).2.1 ≠ (TX10 b).2.1 := by decide +kernel
theorem tyX10_ok : ∀ k, k < 2 → parseFieldDescriptor (TX10 k).2.2.1 = some (tyX10 k) := by decide +kernel
abbrev cX10_init : ByteArray := prog_12_method_1_code
def yX10_init : MethodName := ⟨RX10, "<init>", "()V"⟩
abbrev cX10_isFull : ByteArray := prog_12_method_2_code
def yX10_isFull : MethodName := ⟨RX10, "isFull", "()Z"⟩
abbrev cX10_alive : ByteArray := prog_12_method_3_code
def yX10_alive : MethodName := ⟨RX10, "alive", "(I)LDotPress$Table;"⟩
abbrev cX10_whole : ByteArray := prog_12_method_4_code
def yX10_whole : MethodName := ⟨RX10, "whole", "(I)LDotPress$Table;"⟩
abbrev cX10_make : ByteArray := prog_12_method_5_code
def yX10_make : MethodName := ⟨RX10, "make", "(LDotPress$Table;)I"⟩
abbrev cX10_remember : ByteArray := prog_12_method_6_code
def yX10_remember : MethodName := ⟨RX10, "remember", "(LDotPress$Change;)V"⟩
abbrev cX10_takeBack : ByteArray := prog_12_method_7_code
def yX10_takeBack : MethodName := ⟨RX10, "takeBack", "()Z"⟩
def RX11 : String := "DotPress"
def TX11 : u_T := fun k => match k with
  | 0 => ("DotPress", "tape", "LDotPress$Ints;", true)
  | 1 => ("DotPress", "written", "LDotPress$Ints;", true)
  | 2 => ("DotPress", "bytesRead", "LDotPress$Ints;", true)
  | 3 => ("DotPress", "header", "LDotPress$Ints;", true)
  | 4 => ("DotPress", "tables", "LDotPress$Tables;", true)
  | 5 => ("DotPress", "source", "LDotPress$Source;", true)
  | 6 => ("DotPress", "word", "LDotPress$Setting;", true)
  | 7 => ("DotPress", "reader", "LDotPress$Reader;", true)
  | 8 => ("DotPress", "found", "LDotPress$Readings;", true)
  | 9 => ("DotPress", "sheet", "LDotPress$Sheet;", false)
  | 10 => ("DotPress", "draft", "LDotPress$Sheet;", false)
  | 11 => ("DotPress", "width", "I", false)
  | 12 => ("DotPress", "height", "I", false)
  | 13 => ("DotPress", "hyphen", "I", false)
  | 14 => ("DotPress", "failedDots", "I", false)
  | 15 => ("DotPress", "linesCopied", "I", false)
  | 16 => ("DotPress", "linesClosed", "I", false)
  | 17 => ("DotPress", "latestStatus", "I", false)
  | _ => ("DotPress", "latestPlace", "I", false)
def tyX11 : Nat → FieldType := fun k => match k with
  | 0 => .object "DotPress$Ints"
  | 1 => .object "DotPress$Ints"
  | 2 => .object "DotPress$Ints"
  | 3 => .object "DotPress$Ints"
  | 4 => .object "DotPress$Tables"
  | 5 => .object "DotPress$Source"
  | 6 => .object "DotPress$Setting"
  | 7 => .object "DotPress$Reader"
  | 8 => .object "DotPress$Readings"
  | 9 => .object "DotPress$Sheet"
  | 10 => .object "DotPress$Sheet"
  | 11 => .int
  | 12 => .int
  | 13 => .int
  | 14 => .int
  | 15 => .int
  | 16 => .int
  | 17 => .int
  | _ => .int
abbrev wsX110 : List Cond := u_ws RX11 TX11 19
theorem nmX11 : ∀ a, a < 19 → ∀ b, b < 19 → a ≠ b → (TX11 a).2.1 ≠ (TX11 b).2.1 := by decide +kernel
theorem tyX11_ok : ∀ k, k < 19 → parseFieldDescriptor (TX11 k).2.2.1 = some (tyX11 k) := by decide +kernel
abbrev cX11_init : ByteArray := prog_1_method_1_code
def yX11_init : MethodName := ⟨RX11, "<init>", "()V"⟩
abbrev cX11_feed : ByteArray := prog_1_method_2_code
def yX11_feed : MethodName := ⟨RX11, "feed", "(IIIII)I"⟩
abbrev cX11_feedFour : ByteArray := prog_1_method_3_code
def yX11_feedFour : MethodName := ⟨RX11, "feedFour", "(I)V"⟩
abbrev cX11_end : ByteArray := prog_1_method_4_code
def yX11_end : MethodName := ⟨RX11, "end", "(I)I"⟩
abbrev cX11_table : ByteArray := prog_1_method_5_code
def yX11_table : MethodName := ⟨RX11, "table", "(III)I"⟩
abbrev cX11_join : ByteArray := prog_1_method_6_code
def yX11_join : MethodName := ⟨RX11, "join", "(II)I"⟩
abbrev cX11_drop : ByteArray := prog_1_method_7_code
def yX11_drop : MethodName := ⟨RX11, "drop", "(I)I"⟩
abbrev cX11_rule : ByteArray := prog_1_method_8_code
def yX11_rule : MethodName := ⟨RX11, "rule", "(III)I"⟩
abbrev cX11_addRule : ByteArray := prog_1_method_9_code
def yX11_addRule : MethodName := ⟨RX11, "addRule", "(III)I"⟩
abbrev cX11_isCondition : ByteArray := prog_1_method_10_code
def yX11_isCondition : MethodName := ⟨RX11, "isCondition", "(I)Z"⟩
abbrev cX11_isRowOfCells : ByteArray := prog_1_method_11_code
def yX11_isRowOfCells : MethodName := ⟨RX11, "isRowOfCells", "(II)Z"⟩
abbrev cX11_condition : ByteArray := prog_1_method_12_code
def yX11_condition : MethodName := ⟨RX11, "condition", "(III)I"⟩
abbrev cX11_indicator : ByteArray := prog_1_method_13_code
def yX11_indicator : MethodName := ⟨RX11, "indicator", "(II)I"⟩
abbrev cX11_changeIndicator : ByteArray := prog_1_method_14_code
def yX11_changeIndicator : MethodName := ⟨RX11, "changeIndicator", "(II)I"⟩
abbrev cX11_undo : ByteArray := prog_1_method_15_code
def yX11_undo : MethodName := ⟨RX11, "undo", "()I"⟩
abbrev cX11_text : ByteArray := prog_1_method_16_code
def yX11_text : MethodName := ⟨RX11, "text", "()I"⟩
abbrev cX11_addText : ByteArray := prog_1_method_17_code
def yX11_addText : MethodName := ⟨RX11, "addText", "()I"⟩
abbrev cX11_measure : ByteArray := prog_1_method_18_code
def yX11_measure : MethodName := ⟨RX11, "measure", "(III)I"⟩
abbrev cX11_set : ByteArray := prog_1_method_19_code
def yX11_set : MethodName := ⟨RX11, "set", "(I)I"⟩
abbrev cX11_publish : ByteArray := prog_1_method_20_code
def yX11_publish : MethodName := ⟨RX11, "publish", "()I"⟩
abbrev cX11_head : ByteArray := prog_1_method_21_code
def yX11_head : MethodName := ⟨RX11, "head", "(I)I"⟩
abbrev cX11_lines : ByteArray := prog_1_method_22_code
def yX11_lines : MethodName := ⟨RX11, "lines", "()I"⟩
abbrev cX11_pages : ByteArray := prog_1_method_23_code
def yX11_pages : MethodName := ⟨RX11, "pages", "()I"⟩
abbrev cX11_pagesHaveHeader : ByteArray := prog_1_method_24_code
def yX11_pagesHaveHeader : MethodName := ⟨RX11, "pagesHaveHeader", "()Z"⟩
abbrev cX11_linesOfPage : ByteArray := prog_1_method_25_code
def yX11_linesOfPage : MethodName := ⟨RX11, "linesOfPage", "()I"⟩
abbrev cX11_length : ByteArray := prog_1_method_26_code
def yX11_length : MethodName := ⟨RX11, "length", "(I)I"⟩
abbrev cX11_cell : ByteArray := prog_1_method_27_code
def yX11_cell : MethodName := ⟨RX11, "cell", "(II)I"⟩
abbrev cX11_cellOfLine : ByteArray := prog_1_method_28_code
def yX11_cellOfLine : MethodName := ⟨RX11, "cellOfLine", "(II)I"⟩
abbrev cX11_page : ByteArray := prog_1_method_29_code
def yX11_page : MethodName := ⟨RX11, "page", "(III)I"⟩
abbrev cX11_cut : ByteArray := prog_1_method_30_code
def yX11_cut : MethodName := ⟨RX11, "cut", "(II)I"⟩
abbrev cX11_lose : ByteArray := prog_1_method_31_code
def yX11_lose : MethodName := ⟨RX11, "lose", "(I)I"⟩
abbrev cX11_copyRow : ByteArray := prog_1_method_32_code
def yX11_copyRow : MethodName := ⟨RX11, "copyRow", "(IIIII)I"⟩
abbrev cX11_copyLines : ByteArray := prog_1_method_33_code
def yX11_copyLines : MethodName := ⟨RX11, "copyLines", "(III)I"⟩
abbrev cX11_copied : ByteArray := prog_1_method_34_code
def yX11_copied : MethodName := ⟨RX11, "copied", "()I"⟩
abbrev cX11_emboss : ByteArray := prog_1_method_35_code
def yX11_emboss : MethodName := ⟨RX11, "emboss", "(II)I"⟩
abbrev cX11_closed : ByteArray := prog_1_method_36_code
def yX11_closed : MethodName := ⟨RX11, "closed", "()I"⟩
abbrev cX11_read : ByteArray := prog_1_method_37_code
def yX11_read : MethodName := ⟨RX11, "read", "(III)I"⟩
abbrev cX11_chainLines : ByteArray := prog_1_method_38_code
def yX11_chainLines : MethodName := ⟨RX11, "chainLines", "(II)V"⟩
abbrev cX11_letter : ByteArray := prog_1_method_39_code
def yX11_letter : MethodName := ⟨RX11, "letter", "(I)I"⟩
abbrev cX11_failed : ByteArray := prog_1_method_40_code
def yX11_failed : MethodName := ⟨RX11, "failed", "(IZ)I"⟩
abbrev cX11_readings : ByteArray := prog_1_method_41_code
def yX11_readings : MethodName := ⟨RX11, "readings", "(III)I"⟩
abbrev cX11_more : ByteArray := prog_1_method_42_code
def yX11_more : MethodName := ⟨RX11, "more", "()I"⟩
abbrev cX11_reading : ByteArray := prog_1_method_43_code
def yX11_reading : MethodName := ⟨RX11, "reading", "(II)I"⟩
abbrev cX11_judge : ByteArray := prog_1_method_44_code
def yX11_judge : MethodName := ⟨RX11, "judge", "(I)I"⟩
abbrev cX11_parts : ByteArray := prog_1_method_45_code
def yX11_parts : MethodName := ⟨RX11, "parts", "(III)I"⟩
abbrev cX11_unreadable : ByteArray := prog_1_method_46_code
def yX11_unreadable : MethodName := ⟨RX11, "unreadable", "(III)I"⟩
abbrev cX11_isReadBack : ByteArray := prog_1_method_47_code
def yX11_isReadBack : MethodName := ⟨RX11, "isReadBack", "()Z"⟩
abbrev cX11_saved : ByteArray := prog_1_method_48_code
def yX11_saved : MethodName := ⟨RX11, "saved", "(II)I"⟩
abbrev cX11_place : ByteArray := prog_1_method_49_code
def yX11_place : MethodName := ⟨RX11, "place", "()I"⟩
abbrev cX11_finds : ByteArray := prog_1_method_50_code
def yX11_finds : MethodName := ⟨RX11, "finds", "(I)I"⟩
abbrev cX11_status : ByteArray := prog_1_method_51_code
def yX11_status : MethodName := ⟨RX11, "status", "()I"⟩
abbrev cX11_digest : ByteArray := prog_1_method_52_code
def yX11_digest : MethodName := ⟨RX11, "digest", "()I"⟩
abbrev cX11_done : ByteArray := prog_1_method_53_code
def yX11_done : MethodName := ⟨RX11, "done", "(I)I"⟩
abbrev cX11_refuse : ByteArray := prog_1_method_54_code
def yX11_refuse : MethodName := ⟨RX11, "refuse", "(I)I"⟩
abbrev cX11_refuseAt : ByteArray := prog_1_method_55_code
def yX11_refuseAt : MethodName := ⟨RX11, "refuseAt", "(II)I"⟩
abbrev cX11_isDigit : ByteArray := prog_1_method_56_code
def yX11_isDigit : MethodName := ⟨RX11, "isDigit", "(I)Z"⟩
abbrev cX11_isGreat : ByteArray := prog_1_method_57_code
def yX11_isGreat : MethodName := ⟨RX11, "isGreat", "(I)Z"⟩
abbrev cX11_isSmall : ByteArray := prog_1_method_58_code
def yX11_isSmall : MethodName := ⟨RX11, "isSmall", "(I)Z"⟩
def RX12 : String := "DotPressModel"
def TX12 : u_T := fun k => match k with
  | 0 => ("DotPressModel", "status", "I", false)
  | 1 => ("DotPressModel", "place", "I", false)
  | 2 => ("DotPressModel", "tape", "[I", true)
  | 3 => ("DotPressModel", "taped", "I", false)
  | 4 => ("DotPressModel", "tables", "I", false)
  | 5 => ("DotPressModel", "isThere", "[Z", true)
  | 6 => ("DotPressModel", "kind", "[I", true)
  | 7 => ("DotPressModel", "dots", "[I", true)
  | 8 => ("DotPressModel", "base", "[I", true)
  | 9 => ("DotPressModel", "second", "[I", true)
  | 10 => ("DotPressModel", "ruleMany", "[I", true)
  | 11 => ("DotPressModel", "conditions", "[I", true)
  | 12 => ("DotPressModel", "letterMany", "[I", true)
  | 13 => ("DotPressModel", "cellMany", "[I", true)
  | 14 => ("DotPressModel", "letters", "[I", true)
  | 15 => ("DotPressModel", "cells", "[I", true)
  | 16 => ("DotPressModel", "indicatorMany", "[I", true)
  | 17 => ("DotPressModel", "indicatorCells", "[I", true)
  | 18 => ("DotPressModel", "steps", "[I", false)
  | 19 => ("DotPressModel", "stepMany", "I", false)
  | 20 => ("DotPressModel", "word", "[I", true)
  | 21 => ("DotPressModel", "wordPlace", "[I", true)
  | 22 => ("DotPressModel", "mayBreak", "[Z", true)
  | 23 => ("DotPressModel", "wordLong", "I", false)
  | 24 => ("DotPressModel", "made", "[I", true)
  | 25 => ("DotPressModel", "madeMany", "I", false)
  | 26 => ("DotPressModel", "begins", "[I", true)
  | 27 => ("DotPressModel", "finds", "[I", true)
  | 28 => ("DotPressModel", "unknown", "I", false)
  | 29 => ("DotPressModel", "text", "[I", true)
  | 30 => ("DotPressModel", "textLong", "I", false)
  | 31 => ("DotPressModel", "width", "I", false)
  | 32 => ("DotPressModel", "height", "I", false)
  | 33 => ("DotPressModel", "hyphen", "I", false)
  | 34 => ("DotPressModel", "long0", "[I", true)
  | 35 => ("DotPressModel", "lineCells", "[I", true)
  | 36 => ("DotPressModel", "lines", "I", false)
  | 37 => ("DotPressModel", "newLong", "[I", true)
  | 38 => ("DotPressModel", "newCells", "[I", true)
  | 39 => ("DotPressModel", "newMany", "I", false)
  | 40 => ("DotPressModel", "head", "[I", true)
  | 41 => ("DotPressModel", "headMany", "I", false)
  | 42 => ("DotPressModel", "copied", "I", false)
  | 43 => ("DotPressModel", "closed", "I", false)
  | 44 => ("DotPressModel", "rowIs", "[I", true)
  | 45 => ("DotPressModel", "rowAt", "[I", true)
  | 46 => ("DotPressModel", "rowLong", "[I", true)
  | 47 => ("DotPressModel", "rowMany", "[I", true)
  | 48 => ("DotPressModel", "row", "[I", true)
  | 49 => ("DotPressModel", "rowPlace", "[I", true)
  | 50 => ("DotPressModel", "rowEnd", "I", false)
  | 51 => ("DotPressModel", "out", "[I", true)
  | 52 => ("DotPressModel", "outs", "I", false)
  | 53 => ("DotPressModel", "wrongAt", "I", false)
  | 54 => ("DotPressModel", "was", "[I", true)
  | 55 => ("DotPressModel", "wasMany", "I", false)
  | 56 => ("DotPressModel", "failed", "I", false)
  | 57 => ("DotPressModel", "can", "[Z", true)
  | 58 => ("DotPressModel", "kept", "[I", true)
  | 59 => ("DotPressModel", "keptLong", "[I", true)
  | 60 => ("DotPressModel", "keptMany", "I", false)
  | 61 => ("DotPressModel", "more", "I", false)
  | 62 => ("DotPressModel", "now", "[I", true)
  | 63 => ("DotPressModel", "nowLong", "I", false)
  | 64 => ("DotPressModel", "wanted", "I", false)
  | 65 => ("DotPressModel", "signs", "[I", true)
  | _ => ("DotPressModel", "signMany", "I", false)
def tyX12 : Nat → FieldType := fun k => match k with
  | 0 => .int
  | 1 => .int
  | 2 => .array .int
  | 3 => .int
  | 4 => .int
  | 5 => .array .boolean
  | 6 => .array .int
  | 7 => .array .int
  | 8 => .array .int
  | 9 => .array .int
  | 10 => .array .int
  | 11 => .array .int
  | 12 => .array .int
  | 13 => .array .int
  | 14 => .array .int
  | 15 => .array .int
  | 16 => .array .int
  | 17 => .array .int
  | 18 => .array .int
  | 19 => .int
  | 20 => .array .int
  | 21 => .array .int
  | 22 => .array .boolean
  | 23 => .int
  | 24 => .array .int
  | 25 => .int
  | 26 => .array .int
  | 27 => .array .int
  | 28 => .int
  | 29 => .array .int
  | 30 => .int
  | 31 => .int
  | 32 => .int
  | 33 => .int
  | 34 => .array .int
  | 35 => .array .int
  | 36 => .int
  | 37 => .array .int
  | 38 => .array .int
  | 39 => .int
  | 40 => .array .int
  | 41 => .int
  | 42 => .int
  | 43 => .int
  | 44 => .array .int
  | 45 => .array .int
  | 46 => .array .int
  | 47 => .array .int
  | 48 => .array .int
  | 49 => .array .int
  | 50 => .int
  | 51 => .array .int
  | 52 => .int
  | 53 => .int
  | 54 => .array .int
  | 55 => .int
  | 56 => .int
  | 57 => .array .boolean
  | 58 => .array .int
  | 59 => .array .int
  | 60 => .int
  | 61 => .int
  | 62 => .array .int
  | 63 => .int
  | 64 => .int
  | 65 => .array .int
  | _ => .int
abbrev wsX120 : List Cond := u_ws RX12 TX12 67
theorem nmX12 : ∀ a, a < 67 → ∀ b, b < 67 → a ≠ b → (TX12 a).2.1 ≠ (TX12 b).2.1 := by decide +kernel
theorem tyX12_ok : ∀ k, k < 67 → parseFieldDescriptor (TX12 k).2.2.1 = some (tyX12 k) := by decide +kernel
abbrev cX12_init : ByteArray := prog_14_method_1_code
def yX12_init : MethodName := ⟨RX12, "<init>", "()V"⟩
abbrev cX12_fine : ByteArray := prog_14_method_2_code
def yX12_fine : MethodName := ⟨RX12, "fine", "(I)I"⟩
abbrev cX12_bad : ByteArray := prog_14_method_3_code
def yX12_bad : MethodName := ⟨RX12, "bad", "(I)I"⟩
abbrev cX12_badAt : ByteArray := prog_14_method_4_code
def yX12_badAt : MethodName := ⟨RX12, "badAt", "(II)I"⟩
abbrev cX12_feed : ByteArray := prog_14_method_5_code
def yX12_feed : MethodName := ⟨RX12, "feed", "(IIIII)I"⟩
abbrev cX12_end : ByteArray := prog_14_method_6_code
def yX12_end : MethodName := ⟨RX12, "end", "(I)I"⟩
abbrev cX12_taken : ByteArray := prog_14_method_7_code
def yX12_taken : MethodName := ⟨RX12, "taken", "()I"⟩
abbrev cX12_step : ByteArray := prog_14_method_8_code
def yX12_step : MethodName := ⟨RX12, "step", "(IIII)V"⟩
abbrev cX12_isTable : ByteArray := prog_14_method_9_code
def yX12_isTable : MethodName := ⟨RX12, "isTable", "(I)Z"⟩
abbrev cX12_isWhole : ByteArray := prog_14_method_10_code
def yX12_isWhole : MethodName := ⟨RX12, "isWhole", "(I)Z"⟩
abbrev cX12_isIn : ByteArray := prog_14_method_11_code
def yX12_isIn : MethodName := ⟨RX12, "isIn", "(III)Z"⟩
abbrev cX12_table : ByteArray := prog_14_method_12_code
def yX12_table : MethodName := ⟨RX12, "table", "(III)I"⟩
abbrev cX12_newTable : ByteArray := prog_14_method_13_code
def yX12_newTable : MethodName := ⟨RX12, "newTable", "(IIII)I"⟩
abbrev cX12_join : ByteArray := prog_14_method_14_code
def yX12_join : MethodName := ⟨RX12, "join", "(II)I"⟩
abbrev cX12_drop : ByteArray := prog_14_method_15_code
def yX12_drop : MethodName := ⟨RX12, "drop", "(I)I"⟩
abbrev cX12_isLetter : ByteArray := prog_14_method_16_code
def yX12_isLetter : MethodName := ⟨RX12, "isLetter", "(I)Z"⟩
abbrev cX12_areCells : ByteArray := prog_14_method_17_code
def yX12_areCells : MethodName := ⟨RX12, "areCells", "(III)Z"⟩
abbrev cX12_rule : ByteArray := prog_14_method_18_code
def yX12_rule : MethodName := ⟨RX12, "rule", "(III)I"⟩
abbrev cX12_condition : ByteArray := prog_14_method_19_code
def yX12_condition : MethodName := ⟨RX12, "condition", "(III)I"⟩
abbrev cX12_indicator : ByteArray := prog_14_method_20_code
def yX12_indicator : MethodName := ⟨RX12, "indicator", "(II)I"⟩
abbrev cX12_undo : ByteArray := prog_14_method_21_code
def yX12_undo : MethodName := ⟨RX12, "undo", "()I"⟩
abbrev cX12_finds : ByteArray := prog_14_method_22_code
def yX12_finds : MethodName := ⟨RX12, "finds", "(I)I"⟩
abbrev cX12_isDigit : ByteArray := prog_14_method_23_code
def yX12_isDigit : MethodName := ⟨RX12, "isDigit", "(I)Z"⟩
abbrev cX12_isGreat : ByteArray := prog_14_method_24_code
def yX12_isGreat : MethodName := ⟨RX12, "isGreat", "(I)Z"⟩
abbrev cX12_isSmall : ByteArray := prog_14_method_25_code
def yX12_isSmall : MethodName := ⟨RX12, "isSmall", "(I)Z"⟩
abbrev cX12_fits : ByteArray := prog_14_method_26_code
def yX12_fits : MethodName := ⟨RX12, "fits", "(IIII)Z"⟩
abbrev cX12_own : ByteArray := prog_14_method_27_code
def yX12_own : MethodName := ⟨RX12, "own", "(IIII)I"⟩
abbrev cX12_find : ByteArray := prog_14_method_28_code
def yX12_find : MethodName := ⟨RX12, "find", "(IIII)I"⟩
abbrev cX12_contracted : ByteArray := prog_14_method_29_code
def yX12_contracted : MethodName := ⟨RX12, "contracted", "(IIII)I"⟩
abbrev cX12_putIndicator : ByteArray := prog_14_method_30_code
def yX12_putIndicator : MethodName := ⟨RX12, "putIndicator", "(II)V"⟩
abbrev cX12_setPart : ByteArray := prog_14_method_31_code
def yX12_setPart : MethodName := ⟨RX12, "setPart", "(III)Z"⟩
abbrev cX12_setWord : ByteArray := prog_14_method_32_code
def yX12_setWord : MethodName := ⟨RX12, "setWord", "(I)Z"⟩
abbrev cX12_notSet : ByteArray := prog_14_method_33_code
def yX12_notSet : MethodName := ⟨RX12, "notSet", "()I"⟩
abbrev cX12_text : ByteArray := prog_14_method_34_code
def yX12_text : MethodName := ⟨RX12, "text", "()I"⟩
abbrev cX12_measure : ByteArray := prog_14_method_35_code
def yX12_measure : MethodName := ⟨RX12, "measure", "(III)I"⟩
abbrev cX12_takeWord : ByteArray := prog_14_method_36_code
def yX12_takeWord : MethodName := ⟨RX12, "takeWord", "(II)I"⟩
abbrev cX12_lineEnd : ByteArray := prog_14_method_37_code
def yX12_lineEnd : MethodName := ⟨RX12, "lineEnd", "(I)I"⟩
abbrev cX12_newLine : ByteArray := prog_14_method_38_code
def yX12_newLine : MethodName := ⟨RX12, "newLine", "()Z"⟩
abbrev cX12_putCell : ByteArray := prog_14_method_39_code
def yX12_putCell : MethodName := ⟨RX12, "putCell", "(I)V"⟩
abbrev cX12_breakOf : ByteArray := prog_14_method_40_code
def yX12_breakOf : MethodName := ⟨RX12, "breakOf", "(III)I"⟩
abbrev cX12_flow : ByteArray := prog_14_method_41_code
def yX12_flow : MethodName := ⟨RX12, "flow", "(I)Z"⟩
abbrev cX12_centre : ByteArray := prog_14_method_42_code
def yX12_centre : MethodName := ⟨RX12, "centre", "(I)V"⟩
abbrev cX12_set : ByteArray := prog_14_method_43_code
def yX12_set : MethodName := ⟨RX12, "set", "(I)I"⟩
abbrev cX12_head : ByteArray := prog_14_method_44_code
def yX12_head : MethodName := ⟨RX12, "head", "(I)I"⟩
abbrev cX12_lines : ByteArray := prog_14_method_45_code
def yX12_lines : MethodName := ⟨RX12, "lines", "()I"⟩
abbrev cX12_hasHead : ByteArray := prog_14_method_46_code
def yX12_hasHead : MethodName := ⟨RX12, "hasHead", "()Z"⟩
abbrev cX12_onPage : ByteArray := prog_14_method_47_code
def yX12_onPage : MethodName := ⟨RX12, "onPage", "()I"⟩
abbrev cX12_pages : ByteArray := prog_14_method_48_code
def yX12_pages : MethodName := ⟨RX12, "pages", "()I"⟩
abbrev cX12_lineFault : ByteArray := prog_14_method_49_code
def yX12_lineFault : MethodName := ⟨RX12, "lineFault", "(I)I"⟩
abbrev cX12_length : ByteArray := prog_14_method_50_code
def yX12_length : MethodName := ⟨RX12, "length", "(I)I"⟩
abbrev cX12_cell : ByteArray := prog_14_method_51_code
def yX12_cell : MethodName := ⟨RX12, "cell", "(II)I"⟩
abbrev cX12_page : ByteArray := prog_14_method_52_code
def yX12_page : MethodName := ⟨RX12, "page", "(III)I"⟩
abbrev cX12_cut : ByteArray := prog_14_method_53_code
def yX12_cut : MethodName := ⟨RX12, "cut", "(II)I"⟩
abbrev cX12_lose : ByteArray := prog_14_method_54_code
def yX12_lose : MethodName := ⟨RX12, "lose", "(I)I"⟩
abbrev cX12_copyRow : ByteArray := prog_14_method_55_code
def yX12_copyRow : MethodName := ⟨RX12, "copyRow", "(IIIII)I"⟩
abbrev cX12_copyLines : ByteArray := prog_14_method_56_code
def yX12_copyLines : MethodName := ⟨RX12, "copyLines", "(III)I"⟩
abbrev cX12_copied : ByteArray := prog_14_method_57_code
def yX12_copied : MethodName := ⟨RX12, "copied", "()I"⟩
abbrev cX12_emboss : ByteArray := prog_14_method_58_code
def yX12_emboss : MethodName := ⟨RX12, "emboss", "(II)I"⟩
abbrev cX12_closed : ByteArray := prog_14_method_59_code
def yX12_closed : MethodName := ⟨RX12, "closed", "()I"⟩
abbrev cX12_saved : ByteArray := prog_14_method_60_code
def yX12_saved : MethodName := ⟨RX12, "saved", "(II)I"⟩
abbrev cX12_addRow : ByteArray := prog_14_method_61_code
def yX12_addRow : MethodName := ⟨RX12, "addRow", "(IIII)V"⟩
abbrev cX12_addIndicator : ByteArray := prog_14_method_62_code
def yX12_addIndicator : MethodName := ⟨RX12, "addIndicator", "(III)V"⟩
abbrev cX12_addRows : ByteArray := prog_14_method_63_code
def yX12_addRows : MethodName := ⟨RX12, "addRows", "(II)V"⟩
abbrev cX12_gather : ByteArray := prog_14_method_64_code
def yX12_gather : MethodName := ⟨RX12, "gather", "(I)V"⟩
abbrev cX12_rowCell : ByteArray := prog_14_method_65_code
def yX12_rowCell : MethodName := ⟨RX12, "rowCell", "(II)I"⟩
abbrev cX12_isSmallRule : ByteArray := prog_14_method_66_code
def yX12_isSmallRule : MethodName := ⟨RX12, "isSmallRule", "(I)Z"⟩
abbrev cX12_stands : ByteArray := prog_14_method_67_code
def yX12_stands : MethodName := ⟨RX12, "stands", "(III)Z"⟩
abbrev cX12_longest : ByteArray := prog_14_method_68_code
def yX12_longest : MethodName := ⟨RX12, "longest", "(III)I"⟩
abbrev cX12_tell : ByteArray := prog_14_method_69_code
def yX12_tell : MethodName := ⟨RX12, "tell", "(I)Z"⟩
abbrev cX12_readAll : ByteArray := prog_14_method_70_code
def yX12_readAll : MethodName := ⟨RX12, "readAll", "()I"⟩
abbrev cX12_readWord : ByteArray := prog_14_method_71_code
def yX12_readWord : MethodName := ⟨RX12, "readWord", "(II)I"⟩
abbrev cX12_read : ByteArray := prog_14_method_72_code
def yX12_read : MethodName := ⟨RX12, "read", "(III)I"⟩
abbrev cX12_putRow : ByteArray := prog_14_method_73_code
def yX12_putRow : MethodName := ⟨RX12, "putRow", "(II)V"⟩
abbrev cX12_letter : ByteArray := prog_14_method_74_code
def yX12_letter : MethodName := ⟨RX12, "letter", "(I)I"⟩
abbrev cX12_failed : ByteArray := prog_14_method_75_code
def yX12_failed : MethodName := ⟨RX12, "failed", "(IZ)I"⟩
abbrev cX12_looksLike : ByteArray := prog_14_method_76_code
def yX12_looksLike : MethodName := ⟨RX12, "looksLike", "(II)Z"⟩
abbrev cX12_next : ByteArray := prog_14_method_77_code
def yX12_next : MethodName := ⟨RX12, "next", "(II)I"⟩
abbrev cX12_state : ByteArray := prog_14_method_78_code
def yX12_state : MethodName := ⟨RX12, "state", "(IIZ)I"⟩
abbrev cX12_may : ByteArray := prog_14_method_79_code
def yX12_may : MethodName := ⟨RX12, "may", "(IIIZ)Z"⟩
abbrev cX12_mayBlank : ByteArray := prog_14_method_80_code
def yX12_mayBlank : MethodName := ⟨RX12, "mayBlank", "(IZ)Z"⟩
abbrev cX12_findCan : ByteArray := prog_14_method_81_code
def yX12_findCan : MethodName := ⟨RX12, "findCan", "()V"⟩
abbrev cX12_go : ByteArray := prog_14_method_82_code
def yX12_go : MethodName := ⟨RX12, "go", "(IIZ)V"⟩
abbrev cX12_keep : ByteArray := prog_14_method_83_code
def yX12_keep : MethodName := ⟨RX12, "keep", "()V"⟩
abbrev cX12_readings : ByteArray := prog_14_method_84_code
def yX12_readings : MethodName := ⟨RX12, "readings", "(III)I"⟩
abbrev cX12_more : ByteArray := prog_14_method_85_code
def yX12_more : MethodName := ⟨RX12, "more", "()I"⟩
abbrev cX12_reading : ByteArray := prog_14_method_86_code
def yX12_reading : MethodName := ⟨RX12, "reading", "(II)I"⟩
abbrev cX12_isShort : ByteArray := prog_14_method_87_code
def yX12_isShort : MethodName := ⟨RX12, "isShort", "(I)Z"⟩
abbrev cX12_alike : ByteArray := prog_14_method_88_code
def yX12_alike : MethodName := ⟨RX12, "alike", "(II)I"⟩
abbrev cX12_isReadable : ByteArray := prog_14_method_89_code
def yX12_isReadable : MethodName := ⟨RX12, "isReadable", "(I)Z"⟩
abbrev cX12_judge : ByteArray := prog_14_method_90_code
def yX12_judge : MethodName := ⟨RX12, "judge", "(I)I"⟩
abbrev cX12_parts : ByteArray := prog_14_method_91_code
def yX12_parts : MethodName := ⟨RX12, "parts", "(III)I"⟩
abbrev cX12_gatherSigns : ByteArray := prog_14_method_92_code
def yX12_gatherSigns : MethodName := ⟨RX12, "gatherSigns", "(I)V"⟩
abbrev cX12_isUnreadable : ByteArray := prog_14_method_93_code
def yX12_isUnreadable : MethodName := ⟨RX12, "isUnreadable", "(I)Z"⟩
abbrev cX12_unreadable : ByteArray := prog_14_method_94_code
def yX12_unreadable : MethodName := ⟨RX12, "unreadable", "(III)I"⟩
abbrev cX12_putBack : ByteArray := prog_14_method_95_code
def yX12_putBack : MethodName := ⟨RX12, "putBack", "()V"⟩
abbrev cX12_place : ByteArray := prog_14_method_96_code
def yX12_place : MethodName := ⟨RX12, "place", "()I"⟩
abbrev cX12_status : ByteArray := prog_14_method_97_code
def yX12_status : MethodName := ⟨RX12, "status", "()I"⟩
abbrev cX12_digest : ByteArray := prog_14_method_98_code
def yX12_digest : MethodName := ⟨RX12, "digest", "()I"⟩
def RJx145de : String := "java/io/Serializable"
def TJx145de : u_T := fun k => match k with
  | _ => ("", "", "", false)
def tyJx145de : Nat → FieldType := fun k => match k with
  | _ => .int
abbrev wsJx145de0 : List Cond := u_ws RJx145de TJx145de 0
theorem nmJx145de : ∀ a, a < 0 → ∀ b, b < 0 → a ≠ b → (TJx145de a).2.1 ≠ (TJx145de b).2.1 := by decide +kernel
theorem tyJx145de_ok : ∀ k, k < 0 → parseFieldDescriptor (TJx145de k).2.2.1 = some (tyJx145de k) := by decide +kernel
def RJx8e188 : String := "java/lang/Cloneable"
def TJx8e188 : u_T := fun k => match k with
  | _ => ("", "", "", false)
def tyJx8e188 : Nat → FieldType := fun k => match k with
  | _ => .int
abbrev wsJx8e1880 : List Cond := u_ws RJx8e188 TJx8e188 0
theorem nmJx8e188 : ∀ a, a < 0 → ∀ b, b < 0 → a ≠ b → (TJx8e188 a).2.1 ≠ (TJx8e188 b).2.1 := by decide +kernel
theorem tyJx8e188_ok : ∀ k, k < 0 → parseFieldDescriptor (TJx8e188 k).2.2.1 = some (tyJx8e188 k) := by decide +kernel
def RJ6 : String := "java/lang/Integer"
def TJ6 : u_T := fun k => match k with
  | _ => ("", "", "", false)
def tyJ6 : Nat → FieldType := fun k => match k with
  | _ => .int
abbrev wsJ60 : List Cond := u_ws RJ6 TJ6 0
theorem nmJ6 : ∀ a, a < 0 → ∀ b, b < 0 → a ≠ b → (TJ6 a).2.1 ≠ (TJ6 b).2.1 := by decide +kernel
theorem tyJ6_ok : ∀ k, k < 0 → parseFieldDescriptor (TJ6 k).2.2.1 = some (tyJ6 k) := by decide +kernel
abbrev cJ6_bitCount_0f7a4 : ByteArray := prog_17_method_49_code
def yJ6_bitCount_0f7a4 : MethodName := ⟨RJ6, "bitCount", "(I)I"⟩
def RJxab1ab : String := "java/lang/Iterable"
def TJxab1ab : u_T := fun k => match k with
  | _ => ("", "", "", false)
def tyJxab1ab : Nat → FieldType := fun k => match k with
  | _ => .int
abbrev wsJxab1ab0 : List Cond := u_ws RJxab1ab TJxab1ab 0
theorem nmJxab1ab : ∀ a, a < 0 → ∀ b, b < 0 → a ≠ b → (TJxab1ab a).2.1 ≠ (TJxab1ab b).2.1 := by decide +kernel
theorem tyJxab1ab_ok : ∀ k, k < 0 → parseFieldDescriptor (TJxab1ab k).2.2.1 = some (tyJxab1ab k) := by decide +kernel
def RJ9 : String := "java/lang/Math"
def TJ9 : u_T := fun k => match k with
  | _ => ("", "", "", false)
def tyJ9 : Nat → FieldType := fun k => match k with
  | _ => .int
abbrev wsJ90 : List Cond := u_ws RJ9 TJ9 0
theorem nmJ9 : ∀ a, a < 0 → ∀ b, b < 0 → a ≠ b → (TJ9 a).2.1 ≠ (TJ9 b).2.1 := by decide +kernel
theorem tyJ9_ok : ∀ k, k < 0 → parseFieldDescriptor (TJ9 k).2.2.1 = some (tyJ9 k) := by decide +kernel
abbrev cJ9_max_7cf53 : ByteArray := prog_19_method_65_code
def yJ9_max_7cf53 : MethodName := ⟨RJ9, "max", "(II)I"⟩
abbrev cJ9_min_7cf53 : ByteArray := prog_19_method_69_code
def yJ9_min_7cf53 : MethodName := ⟨RJ9, "min", "(II)I"⟩
def RJ10 : String := "java/lang/System"
def TJ10 : u_T := fun k => match k with
  | _ => ("", "", "", false)
def tyJ10 : Nat → FieldType := fun k => match k with
  | _ => .int
abbrev wsJ100 : List Cond := u_ws RJ10 TJ10 0
theorem nmJ10 : ∀ a, a < 0 → ∀ b, b < 0 → a ≠ b → (TJ10 a).2.1 ≠ (TJ10 b).2.1 := by decide +kernel
theorem tyJ10_ok : ∀ k, k < 0 → parseFieldDescriptor (TJ10 k).2.2.1 = some (tyJ10 k) := by decide +kernel
def RJxa1e45 : String := "java/util/AbstractCollection"
def TJxa1e45 : u_T := fun k => match k with
  | _ => ("", "", "", false)
def tyJxa1e45 : Nat → FieldType := fun k => match k with
  | _ => .int
abbrev wsJxa1e450 : List Cond := u_ws RJxa1e45 TJxa1e45 0
theorem nmJxa1e45 : ∀ a, a < 0 → ∀ b, b < 0 → a ≠ b → (TJxa1e45 a).2.1 ≠ (TJxa1e45 b).2.1 := by decide +kernel
theorem tyJxa1e45_ok : ∀ k, k < 0 → parseFieldDescriptor (TJxa1e45 k).2.2.1 = some (tyJxa1e45 k) := by decide +kernel
abbrev cJxa1e45_init_da8c8 : ByteArray := prog_21_method_1_code
def yJxa1e45_init_da8c8 : MethodName := ⟨RJxa1e45, "<init>", "()V"⟩
def RJxc12de : String := "java/util/AbstractList"
def TJxc12de : u_T := fun k => match k with
  | _ => ("", "", "", false)
def tyJxc12de : Nat → FieldType := fun k => match k with
  | _ => .int
abbrev wsJxc12de0 : List Cond := u_ws RJxc12de TJxc12de 0
theorem nmJxc12de : ∀ a, a < 0 → ∀ b, b < 0 → a ≠ b → (TJxc12de a).2.1 ≠ (TJxc12de b).2.1 := by decide +kernel
theorem tyJxc12de_ok : ∀ k, k < 0 → parseFieldDescriptor (TJxc12de k).2.2.1 = some (tyJxc12de k) := by decide +kernel
abbrev cJxc12de_init_da8c8 : ByteArray := prog_22_method_1_code
def yJxc12de_init_da8c8 : MethodName := ⟨RJxc12de, "<init>", "()V"⟩
def RJx4a65c : String := "java/util/ArrayList"
def TJx4a65c : u_T := fun k => match k with
  | 0 => ("java/util/AbstractList", "modCount", "I", false)
  | 1 => ("java/util/ArrayList", "elementData", "[Ljava/lang/Object;", false)
  | _ => ("java/util/ArrayList", "size", "I", false)
def tyJx4a65c : Nat → FieldType := fun k => match k with
  | 0 => .int
  | 1 => .array (.object "java/lang/Object")
  | _ => .int
abbrev wsJx4a65c0 : List Cond := u_ws RJx4a65c TJx4a65c 3
theorem nmJx4a65c : ∀ a, a < 3 → ∀ b, b < 3 → a ≠ b → (TJx4a65c a).2.1 ≠ (TJx4a65c b).2.1 := by decide +kernel
theorem tyJx4a65c_ok : ∀ k, k < 3 → parseFieldDescriptor (TJx4a65c k).2.2.1 = some (tyJx4a65c k) := by decide +kernel
abbrev cJx4a65c_init_da8c8 : ByteArray := prog_23_method_2_code
def yJx4a65c_init_da8c8 : MethodName := ⟨RJx4a65c, "<init>", "()V"⟩
abbrev cJx4a65c_grow_92f84 : ByteArray := prog_23_method_6_code
def yJx4a65c_grow_92f84 : MethodName := ⟨RJx4a65c, "grow", "(I)[Ljava/lang/Object;"⟩
abbrev cJx4a65c_grow_d5877 : ByteArray := prog_23_method_7_code
def yJx4a65c_grow_d5877 : MethodName := ⟨RJx4a65c, "grow", "()[Ljava/lang/Object;"⟩
abbrev cJx4a65c_size_8abf5 : ByteArray := prog_23_method_8_code
def yJx4a65c_size_8abf5 : MethodName := ⟨RJx4a65c, "size", "()I"⟩
abbrev cJx4a65c_isEmpty_aae02 : ByteArray := prog_23_method_9_code
def yJx4a65c_isEmpty_aae02 : MethodName := ⟨RJx4a65c, "isEmpty", "()Z"⟩
abbrev cJx4a65c_elementData_915e3 : ByteArray := prog_23_method_18_code
def yJx4a65c_elementData_915e3 : MethodName := ⟨RJx4a65c, "elementData", "(I)Ljava/lang/Object;"⟩
abbrev cJx4a65c_get_915e3 : ByteArray := prog_23_method_20_code
def yJx4a65c_get_915e3 : MethodName := ⟨RJx4a65c, "get", "(I)Ljava/lang/Object;"⟩
abbrev cJx4a65c_add_72be8 : ByteArray := prog_23_method_24_code
def yJx4a65c_add_72be8 : MethodName := ⟨RJx4a65c, "add", "(Ljava/lang/Object;[Ljava/lang/Object;I)V"⟩
abbrev cJx4a65c_add_9ea2d : ByteArray := prog_23_method_25_code
def yJx4a65c_add_9ea2d : MethodName := ⟨RJx4a65c, "add", "(Ljava/lang/Object;)Z"⟩
abbrev cJx4a65c_remove_915e3 : ByteArray := prog_23_method_29_code
def yJx4a65c_remove_915e3 : MethodName := ⟨RJx4a65c, "remove", "(I)Ljava/lang/Object;"⟩
abbrev cJx4a65c_fastRemove_b59b0 : ByteArray := prog_23_method_39_code
def yJx4a65c_fastRemove_b59b0 : MethodName := ⟨RJx4a65c, "fastRemove", "([Ljava/lang/Object;I)V"⟩
abbrev cJx4a65c_clear_da8c8 : ByteArray := prog_23_method_40_code
def yJx4a65c_clear_da8c8 : MethodName := ⟨RJx4a65c, "clear", "()V"⟩
def RJ7 : String := "java/util/Arrays"
def TJ7 : u_T := fun k => match k with
  | _ => ("", "", "", false)
def tyJ7 : Nat → FieldType := fun k => match k with
  | _ => .int
abbrev wsJ70 : List Cond := u_ws RJ7 TJ7 0
theorem nmJ7 : ∀ a, a < 0 → ∀ b, b < 0 → a ≠ b → (TJ7 a).2.1 ≠ (TJ7 b).2.1 := by decide +kernel
theorem tyJ7_ok : ∀ k, k < 0 → parseFieldDescriptor (TJ7 k).2.2.1 = some (tyJ7 k) := by decide +kernel
abbrev cJ7_fill_53178 : ByteArray := prog_24_method_103_code
def yJ7_fill_53178 : MethodName := ⟨RJ7, "fill", "([II)V"⟩
abbrev cJ7_copyOf_1904c : ByteArray := prog_24_method_119_code
def yJ7_copyOf_1904c : MethodName := ⟨RJ7, "copyOf", "([Ljava/lang/Object;I)[Ljava/lang/Object;"⟩
abbrev cJ7_copyOf_6403c : ByteArray := prog_24_method_120_code
def yJ7_copyOf_6403c : MethodName := ⟨RJ7, "copyOf", "([Ljava/lang/Object;ILjava/lang/Class;)[Ljava/lang/Object;"⟩
abbrev cJ7_copyOf_59c91 : ByteArray := prog_24_method_123_code
def yJ7_copyOf_59c91 : MethodName := ⟨RJ7, "copyOf", "([II)[I"⟩
def RJx5ef63 : String := "java/util/Collection"
def TJx5ef63 : u_T := fun k => match k with
  | _ => ("", "", "", false)
def tyJx5ef63 : Nat → FieldType := fun k => match k with
  | _ => .int
abbrev wsJx5ef630 : List Cond := u_ws RJx5ef63 TJx5ef63 0
theorem nmJx5ef63 : ∀ a, a < 0 → ∀ b, b < 0 → a ≠ b → (TJx5ef63 a).2.1 ≠ (TJx5ef63 b).2.1 := by decide +kernel
theorem tyJx5ef63_ok : ∀ k, k < 0 → parseFieldDescriptor (TJx5ef63 k).2.2.1 = some (tyJx5ef63 k) := by decide +kernel
def RJxbd725 : String := "java/util/List"
def TJxbd725 : u_T := fun k => match k with
  | _ => ("", "", "", false)
def tyJxbd725 : Nat → FieldType := fun k => match k with
  | _ => .int
abbrev wsJxbd7250 : List Cond := u_ws RJxbd725 TJxbd725 0
theorem nmJxbd725 : ∀ a, a < 0 → ∀ b, b < 0 → a ≠ b → (TJxbd725 a).2.1 ≠ (TJxbd725 b).2.1 := by decide +kernel
theorem tyJxbd725_ok : ∀ k, k < 0 → parseFieldDescriptor (TJxbd725 k).2.2.1 = some (tyJxbd725 k) := by decide +kernel
def RJ15 : String := "java/util/Objects"
def TJ15 : u_T := fun k => match k with
  | _ => ("", "", "", false)
def tyJ15 : Nat → FieldType := fun k => match k with
  | _ => .int
abbrev wsJ150 : List Cond := u_ws RJ15 TJ15 0
theorem nmJ15 : ∀ a, a < 0 → ∀ b, b < 0 → a ≠ b → (TJ15 a).2.1 ≠ (TJ15 b).2.1 := by decide +kernel
theorem tyJ15_ok : ∀ k, k < 0 → parseFieldDescriptor (TJ15 k).2.2.1 = some (tyJ15 k) := by decide +kernel
abbrev cJ15_checkIndex_7cf53 : ByteArray := prog_27_method_17_code
def yJ15_checkIndex_7cf53 : MethodName := ⟨RJ15, "checkIndex", "(II)I"⟩
def RJxf0a74 : String := "java/util/RandomAccess"
def TJxf0a74 : u_T := fun k => match k with
  | _ => ("", "", "", false)
def tyJxf0a74 : Nat → FieldType := fun k => match k with
  | _ => .int
abbrev wsJxf0a740 : List Cond := u_ws RJxf0a74 TJxf0a74 0
theorem nmJxf0a74 : ∀ a, a < 0 → ∀ b, b < 0 → a ≠ b → (TJxf0a74 a).2.1 ≠ (TJxf0a74 b).2.1 := by decide +kernel
theorem tyJxf0a74_ok : ∀ k, k < 0 → parseFieldDescriptor (TJxf0a74 k).2.2.1 = some (tyJxf0a74 k) := by decide +kernel
def RJxa66e6 : String := "java/util/SequencedCollection"
def TJxa66e6 : u_T := fun k => match k with
  | _ => ("", "", "", false)
def tyJxa66e6 : Nat → FieldType := fun k => match k with
  | _ => .int
abbrev wsJxa66e60 : List Cond := u_ws RJxa66e6 TJxa66e6 0
theorem nmJxa66e6 : ∀ a, a < 0 → ∀ b, b < 0 → a ≠ b → (TJxa66e6 a).2.1 ≠ (TJxa66e6 b).2.1 := by decide +kernel
theorem tyJxa66e6_ok : ∀ k, k < 0 → parseFieldDescriptor (TJxa66e6 k).2.2.1 = some (tyJxa66e6 k) := by decide +kernel
def RJ8 : String := "jdk/internal/util/ArraysSupport"
def TJ8 : u_T := fun k => match k with
  | _ => ("", "", "", false)
def tyJ8 : Nat → FieldType := fun k => match k with
  | _ => .int
abbrev wsJ80 : List Cond := u_ws RJ8 TJ8 0
theorem nmJ8 : ∀ a, a < 0 → ∀ b, b < 0 → a ≠ b → (TJ8 a).2.1 ≠ (TJ8 b).2.1 := by decide +kernel
theorem tyJ8_ok : ∀ k, k < 0 → parseFieldDescriptor (TJ8 k).2.2.1 = some (tyJ8 k) := by decide +kernel
abbrev cJ8_newLength_cabcc : ByteArray := prog_30_method_27_code
def yJ8_newLength_cabcc : MethodName := ⟨RJ8, "newLength", "(III)I"⟩
abbrev cJ8_hugeLength_7cf53 : ByteArray := prog_30_method_28_code
def yJ8_hugeLength_7cf53 : MethodName := ⟨RJ8, "hugeLength", "(II)I"⟩
def RJ3 : String := "jdk/internal/util/Preconditions"
def TJ3 : u_T := fun k => match k with
  | _ => ("", "", "", false)
def tyJ3 : Nat → FieldType := fun k => match k with
  | _ => .int
abbrev wsJ30 : List Cond := u_ws RJ3 TJ3 0
theorem nmJ3 : ∀ a, a < 0 → ∀ b, b < 0 → a ≠ b → (TJ3 a).2.1 ≠ (TJ3 b).2.1 := by decide +kernel
theorem tyJ3_ok : ∀ k, k < 0 → parseFieldDescriptor (TJ3 k).2.2.1 = some (tyJ3 k) := by decide +kernel
abbrev cJ3_checkIndex_8e157 : ByteArray := prog_31_method_11_code
def yJ3_checkIndex_8e157 : MethodName := ⟨RJ3, "checkIndex", "(IILjava/util/function/BiFunction;)I"⟩
def RL : String := "DotPressLaw"
abbrev cL_law : ByteArray := code
def yL_law : MethodName := ⟨RL, "law", "([I)Z"⟩
theorem dX1_init_0 : decode cX1_init 0 = .ok (.aload_n 0, 1) := by decide +kernel
theorem dX1_init_1 : decode cX1_init 1 = .ok (.invokespecial 1, 3) := by decide +kernel
theorem dX1_init_4 : decode cX1_init 4 = .ok (.aload_n 0, 1) := by decide +kernel
theorem dX1_init_5 : decode cX1_init 5 = .ok (.iconst 0, 1) := by decide +kernel
theorem dX1_init_6 : decode cX1_init 6 = .ok (.putfield 7, 3) := by decide +kernel
theorem dX1_init_9 : decode cX1_init 9 = .ok (.aload_n 0, 1) := by decide +kernel
theorem dX1_init_10 : decode cX1_init 10 = .ok (.iload_n 1, 1) := by decide +kernel
theorem dX1_init_11 : decode cX1_init 11 = .ok (.putfield 13, 3) := by decide +kernel
theorem dX1_init_14 : decode cX1_init 14 = .ok (.aload_n 0, 1) := by decide +kernel
theorem dX1_init_15 : decode cX1_init 15 = .ok (.bipush 16, 2) := by decide +kernel
theorem dX1_init_17 : decode cX1_init 17 = .ok (.newarray .int, 2) := by decide +kernel
theorem dX1_init_19 : decode cX1_init 19 = .ok (.putfield 16, 3) := by decide +kernel
theorem dX1_init_22 : decode cX1_init 22 = .ok (.return_, 1) := by decide +kernel
theorem dX1_addAll_0 : decode cX1_addAll 0 = .ok (.iconst 0, 1) := by decide +kernel
theorem dX1_addAll_1 : decode cX1_addAll 1 = .ok (.istore_n 2, 1) := by decide +kernel
theorem dX1_addAll_2 : decode cX1_addAll 2 = .ok (.iload_n 2, 1) := by decide +kernel
theorem dX1_addAll_3 : decode cX1_addAll 3 = .ok (.aload_n 1, 1) := by decide +kernel
theorem dX1_addAll_4 : decode cX1_addAll 4 = .ok (.getfield 7, 3) := by decide +kernel
theorem dX1_addAll_7 : decode cX1_addAll 7 = .ok (.if_icmp .ge 19, 3) := by decide +kernel
theorem dX1_addAll_10 : decode cX1_addAll 10 = .ok (.aload_n 0, 1) := by decide +kernel
theorem dX1_addAll_11 : decode cX1_addAll 11 = .ok (.aload_n 1, 1) := by decide +kernel
theorem dX1_addAll_12 : decode cX1_addAll 12 = .ok (.getfield 16, 3) := by decide +kernel
theorem dX1_addAll_15 : decode cX1_addAll 15 = .ok (.iload_n 2, 1) := by decide +kernel
theorem dX1_addAll_16 : decode cX1_addAll 16 = .ok (.iaload, 1) := by decide +kernel
theorem dX1_addAll_17 : decode cX1_addAll 17 = .ok (.invokevirtual 26, 3) := by decide +kernel
theorem dX1_addAll_20 : decode cX1_addAll 20 = .ok (.iinc 2 1, 3) := by decide +kernel
theorem dX1_addAll_23 : decode cX1_addAll 23 = .ok (.goto (-21), 3) := by decide +kernel
theorem dX1_addAll_26 : decode cX1_addAll 26 = .ok (.return_, 1) := by decide +kernel
theorem dX1_clear_0 : decode cX1_clear 0 = .ok (.aload_n 0, 1) := by decide +kernel
theorem dX1_clear_1 : decode cX1_clear 1 = .ok (.iconst 0, 1) := by decide +kernel
theorem dX1_clear_2 : decode cX1_clear 2 = .ok (.putfield 7, 3) := by decide +kernel
theorem dX1_clear_5 : decode cX1_clear 5 = .ok (.return_, 1) := by decide +kernel
theorem dX1_keep_0 : decode cX1_keep 0 = .ok (.aload_n 0, 1) := by decide +kernel
theorem dX1_keep_1 : decode cX1_keep 1 = .ok (.iconst 0, 1) := by decide +kernel
theorem dX1_keep_2 : decode cX1_keep 2 = .ok (.aload_n 0, 1) := by decide +kernel
theorem dX1_keep_3 : decode cX1_keep 3 = .ok (.getfield 7, 3) := by decide +kernel
theorem dX1_keep_6 : decode cX1_keep 6 = .ok (.iload_n 1, 1) := by decide +kernel
theorem dX1_keep_7 : decode cX1_keep 7 = .ok (.invokestatic 30, 3) := by decide +kernel
theorem dX1_keep_10 : decode cX1_keep 10 = .ok (.invokestatic 36, 3) := by decide +kernel
theorem dX1_keep_13 : decode cX1_keep 13 = .ok (.putfield 7, 3) := by decide +kernel
theorem dX1_keep_16 : decode cX1_keep 16 = .ok (.return_, 1) := by decide +kernel
theorem dX1_isWithin_0 : decode cX1_isWithin 0 = .ok (.iload_n 1, 1) := by decide +kernel
theorem dX1_isWithin_1 : decode cX1_isWithin 1 = .ok (.istore 5, 2) := by decide +kernel
theorem dX1_isWithin_3 : decode cX1_isWithin 3 = .ok (.iload 5, 2) := by decide +kernel
theorem dX1_isWithin_5 : decode cX1_isWithin 5 = .ok (.iload_n 2, 1) := by decide +kernel
theorem dX1_isWithin_6 : decode cX1_isWithin 6 = .ok (.if_icmp .ge 32, 3) := by decide +kernel
theorem dX1_isWithin_9 : decode cX1_isWithin 9 = .ok (.aload_n 0, 1) := by decide +kernel
theorem dX1_isWithin_10 : decode cX1_isWithin 10 = .ok (.iload 5, 2) := by decide +kernel
theorem dX1_isWithin_12 : decode cX1_isWithin 12 = .ok (.invokevirtual 39, 3) := by decide +kernel
theorem dX1_isWithin_15 : decode cX1_isWithin 15 = .ok (.iload_n 3, 1) := by decide +kernel
theorem dX1_isWithin_16 : decode cX1_isWithin 16 = .ok (.if_icmp .lt 14, 3) := by decide +kernel
theorem dX1_isWithin_19 : decode cX1_isWithin 19 = .ok (.aload_n 0, 1) := by decide +kernel
theorem dX1_isWithin_20 : decode cX1_isWithin 20 = .ok (.iload 5, 2) := by decide +kernel
theorem dX1_isWithin_22 : decode cX1_isWithin 22 = .ok (.invokevirtual 39, 3) := by decide +kernel
theorem dX1_isWithin_25 : decode cX1_isWithin 25 = .ok (.iload 4, 2) := by decide +kernel
theorem dX1_isWithin_27 : decode cX1_isWithin 27 = .ok (.if_icmp .le 5, 3) := by decide +kernel
theorem dX1_isWithin_30 : decode cX1_isWithin 30 = .ok (.iconst 0, 1) := by decide +kernel
theorem dX1_isWithin_31 : decode cX1_isWithin 31 = .ok (.ireturn, 1) := by decide +kernel
theorem dX1_isWithin_32 : decode cX1_isWithin 32 = .ok (.iinc 5 1, 3) := by decide +kernel
theorem dX1_isWithin_35 : decode cX1_isWithin 35 = .ok (.goto (-32), 3) := by decide +kernel
theorem dX1_isWithin_38 : decode cX1_isWithin 38 = .ok (.iconst 1, 1) := by decide +kernel
theorem dX1_isWithin_39 : decode cX1_isWithin 39 = .ok (.ireturn, 1) := by decide +kernel
theorem dX3_init_0 : decode cX3_init 0 = .ok (.aload_n 0, 1) := by decide +kernel
theorem dX3_init_1 : decode cX3_init 1 = .ok (.invokespecial 3, 3) := by decide +kernel
theorem dX3_init_4 : decode cX3_init 4 = .ok (.aload_n 0, 1) := by decide +kernel
theorem dX3_init_5 : decode cX3_init 5 = .ok (.new 9, 3) := by decide +kernel
theorem dX3_init_8 : decode cX3_init 8 = .ok (.dup, 1) := by decide +kernel
theorem dX3_init_9 : decode cX3_init 9 = .ok (.invokespecial 11, 3) := by decide +kernel
theorem dX3_init_12 : decode cX3_init 12 = .ok (.putfield 12, 3) := by decide +kernel
theorem dX3_init_15 : decode cX3_init 15 = .ok (.aload_n 0, 1) := by decide +kernel
theorem dX3_init_16 : decode cX3_init 16 = .ok (.new 9, 3) := by decide +kernel
theorem dX3_init_19 : decode cX3_init 19 = .ok (.dup, 1) := by decide +kernel
theorem dX3_init_20 : decode cX3_init 20 = .ok (.invokespecial 11, 3) := by decide +kernel
theorem dX3_init_23 : decode cX3_init 23 = .ok (.putfield 18, 3) := by decide +kernel
theorem dX3_init_26 : decode cX3_init 26 = .ok (.aload_n 0, 1) := by decide +kernel
theorem dX3_init_27 : decode cX3_init 27 = .ok (.new 21, 3) := by decide +kernel
theorem dX3_init_30 : decode cX3_init 30 = .ok (.dup, 1) := by decide +kernel
theorem dX3_init_31 : decode cX3_init 31 = .ok (.sipush 6003, 3) := by decide +kernel
theorem dX3_init_34 : decode cX3_init 34 = .ok (.invokespecial 23, 3) := by decide +kernel
theorem dX3_init_37 : decode cX3_init 37 = .ok (.putfield 26, 3) := by decide +kernel
theorem dX3_init_40 : decode cX3_init 40 = .ok (.aload_n 0, 1) := by decide +kernel
theorem dX3_init_41 : decode cX3_init 41 = .ok (.new 21, 3) := by decide +kernel
theorem dX3_init_44 : decode cX3_init 44 = .ok (.dup, 1) := by decide +kernel
theorem dX3_init_45 : decode cX3_init 45 = .ok (.sipush 6003, 3) := by decide +kernel
theorem dX3_init_48 : decode cX3_init 48 = .ok (.invokespecial 23, 3) := by decide +kernel
theorem dX3_init_51 : decode cX3_init 51 = .ok (.putfield 30, 3) := by decide +kernel
theorem dX3_init_54 : decode cX3_init 54 = .ok (.aload_n 0, 1) := by decide +kernel
theorem dX3_init_55 : decode cX3_init 55 = .ok (.new 21, 3) := by decide +kernel
theorem dX3_init_58 : decode cX3_init 58 = .ok (.dup, 1) := by decide +kernel
theorem dX3_init_59 : decode cX3_init 59 = .ok (.ldc 33, 2) := by decide +kernel
theorem dX3_init_61 : decode cX3_init 61 = .ok (.invokespecial 23, 3) := by decide +kernel
theorem dX3_init_64 : decode cX3_init 64 = .ok (.putfield 34, 3) := by decide +kernel
theorem dX3_init_67 : decode cX3_init 67 = .ok (.aload_n 0, 1) := by decide +kernel
theorem dX3_init_68 : decode cX3_init 68 = .ok (.new 21, 3) := by decide +kernel
theorem dX3_init_71 : decode cX3_init 71 = .ok (.dup, 1) := by decide +kernel
theorem dX3_init_72 : decode cX3_init 72 = .ok (.ldc 33, 2) := by decide +kernel
theorem dX3_init_74 : decode cX3_init 74 = .ok (.invokespecial 23, 3) := by decide +kernel
theorem dX3_init_77 : decode cX3_init 77 = .ok (.putfield 37, 3) := by decide +kernel
theorem dX3_init_80 : decode cX3_init 80 = .ok (.aload_n 0, 1) := by decide +kernel
theorem dX3_init_81 : decode cX3_init 81 = .ok (.new 21, 3) := by decide +kernel
theorem dX3_init_84 : decode cX3_init 84 = .ok (.dup, 1) := by decide +kernel
theorem dX3_init_85 : decode cX3_init 85 = .ok (.sipush 4001, 3) := by decide +kernel
theorem dX3_init_88 : decode cX3_init 88 = .ok (.invokespecial 23, 3) := by decide +kernel
theorem dX3_init_91 : decode cX3_init 91 = .ok (.putfield 40, 3) := by decide +kernel
theorem dX3_init_94 : decode cX3_init 94 = .ok (.aload_n 0, 1) := by decide +kernel
theorem dX3_init_95 : decode cX3_init 95 = .ok (.iconst 0, 1) := by decide +kernel
theorem dX3_init_96 : decode cX3_init 96 = .ok (.putfield 43, 3) := by decide +kernel
theorem dX3_init_99 : decode cX3_init 99 = .ok (.return_, 1) := by decide +kernel
theorem dX4_init_0 : decode cX4_init 0 = .ok (.aload_n 0, 1) := by decide +kernel
theorem dX4_init_1 : decode cX4_init 1 = .ok (.invokespecial 3, 3) := by decide +kernel
theorem dX4_init_4 : decode cX4_init 4 = .ok (.aload_n 0, 1) := by decide +kernel
theorem dX4_init_5 : decode cX4_init 5 = .ok (.sipush 404, 3) := by decide +kernel
theorem dX4_init_8 : decode cX4_init 8 = .ok (.newarray .boolean, 2) := by decide +kernel
theorem dX4_init_10 : decode cX4_init 10 = .ok (.putfield 9, 3) := by decide +kernel
theorem dX4_init_13 : decode cX4_init 13 = .ok (.aload_n 0, 1) := by decide +kernel
theorem dX4_init_14 : decode cX4_init 14 = .ok (.bipush 101, 2) := by decide +kernel
theorem dX4_init_16 : decode cX4_init 16 = .ok (.newarray .int, 2) := by decide +kernel
theorem dX4_init_18 : decode cX4_init 18 = .ok (.putfield 15, 3) := by decide +kernel
theorem dX4_init_21 : decode cX4_init 21 = .ok (.aload_n 0, 1) := by decide +kernel
theorem dX4_init_22 : decode cX4_init 22 = .ok (.bipush 101, 2) := by decide +kernel
theorem dX4_init_24 : decode cX4_init 24 = .ok (.newarray .int, 2) := by decide +kernel
theorem dX4_init_26 : decode cX4_init 26 = .ok (.putfield 19, 3) := by decide +kernel
theorem dX4_init_29 : decode cX4_init 29 = .ok (.aload_n 0, 1) := by decide +kernel
theorem dX4_init_30 : decode cX4_init 30 = .ok (.bipush 50, 2) := by decide +kernel
theorem dX4_init_32 : decode cX4_init 32 = .ok (.newarray .int, 2) := by decide +kernel
theorem dX4_init_34 : decode cX4_init 34 = .ok (.putfield 22, 3) := by decide +kernel
theorem dX4_init_37 : decode cX4_init 37 = .ok (.aload_n 0, 1) := by decide +kernel
theorem dX4_init_38 : decode cX4_init 38 = .ok (.new 25, 3) := by decide +kernel
theorem dX4_init_41 : decode cX4_init 41 = .ok (.dup, 1) := by decide +kernel
theorem dX4_init_42 : decode cX4_init 42 = .ok (.ldc 27, 2) := by decide +kernel
theorem dX4_init_44 : decode cX4_init 44 = .ok (.invokespecial 28, 3) := by decide +kernel
theorem dX4_init_47 : decode cX4_init 47 = .ok (.putfield 31, 3) := by decide +kernel
theorem dX4_init_50 : decode cX4_init 50 = .ok (.aload_n 0, 1) := by decide +kernel
theorem dX4_init_51 : decode cX4_init 51 = .ok (.iconst 0, 1) := by decide +kernel
theorem dX4_init_52 : decode cX4_init 52 = .ok (.putfield 35, 3) := by decide +kernel
theorem dX4_init_55 : decode cX4_init 55 = .ok (.aload_n 0, 1) := by decide +kernel
theorem dX4_init_56 : decode cX4_init 56 = .ok (.iconst 0, 1) := by decide +kernel
theorem dX4_init_57 : decode cX4_init 57 = .ok (.putfield 39, 3) := by decide +kernel
theorem dX4_init_60 : decode cX4_init 60 = .ok (.aload_n 0, 1) := by decide +kernel
theorem dX4_init_61 : decode cX4_init 61 = .ok (.bipush 100, 2) := by decide +kernel
theorem dX4_init_63 : decode cX4_init 63 = .ok (.newarray .int, 2) := by decide +kernel
theorem dX4_init_65 : decode cX4_init 65 = .ok (.putfield 43, 3) := by decide +kernel
theorem dX4_init_68 : decode cX4_init 68 = .ok (.aload_n 0, 1) := by decide +kernel
theorem dX4_init_69 : decode cX4_init 69 = .ok (.iconst 0, 1) := by decide +kernel
theorem dX4_init_70 : decode cX4_init 70 = .ok (.putfield 46, 3) := by decide +kernel
theorem dX4_init_73 : decode cX4_init 73 = .ok (.aload_n 0, 1) := by decide +kernel
theorem dX4_init_74 : decode cX4_init 74 = .ok (.iconst 0, 1) := by decide +kernel
theorem dX4_init_75 : decode cX4_init 75 = .ok (.putfield 49, 3) := by decide +kernel
theorem dX4_init_78 : decode cX4_init 78 = .ok (.aload_n 0, 1) := by decide +kernel
theorem dX4_init_79 : decode cX4_init 79 = .ok (.aload_n 1, 1) := by decide +kernel
theorem dX4_init_80 : decode cX4_init 80 = .ok (.putfield 52, 3) := by decide +kernel
theorem dX4_init_83 : decode cX4_init 83 = .ok (.return_, 1) := by decide +kernel
theorem dX4_byteOf_0 : decode cX4_byteOf 0 = .ok (.iload_n 1, 1) := by decide +kernel
theorem dX4_byteOf_1 : decode cX4_byteOf 1 = .ok (.ifCond .lt 11, 3) := by decide +kernel
theorem dX4_byteOf_4 : decode cX4_byteOf 4 = .ok (.iload_n 1, 1) := by decide +kernel
theorem dX4_byteOf_5 : decode cX4_byteOf 5 = .ok (.aload_n 0, 1) := by decide +kernel
theorem dX4_byteOf_6 : decode cX4_byteOf 6 = .ok (.getfield 35, 3) := by decide +kernel
theorem dX4_byteOf_9 : decode cX4_byteOf 9 = .ok (.if_icmp .lt 5, 3) := by decide +kernel
theorem dX4_byteOf_12 : decode cX4_byteOf 12 = .ok (.iconst (-1), 1) := by decide +kernel
theorem dX4_byteOf_13 : decode cX4_byteOf 13 = .ok (.ireturn, 1) := by decide +kernel
theorem dX4_byteOf_14 : decode cX4_byteOf 14 = .ok (.iload_n 1, 1) := by decide +kernel
theorem dX4_byteOf_15 : decode cX4_byteOf 15 = .ok (.ifCond .ne 7, 3) := by decide +kernel
theorem dX4_byteOf_18 : decode cX4_byteOf 18 = .ok (.iconst 0, 1) := by decide +kernel
theorem dX4_byteOf_19 : decode cX4_byteOf 19 = .ok (.goto 11, 3) := by decide +kernel
theorem dX4_byteOf_22 : decode cX4_byteOf 22 = .ok (.aload_n 0, 1) := by decide +kernel
theorem dX4_byteOf_23 : decode cX4_byteOf 23 = .ok (.getfield 22, 3) := by decide +kernel
theorem dX4_byteOf_26 : decode cX4_byteOf 26 = .ok (.iload_n 1, 1) := by decide +kernel
theorem dX4_byteOf_27 : decode cX4_byteOf 27 = .ok (.iconst 1, 1) := by decide +kernel
theorem dX4_byteOf_28 : decode cX4_byteOf 28 = .ok (.isub, 1) := by decide +kernel
theorem dX4_byteOf_29 : decode cX4_byteOf 29 = .ok (.iaload, 1) := by decide +kernel
theorem dX4_byteOf_30 : decode cX4_byteOf 30 = .ok (.istore_n 3, 1) := by decide +kernel
theorem dX4_byteOf_31 : decode cX4_byteOf 31 = .ok (.iload_n 2, 1) := by decide +kernel
theorem dX4_byteOf_32 : decode cX4_byteOf 32 = .ok (.ifCond .lt 15, 3) := by decide +kernel
theorem dX4_byteOf_35 : decode cX4_byteOf 35 = .ok (.iload_n 2, 1) := by decide +kernel
theorem dX4_byteOf_36 : decode cX4_byteOf 36 = .ok (.aload_n 0, 1) := by decide +kernel
theorem dX4_byteOf_37 : decode cX4_byteOf 37 = .ok (.getfield 22, 3) := by decide +kernel
theorem dX4_byteOf_40 : decode cX4_byteOf 40 = .ok (.iload_n 1, 1) := by decide +kernel
theorem dX4_byteOf_41 : decode cX4_byteOf 41 = .ok (.iaload, 1) := by decide +kernel
theorem dX4_byteOf_42 : decode cX4_byteOf 42 = .ok (.iload_n 3, 1) := by decide +kernel
theorem dX4_byteOf_43 : decode cX4_byteOf 43 = .ok (.isub, 1) := by decide +kernel
theorem dX4_byteOf_44 : decode cX4_byteOf 44 = .ok (.if_icmp .lt 7, 3) := by decide +kernel
theorem dX4_byteOf_47 : decode cX4_byteOf 47 = .ok (.iconst (-1), 1) := by decide +kernel
theorem dX4_byteOf_48 : decode cX4_byteOf 48 = .ok (.goto 13, 3) := by decide +kernel
theorem dX4_byteOf_51 : decode cX4_byteOf 51 = .ok (.aload_n 0, 1) := by decide +kernel
theorem dX4_byteOf_52 : decode cX4_byteOf 52 = .ok (.getfield 31, 3) := by decide +kernel
theorem dX4_byteOf_55 : decode cX4_byteOf 55 = .ok (.iload_n 3, 1) := by decide +kernel
theorem dX4_byteOf_56 : decode cX4_byteOf 56 = .ok (.iload_n 2, 1) := by decide +kernel
theorem dX4_byteOf_57 : decode cX4_byteOf 57 = .ok (.iadd, 1) := by decide +kernel
theorem dX4_byteOf_58 : decode cX4_byteOf 58 = .ok (.invokevirtual 56, 3) := by decide +kernel
theorem dX4_byteOf_61 : decode cX4_byteOf 61 = .ok (.ireturn, 1) := by decide +kernel
theorem dX6_init_0 : decode cX6_init 0 = .ok (.aload_n 0, 1) := by decide +kernel
theorem dX6_init_1 : decode cX6_init 1 = .ok (.invokespecial 3, 3) := by decide +kernel
theorem dX6_init_4 : decode cX6_init 4 = .ok (.aload_n 0, 1) := by decide +kernel
theorem dX6_init_5 : decode cX6_init 5 = .ok (.sipush 500, 3) := by decide +kernel
theorem dX6_init_8 : decode cX6_init 8 = .ok (.newarray .int, 2) := by decide +kernel
theorem dX6_init_10 : decode cX6_init 10 = .ok (.putfield 9, 3) := by decide +kernel
theorem dX6_init_13 : decode cX6_init 13 = .ok (.aload_n 0, 1) := by decide +kernel
theorem dX6_init_14 : decode cX6_init 14 = .ok (.sipush 500, 3) := by decide +kernel
theorem dX6_init_17 : decode cX6_init 17 = .ok (.newarray .int, 2) := by decide +kernel
theorem dX6_init_19 : decode cX6_init 19 = .ok (.putfield 15, 3) := by decide +kernel
theorem dX6_init_22 : decode cX6_init 22 = .ok (.aload_n 0, 1) := by decide +kernel
theorem dX6_init_23 : decode cX6_init 23 = .ok (.sipush 500, 3) := by decide +kernel
theorem dX6_init_26 : decode cX6_init 26 = .ok (.newarray .boolean, 2) := by decide +kernel
theorem dX6_init_28 : decode cX6_init 28 = .ok (.putfield 18, 3) := by decide +kernel
theorem dX6_init_31 : decode cX6_init 31 = .ok (.aload_n 0, 1) := by decide +kernel
theorem dX6_init_32 : decode cX6_init 32 = .ok (.sipush 500, 3) := by decide +kernel
theorem dX6_init_35 : decode cX6_init 35 = .ok (.newarray .int, 2) := by decide +kernel
theorem dX6_init_37 : decode cX6_init 37 = .ok (.putfield 22, 3) := by decide +kernel
theorem dX6_init_40 : decode cX6_init 40 = .ok (.aload_n 0, 1) := by decide +kernel
theorem dX6_init_41 : decode cX6_init 41 = .ok (.iconst 0, 1) := by decide +kernel
theorem dX6_init_42 : decode cX6_init 42 = .ok (.putfield 25, 3) := by decide +kernel
theorem dX6_init_45 : decode cX6_init 45 = .ok (.aload_n 0, 1) := by decide +kernel
theorem dX6_init_46 : decode cX6_init 46 = .ok (.iconst 0, 1) := by decide +kernel
theorem dX6_init_47 : decode cX6_init 47 = .ok (.putfield 29, 3) := by decide +kernel
theorem dX6_init_50 : decode cX6_init 50 = .ok (.aload_n 0, 1) := by decide +kernel
theorem dX6_init_51 : decode cX6_init 51 = .ok (.sipush 200, 3) := by decide +kernel
theorem dX6_init_54 : decode cX6_init 54 = .ok (.newarray .int, 2) := by decide +kernel
theorem dX6_init_56 : decode cX6_init 56 = .ok (.putfield 33, 3) := by decide +kernel
theorem dX6_init_59 : decode cX6_init 59 = .ok (.aload_n 0, 1) := by decide +kernel
theorem dX6_init_60 : decode cX6_init 60 = .ok (.iconst 0, 1) := by decide +kernel
theorem dX6_init_61 : decode cX6_init 61 = .ok (.putfield 36, 3) := by decide +kernel
theorem dX6_init_64 : decode cX6_init 64 = .ok (.aload_n 0, 1) := by decide +kernel
theorem dX6_init_65 : decode cX6_init 65 = .ok (.iconst 5, 1) := by decide +kernel
theorem dX6_init_66 : decode cX6_init 66 = .ok (.newarray .int, 2) := by decide +kernel
theorem dX6_init_68 : decode cX6_init 68 = .ok (.putfield 39, 3) := by decide +kernel
theorem dX6_init_71 : decode cX6_init 71 = .ok (.aload_n 0, 1) := by decide +kernel
theorem dX6_init_72 : decode cX6_init 72 = .ok (.iconst 0, 1) := by decide +kernel
theorem dX6_init_73 : decode cX6_init 73 = .ok (.putfield 42, 3) := by decide +kernel
theorem dX6_init_76 : decode cX6_init 76 = .ok (.aload_n 0, 1) := by decide +kernel
theorem dX6_init_77 : decode cX6_init 77 = .ok (.iconst 0, 1) := by decide +kernel
theorem dX6_init_78 : decode cX6_init 78 = .ok (.putfield 45, 3) := by decide +kernel
theorem dX6_init_81 : decode cX6_init 81 = .ok (.aload_n 0, 1) := by decide +kernel
theorem dX6_init_82 : decode cX6_init 82 = .ok (.iconst 0, 1) := by decide +kernel
theorem dX6_init_83 : decode cX6_init 83 = .ok (.putfield 48, 3) := by decide +kernel
theorem dX6_init_86 : decode cX6_init 86 = .ok (.return_, 1) := by decide +kernel
theorem dX6_clear_0 : decode cX6_clear 0 = .ok (.aload_n 0, 1) := by decide +kernel
theorem dX6_clear_1 : decode cX6_clear 1 = .ok (.iconst 0, 1) := by decide +kernel
theorem dX6_clear_2 : decode cX6_clear 2 = .ok (.putfield 25, 3) := by decide +kernel
theorem dX6_clear_5 : decode cX6_clear 5 = .ok (.aload_n 0, 1) := by decide +kernel
theorem dX6_clear_6 : decode cX6_clear 6 = .ok (.iconst 0, 1) := by decide +kernel
theorem dX6_clear_7 : decode cX6_clear 7 = .ok (.putfield 29, 3) := by decide +kernel
theorem dX6_clear_10 : decode cX6_clear 10 = .ok (.return_, 1) := by decide +kernel
theorem dX6_findsOf_0 : decode cX6_findsOf 0 = .ok (.iload_n 1, 1) := by decide +kernel
theorem dX6_findsOf_1 : decode cX6_findsOf 1 = .ok (.ifCond .lt 21, 3) := by decide +kernel
theorem dX6_findsOf_4 : decode cX6_findsOf 4 = .ok (.iload_n 1, 1) := by decide +kernel
theorem dX6_findsOf_5 : decode cX6_findsOf 5 = .ok (.aload_n 0, 1) := by decide +kernel
theorem dX6_findsOf_6 : decode cX6_findsOf 6 = .ok (.getfield 39, 3) := by decide +kernel
theorem dX6_findsOf_9 : decode cX6_findsOf 9 = .ok (.arraylength, 1) := by decide +kernel
theorem dX6_findsOf_10 : decode cX6_findsOf 10 = .ok (.if_icmp .ge 12, 3) := by decide +kernel
theorem dX6_findsOf_13 : decode cX6_findsOf 13 = .ok (.aload_n 0, 1) := by decide +kernel
theorem dX6_findsOf_14 : decode cX6_findsOf 14 = .ok (.getfield 39, 3) := by decide +kernel
theorem dX6_findsOf_17 : decode cX6_findsOf 17 = .ok (.iload_n 1, 1) := by decide +kernel
theorem dX6_findsOf_18 : decode cX6_findsOf 18 = .ok (.iaload, 1) := by decide +kernel
theorem dX6_findsOf_19 : decode cX6_findsOf 19 = .ok (.goto 4, 3) := by decide +kernel
theorem dX6_findsOf_22 : decode cX6_findsOf 22 = .ok (.iconst 0, 1) := by decide +kernel
theorem dX6_findsOf_23 : decode cX6_findsOf 23 = .ok (.ireturn, 1) := by decide +kernel
theorem dX7_init_0 : decode cX7_init 0 = .ok (.aload_n 0, 1) := by decide +kernel
theorem dX7_init_1 : decode cX7_init 1 = .ok (.invokespecial 3, 3) := by decide +kernel
theorem dX7_init_4 : decode cX7_init 4 = .ok (.aload_n 0, 1) := by decide +kernel
theorem dX7_init_5 : decode cX7_init 5 = .ok (.sipush 200, 3) := by decide +kernel
theorem dX7_init_8 : decode cX7_init 8 = .ok (.anewarray 9, 3) := by decide +kernel
theorem dX7_init_11 : decode cX7_init 11 = .ok (.putfield 11, 3) := by decide +kernel
theorem dX7_init_14 : decode cX7_init 14 = .ok (.aload_n 0, 1) := by decide +kernel
theorem dX7_init_15 : decode cX7_init 15 = .ok (.iconst 0, 1) := by decide +kernel
theorem dX7_init_16 : decode cX7_init 16 = .ok (.putfield 17, 3) := by decide +kernel
theorem dX7_init_19 : decode cX7_init 19 = .ok (.aload_n 0, 1) := by decide +kernel
theorem dX7_init_20 : decode cX7_init 20 = .ok (.iconst 0, 1) := by decide +kernel
theorem dX7_init_21 : decode cX7_init 21 = .ok (.putfield 21, 3) := by decide +kernel
theorem dX7_init_24 : decode cX7_init 24 = .ok (.return_, 1) := by decide +kernel
theorem dX7_at_0 : decode cX7_at 0 = .ok (.iload_n 1, 1) := by decide +kernel
theorem dX7_at_1 : decode cX7_at 1 = .ok (.ifCond .lt 20, 3) := by decide +kernel
theorem dX7_at_4 : decode cX7_at 4 = .ok (.iload_n 1, 1) := by decide +kernel
theorem dX7_at_5 : decode cX7_at 5 = .ok (.aload_n 0, 1) := by decide +kernel
theorem dX7_at_6 : decode cX7_at 6 = .ok (.getfield 17, 3) := by decide +kernel
theorem dX7_at_9 : decode cX7_at 9 = .ok (.if_icmp .ge 12, 3) := by decide +kernel
theorem dX7_at_12 : decode cX7_at 12 = .ok (.aload_n 0, 1) := by decide +kernel
theorem dX7_at_13 : decode cX7_at 13 = .ok (.getfield 11, 3) := by decide +kernel
theorem dX7_at_16 : decode cX7_at 16 = .ok (.iload_n 1, 1) := by decide +kernel
theorem dX7_at_17 : decode cX7_at 17 = .ok (.aaload, 1) := by decide +kernel
theorem dX7_at_18 : decode cX7_at 18 = .ok (.goto 4, 3) := by decide +kernel
theorem dX7_at_21 : decode cX7_at 21 = .ok (.aconst_null, 1) := by decide +kernel
theorem dX7_at_22 : decode cX7_at 22 = .ok (.areturn, 1) := by decide +kernel
theorem dX7_present_0 : decode cX7_present 0 = .ok (.aload_n 0, 1) := by decide +kernel
theorem dX7_present_1 : decode cX7_present 1 = .ok (.iload_n 1, 1) := by decide +kernel
theorem dX7_present_2 : decode cX7_present 2 = .ok (.invokevirtual 24, 3) := by decide +kernel
theorem dX7_present_5 : decode cX7_present 5 = .ok (.astore_n 2, 1) := by decide +kernel
theorem dX7_present_6 : decode cX7_present 6 = .ok (.aload_n 2, 1) := by decide +kernel
theorem dX7_present_7 : decode cX7_present 7 = .ok (.ifnull 10, 3) := by decide +kernel
theorem dX7_present_10 : decode cX7_present 10 = .ok (.aload_n 2, 1) := by decide +kernel
theorem dX7_present_11 : decode cX7_present 11 = .ok (.getfield 28, 3) := by decide +kernel
theorem dX7_present_14 : decode cX7_present 14 = .ok (.ifCond .eq 7, 3) := by decide +kernel
theorem dX7_present_17 : decode cX7_present 17 = .ok (.aconst_null, 1) := by decide +kernel
theorem dX7_present_18 : decode cX7_present 18 = .ok (.goto 4, 3) := by decide +kernel
theorem dX7_present_21 : decode cX7_present 21 = .ok (.aload_n 2, 1) := by decide +kernel
theorem dX7_present_22 : decode cX7_present 22 = .ok (.areturn, 1) := by decide +kernel
theorem dX7_whyNone_0 : decode cX7_whyNone 0 = .ok (.aload_n 0, 1) := by decide +kernel
theorem dX7_whyNone_1 : decode cX7_whyNone 1 = .ok (.iload_n 1, 1) := by decide +kernel
theorem dX7_whyNone_2 : decode cX7_whyNone 2 = .ok (.invokevirtual 24, 3) := by decide +kernel
theorem dX7_whyNone_5 : decode cX7_whyNone 5 = .ok (.ifnonnull 7, 3) := by decide +kernel
theorem dX7_whyNone_8 : decode cX7_whyNone 8 = .ok (.iconst 2, 1) := by decide +kernel
theorem dX7_whyNone_9 : decode cX7_whyNone 9 = .ok (.goto 4, 3) := by decide +kernel
theorem dX7_whyNone_12 : decode cX7_whyNone 12 = .ok (.iconst 1, 1) := by decide +kernel
theorem dX7_whyNone_13 : decode cX7_whyNone 13 = .ok (.ireturn, 1) := by decide +kernel
theorem dX7_goOver_0 : decode cX7_goOver 0 = .ok (.iload_n 1, 1) := by decide +kernel
theorem dX7_goOver_1 : decode cX7_goOver 1 = .ok (.istore_n 2, 1) := by decide +kernel
theorem dX7_goOver_2 : decode cX7_goOver 2 = .ok (.iconst 0, 1) := by decide +kernel
theorem dX7_goOver_3 : decode cX7_goOver 3 = .ok (.istore_n 3, 1) := by decide +kernel
theorem dX7_goOver_4 : decode cX7_goOver 4 = .ok (.iload_n 3, 1) := by decide +kernel
theorem dX7_goOver_5 : decode cX7_goOver 5 = .ok (.aload_n 0, 1) := by decide +kernel
theorem dX7_goOver_6 : decode cX7_goOver 6 = .ok (.getfield 17, 3) := by decide +kernel
theorem dX7_goOver_9 : decode cX7_goOver 9 = .ok (.if_icmp .ge 74, 3) := by decide +kernel
theorem dX7_goOver_12 : decode cX7_goOver 12 = .ok (.aload_n 0, 1) := by decide +kernel
theorem dX7_goOver_13 : decode cX7_goOver 13 = .ok (.iload_n 3, 1) := by decide +kernel
theorem dX7_goOver_14 : decode cX7_goOver 14 = .ok (.invokevirtual 61, 3) := by decide +kernel
theorem dX7_goOver_17 : decode cX7_goOver 17 = .ok (.astore 4, 2) := by decide +kernel
theorem dX7_goOver_19 : decode cX7_goOver 19 = .ok (.iload_n 2, 1) := by decide +kernel
theorem dX7_goOver_20 : decode cX7_goOver 20 = .ok (.bipush 31, 2) := by decide +kernel
theorem dX7_goOver_22 : decode cX7_goOver 22 = .ok (.imul, 1) := by decide +kernel
theorem dX7_goOver_23 : decode cX7_goOver 23 = .ok (.aload 4, 2) := by decide +kernel
theorem dX7_goOver_25 : decode cX7_goOver 25 = .ok (.ifnonnull 7, 3) := by decide +kernel
theorem dX7_goOver_28 : decode cX7_goOver 28 = .ok (.iconst (-1), 1) := by decide +kernel
theorem dX7_goOver_29 : decode cX7_goOver 29 = .ok (.goto 8, 3) := by decide +kernel
theorem dX7_goOver_32 : decode cX7_goOver 32 = .ok (.aload 4, 2) := by decide +kernel
theorem dX7_goOver_34 : decode cX7_goOver 34 = .ok (.getfield 36, 3) := by decide +kernel
theorem dX7_goOver_37 : decode cX7_goOver 37 = .ok (.iadd, 1) := by decide +kernel
theorem dX7_goOver_38 : decode cX7_goOver 38 = .ok (.istore_n 2, 1) := by decide +kernel
theorem dX7_goOver_39 : decode cX7_goOver 39 = .ok (.iconst 0, 1) := by decide +kernel
theorem dX7_goOver_40 : decode cX7_goOver 40 = .ok (.istore 5, 2) := by decide +kernel
theorem dX7_goOver_42 : decode cX7_goOver 42 = .ok (.aload 4, 2) := by decide +kernel
theorem dX7_goOver_44 : decode cX7_goOver 44 = .ok (.ifnull 33, 3) := by decide +kernel
theorem dX7_goOver_47 : decode cX7_goOver 47 = .ok (.iload 5, 2) := by decide +kernel
theorem dX7_goOver_49 : decode cX7_goOver 49 = .ok (.aload 4, 2) := by decide +kernel
theorem dX7_goOver_51 : decode cX7_goOver 51 = .ok (.getfield 36, 3) := by decide +kernel
theorem dX7_goOver_54 : decode cX7_goOver 54 = .ok (.if_icmp .ge 23, 3) := by decide +kernel
theorem dX7_goOver_57 : decode cX7_goOver 57 = .ok (.iload_n 2, 1) := by decide +kernel
theorem dX7_goOver_58 : decode cX7_goOver 58 = .ok (.bipush 31, 2) := by decide +kernel
theorem dX7_goOver_60 : decode cX7_goOver 60 = .ok (.imul, 1) := by decide +kernel
theorem dX7_goOver_61 : decode cX7_goOver 61 = .ok (.aload 4, 2) := by decide +kernel
theorem dX7_goOver_63 : decode cX7_goOver 63 = .ok (.getfield 64, 3) := by decide +kernel
theorem dX7_goOver_66 : decode cX7_goOver 66 = .ok (.iload 5, 2) := by decide +kernel
theorem dX7_goOver_68 : decode cX7_goOver 68 = .ok (.iaload, 1) := by decide +kernel
theorem dX7_goOver_69 : decode cX7_goOver 69 = .ok (.iadd, 1) := by decide +kernel
theorem dX7_goOver_70 : decode cX7_goOver 70 = .ok (.istore_n 2, 1) := by decide +kernel
theorem dX7_goOver_71 : decode cX7_goOver 71 = .ok (.iinc 5 1, 3) := by decide +kernel
theorem dX7_goOver_74 : decode cX7_goOver 74 = .ok (.goto (-32), 3) := by decide +kernel
theorem dX7_goOver_77 : decode cX7_goOver 77 = .ok (.iinc 3 1, 3) := by decide +kernel
theorem dX7_goOver_80 : decode cX7_goOver 80 = .ok (.goto (-76), 3) := by decide +kernel
theorem dX7_goOver_83 : decode cX7_goOver 83 = .ok (.iload_n 2, 1) := by decide +kernel
theorem dX7_goOver_84 : decode cX7_goOver 84 = .ok (.ireturn, 1) := by decide +kernel
theorem dX8_init_0 : decode cX8_init 0 = .ok (.aload_n 0, 1) := by decide +kernel
theorem dX8_init_1 : decode cX8_init 1 = .ok (.invokespecial 3, 3) := by decide +kernel
theorem dX8_init_4 : decode cX8_init 4 = .ok (.aload_n 0, 1) := by decide +kernel
theorem dX8_init_5 : decode cX8_init 5 = .ok (.iconst 0, 1) := by decide +kernel
theorem dX8_init_6 : decode cX8_init 6 = .ok (.putfield 9, 3) := by decide +kernel
theorem dX8_init_9 : decode cX8_init 9 = .ok (.aload_n 0, 1) := by decide +kernel
theorem dX8_init_10 : decode cX8_init 10 = .ok (.iconst 0, 1) := by decide +kernel
theorem dX8_init_11 : decode cX8_init 11 = .ok (.putfield 15, 3) := by decide +kernel
theorem dX8_init_14 : decode cX8_init 14 = .ok (.aload_n 0, 1) := by decide +kernel
theorem dX8_init_15 : decode cX8_init 15 = .ok (.iconst 0, 1) := by decide +kernel
theorem dX8_init_16 : decode cX8_init 16 = .ok (.putfield 19, 3) := by decide +kernel
theorem dX8_init_19 : decode cX8_init 19 = .ok (.aload_n 0, 1) := by decide +kernel
theorem dX8_init_20 : decode cX8_init 20 = .ok (.bipush 126, 2) := by decide +kernel
theorem dX8_init_22 : decode cX8_init 22 = .ok (.newarray .boolean, 2) := by decide +kernel
theorem dX8_init_24 : decode cX8_init 24 = .ok (.putfield 22, 3) := by decide +kernel
theorem dX8_init_27 : decode cX8_init 27 = .ok (.aload_n 0, 1) := by decide +kernel
theorem dX8_init_28 : decode cX8_init 28 = .ok (.bipush 126, 2) := by decide +kernel
theorem dX8_init_30 : decode cX8_init 30 = .ok (.newarray .int, 2) := by decide +kernel
theorem dX8_init_32 : decode cX8_init 32 = .ok (.putfield 26, 3) := by decide +kernel
theorem dX8_init_35 : decode cX8_init 35 = .ok (.aload_n 0, 1) := by decide +kernel
theorem dX8_init_36 : decode cX8_init 36 = .ok (.iconst 0, 1) := by decide +kernel
theorem dX8_init_37 : decode cX8_init 37 = .ok (.putfield 30, 3) := by decide +kernel
theorem dX8_init_40 : decode cX8_init 40 = .ok (.aload_n 0, 1) := by decide +kernel
theorem dX8_init_41 : decode cX8_init 41 = .ok (.bipush 6, 2) := by decide +kernel
theorem dX8_init_43 : decode cX8_init 43 = .ok (.newarray .int, 2) := by decide +kernel
theorem dX8_init_45 : decode cX8_init 45 = .ok (.putfield 33, 3) := by decide +kernel
theorem dX8_init_48 : decode cX8_init 48 = .ok (.aload_n 0, 1) := by decide +kernel
theorem dX8_init_49 : decode cX8_init 49 = .ok (.iconst 0, 1) := by decide +kernel
theorem dX8_init_50 : decode cX8_init 50 = .ok (.putfield 36, 3) := by decide +kernel
theorem dX8_init_53 : decode cX8_init 53 = .ok (.return_, 1) := by decide +kernel
theorem dX10_init_0 : decode cX10_init 0 = .ok (.aload_n 0, 1) := by decide +kernel
theorem dX10_init_1 : decode cX10_init 1 = .ok (.invokespecial 3, 3) := by decide +kernel
theorem dX10_init_4 : decode cX10_init 4 = .ok (.aload_n 0, 1) := by decide +kernel
theorem dX10_init_5 : decode cX10_init 5 = .ok (.new 9, 3) := by decide +kernel
theorem dX10_init_8 : decode cX10_init 8 = .ok (.dup, 1) := by decide +kernel
theorem dX10_init_9 : decode cX10_init 9 = .ok (.invokespecial 11, 3) := by decide +kernel
theorem dX10_init_12 : decode cX10_init 12 = .ok (.putfield 12, 3) := by decide +kernel
theorem dX10_init_15 : decode cX10_init 15 = .ok (.aload_n 0, 1) := by decide +kernel
theorem dX10_init_16 : decode cX10_init 16 = .ok (.new 9, 3) := by decide +kernel
theorem dX10_init_19 : decode cX10_init 19 = .ok (.dup, 1) := by decide +kernel
theorem dX10_init_20 : decode cX10_init 20 = .ok (.invokespecial 11, 3) := by decide +kernel
theorem dX10_init_23 : decode cX10_init 23 = .ok (.putfield 18, 3) := by decide +kernel
theorem dX10_init_26 : decode cX10_init 26 = .ok (.return_, 1) := by decide +kernel
theorem dX10_isFull_0 : decode cX10_isFull 0 = .ok (.aload_n 0, 1) := by decide +kernel
theorem dX10_isFull_1 : decode cX10_isFull 1 = .ok (.getfield 12, 3) := by decide +kernel
theorem dX10_isFull_4 : decode cX10_isFull 4 = .ok (.invokevirtual 21, 3) := by decide +kernel
theorem dX10_isFull_7 : decode cX10_isFull 7 = .ok (.bipush 30, 2) := by decide +kernel
theorem dX10_isFull_9 : decode cX10_isFull 9 = .ok (.if_icmp .lt 7, 3) := by decide +kernel
theorem dX10_isFull_12 : decode cX10_isFull 12 = .ok (.iconst 1, 1) := by decide +kernel
theorem dX10_isFull_13 : decode cX10_isFull 13 = .ok (.goto 4, 3) := by decide +kernel
theorem dX10_isFull_16 : decode cX10_isFull 16 = .ok (.iconst 0, 1) := by decide +kernel
theorem dX10_isFull_17 : decode cX10_isFull 17 = .ok (.ireturn, 1) := by decide +kernel
theorem dX10_alive_0 : decode cX10_alive 0 = .ok (.iload_n 1, 1) := by decide +kernel
theorem dX10_alive_1 : decode cX10_alive 1 = .ok (.ifCond .lt 14, 3) := by decide +kernel
theorem dX10_alive_4 : decode cX10_alive 4 = .ok (.iload_n 1, 1) := by decide +kernel
theorem dX10_alive_5 : decode cX10_alive 5 = .ok (.aload_n 0, 1) := by decide +kernel
theorem dX10_alive_6 : decode cX10_alive 6 = .ok (.getfield 12, 3) := by decide +kernel
theorem dX10_alive_9 : decode cX10_alive 9 = .ok (.invokevirtual 21, 3) := by decide +kernel
theorem dX10_alive_12 : decode cX10_alive 12 = .ok (.if_icmp .lt 5, 3) := by decide +kernel
theorem dX10_alive_15 : decode cX10_alive 15 = .ok (.aconst_null, 1) := by decide +kernel
theorem dX10_alive_16 : decode cX10_alive 16 = .ok (.areturn, 1) := by decide +kernel
theorem dX10_alive_17 : decode cX10_alive 17 = .ok (.aload_n 0, 1) := by decide +kernel
theorem dX10_alive_18 : decode cX10_alive 18 = .ok (.getfield 12, 3) := by decide +kernel
theorem dX10_alive_21 : decode cX10_alive 21 = .ok (.iload_n 1, 1) := by decide +kernel
theorem dX10_alive_22 : decode cX10_alive 22 = .ok (.invokevirtual 25, 3) := by decide +kernel
theorem dX10_alive_25 : decode cX10_alive 25 = .ok (.checkcast 29, 3) := by decide +kernel
theorem dX10_alive_28 : decode cX10_alive 28 = .ok (.astore_n 2, 1) := by decide +kernel
theorem dX10_alive_29 : decode cX10_alive 29 = .ok (.aload_n 2, 1) := by decide +kernel
theorem dX10_alive_30 : decode cX10_alive 30 = .ok (.getfield 31, 3) := by decide +kernel
theorem dX10_alive_33 : decode cX10_alive 33 = .ok (.ifCond .eq 7, 3) := by decide +kernel
theorem dX10_alive_36 : decode cX10_alive 36 = .ok (.aconst_null, 1) := by decide +kernel
theorem dX10_alive_37 : decode cX10_alive 37 = .ok (.goto 4, 3) := by decide +kernel
theorem dX10_alive_40 : decode cX10_alive 40 = .ok (.aload_n 2, 1) := by decide +kernel
theorem dX10_alive_41 : decode cX10_alive 41 = .ok (.areturn, 1) := by decide +kernel
theorem dX10_whole_0 : decode cX10_whole 0 = .ok (.aload_n 0, 1) := by decide +kernel
theorem dX10_whole_1 : decode cX10_whole 1 = .ok (.iload_n 1, 1) := by decide +kernel
theorem dX10_whole_2 : decode cX10_whole 2 = .ok (.invokevirtual 35, 3) := by decide +kernel
theorem dX10_whole_5 : decode cX10_whole 5 = .ok (.astore_n 2, 1) := by decide +kernel
theorem dX10_whole_6 : decode cX10_whole 6 = .ok (.aload_n 2, 1) := by decide +kernel
theorem dX10_whole_7 : decode cX10_whole 7 = .ok (.ifnull 14, 3) := by decide +kernel
theorem dX10_whole_10 : decode cX10_whole 10 = .ok (.aload_n 2, 1) := by decide +kernel
theorem dX10_whole_11 : decode cX10_whole 11 = .ok (.invokevirtual 39, 3) := by decide +kernel
theorem dX10_whole_14 : decode cX10_whole 14 = .ok (.ifCond .eq 7, 3) := by decide +kernel
theorem dX10_whole_17 : decode cX10_whole 17 = .ok (.aload_n 2, 1) := by decide +kernel
theorem dX10_whole_18 : decode cX10_whole 18 = .ok (.goto 4, 3) := by decide +kernel
theorem dX10_whole_21 : decode cX10_whole 21 = .ok (.aconst_null, 1) := by decide +kernel
theorem dX10_whole_22 : decode cX10_whole 22 = .ok (.areturn, 1) := by decide +kernel
theorem dX10_takeBack_0 : decode cX10_takeBack 0 = .ok (.aload_n 0, 1) := by decide +kernel
theorem dX10_takeBack_1 : decode cX10_takeBack 1 = .ok (.getfield 18, 3) := by decide +kernel
theorem dX10_takeBack_4 : decode cX10_takeBack 4 = .ok (.invokevirtual 59, 3) := by decide +kernel
theorem dX10_takeBack_7 : decode cX10_takeBack 7 = .ok (.ifCond .eq 5, 3) := by decide +kernel
theorem dX10_takeBack_10 : decode cX10_takeBack 10 = .ok (.iconst 0, 1) := by decide +kernel
theorem dX10_takeBack_11 : decode cX10_takeBack 11 = .ok (.ireturn, 1) := by decide +kernel
theorem dX10_takeBack_12 : decode cX10_takeBack 12 = .ok (.aload_n 0, 1) := by decide +kernel
theorem dX10_takeBack_13 : decode cX10_takeBack 13 = .ok (.getfield 18, 3) := by decide +kernel
theorem dX10_takeBack_16 : decode cX10_takeBack 16 = .ok (.aload_n 0, 1) := by decide +kernel
theorem dX10_takeBack_17 : decode cX10_takeBack 17 = .ok (.getfield 18, 3) := by decide +kernel
theorem dX10_takeBack_20 : decode cX10_takeBack 20 = .ok (.invokevirtual 21, 3) := by decide +kernel
theorem dX10_takeBack_23 : decode cX10_takeBack 23 = .ok (.iconst 1, 1) := by decide +kernel
theorem dX10_takeBack_24 : decode cX10_takeBack 24 = .ok (.isub, 1) := by decide +kernel
theorem dX10_takeBack_25 : decode cX10_takeBack 25 = .ok (.invokevirtual 56, 3) := by decide +kernel
theorem dX10_takeBack_28 : decode cX10_takeBack 28 = .ok (.checkcast 47, 3) := by decide +kernel
theorem dX10_takeBack_31 : decode cX10_takeBack 31 = .ok (.astore_n 1, 1) := by decide +kernel
theorem dX10_takeBack_32 : decode cX10_takeBack 32 = .ok (.aload_n 1, 1) := by decide +kernel
theorem dX10_takeBack_33 : decode cX10_takeBack 33 = .ok (.getfield 62, 3) := by decide +kernel
theorem dX10_takeBack_36 : decode cX10_takeBack 36 = .ok (.tableswitch 104 0 3 #[32, 62, 73, 83], 32) := by decide +kernel
theorem dX10_takeBack_68 : decode cX10_takeBack 68 = .ok (.aload_n 0, 1) := by decide +kernel
theorem dX10_takeBack_69 : decode cX10_takeBack 69 = .ok (.getfield 12, 3) := by decide +kernel
theorem dX10_takeBack_72 : decode cX10_takeBack 72 = .ok (.invokevirtual 59, 3) := by decide +kernel
theorem dX10_takeBack_75 : decode cX10_takeBack 75 = .ok (.ifCond .ne 96, 3) := by decide +kernel
theorem dX10_takeBack_78 : decode cX10_takeBack 78 = .ok (.aload_n 0, 1) := by decide +kernel
theorem dX10_takeBack_79 : decode cX10_takeBack 79 = .ok (.getfield 12, 3) := by decide +kernel
theorem dX10_takeBack_82 : decode cX10_takeBack 82 = .ok (.aload_n 0, 1) := by decide +kernel
theorem dX10_takeBack_83 : decode cX10_takeBack 83 = .ok (.getfield 12, 3) := by decide +kernel
theorem dX10_takeBack_86 : decode cX10_takeBack 86 = .ok (.invokevirtual 21, 3) := by decide +kernel
theorem dX10_takeBack_89 : decode cX10_takeBack 89 = .ok (.iconst 1, 1) := by decide +kernel
theorem dX10_takeBack_90 : decode cX10_takeBack 90 = .ok (.isub, 1) := by decide +kernel
theorem dX10_takeBack_91 : decode cX10_takeBack 91 = .ok (.invokevirtual 56, 3) := by decide +kernel
theorem dX10_takeBack_94 : decode cX10_takeBack 94 = .ok (.pop, 1) := by decide +kernel
theorem dX10_takeBack_95 : decode cX10_takeBack 95 = .ok (.goto 76, 3) := by decide +kernel
theorem dX10_takeBack_98 : decode cX10_takeBack 98 = .ok (.aload_n 1, 1) := by decide +kernel
theorem dX10_takeBack_99 : decode cX10_takeBack 99 = .ok (.getfield 66, 3) := by decide +kernel
theorem dX10_takeBack_102 : decode cX10_takeBack 102 = .ok (.iconst 0, 1) := by decide +kernel
theorem dX10_takeBack_103 : decode cX10_takeBack 103 = .ok (.putfield 31, 3) := by decide +kernel
theorem dX10_takeBack_106 : decode cX10_takeBack 106 = .ok (.goto 65, 3) := by decide +kernel
theorem dX10_takeBack_109 : decode cX10_takeBack 109 = .ok (.aload_n 1, 1) := by decide +kernel
theorem dX10_takeBack_110 : decode cX10_takeBack 110 = .ok (.getfield 66, 3) := by decide +kernel
theorem dX10_takeBack_113 : decode cX10_takeBack 113 = .ok (.invokevirtual 70, 3) := by decide +kernel
theorem dX10_takeBack_116 : decode cX10_takeBack 116 = .ok (.goto 55, 3) := by decide +kernel
theorem dX10_takeBack_119 : decode cX10_takeBack 119 = .ok (.aload_n 1, 1) := by decide +kernel
theorem dX10_takeBack_120 : decode cX10_takeBack 120 = .ok (.getfield 73, 3) := by decide +kernel
theorem dX10_takeBack_123 : decode cX10_takeBack 123 = .ok (.ifnull 48, 3) := by decide +kernel
theorem dX10_takeBack_126 : decode cX10_takeBack 126 = .ok (.aload_n 1, 1) := by decide +kernel
theorem dX10_takeBack_127 : decode cX10_takeBack 127 = .ok (.getfield 73, 3) := by decide +kernel
theorem dX10_takeBack_130 : decode cX10_takeBack 130 = .ok (.aload_n 1, 1) := by decide +kernel
theorem dX10_takeBack_131 : decode cX10_takeBack 131 = .ok (.getfield 77, 3) := by decide +kernel
theorem dX10_takeBack_134 : decode cX10_takeBack 134 = .ok (.putfield 80, 3) := by decide +kernel
theorem dX10_takeBack_137 : decode cX10_takeBack 137 = .ok (.goto 34, 3) := by decide +kernel
theorem dX10_takeBack_140 : decode cX10_takeBack 140 = .ok (.aload_n 1, 1) := by decide +kernel
theorem dX10_takeBack_141 : decode cX10_takeBack 141 = .ok (.getfield 77, 3) := by decide +kernel
theorem dX10_takeBack_144 : decode cX10_takeBack 144 = .ok (.ifCond .lt 27, 3) := by decide +kernel
theorem dX10_takeBack_147 : decode cX10_takeBack 147 = .ok (.aload_n 1, 1) := by decide +kernel
theorem dX10_takeBack_148 : decode cX10_takeBack 148 = .ok (.getfield 77, 3) := by decide +kernel
theorem dX10_takeBack_151 : decode cX10_takeBack 151 = .ok (.iconst 3, 1) := by decide +kernel
theorem dX10_takeBack_152 : decode cX10_takeBack 152 = .ok (.if_icmp .gt 19, 3) := by decide +kernel
theorem dX10_takeBack_155 : decode cX10_takeBack 155 = .ok (.aload_n 1, 1) := by decide +kernel
theorem dX10_takeBack_156 : decode cX10_takeBack 156 = .ok (.getfield 66, 3) := by decide +kernel
theorem dX10_takeBack_159 : decode cX10_takeBack 159 = .ok (.getfield 85, 3) := by decide +kernel
theorem dX10_takeBack_162 : decode cX10_takeBack 162 = .ok (.aload_n 1, 1) := by decide +kernel
theorem dX10_takeBack_163 : decode cX10_takeBack 163 = .ok (.getfield 77, 3) := by decide +kernel
theorem dX10_takeBack_166 : decode cX10_takeBack 166 = .ok (.aload_n 1, 1) := by decide +kernel
theorem dX10_takeBack_167 : decode cX10_takeBack 167 = .ok (.getfield 73, 3) := by decide +kernel
theorem dX10_takeBack_170 : decode cX10_takeBack 170 = .ok (.aastore, 1) := by decide +kernel
theorem dX10_takeBack_171 : decode cX10_takeBack 171 = .ok (.iconst 1, 1) := by decide +kernel
theorem dX10_takeBack_172 : decode cX10_takeBack 172 = .ok (.ireturn, 1) := by decide +kernel
theorem dX11_init_0 : decode cX11_init 0 = .ok (.aload_n 0, 1) := by decide +kernel
theorem dX11_init_1 : decode cX11_init 1 = .ok (.invokespecial 1, 3) := by decide +kernel
theorem dX11_init_4 : decode cX11_init 4 = .ok (.aload_n 0, 1) := by decide +kernel
theorem dX11_init_5 : decode cX11_init 5 = .ok (.new 7, 3) := by decide +kernel
theorem dX11_init_8 : decode cX11_init 8 = .ok (.dup, 1) := by decide +kernel
theorem dX11_init_9 : decode cX11_init 9 = .ok (.sipush 3000, 3) := by decide +kernel
theorem dX11_init_12 : decode cX11_init 12 = .ok (.invokespecial 11, 3) := by decide +kernel
theorem dX11_init_15 : decode cX11_init 15 = .ok (.putfield 14, 3) := by decide +kernel
theorem dX11_init_18 : decode cX11_init 18 = .ok (.aload_n 0, 1) := by decide +kernel
theorem dX11_init_19 : decode cX11_init 19 = .ok (.new 7, 3) := by decide +kernel
theorem dX11_init_22 : decode cX11_init 22 = .ok (.dup, 1) := by decide +kernel
theorem dX11_init_23 : decode cX11_init 23 = .ok (.sipush 500, 3) := by decide +kernel
theorem dX11_init_26 : decode cX11_init 26 = .ok (.invokespecial 11, 3) := by decide +kernel
theorem dX11_init_29 : decode cX11_init 29 = .ok (.putfield 18, 3) := by decide +kernel
theorem dX11_init_32 : decode cX11_init 32 = .ok (.aload_n 0, 1) := by decide +kernel
theorem dX11_init_33 : decode cX11_init 33 = .ok (.new 7, 3) := by decide +kernel
theorem dX11_init_36 : decode cX11_init 36 = .ok (.dup, 1) := by decide +kernel
theorem dX11_init_37 : decode cX11_init 37 = .ok (.sipush 4000, 3) := by decide +kernel
theorem dX11_init_40 : decode cX11_init 40 = .ok (.invokespecial 11, 3) := by decide +kernel
theorem dX11_init_43 : decode cX11_init 43 = .ok (.putfield 21, 3) := by decide +kernel
theorem dX11_init_46 : decode cX11_init 46 = .ok (.aload_n 0, 1) := by decide +kernel
theorem dX11_init_47 : decode cX11_init 47 = .ok (.new 7, 3) := by decide +kernel
theorem dX11_init_50 : decode cX11_init 50 = .ok (.dup, 1) := by decide +kernel
theorem dX11_init_51 : decode cX11_init 51 = .ok (.sipush 200, 3) := by decide +kernel
theorem dX11_init_54 : decode cX11_init 54 = .ok (.invokespecial 11, 3) := by decide +kernel
theorem dX11_init_57 : decode cX11_init 57 = .ok (.putfield 24, 3) := by decide +kernel
theorem dX11_init_60 : decode cX11_init 60 = .ok (.aload_n 0, 1) := by decide +kernel
theorem dX11_init_61 : decode cX11_init 61 = .ok (.new 27, 3) := by decide +kernel
theorem dX11_init_64 : decode cX11_init 64 = .ok (.dup, 1) := by decide +kernel
theorem dX11_init_65 : decode cX11_init 65 = .ok (.invokespecial 29, 3) := by decide +kernel
theorem dX11_init_68 : decode cX11_init 68 = .ok (.putfield 30, 3) := by decide +kernel
theorem dX11_init_71 : decode cX11_init 71 = .ok (.aload_n 0, 1) := by decide +kernel
theorem dX11_init_72 : decode cX11_init 72 = .ok (.new 34, 3) := by decide +kernel
theorem dX11_init_75 : decode cX11_init 75 = .ok (.dup, 1) := by decide +kernel
theorem dX11_init_76 : decode cX11_init 76 = .ok (.invokespecial 36, 3) := by decide +kernel
theorem dX11_init_79 : decode cX11_init 79 = .ok (.putfield 37, 3) := by decide +kernel
theorem dX11_init_82 : decode cX11_init 82 = .ok (.aload_n 0, 1) := by decide +kernel
theorem dX11_init_83 : decode cX11_init 83 = .ok (.new 41, 3) := by decide +kernel
theorem dX11_init_86 : decode cX11_init 86 = .ok (.dup, 1) := by decide +kernel
theorem dX11_init_87 : decode cX11_init 87 = .ok (.invokespecial 43, 3) := by decide +kernel
theorem dX11_init_90 : decode cX11_init 90 = .ok (.putfield 44, 3) := by decide +kernel
theorem dX11_init_93 : decode cX11_init 93 = .ok (.aload_n 0, 1) := by decide +kernel
theorem dX11_init_94 : decode cX11_init 94 = .ok (.new 48, 3) := by decide +kernel
theorem dX11_init_97 : decode cX11_init 97 = .ok (.dup, 1) := by decide +kernel
theorem dX11_init_98 : decode cX11_init 98 = .ok (.invokespecial 50, 3) := by decide +kernel
theorem dX11_init_101 : decode cX11_init 101 = .ok (.putfield 51, 3) := by decide +kernel
theorem dX11_init_104 : decode cX11_init 104 = .ok (.aload_n 0, 1) := by decide +kernel
theorem dX11_init_105 : decode cX11_init 105 = .ok (.new 55, 3) := by decide +kernel
theorem dX11_init_108 : decode cX11_init 108 = .ok (.dup, 1) := by decide +kernel
theorem dX11_init_109 : decode cX11_init 109 = .ok (.aload_n 0, 1) := by decide +kernel
theorem dX11_init_110 : decode cX11_init 110 = .ok (.getfield 51, 3) := by decide +kernel
theorem dX11_init_113 : decode cX11_init 113 = .ok (.invokespecial 57, 3) := by decide +kernel
theorem dX11_init_116 : decode cX11_init 116 = .ok (.putfield 60, 3) := by decide +kernel
theorem dX11_init_119 : decode cX11_init 119 = .ok (.aload_n 0, 1) := by decide +kernel
theorem dX11_init_120 : decode cX11_init 120 = .ok (.new 64, 3) := by decide +kernel
theorem dX11_init_123 : decode cX11_init 123 = .ok (.dup, 1) := by decide +kernel
theorem dX11_init_124 : decode cX11_init 124 = .ok (.invokespecial 66, 3) := by decide +kernel
theorem dX11_init_127 : decode cX11_init 127 = .ok (.putfield 67, 3) := by decide +kernel
theorem dX11_init_130 : decode cX11_init 130 = .ok (.aload_n 0, 1) := by decide +kernel
theorem dX11_init_131 : decode cX11_init 131 = .ok (.new 64, 3) := by decide +kernel
theorem dX11_init_134 : decode cX11_init 134 = .ok (.dup, 1) := by decide +kernel
theorem dX11_init_135 : decode cX11_init 135 = .ok (.invokespecial 66, 3) := by decide +kernel
theorem dX11_init_138 : decode cX11_init 138 = .ok (.putfield 71, 3) := by decide +kernel
theorem dX11_init_141 : decode cX11_init 141 = .ok (.aload_n 0, 1) := by decide +kernel
theorem dX11_init_142 : decode cX11_init 142 = .ok (.bipush 32, 2) := by decide +kernel
theorem dX11_init_144 : decode cX11_init 144 = .ok (.putfield 74, 3) := by decide +kernel
theorem dX11_init_147 : decode cX11_init 147 = .ok (.aload_n 0, 1) := by decide +kernel
theorem dX11_init_148 : decode cX11_init 148 = .ok (.bipush 25, 2) := by decide +kernel
theorem dX11_init_150 : decode cX11_init 150 = .ok (.putfield 78, 3) := by decide +kernel
theorem dX11_init_153 : decode cX11_init 153 = .ok (.aload_n 0, 1) := by decide +kernel
theorem dX11_init_154 : decode cX11_init 154 = .ok (.bipush 36, 2) := by decide +kernel
theorem dX11_init_156 : decode cX11_init 156 = .ok (.putfield 81, 3) := by decide +kernel
theorem dX11_init_159 : decode cX11_init 159 = .ok (.aload_n 0, 1) := by decide +kernel
theorem dX11_init_160 : decode cX11_init 160 = .ok (.iconst 0, 1) := by decide +kernel
theorem dX11_init_161 : decode cX11_init 161 = .ok (.putfield 84, 3) := by decide +kernel
theorem dX11_init_164 : decode cX11_init 164 = .ok (.aload_n 0, 1) := by decide +kernel
theorem dX11_init_165 : decode cX11_init 165 = .ok (.iconst 0, 1) := by decide +kernel
theorem dX11_init_166 : decode cX11_init 166 = .ok (.putfield 87, 3) := by decide +kernel
theorem dX11_init_169 : decode cX11_init 169 = .ok (.aload_n 0, 1) := by decide +kernel
theorem dX11_init_170 : decode cX11_init 170 = .ok (.iconst 0, 1) := by decide +kernel
theorem dX11_init_171 : decode cX11_init 171 = .ok (.putfield 90, 3) := by decide +kernel
theorem dX11_init_174 : decode cX11_init 174 = .ok (.aload_n 0, 1) := by decide +kernel
theorem dX11_init_175 : decode cX11_init 175 = .ok (.iconst 0, 1) := by decide +kernel
theorem dX11_init_176 : decode cX11_init 176 = .ok (.putfield 93, 3) := by decide +kernel
theorem dX11_init_179 : decode cX11_init 179 = .ok (.aload_n 0, 1) := by decide +kernel
theorem dX11_init_180 : decode cX11_init 180 = .ok (.iconst (-1), 1) := by decide +kernel
theorem dX11_init_181 : decode cX11_init 181 = .ok (.putfield 96, 3) := by decide +kernel
theorem dX11_init_184 : decode cX11_init 184 = .ok (.return_, 1) := by decide +kernel
theorem dX11_end_0 : decode cX11_end 0 = .ok (.iload_n 1, 1) := by decide +kernel
theorem dX11_end_1 : decode cX11_end 1 = .ok (.ifCond .ge 9, 3) := by decide +kernel
theorem dX11_end_4 : decode cX11_end 4 = .ok (.aload_n 0, 1) := by decide +kernel
theorem dX11_end_5 : decode cX11_end 5 = .ok (.iconst 5, 1) := by decide +kernel
theorem dX11_end_6 : decode cX11_end 6 = .ok (.invokevirtual 102, 3) := by decide +kernel
theorem dX11_end_9 : decode cX11_end 9 = .ok (.ireturn, 1) := by decide +kernel
theorem dX11_end_10 : decode cX11_end 10 = .ok (.iload_n 1, 1) := by decide +kernel
theorem dX11_end_11 : decode cX11_end 11 = .ok (.aload_n 0, 1) := by decide +kernel
theorem dX11_end_12 : decode cX11_end 12 = .ok (.getfield 14, 3) := by decide +kernel
theorem dX11_end_15 : decode cX11_end 15 = .ok (.getfield 99, 3) := by decide +kernel
theorem dX11_end_18 : decode cX11_end 18 = .ok (.if_icmp .le 10, 3) := by decide +kernel
theorem dX11_end_21 : decode cX11_end 21 = .ok (.aload_n 0, 1) := by decide +kernel
theorem dX11_end_22 : decode cX11_end 22 = .ok (.bipush 6, 2) := by decide +kernel
theorem dX11_end_24 : decode cX11_end 24 = .ok (.invokevirtual 102, 3) := by decide +kernel
theorem dX11_end_27 : decode cX11_end 27 = .ok (.ireturn, 1) := by decide +kernel
theorem dX11_end_28 : decode cX11_end 28 = .ok (.aload_n 0, 1) := by decide +kernel
theorem dX11_end_29 : decode cX11_end 29 = .ok (.getfield 14, 3) := by decide +kernel
theorem dX11_end_32 : decode cX11_end 32 = .ok (.iload_n 1, 1) := by decide +kernel
theorem dX11_end_33 : decode cX11_end 33 = .ok (.invokevirtual 115, 3) := by decide +kernel
theorem dX11_end_36 : decode cX11_end 36 = .ok (.aload_n 0, 1) := by decide +kernel
theorem dX11_end_37 : decode cX11_end 37 = .ok (.iload_n 1, 1) := by decide +kernel
theorem dX11_end_38 : decode cX11_end 38 = .ok (.invokevirtual 109, 3) := by decide +kernel
theorem dX11_end_41 : decode cX11_end 41 = .ok (.ireturn, 1) := by decide +kernel
theorem dX11_join_0 : decode cX11_join 0 = .ok (.aload_n 0, 1) := by decide +kernel
theorem dX11_join_1 : decode cX11_join 1 = .ok (.getfield 30, 3) := by decide +kernel
theorem dX11_join_4 : decode cX11_join 4 = .ok (.iload_n 1, 1) := by decide +kernel
theorem dX11_join_5 : decode cX11_join 5 = .ok (.invokevirtual 131, 3) := by decide +kernel
theorem dX11_join_8 : decode cX11_join 8 = .ok (.astore_n 3, 1) := by decide +kernel
theorem dX11_join_9 : decode cX11_join 9 = .ok (.aload_n 3, 1) := by decide +kernel
theorem dX11_join_10 : decode cX11_join 10 = .ok (.ifnull 11, 3) := by decide +kernel
theorem dX11_join_13 : decode cX11_join 13 = .ok (.aload_n 3, 1) := by decide +kernel
theorem dX11_join_14 : decode cX11_join 14 = .ok (.getfield 135, 3) := by decide +kernel
theorem dX11_join_17 : decode cX11_join 17 = .ok (.iconst 3, 1) := by decide +kernel
theorem dX11_join_18 : decode cX11_join 18 = .ok (.if_icmp .le 17, 3) := by decide +kernel
theorem dX11_join_21 : decode cX11_join 21 = .ok (.aload_n 0, 1) := by decide +kernel
theorem dX11_join_22 : decode cX11_join 22 = .ok (.aload_n 3, 1) := by decide +kernel
theorem dX11_join_23 : decode cX11_join 23 = .ok (.ifnonnull 7, 3) := by decide +kernel
theorem dX11_join_26 : decode cX11_join 26 = .ok (.iconst 3, 1) := by decide +kernel
theorem dX11_join_27 : decode cX11_join 27 = .ok (.goto 4, 3) := by decide +kernel
theorem dX11_join_30 : decode cX11_join 30 = .ok (.iconst 4, 1) := by decide +kernel
theorem dX11_join_31 : decode cX11_join 31 = .ok (.invokevirtual 102, 3) := by decide +kernel
theorem dX11_join_34 : decode cX11_join 34 = .ok (.ireturn, 1) := by decide +kernel
theorem dX11_join_35 : decode cX11_join 35 = .ok (.aload_n 0, 1) := by decide +kernel
theorem dX11_join_36 : decode cX11_join 36 = .ok (.getfield 30, 3) := by decide +kernel
theorem dX11_join_39 : decode cX11_join 39 = .ok (.iload_n 2, 1) := by decide +kernel
theorem dX11_join_40 : decode cX11_join 40 = .ok (.invokevirtual 131, 3) := by decide +kernel
theorem dX11_join_43 : decode cX11_join 43 = .ok (.astore 4, 2) := by decide +kernel
theorem dX11_join_45 : decode cX11_join 45 = .ok (.aload 4, 2) := by decide +kernel
theorem dX11_join_47 : decode cX11_join 47 = .ok (.ifnull 12, 3) := by decide +kernel
theorem dX11_join_50 : decode cX11_join 50 = .ok (.aload 4, 2) := by decide +kernel
theorem dX11_join_52 : decode cX11_join 52 = .ok (.getfield 135, 3) := by decide +kernel
theorem dX11_join_55 : decode cX11_join 55 = .ok (.iconst 3, 1) := by decide +kernel
theorem dX11_join_56 : decode cX11_join 56 = .ok (.if_icmp .le 18, 3) := by decide +kernel
theorem dX11_join_59 : decode cX11_join 59 = .ok (.aload_n 0, 1) := by decide +kernel
theorem dX11_join_60 : decode cX11_join 60 = .ok (.aload 4, 2) := by decide +kernel
theorem dX11_join_62 : decode cX11_join 62 = .ok (.ifnonnull 7, 3) := by decide +kernel
theorem dX11_join_65 : decode cX11_join 65 = .ok (.iconst 3, 1) := by decide +kernel
theorem dX11_join_66 : decode cX11_join 66 = .ok (.goto 4, 3) := by decide +kernel
theorem dX11_join_69 : decode cX11_join 69 = .ok (.iconst 4, 1) := by decide +kernel
theorem dX11_join_70 : decode cX11_join 70 = .ok (.invokevirtual 102, 3) := by decide +kernel
theorem dX11_join_73 : decode cX11_join 73 = .ok (.ireturn, 1) := by decide +kernel
theorem dX11_join_74 : decode cX11_join 74 = .ok (.aload_n 0, 1) := by decide +kernel
theorem dX11_join_75 : decode cX11_join 75 = .ok (.getfield 30, 3) := by decide +kernel
theorem dX11_join_78 : decode cX11_join 78 = .ok (.invokevirtual 118, 3) := by decide +kernel
theorem dX11_join_81 : decode cX11_join 81 = .ok (.ifCond .eq 10, 3) := by decide +kernel
theorem dX11_join_84 : decode cX11_join 84 = .ok (.aload_n 0, 1) := by decide +kernel
theorem dX11_join_85 : decode cX11_join 85 = .ok (.bipush 6, 2) := by decide +kernel
theorem dX11_join_87 : decode cX11_join 87 = .ok (.invokevirtual 102, 3) := by decide +kernel
theorem dX11_join_90 : decode cX11_join 90 = .ok (.ireturn, 1) := by decide +kernel
theorem dX11_join_91 : decode cX11_join 91 = .ok (.aload_n 0, 1) := by decide +kernel
theorem dX11_join_92 : decode cX11_join 92 = .ok (.aload_n 0, 1) := by decide +kernel
theorem dX11_join_93 : decode cX11_join 93 = .ok (.getfield 30, 3) := by decide +kernel
theorem dX11_join_96 : decode cX11_join 96 = .ok (.new 122, 3) := by decide +kernel
theorem dX11_join_99 : decode cX11_join 99 = .ok (.dup, 1) := by decide +kernel
theorem dX11_join_100 : decode cX11_join 100 = .ok (.iconst 5, 1) := by decide +kernel
theorem dX11_join_101 : decode cX11_join 101 = .ok (.aload_n 3, 1) := by decide +kernel
theorem dX11_join_102 : decode cX11_join 102 = .ok (.getfield 138, 3) := by decide +kernel
theorem dX11_join_105 : decode cX11_join 105 = .ok (.aload 4, 2) := by decide +kernel
theorem dX11_join_107 : decode cX11_join 107 = .ok (.getfield 138, 3) := by decide +kernel
theorem dX11_join_110 : decode cX11_join 110 = .ok (.invokestatic 141, 3) := by decide +kernel
theorem dX11_join_113 : decode cX11_join 113 = .ok (.aload_n 3, 1) := by decide +kernel
theorem dX11_join_114 : decode cX11_join 114 = .ok (.aload 4, 2) := by decide +kernel
theorem dX11_join_116 : decode cX11_join 116 = .ok (.invokespecial 124, 3) := by decide +kernel
theorem dX11_join_119 : decode cX11_join 119 = .ok (.invokevirtual 127, 3) := by decide +kernel
theorem dX11_join_122 : decode cX11_join 122 = .ok (.invokevirtual 109, 3) := by decide +kernel
theorem dX11_join_125 : decode cX11_join 125 = .ok (.ireturn, 1) := by decide +kernel
theorem dX11_drop_0 : decode cX11_drop 0 = .ok (.aload_n 0, 1) := by decide +kernel
theorem dX11_drop_1 : decode cX11_drop 1 = .ok (.getfield 30, 3) := by decide +kernel
theorem dX11_drop_4 : decode cX11_drop 4 = .ok (.iload_n 1, 1) := by decide +kernel
theorem dX11_drop_5 : decode cX11_drop 5 = .ok (.invokevirtual 131, 3) := by decide +kernel
theorem dX11_drop_8 : decode cX11_drop 8 = .ok (.astore_n 2, 1) := by decide +kernel
theorem dX11_drop_9 : decode cX11_drop 9 = .ok (.aload_n 2, 1) := by decide +kernel
theorem dX11_drop_10 : decode cX11_drop 10 = .ok (.ifnonnull 9, 3) := by decide +kernel
theorem dX11_drop_13 : decode cX11_drop 13 = .ok (.aload_n 0, 1) := by decide +kernel
theorem dX11_drop_14 : decode cX11_drop 14 = .ok (.iconst 3, 1) := by decide +kernel
theorem dX11_drop_15 : decode cX11_drop 15 = .ok (.invokevirtual 102, 3) := by decide +kernel
theorem dX11_drop_18 : decode cX11_drop 18 = .ok (.ireturn, 1) := by decide +kernel
theorem dX11_drop_19 : decode cX11_drop 19 = .ok (.aload_n 0, 1) := by decide +kernel
theorem dX11_drop_20 : decode cX11_drop 20 = .ok (.getfield 30, 3) := by decide +kernel
theorem dX11_drop_23 : decode cX11_drop 23 = .ok (.new 147, 3) := by decide +kernel
theorem dX11_drop_26 : decode cX11_drop 26 = .ok (.dup, 1) := by decide +kernel
theorem dX11_drop_27 : decode cX11_drop 27 = .ok (.iconst 1, 1) := by decide +kernel
theorem dX11_drop_28 : decode cX11_drop 28 = .ok (.aload_n 2, 1) := by decide +kernel
theorem dX11_drop_29 : decode cX11_drop 29 = .ok (.aconst_null, 1) := by decide +kernel
theorem dX11_drop_30 : decode cX11_drop 30 = .ok (.iconst 0, 1) := by decide +kernel
theorem dX11_drop_31 : decode cX11_drop 31 = .ok (.invokespecial 149, 3) := by decide +kernel
theorem dX11_drop_34 : decode cX11_drop 34 = .ok (.invokevirtual 152, 3) := by decide +kernel
theorem dX11_drop_37 : decode cX11_drop 37 = .ok (.aload_n 2, 1) := by decide +kernel
theorem dX11_drop_38 : decode cX11_drop 38 = .ok (.iconst 1, 1) := by decide +kernel
theorem dX11_drop_39 : decode cX11_drop 39 = .ok (.putfield 156, 3) := by decide +kernel
theorem dX11_drop_42 : decode cX11_drop 42 = .ok (.aload_n 0, 1) := by decide +kernel
theorem dX11_drop_43 : decode cX11_drop 43 = .ok (.iconst 1, 1) := by decide +kernel
theorem dX11_drop_44 : decode cX11_drop 44 = .ok (.invokevirtual 109, 3) := by decide +kernel
theorem dX11_drop_47 : decode cX11_drop 47 = .ok (.ireturn, 1) := by decide +kernel
theorem dX11_condition_0 : decode cX11_condition 0 = .ok (.aload_n 0, 1) := by decide +kernel
theorem dX11_condition_1 : decode cX11_condition 1 = .ok (.getfield 30, 3) := by decide +kernel
theorem dX11_condition_4 : decode cX11_condition 4 = .ok (.iload_n 1, 1) := by decide +kernel
theorem dX11_condition_5 : decode cX11_condition 5 = .ok (.invokevirtual 131, 3) := by decide +kernel
theorem dX11_condition_8 : decode cX11_condition 8 = .ok (.astore 4, 2) := by decide +kernel
theorem dX11_condition_10 : decode cX11_condition 10 = .ok (.aload 4, 2) := by decide +kernel
theorem dX11_condition_12 : decode cX11_condition 12 = .ok (.ifnonnull 9, 3) := by decide +kernel
theorem dX11_condition_15 : decode cX11_condition 15 = .ok (.aload_n 0, 1) := by decide +kernel
theorem dX11_condition_16 : decode cX11_condition 16 = .ok (.iconst 3, 1) := by decide +kernel
theorem dX11_condition_17 : decode cX11_condition 17 = .ok (.invokevirtual 102, 3) := by decide +kernel
theorem dX11_condition_20 : decode cX11_condition 20 = .ok (.ireturn, 1) := by decide +kernel
theorem dX11_condition_21 : decode cX11_condition 21 = .ok (.aload 4, 2) := by decide +kernel
theorem dX11_condition_23 : decode cX11_condition 23 = .ok (.getfield 135, 3) := by decide +kernel
theorem dX11_condition_26 : decode cX11_condition 26 = .ok (.iconst 5, 1) := by decide +kernel
theorem dX11_condition_27 : decode cX11_condition 27 = .ok (.if_icmp .ne 9, 3) := by decide +kernel
theorem dX11_condition_30 : decode cX11_condition 30 = .ok (.aload_n 0, 1) := by decide +kernel
theorem dX11_condition_31 : decode cX11_condition 31 = .ok (.iconst 4, 1) := by decide +kernel
theorem dX11_condition_32 : decode cX11_condition 32 = .ok (.invokevirtual 102, 3) := by decide +kernel
theorem dX11_condition_35 : decode cX11_condition 35 = .ok (.ireturn, 1) := by decide +kernel
theorem dX11_condition_36 : decode cX11_condition 36 = .ok (.iload_n 2, 1) := by decide +kernel
theorem dX11_condition_37 : decode cX11_condition 37 = .ok (.ifCond .lt 15, 3) := by decide +kernel
theorem dX11_condition_40 : decode cX11_condition 40 = .ok (.iload_n 2, 1) := by decide +kernel
theorem dX11_condition_41 : decode cX11_condition 41 = .ok (.aload 4, 2) := by decide +kernel
theorem dX11_condition_43 : decode cX11_condition 43 = .ok (.getfield 179, 3) := by decide +kernel
theorem dX11_condition_46 : decode cX11_condition 46 = .ok (.invokevirtual 183, 3) := by decide +kernel
theorem dX11_condition_49 : decode cX11_condition 49 = .ok (.if_icmp .lt 9, 3) := by decide +kernel
theorem dX11_condition_52 : decode cX11_condition 52 = .ok (.aload_n 0, 1) := by decide +kernel
theorem dX11_condition_53 : decode cX11_condition 53 = .ok (.iconst 2, 1) := by decide +kernel
theorem dX11_condition_54 : decode cX11_condition 54 = .ok (.invokevirtual 102, 3) := by decide +kernel
theorem dX11_condition_57 : decode cX11_condition 57 = .ok (.ireturn, 1) := by decide +kernel
theorem dX11_condition_58 : decode cX11_condition 58 = .ok (.iload_n 3, 1) := by decide +kernel
theorem dX11_condition_59 : decode cX11_condition 59 = .ok (.invokestatic 167, 3) := by decide +kernel
theorem dX11_condition_62 : decode cX11_condition 62 = .ok (.ifCond .ne 10, 3) := by decide +kernel
theorem dX11_condition_65 : decode cX11_condition 65 = .ok (.aload_n 0, 1) := by decide +kernel
theorem dX11_condition_66 : decode cX11_condition 66 = .ok (.bipush 6, 2) := by decide +kernel
theorem dX11_condition_68 : decode cX11_condition 68 = .ok (.invokevirtual 102, 3) := by decide +kernel
theorem dX11_condition_71 : decode cX11_condition 71 = .ok (.ireturn, 1) := by decide +kernel
theorem dX11_condition_72 : decode cX11_condition 72 = .ok (.aload 4, 2) := by decide +kernel
theorem dX11_condition_74 : decode cX11_condition 74 = .ok (.getfield 179, 3) := by decide +kernel
theorem dX11_condition_77 : decode cX11_condition 77 = .ok (.iload_n 2, 1) := by decide +kernel
theorem dX11_condition_78 : decode cX11_condition 78 = .ok (.invokevirtual 204, 3) := by decide +kernel
theorem dX11_condition_81 : decode cX11_condition 81 = .ok (.checkcast 188, 3) := by decide +kernel
theorem dX11_condition_84 : decode cX11_condition 84 = .ok (.astore 5, 2) := by decide +kernel
theorem dX11_condition_86 : decode cX11_condition 86 = .ok (.aload 5, 2) := by decide +kernel
theorem dX11_condition_88 : decode cX11_condition 88 = .ok (.getfield 197, 3) := by decide +kernel
theorem dX11_condition_91 : decode cX11_condition 91 = .ok (.istore 6, 2) := by decide +kernel
theorem dX11_condition_93 : decode cX11_condition 93 = .ok (.aload_n 0, 1) := by decide +kernel
theorem dX11_condition_94 : decode cX11_condition 94 = .ok (.getfield 30, 3) := by decide +kernel
theorem dX11_condition_97 : decode cX11_condition 97 = .ok (.new 147, 3) := by decide +kernel
theorem dX11_condition_100 : decode cX11_condition 100 = .ok (.dup, 1) := by decide +kernel
theorem dX11_condition_101 : decode cX11_condition 101 = .ok (.iconst 3, 1) := by decide +kernel
theorem dX11_condition_102 : decode cX11_condition 102 = .ok (.aload 4, 2) := by decide +kernel
theorem dX11_condition_104 : decode cX11_condition 104 = .ok (.aload 5, 2) := by decide +kernel
theorem dX11_condition_106 : decode cX11_condition 106 = .ok (.iload 6, 2) := by decide +kernel
theorem dX11_condition_108 : decode cX11_condition 108 = .ok (.invokespecial 149, 3) := by decide +kernel
theorem dX11_condition_111 : decode cX11_condition 111 = .ok (.invokevirtual 152, 3) := by decide +kernel
theorem dX11_condition_114 : decode cX11_condition 114 = .ok (.aload 5, 2) := by decide +kernel
theorem dX11_condition_116 : decode cX11_condition 116 = .ok (.iload_n 3, 1) := by decide +kernel
theorem dX11_condition_117 : decode cX11_condition 117 = .ok (.putfield 197, 3) := by decide +kernel
theorem dX11_condition_120 : decode cX11_condition 120 = .ok (.aload_n 0, 1) := by decide +kernel
theorem dX11_condition_121 : decode cX11_condition 121 = .ok (.iload 6, 2) := by decide +kernel
theorem dX11_condition_123 : decode cX11_condition 123 = .ok (.invokevirtual 109, 3) := by decide +kernel
theorem dX11_condition_126 : decode cX11_condition 126 = .ok (.ireturn, 1) := by decide +kernel
theorem dX11_undo_0 : decode cX11_undo 0 = .ok (.aload_n 0, 1) := by decide +kernel
theorem dX11_undo_1 : decode cX11_undo 1 = .ok (.aload_n 0, 1) := by decide +kernel
theorem dX11_undo_2 : decode cX11_undo 2 = .ok (.getfield 30, 3) := by decide +kernel
theorem dX11_undo_5 : decode cX11_undo 5 = .ok (.invokevirtual 218, 3) := by decide +kernel
theorem dX11_undo_8 : decode cX11_undo 8 = .ok (.ifCond .eq 7, 3) := by decide +kernel
theorem dX11_undo_11 : decode cX11_undo 11 = .ok (.iconst 1, 1) := by decide +kernel
theorem dX11_undo_12 : decode cX11_undo 12 = .ok (.goto 4, 3) := by decide +kernel
theorem dX11_undo_15 : decode cX11_undo 15 = .ok (.iconst 0, 1) := by decide +kernel
theorem dX11_undo_16 : decode cX11_undo 16 = .ok (.invokevirtual 109, 3) := by decide +kernel
theorem dX11_undo_19 : decode cX11_undo 19 = .ok (.ireturn, 1) := by decide +kernel
theorem dX11_measure_0 : decode cX11_measure 0 = .ok (.iload_n 1, 1) := by decide +kernel
theorem dX11_measure_1 : decode cX11_measure 1 = .ok (.iconst 1, 1) := by decide +kernel
theorem dX11_measure_2 : decode cX11_measure 2 = .ok (.if_icmp .lt 32, 3) := by decide +kernel
theorem dX11_measure_5 : decode cX11_measure 5 = .ok (.iload_n 1, 1) := by decide +kernel
theorem dX11_measure_6 : decode cX11_measure 6 = .ok (.bipush 100, 2) := by decide +kernel
theorem dX11_measure_8 : decode cX11_measure 8 = .ok (.if_icmp .gt 26, 3) := by decide +kernel
theorem dX11_measure_11 : decode cX11_measure 11 = .ok (.iload_n 2, 1) := by decide +kernel
theorem dX11_measure_12 : decode cX11_measure 12 = .ok (.iconst 1, 1) := by decide +kernel
theorem dX11_measure_13 : decode cX11_measure 13 = .ok (.if_icmp .lt 21, 3) := by decide +kernel
theorem dX11_measure_16 : decode cX11_measure 16 = .ok (.iload_n 2, 1) := by decide +kernel
theorem dX11_measure_17 : decode cX11_measure 17 = .ok (.bipush 50, 2) := by decide +kernel
theorem dX11_measure_19 : decode cX11_measure 19 = .ok (.if_icmp .gt 15, 3) := by decide +kernel
theorem dX11_measure_22 : decode cX11_measure 22 = .ok (.iload_n 3, 1) := by decide +kernel
theorem dX11_measure_23 : decode cX11_measure 23 = .ok (.iconst 1, 1) := by decide +kernel
theorem dX11_measure_24 : decode cX11_measure 24 = .ok (.if_icmp .lt 10, 3) := by decide +kernel
theorem dX11_measure_27 : decode cX11_measure 27 = .ok (.iload_n 3, 1) := by decide +kernel
theorem dX11_measure_28 : decode cX11_measure 28 = .ok (.sipush 255, 3) := by decide +kernel
theorem dX11_measure_31 : decode cX11_measure 31 = .ok (.if_icmp .le 10, 3) := by decide +kernel
theorem dX11_measure_34 : decode cX11_measure 34 = .ok (.aload_n 0, 1) := by decide +kernel
theorem dX11_measure_35 : decode cX11_measure 35 = .ok (.bipush 6, 2) := by decide +kernel
theorem dX11_measure_37 : decode cX11_measure 37 = .ok (.invokevirtual 102, 3) := by decide +kernel
theorem dX11_measure_40 : decode cX11_measure 40 = .ok (.ireturn, 1) := by decide +kernel
theorem dX11_measure_41 : decode cX11_measure 41 = .ok (.aload_n 0, 1) := by decide +kernel
theorem dX11_measure_42 : decode cX11_measure 42 = .ok (.iload_n 1, 1) := by decide +kernel
theorem dX11_measure_43 : decode cX11_measure 43 = .ok (.putfield 74, 3) := by decide +kernel
theorem dX11_measure_46 : decode cX11_measure 46 = .ok (.aload_n 0, 1) := by decide +kernel
theorem dX11_measure_47 : decode cX11_measure 47 = .ok (.iload_n 2, 1) := by decide +kernel
theorem dX11_measure_48 : decode cX11_measure 48 = .ok (.putfield 78, 3) := by decide +kernel
theorem dX11_measure_51 : decode cX11_measure 51 = .ok (.aload_n 0, 1) := by decide +kernel
theorem dX11_measure_52 : decode cX11_measure 52 = .ok (.iload_n 3, 1) := by decide +kernel
theorem dX11_measure_53 : decode cX11_measure 53 = .ok (.putfield 81, 3) := by decide +kernel
theorem dX11_measure_56 : decode cX11_measure 56 = .ok (.aload_n 0, 1) := by decide +kernel
theorem dX11_measure_57 : decode cX11_measure 57 = .ok (.iconst 1, 1) := by decide +kernel
theorem dX11_measure_58 : decode cX11_measure 58 = .ok (.invokevirtual 109, 3) := by decide +kernel
theorem dX11_measure_61 : decode cX11_measure 61 = .ok (.ireturn, 1) := by decide +kernel
theorem dX11_set_0 : decode cX11_set 0 = .ok (.aload_n 0, 1) := by decide +kernel
theorem dX11_set_1 : decode cX11_set 1 = .ok (.getfield 30, 3) := by decide +kernel
theorem dX11_set_4 : decode cX11_set 4 = .ok (.iload_n 1, 1) := by decide +kernel
theorem dX11_set_5 : decode cX11_set 5 = .ok (.invokevirtual 231, 3) := by decide +kernel
theorem dX11_set_8 : decode cX11_set 8 = .ok (.astore_n 2, 1) := by decide +kernel
theorem dX11_set_9 : decode cX11_set 9 = .ok (.aload_n 2, 1) := by decide +kernel
theorem dX11_set_10 : decode cX11_set 10 = .ok (.ifnonnull 9, 3) := by decide +kernel
theorem dX11_set_13 : decode cX11_set 13 = .ok (.aload_n 0, 1) := by decide +kernel
theorem dX11_set_14 : decode cX11_set 14 = .ok (.iconst 3, 1) := by decide +kernel
theorem dX11_set_15 : decode cX11_set 15 = .ok (.invokevirtual 102, 3) := by decide +kernel
theorem dX11_set_18 : decode cX11_set 18 = .ok (.ireturn, 1) := by decide +kernel
theorem dX11_set_19 : decode cX11_set 19 = .ok (.aload_n 0, 1) := by decide +kernel
theorem dX11_set_20 : decode cX11_set 20 = .ok (.getfield 71, 3) := by decide +kernel
theorem dX11_set_23 : decode cX11_set 23 = .ok (.invokevirtual 234, 3) := by decide +kernel
theorem dX11_set_26 : decode cX11_set 26 = .ok (.aload_n 0, 1) := by decide +kernel
theorem dX11_set_27 : decode cX11_set 27 = .ok (.getfield 37, 3) := by decide +kernel
theorem dX11_set_30 : decode cX11_set 30 = .ok (.invokevirtual 235, 3) := by decide +kernel
theorem dX11_set_33 : decode cX11_set 33 = .ok (.iconst 0, 1) := by decide +kernel
theorem dX11_set_34 : decode cX11_set 34 = .ok (.istore_n 3, 1) := by decide +kernel
theorem dX11_set_35 : decode cX11_set 35 = .ok (.aload_n 0, 1) := by decide +kernel
theorem dX11_set_36 : decode cX11_set 36 = .ok (.getfield 37, 3) := by decide +kernel
theorem dX11_set_39 : decode cX11_set 39 = .ok (.aload_n 0, 1) := by decide +kernel
theorem dX11_set_40 : decode cX11_set 40 = .ok (.getfield 18, 3) := by decide +kernel
theorem dX11_set_43 : decode cX11_set 43 = .ok (.aload_n 0, 1) := by decide +kernel
theorem dX11_set_44 : decode cX11_set 44 = .ok (.getfield 44, 3) := by decide +kernel
theorem dX11_set_47 : decode cX11_set 47 = .ok (.invokevirtual 238, 3) := by decide +kernel
theorem dX11_set_50 : decode cX11_set 50 = .ok (.istore 4, 2) := by decide +kernel
theorem dX11_set_52 : decode cX11_set 52 = .ok (.iconst 0, 1) := by decide +kernel
theorem dX11_set_53 : decode cX11_set 53 = .ok (.istore 5, 2) := by decide +kernel
theorem dX11_set_55 : decode cX11_set 55 = .ok (.iload_n 3, 1) := by decide +kernel
theorem dX11_set_56 : decode cX11_set 56 = .ok (.ifCond .ne 147, 3) := by decide +kernel
theorem dX11_set_59 : decode cX11_set 59 = .ok (.iload 4, 2) := by decide +kernel
theorem dX11_set_61 : decode cX11_set 61 = .ok (.ifCond .eq 142, 3) := by decide +kernel
theorem dX11_set_64 : decode cX11_set 64 = .ok (.iload 5, 2) := by decide +kernel
theorem dX11_set_66 : decode cX11_set 66 = .ok (.ldc 242, 2) := by decide +kernel
theorem dX11_set_68 : decode cX11_set 68 = .ok (.if_icmp .ge 135, 3) := by decide +kernel
theorem dX11_set_71 : decode cX11_set 71 = .ok (.iconst 1, 1) := by decide +kernel
theorem dX11_set_72 : decode cX11_set 72 = .ok (.istore 6, 2) := by decide +kernel
theorem dX11_set_74 : decode cX11_set 74 = .ok (.iload 4, 2) := by decide +kernel
theorem dX11_set_76 : decode cX11_set 76 = .ok (.iconst 1, 1) := by decide +kernel
theorem dX11_set_77 : decode cX11_set 77 = .ok (.if_icmp .ne 15, 3) := by decide +kernel
theorem dX11_set_80 : decode cX11_set 80 = .ok (.aload_n 0, 1) := by decide +kernel
theorem dX11_set_81 : decode cX11_set 81 = .ok (.getfield 71, 3) := by decide +kernel
theorem dX11_set_84 : decode cX11_set 84 = .ok (.invokevirtual 243, 3) := by decide +kernel
theorem dX11_set_87 : decode cX11_set 87 = .ok (.istore 6, 2) := by decide +kernel
theorem dX11_set_89 : decode cX11_set 89 = .ok (.goto 76, 3) := by decide +kernel
theorem dX11_set_92 : decode cX11_set 92 = .ok (.iload 4, 2) := by decide +kernel
theorem dX11_set_94 : decode cX11_set 94 = .ok (.iconst 3, 1) := by decide +kernel
theorem dX11_set_95 : decode cX11_set 95 = .ok (.if_icmp .ne 24, 3) := by decide +kernel
theorem dX11_set_98 : decode cX11_set 98 = .ok (.aload_n 0, 1) := by decide +kernel
theorem dX11_set_99 : decode cX11_set 99 = .ok (.getfield 71, 3) := by decide +kernel
theorem dX11_set_102 : decode cX11_set 102 = .ok (.aload_n 0, 1) := by decide +kernel
theorem dX11_set_103 : decode cX11_set 103 = .ok (.getfield 37, 3) := by decide +kernel
theorem dX11_set_106 : decode cX11_set 106 = .ok (.getfield 246, 3) := by decide +kernel
theorem dX11_set_109 : decode cX11_set 109 = .ok (.aload_n 0, 1) := by decide +kernel
theorem dX11_set_110 : decode cX11_set 110 = .ok (.getfield 74, 3) := by decide +kernel
theorem dX11_set_113 : decode cX11_set 113 = .ok (.invokevirtual 249, 3) := by decide +kernel
theorem dX11_set_116 : decode cX11_set 116 = .ok (.goto 49, 3) := by decide +kernel
theorem dX11_set_119 : decode cX11_set 119 = .ok (.aload_n 0, 1) := by decide +kernel
theorem dX11_set_120 : decode cX11_set 120 = .ok (.getfield 44, 3) := by decide +kernel
theorem dX11_set_123 : decode cX11_set 123 = .ok (.aload_n 2, 1) := by decide +kernel
theorem dX11_set_124 : decode cX11_set 124 = .ok (.invokevirtual 253, 3) := by decide +kernel
theorem dX11_set_127 : decode cX11_set 127 = .ok (.istore_n 3, 1) := by decide +kernel
theorem dX11_set_128 : decode cX11_set 128 = .ok (.iload_n 3, 1) := by decide +kernel
theorem dX11_set_129 : decode cX11_set 129 = .ok (.ifCond .ne 29, 3) := by decide +kernel
theorem dX11_set_132 : decode cX11_set 132 = .ok (.aload_n 0, 1) := by decide +kernel
theorem dX11_set_133 : decode cX11_set 133 = .ok (.getfield 71, 3) := by decide +kernel
theorem dX11_set_136 : decode cX11_set 136 = .ok (.aload_n 0, 1) := by decide +kernel
theorem dX11_set_137 : decode cX11_set 137 = .ok (.getfield 44, 3) := by decide +kernel
theorem dX11_set_140 : decode cX11_set 140 = .ok (.aload_n 2, 1) := by decide +kernel
theorem dX11_set_141 : decode cX11_set 141 = .ok (.getfield 135, 3) := by decide +kernel
theorem dX11_set_144 : decode cX11_set 144 = .ok (.aload_n 0, 1) := by decide +kernel
theorem dX11_set_145 : decode cX11_set 145 = .ok (.getfield 74, 3) := by decide +kernel
theorem dX11_set_148 : decode cX11_set 148 = .ok (.aload_n 0, 1) := by decide +kernel
theorem dX11_set_149 : decode cX11_set 149 = .ok (.getfield 81, 3) := by decide +kernel
theorem dX11_set_152 : decode cX11_set 152 = .ok (.invokevirtual 256, 3) := by decide +kernel
theorem dX11_set_155 : decode cX11_set 155 = .ok (.ifCond .eq 7, 3) := by decide +kernel
theorem dX11_set_158 : decode cX11_set 158 = .ok (.iconst 1, 1) := by decide +kernel
theorem dX11_set_159 : decode cX11_set 159 = .ok (.goto 4, 3) := by decide +kernel
theorem dX11_set_162 : decode cX11_set 162 = .ok (.iconst 0, 1) := by decide +kernel
theorem dX11_set_163 : decode cX11_set 163 = .ok (.istore 6, 2) := by decide +kernel
theorem dX11_set_165 : decode cX11_set 165 = .ok (.iload 6, 2) := by decide +kernel
theorem dX11_set_167 : decode cX11_set 167 = .ok (.ifCond .ne 9, 3) := by decide +kernel
theorem dX11_set_170 : decode cX11_set 170 = .ok (.bipush 6, 2) := by decide +kernel
theorem dX11_set_172 : decode cX11_set 172 = .ok (.istore_n 3, 1) := by decide +kernel
theorem dX11_set_173 : decode cX11_set 173 = .ok (.goto 24, 3) := by decide +kernel
theorem dX11_set_176 : decode cX11_set 176 = .ok (.iload_n 3, 1) := by decide +kernel
theorem dX11_set_177 : decode cX11_set 177 = .ok (.ifCond .ne 20, 3) := by decide +kernel
theorem dX11_set_180 : decode cX11_set 180 = .ok (.aload_n 0, 1) := by decide +kernel
theorem dX11_set_181 : decode cX11_set 181 = .ok (.getfield 37, 3) := by decide +kernel
theorem dX11_set_184 : decode cX11_set 184 = .ok (.aload_n 0, 1) := by decide +kernel
theorem dX11_set_185 : decode cX11_set 185 = .ok (.getfield 18, 3) := by decide +kernel
theorem dX11_set_188 : decode cX11_set 188 = .ok (.aload_n 0, 1) := by decide +kernel
theorem dX11_set_189 : decode cX11_set 189 = .ok (.getfield 44, 3) := by decide +kernel
theorem dX11_set_192 : decode cX11_set 192 = .ok (.invokevirtual 238, 3) := by decide +kernel
theorem dX11_set_195 : decode cX11_set 195 = .ok (.istore 4, 2) := by decide +kernel
theorem dX11_set_197 : decode cX11_set 197 = .ok (.iinc 5 1, 3) := by decide +kernel
theorem dX11_set_200 : decode cX11_set 200 = .ok (.goto (-145), 3) := by decide +kernel
theorem dX11_set_203 : decode cX11_set 203 = .ok (.iload_n 3, 1) := by decide +kernel
theorem dX11_set_204 : decode cX11_set 204 = .ok (.ifCond .ne 10, 3) := by decide +kernel
theorem dX11_set_207 : decode cX11_set 207 = .ok (.aload_n 0, 1) := by decide +kernel
theorem dX11_set_208 : decode cX11_set 208 = .ok (.invokevirtual 260, 3) := by decide +kernel
theorem dX11_set_211 : decode cX11_set 211 = .ok (.goto 15, 3) := by decide +kernel
theorem dX11_set_214 : decode cX11_set 214 = .ok (.aload_n 0, 1) := by decide +kernel
theorem dX11_set_215 : decode cX11_set 215 = .ok (.iload_n 3, 1) := by decide +kernel
theorem dX11_set_216 : decode cX11_set 216 = .ok (.aload_n 0, 1) := by decide +kernel
theorem dX11_set_217 : decode cX11_set 217 = .ok (.getfield 44, 3) := by decide +kernel
theorem dX11_set_220 : decode cX11_set 220 = .ok (.invokevirtual 263, 3) := by decide +kernel
theorem dX11_set_223 : decode cX11_set 223 = .ok (.invokevirtual 266, 3) := by decide +kernel
theorem dX11_set_226 : decode cX11_set 226 = .ok (.ireturn, 1) := by decide +kernel
theorem dX11_lines_0 : decode cX11_lines 0 = .ok (.aload_n 0, 1) := by decide +kernel
theorem dX11_lines_1 : decode cX11_lines 1 = .ok (.getfield 67, 3) := by decide +kernel
theorem dX11_lines_4 : decode cX11_lines 4 = .ok (.getfield 269, 3) := by decide +kernel
theorem dX11_lines_7 : decode cX11_lines 7 = .ok (.ireturn, 1) := by decide +kernel
theorem dX11_length_0 : decode cX11_length 0 = .ok (.aload_n 0, 1) := by decide +kernel
theorem dX11_length_1 : decode cX11_length 1 = .ok (.getfield 67, 3) := by decide +kernel
theorem dX11_length_4 : decode cX11_length 4 = .ok (.iload_n 1, 1) := by decide +kernel
theorem dX11_length_5 : decode cX11_length 5 = .ok (.invokevirtual 288, 3) := by decide +kernel
theorem dX11_length_8 : decode cX11_length 8 = .ok (.astore_n 2, 1) := by decide +kernel
theorem dX11_length_9 : decode cX11_length 9 = .ok (.aload_n 2, 1) := by decide +kernel
theorem dX11_length_10 : decode cX11_length 10 = .ok (.ifnonnull 18, 3) := by decide +kernel
theorem dX11_length_13 : decode cX11_length 13 = .ok (.aload_n 0, 1) := by decide +kernel
theorem dX11_length_14 : decode cX11_length 14 = .ok (.aload_n 0, 1) := by decide +kernel
theorem dX11_length_15 : decode cX11_length 15 = .ok (.getfield 67, 3) := by decide +kernel
theorem dX11_length_18 : decode cX11_length 18 = .ok (.iload_n 1, 1) := by decide +kernel
theorem dX11_length_19 : decode cX11_length 19 = .ok (.invokevirtual 292, 3) := by decide +kernel
theorem dX11_length_22 : decode cX11_length 22 = .ok (.invokevirtual 102, 3) := by decide +kernel
theorem dX11_length_25 : decode cX11_length 25 = .ok (.goto 11, 3) := by decide +kernel
theorem dX11_length_28 : decode cX11_length 28 = .ok (.aload_n 0, 1) := by decide +kernel
theorem dX11_length_29 : decode cX11_length 29 = .ok (.aload_n 2, 1) := by decide +kernel
theorem dX11_length_30 : decode cX11_length 30 = .ok (.getfield 295, 3) := by decide +kernel
theorem dX11_length_33 : decode cX11_length 33 = .ok (.invokevirtual 109, 3) := by decide +kernel
theorem dX11_length_36 : decode cX11_length 36 = .ok (.ireturn, 1) := by decide +kernel
theorem dX11_cut_0 : decode cX11_cut 0 = .ok (.iload_n 2, 1) := by decide +kernel
theorem dX11_cut_1 : decode cX11_cut 1 = .ok (.sipush 200, 3) := by decide +kernel
theorem dX11_cut_4 : decode cX11_cut 4 = .ok (.if_icmp .le 10, 3) := by decide +kernel
theorem dX11_cut_7 : decode cX11_cut 7 = .ok (.aload_n 0, 1) := by decide +kernel
theorem dX11_cut_8 : decode cX11_cut 8 = .ok (.bipush 6, 2) := by decide +kernel
theorem dX11_cut_10 : decode cX11_cut 10 = .ok (.invokevirtual 102, 3) := by decide +kernel
theorem dX11_cut_13 : decode cX11_cut 13 = .ok (.ireturn, 1) := by decide +kernel
theorem dX11_cut_14 : decode cX11_cut 14 = .ok (.iload_n 2, 1) := by decide +kernel
theorem dX11_cut_15 : decode cX11_cut 15 = .ok (.ifCond .ge 9, 3) := by decide +kernel
theorem dX11_cut_18 : decode cX11_cut 18 = .ok (.aload_n 0, 1) := by decide +kernel
theorem dX11_cut_19 : decode cX11_cut 19 = .ok (.iconst 5, 1) := by decide +kernel
theorem dX11_cut_20 : decode cX11_cut 20 = .ok (.invokevirtual 102, 3) := by decide +kernel
theorem dX11_cut_23 : decode cX11_cut 23 = .ok (.ireturn, 1) := by decide +kernel
theorem dX11_cut_24 : decode cX11_cut 24 = .ok (.aload_n 0, 1) := by decide +kernel
theorem dX11_cut_25 : decode cX11_cut 25 = .ok (.getfield 67, 3) := by decide +kernel
theorem dX11_cut_28 : decode cX11_cut 28 = .ok (.iload_n 1, 1) := by decide +kernel
theorem dX11_cut_29 : decode cX11_cut 29 = .ok (.invokevirtual 288, 3) := by decide +kernel
theorem dX11_cut_32 : decode cX11_cut 32 = .ok (.astore_n 3, 1) := by decide +kernel
theorem dX11_cut_33 : decode cX11_cut 33 = .ok (.aload_n 3, 1) := by decide +kernel
theorem dX11_cut_34 : decode cX11_cut 34 = .ok (.ifnonnull 16, 3) := by decide +kernel
theorem dX11_cut_37 : decode cX11_cut 37 = .ok (.aload_n 0, 1) := by decide +kernel
theorem dX11_cut_38 : decode cX11_cut 38 = .ok (.aload_n 0, 1) := by decide +kernel
theorem dX11_cut_39 : decode cX11_cut 39 = .ok (.getfield 67, 3) := by decide +kernel
theorem dX11_cut_42 : decode cX11_cut 42 = .ok (.iload_n 1, 1) := by decide +kernel
theorem dX11_cut_43 : decode cX11_cut 43 = .ok (.invokevirtual 292, 3) := by decide +kernel
theorem dX11_cut_46 : decode cX11_cut 46 = .ok (.invokevirtual 102, 3) := by decide +kernel
theorem dX11_cut_49 : decode cX11_cut 49 = .ok (.ireturn, 1) := by decide +kernel
theorem dX11_cut_50 : decode cX11_cut 50 = .ok (.aload_n 3, 1) := by decide +kernel
theorem dX11_cut_51 : decode cX11_cut 51 = .ok (.iload_n 2, 1) := by decide +kernel
theorem dX11_cut_52 : decode cX11_cut 52 = .ok (.invokevirtual 305, 3) := by decide +kernel
theorem dX11_cut_55 : decode cX11_cut 55 = .ok (.aload_n 0, 1) := by decide +kernel
theorem dX11_cut_56 : decode cX11_cut 56 = .ok (.iload_n 2, 1) := by decide +kernel
theorem dX11_cut_57 : decode cX11_cut 57 = .ok (.invokevirtual 109, 3) := by decide +kernel
theorem dX11_cut_60 : decode cX11_cut 60 = .ok (.ireturn, 1) := by decide +kernel
theorem dX11_lose_0 : decode cX11_lose 0 = .ok (.aload_n 0, 1) := by decide +kernel
theorem dX11_lose_1 : decode cX11_lose 1 = .ok (.getfield 67, 3) := by decide +kernel
theorem dX11_lose_4 : decode cX11_lose 4 = .ok (.iload_n 1, 1) := by decide +kernel
theorem dX11_lose_5 : decode cX11_lose 5 = .ok (.invokevirtual 308, 3) := by decide +kernel
theorem dX11_lose_8 : decode cX11_lose 8 = .ok (.astore_n 2, 1) := by decide +kernel
theorem dX11_lose_9 : decode cX11_lose 9 = .ok (.aload_n 2, 1) := by decide +kernel
theorem dX11_lose_10 : decode cX11_lose 10 = .ok (.ifnonnull 9, 3) := by decide +kernel
theorem dX11_lose_13 : decode cX11_lose 13 = .ok (.aload_n 0, 1) := by decide +kernel
theorem dX11_lose_14 : decode cX11_lose 14 = .ok (.iconst 2, 1) := by decide +kernel
theorem dX11_lose_15 : decode cX11_lose 15 = .ok (.invokevirtual 102, 3) := by decide +kernel
theorem dX11_lose_18 : decode cX11_lose 18 = .ok (.ireturn, 1) := by decide +kernel
theorem dX11_lose_19 : decode cX11_lose 19 = .ok (.aload_n 2, 1) := by decide +kernel
theorem dX11_lose_20 : decode cX11_lose 20 = .ok (.iconst 1, 1) := by decide +kernel
theorem dX11_lose_21 : decode cX11_lose 21 = .ok (.putfield 310, 3) := by decide +kernel
theorem dX11_lose_24 : decode cX11_lose 24 = .ok (.aload_n 0, 1) := by decide +kernel
theorem dX11_lose_25 : decode cX11_lose 25 = .ok (.iconst 1, 1) := by decide +kernel
theorem dX11_lose_26 : decode cX11_lose 26 = .ok (.invokevirtual 109, 3) := by decide +kernel
theorem dX11_lose_29 : decode cX11_lose 29 = .ok (.ireturn, 1) := by decide +kernel
theorem dX11_copyRow_0 : decode cX11_copyRow 0 = .ok (.aload_n 0, 1) := by decide +kernel
theorem dX11_copyRow_1 : decode cX11_copyRow 1 = .ok (.getfield 67, 3) := by decide +kernel
theorem dX11_copyRow_4 : decode cX11_copyRow 4 = .ok (.iload_n 1, 1) := by decide +kernel
theorem dX11_copyRow_5 : decode cX11_copyRow 5 = .ok (.invokevirtual 308, 3) := by decide +kernel
theorem dX11_copyRow_8 : decode cX11_copyRow 8 = .ok (.astore 6, 2) := by decide +kernel
theorem dX11_copyRow_10 : decode cX11_copyRow 10 = .ok (.aload_n 0, 1) := by decide +kernel
theorem dX11_copyRow_11 : decode cX11_copyRow 11 = .ok (.getfield 67, 3) := by decide +kernel
theorem dX11_copyRow_14 : decode cX11_copyRow 14 = .ok (.iload_n 3, 1) := by decide +kernel
theorem dX11_copyRow_15 : decode cX11_copyRow 15 = .ok (.invokevirtual 308, 3) := by decide +kernel
theorem dX11_copyRow_18 : decode cX11_copyRow 18 = .ok (.astore 7, 2) := by decide +kernel
theorem dX11_copyRow_20 : decode cX11_copyRow 20 = .ok (.aload 6, 2) := by decide +kernel
theorem dX11_copyRow_22 : decode cX11_copyRow 22 = .ok (.ifnull 8, 3) := by decide +kernel
theorem dX11_copyRow_25 : decode cX11_copyRow 25 = .ok (.aload 7, 2) := by decide +kernel
theorem dX11_copyRow_27 : decode cX11_copyRow 27 = .ok (.ifnonnull 9, 3) := by decide +kernel
theorem dX11_copyRow_30 : decode cX11_copyRow 30 = .ok (.aload_n 0, 1) := by decide +kernel
theorem dX11_copyRow_31 : decode cX11_copyRow 31 = .ok (.iconst 2, 1) := by decide +kernel
theorem dX11_copyRow_32 : decode cX11_copyRow 32 = .ok (.invokevirtual 102, 3) := by decide +kernel
theorem dX11_copyRow_35 : decode cX11_copyRow 35 = .ok (.ireturn, 1) := by decide +kernel
theorem dX11_copyRow_36 : decode cX11_copyRow 36 = .ok (.aload 6, 2) := by decide +kernel
theorem dX11_copyRow_38 : decode cX11_copyRow 38 = .ok (.getfield 310, 3) := by decide +kernel
theorem dX11_copyRow_41 : decode cX11_copyRow 41 = .ok (.ifCond .ne 11, 3) := by decide +kernel
theorem dX11_copyRow_44 : decode cX11_copyRow 44 = .ok (.aload 7, 2) := by decide +kernel
theorem dX11_copyRow_46 : decode cX11_copyRow 46 = .ok (.getfield 310, 3) := by decide +kernel
theorem dX11_copyRow_49 : decode cX11_copyRow 49 = .ok (.ifCond .eq 9, 3) := by decide +kernel
theorem dX11_copyRow_52 : decode cX11_copyRow 52 = .ok (.aload_n 0, 1) := by decide +kernel
theorem dX11_copyRow_53 : decode cX11_copyRow 53 = .ok (.iconst 1, 1) := by decide +kernel
theorem dX11_copyRow_54 : decode cX11_copyRow 54 = .ok (.invokevirtual 102, 3) := by decide +kernel
theorem dX11_copyRow_57 : decode cX11_copyRow 57 = .ok (.ireturn, 1) := by decide +kernel
theorem dX11_copyRow_58 : decode cX11_copyRow 58 = .ok (.aload 6, 2) := by decide +kernel
theorem dX11_copyRow_60 : decode cX11_copyRow 60 = .ok (.iload_n 2, 1) := by decide +kernel
theorem dX11_copyRow_61 : decode cX11_copyRow 61 = .ok (.iload 5, 2) := by decide +kernel
theorem dX11_copyRow_63 : decode cX11_copyRow 63 = .ok (.invokevirtual 313, 3) := by decide +kernel
theorem dX11_copyRow_66 : decode cX11_copyRow 66 = .ok (.ifCond .eq 15, 3) := by decide +kernel
theorem dX11_copyRow_69 : decode cX11_copyRow 69 = .ok (.aload 7, 2) := by decide +kernel
theorem dX11_copyRow_71 : decode cX11_copyRow 71 = .ok (.iload 4, 2) := by decide +kernel
theorem dX11_copyRow_73 : decode cX11_copyRow 73 = .ok (.iload 5, 2) := by decide +kernel
theorem dX11_copyRow_75 : decode cX11_copyRow 75 = .ok (.invokevirtual 313, 3) := by decide +kernel
theorem dX11_copyRow_78 : decode cX11_copyRow 78 = .ok (.ifCond .ne 9, 3) := by decide +kernel
theorem dX11_copyRow_81 : decode cX11_copyRow 81 = .ok (.aload_n 0, 1) := by decide +kernel
theorem dX11_copyRow_82 : decode cX11_copyRow 82 = .ok (.iconst 2, 1) := by decide +kernel
theorem dX11_copyRow_83 : decode cX11_copyRow 83 = .ok (.invokevirtual 102, 3) := by decide +kernel
theorem dX11_copyRow_86 : decode cX11_copyRow 86 = .ok (.ireturn, 1) := by decide +kernel
theorem dX11_copyRow_87 : decode cX11_copyRow 87 = .ok (.aload 6, 2) := by decide +kernel
theorem dX11_copyRow_89 : decode cX11_copyRow 89 = .ok (.getfield 301, 3) := by decide +kernel
theorem dX11_copyRow_92 : decode cX11_copyRow 92 = .ok (.iload_n 2, 1) := by decide +kernel
theorem dX11_copyRow_93 : decode cX11_copyRow 93 = .ok (.aload 7, 2) := by decide +kernel
theorem dX11_copyRow_95 : decode cX11_copyRow 95 = .ok (.getfield 301, 3) := by decide +kernel
theorem dX11_copyRow_98 : decode cX11_copyRow 98 = .ok (.iload 4, 2) := by decide +kernel
theorem dX11_copyRow_100 : decode cX11_copyRow 100 = .ok (.iload 5, 2) := by decide +kernel
theorem dX11_copyRow_102 : decode cX11_copyRow 102 = .ok (.invokestatic 316, 3) := by decide +kernel
theorem dX11_copyRow_105 : decode cX11_copyRow 105 = .ok (.aload_n 0, 1) := by decide +kernel
theorem dX11_copyRow_106 : decode cX11_copyRow 106 = .ok (.iload 5, 2) := by decide +kernel
theorem dX11_copyRow_108 : decode cX11_copyRow 108 = .ok (.invokevirtual 109, 3) := by decide +kernel
theorem dX11_copyRow_111 : decode cX11_copyRow 111 = .ok (.ireturn, 1) := by decide +kernel
theorem dX11_copyLines_0 : decode cX11_copyLines 0 = .ok (.iload_n 3, 1) := by decide +kernel
theorem dX11_copyLines_1 : decode cX11_copyLines 1 = .ok (.bipush 10, 2) := by decide +kernel
theorem dX11_copyLines_3 : decode cX11_copyLines 3 = .ok (.if_icmp .le 10, 3) := by decide +kernel
theorem dX11_copyLines_6 : decode cX11_copyLines 6 = .ok (.aload_n 0, 1) := by decide +kernel
theorem dX11_copyLines_7 : decode cX11_copyLines 7 = .ok (.bipush 6, 2) := by decide +kernel
theorem dX11_copyLines_9 : decode cX11_copyLines 9 = .ok (.invokevirtual 102, 3) := by decide +kernel
theorem dX11_copyLines_12 : decode cX11_copyLines 12 = .ok (.ireturn, 1) := by decide +kernel
theorem dX11_copyLines_13 : decode cX11_copyLines 13 = .ok (.iload_n 3, 1) := by decide +kernel
theorem dX11_copyLines_14 : decode cX11_copyLines 14 = .ok (.ifCond .ge 9, 3) := by decide +kernel
theorem dX11_copyLines_17 : decode cX11_copyLines 17 = .ok (.aload_n 0, 1) := by decide +kernel
theorem dX11_copyLines_18 : decode cX11_copyLines 18 = .ok (.iconst 5, 1) := by decide +kernel
theorem dX11_copyLines_19 : decode cX11_copyLines 19 = .ok (.invokevirtual 102, 3) := by decide +kernel
theorem dX11_copyLines_22 : decode cX11_copyLines 22 = .ok (.ireturn, 1) := by decide +kernel
theorem dX11_copyLines_23 : decode cX11_copyLines 23 = .ok (.aload_n 0, 1) := by decide +kernel
theorem dX11_copyLines_24 : decode cX11_copyLines 24 = .ok (.iconst 0, 1) := by decide +kernel
theorem dX11_copyLines_25 : decode cX11_copyLines 25 = .ok (.putfield 87, 3) := by decide +kernel
theorem dX11_copyLines_28 : decode cX11_copyLines 28 = .ok (.iconst 0, 1) := by decide +kernel
theorem dX11_copyLines_29 : decode cX11_copyLines 29 = .ok (.istore 4, 2) := by decide +kernel
theorem dX11_copyLines_31 : decode cX11_copyLines 31 = .ok (.iload 4, 2) := by decide +kernel
theorem dX11_copyLines_33 : decode cX11_copyLines 33 = .ok (.iload_n 3, 1) := by decide +kernel
theorem dX11_copyLines_34 : decode cX11_copyLines 34 = .ok (.if_icmp .ge 82, 3) := by decide +kernel
theorem dX11_copyLines_37 : decode cX11_copyLines 37 = .ok (.aload_n 0, 1) := by decide +kernel
theorem dX11_copyLines_38 : decode cX11_copyLines 38 = .ok (.getfield 67, 3) := by decide +kernel
theorem dX11_copyLines_41 : decode cX11_copyLines 41 = .ok (.iload_n 1, 1) := by decide +kernel
theorem dX11_copyLines_42 : decode cX11_copyLines 42 = .ok (.iload 4, 2) := by decide +kernel
theorem dX11_copyLines_44 : decode cX11_copyLines 44 = .ok (.iadd, 1) := by decide +kernel
theorem dX11_copyLines_45 : decode cX11_copyLines 45 = .ok (.invokevirtual 308, 3) := by decide +kernel
theorem dX11_copyLines_48 : decode cX11_copyLines 48 = .ok (.astore 5, 2) := by decide +kernel
theorem dX11_copyLines_50 : decode cX11_copyLines 50 = .ok (.aload_n 0, 1) := by decide +kernel
theorem dX11_copyLines_51 : decode cX11_copyLines 51 = .ok (.getfield 67, 3) := by decide +kernel
theorem dX11_copyLines_54 : decode cX11_copyLines 54 = .ok (.iload_n 2, 1) := by decide +kernel
theorem dX11_copyLines_55 : decode cX11_copyLines 55 = .ok (.iload 4, 2) := by decide +kernel
theorem dX11_copyLines_57 : decode cX11_copyLines 57 = .ok (.iadd, 1) := by decide +kernel
theorem dX11_copyLines_58 : decode cX11_copyLines 58 = .ok (.invokevirtual 308, 3) := by decide +kernel
theorem dX11_copyLines_61 : decode cX11_copyLines 61 = .ok (.astore 6, 2) := by decide +kernel
theorem dX11_copyLines_63 : decode cX11_copyLines 63 = .ok (.aload 5, 2) := by decide +kernel
theorem dX11_copyLines_65 : decode cX11_copyLines 65 = .ok (.ifnull 8, 3) := by decide +kernel
theorem dX11_copyLines_68 : decode cX11_copyLines 68 = .ok (.aload 6, 2) := by decide +kernel
theorem dX11_copyLines_70 : decode cX11_copyLines 70 = .ok (.ifnonnull 9, 3) := by decide +kernel
theorem dX11_copyLines_73 : decode cX11_copyLines 73 = .ok (.aload_n 0, 1) := by decide +kernel
theorem dX11_copyLines_74 : decode cX11_copyLines 74 = .ok (.iconst 2, 1) := by decide +kernel
theorem dX11_copyLines_75 : decode cX11_copyLines 75 = .ok (.invokevirtual 102, 3) := by decide +kernel
theorem dX11_copyLines_78 : decode cX11_copyLines 78 = .ok (.ireturn, 1) := by decide +kernel
theorem dX11_copyLines_79 : decode cX11_copyLines 79 = .ok (.aload 5, 2) := by decide +kernel
theorem dX11_copyLines_81 : decode cX11_copyLines 81 = .ok (.getfield 310, 3) := by decide +kernel
theorem dX11_copyLines_84 : decode cX11_copyLines 84 = .ok (.ifCond .eq 9, 3) := by decide +kernel
theorem dX11_copyLines_87 : decode cX11_copyLines 87 = .ok (.aload_n 0, 1) := by decide +kernel
theorem dX11_copyLines_88 : decode cX11_copyLines 88 = .ok (.iconst 1, 1) := by decide +kernel
theorem dX11_copyLines_89 : decode cX11_copyLines 89 = .ok (.invokevirtual 102, 3) := by decide +kernel
theorem dX11_copyLines_92 : decode cX11_copyLines 92 = .ok (.ireturn, 1) := by decide +kernel
theorem dX11_copyLines_93 : decode cX11_copyLines 93 = .ok (.aload 6, 2) := by decide +kernel
theorem dX11_copyLines_95 : decode cX11_copyLines 95 = .ok (.aload 5, 2) := by decide +kernel
theorem dX11_copyLines_97 : decode cX11_copyLines 97 = .ok (.invokevirtual 322, 3) := by decide +kernel
theorem dX11_copyLines_100 : decode cX11_copyLines 100 = .ok (.aload_n 0, 1) := by decide +kernel
theorem dX11_copyLines_101 : decode cX11_copyLines 101 = .ok (.dup, 1) := by decide +kernel
theorem dX11_copyLines_102 : decode cX11_copyLines 102 = .ok (.getfield 87, 3) := by decide +kernel
theorem dX11_copyLines_105 : decode cX11_copyLines 105 = .ok (.iconst 1, 1) := by decide +kernel
theorem dX11_copyLines_106 : decode cX11_copyLines 106 = .ok (.iadd, 1) := by decide +kernel
theorem dX11_copyLines_107 : decode cX11_copyLines 107 = .ok (.putfield 87, 3) := by decide +kernel
theorem dX11_copyLines_110 : decode cX11_copyLines 110 = .ok (.iinc 4 1, 3) := by decide +kernel
theorem dX11_copyLines_113 : decode cX11_copyLines 113 = .ok (.goto (-82), 3) := by decide +kernel
theorem dX11_copyLines_116 : decode cX11_copyLines 116 = .ok (.aload_n 0, 1) := by decide +kernel
theorem dX11_copyLines_117 : decode cX11_copyLines 117 = .ok (.iload_n 3, 1) := by decide +kernel
theorem dX11_copyLines_118 : decode cX11_copyLines 118 = .ok (.invokevirtual 109, 3) := by decide +kernel
theorem dX11_copyLines_121 : decode cX11_copyLines 121 = .ok (.ireturn, 1) := by decide +kernel
theorem dX11_copied_0 : decode cX11_copied 0 = .ok (.aload_n 0, 1) := by decide +kernel
theorem dX11_copied_1 : decode cX11_copied 1 = .ok (.getfield 87, 3) := by decide +kernel
theorem dX11_copied_4 : decode cX11_copied 4 = .ok (.ireturn, 1) := by decide +kernel
theorem dX11_emboss_0 : decode cX11_emboss 0 = .ok (.iload_n 2, 1) := by decide +kernel
theorem dX11_emboss_1 : decode cX11_emboss 1 = .ok (.sipush 200, 3) := by decide +kernel
theorem dX11_emboss_4 : decode cX11_emboss 4 = .ok (.if_icmp .le 10, 3) := by decide +kernel
theorem dX11_emboss_7 : decode cX11_emboss 7 = .ok (.aload_n 0, 1) := by decide +kernel
theorem dX11_emboss_8 : decode cX11_emboss 8 = .ok (.bipush 6, 2) := by decide +kernel
theorem dX11_emboss_10 : decode cX11_emboss 10 = .ok (.invokevirtual 102, 3) := by decide +kernel
theorem dX11_emboss_13 : decode cX11_emboss 13 = .ok (.ireturn, 1) := by decide +kernel
theorem dX11_emboss_14 : decode cX11_emboss 14 = .ok (.iload_n 2, 1) := by decide +kernel
theorem dX11_emboss_15 : decode cX11_emboss 15 = .ok (.ifCond .ge 9, 3) := by decide +kernel
theorem dX11_emboss_18 : decode cX11_emboss 18 = .ok (.aload_n 0, 1) := by decide +kernel
theorem dX11_emboss_19 : decode cX11_emboss 19 = .ok (.iconst 5, 1) := by decide +kernel
theorem dX11_emboss_20 : decode cX11_emboss 20 = .ok (.invokevirtual 102, 3) := by decide +kernel
theorem dX11_emboss_23 : decode cX11_emboss 23 = .ok (.ireturn, 1) := by decide +kernel
theorem dX11_emboss_24 : decode cX11_emboss 24 = .ok (.iconst 0, 1) := by decide +kernel
theorem dX11_emboss_25 : decode cX11_emboss 25 = .ok (.istore_n 3, 1) := by decide +kernel
theorem dX11_emboss_26 : decode cX11_emboss 26 = .ok (.iconst 0, 1) := by decide +kernel
theorem dX11_emboss_27 : decode cX11_emboss 27 = .ok (.istore 4, 2) := by decide +kernel
theorem dX11_emboss_29 : decode cX11_emboss 29 = .ok (.iload 4, 2) := by decide +kernel
theorem dX11_emboss_31 : decode cX11_emboss 31 = .ok (.iload_n 2, 1) := by decide +kernel
theorem dX11_emboss_32 : decode cX11_emboss 32 = .ok (.if_icmp .ge 89, 3) := by decide +kernel
theorem dX11_emboss_35 : decode cX11_emboss 35 = .ok (.aload_n 0, 1) := by decide +kernel
theorem dX11_emboss_36 : decode cX11_emboss 36 = .ok (.dup, 1) := by decide +kernel
theorem dX11_emboss_37 : decode cX11_emboss 37 = .ok (.getfield 90, 3) := by decide +kernel
theorem dX11_emboss_40 : decode cX11_emboss 40 = .ok (.iconst 1, 1) := by decide +kernel
theorem dX11_emboss_41 : decode cX11_emboss 41 = .ok (.iadd, 1) := by decide +kernel
theorem dX11_emboss_42 : decode cX11_emboss 42 = .ok (.putfield 90, 3) := by decide +kernel
theorem dX11_emboss_45 : decode cX11_emboss 45 = .ok (.aload_n 0, 1) := by decide +kernel
theorem dX11_emboss_46 : decode cX11_emboss 46 = .ok (.getfield 67, 3) := by decide +kernel
theorem dX11_emboss_49 : decode cX11_emboss 49 = .ok (.iload_n 1, 1) := by decide +kernel
theorem dX11_emboss_50 : decode cX11_emboss 50 = .ok (.iload 4, 2) := by decide +kernel
theorem dX11_emboss_52 : decode cX11_emboss 52 = .ok (.iadd, 1) := by decide +kernel
theorem dX11_emboss_53 : decode cX11_emboss 53 = .ok (.invokevirtual 308, 3) := by decide +kernel
theorem dX11_emboss_56 : decode cX11_emboss 56 = .ok (.astore 5, 2) := by decide +kernel
theorem dX11_emboss_58 : decode cX11_emboss 58 = .ok (.aload 5, 2) := by decide +kernel
theorem dX11_emboss_60 : decode cX11_emboss 60 = .ok (.ifnonnull 9, 3) := by decide +kernel
theorem dX11_emboss_63 : decode cX11_emboss 63 = .ok (.aload_n 0, 1) := by decide +kernel
theorem dX11_emboss_64 : decode cX11_emboss 64 = .ok (.iconst 2, 1) := by decide +kernel
theorem dX11_emboss_65 : decode cX11_emboss 65 = .ok (.invokevirtual 102, 3) := by decide +kernel
theorem dX11_emboss_68 : decode cX11_emboss 68 = .ok (.ireturn, 1) := by decide +kernel
theorem dX11_emboss_69 : decode cX11_emboss 69 = .ok (.aload 5, 2) := by decide +kernel
theorem dX11_emboss_71 : decode cX11_emboss 71 = .ok (.getfield 310, 3) := by decide +kernel
theorem dX11_emboss_74 : decode cX11_emboss 74 = .ok (.ifCond .ne 21, 3) := by decide +kernel
theorem dX11_emboss_77 : decode cX11_emboss 77 = .ok (.aload 5, 2) := by decide +kernel
theorem dX11_emboss_79 : decode cX11_emboss 79 = .ok (.getfield 295, 3) := by decide +kernel
theorem dX11_emboss_82 : decode cX11_emboss 82 = .ok (.aload_n 0, 1) := by decide +kernel
theorem dX11_emboss_83 : decode cX11_emboss 83 = .ok (.getfield 74, 3) := by decide +kernel
theorem dX11_emboss_86 : decode cX11_emboss 86 = .ok (.if_icmp .le 9, 3) := by decide +kernel
theorem dX11_emboss_89 : decode cX11_emboss 89 = .ok (.aload_n 0, 1) := by decide +kernel
theorem dX11_emboss_90 : decode cX11_emboss 90 = .ok (.iload_n 3, 1) := by decide +kernel
theorem dX11_emboss_91 : decode cX11_emboss 91 = .ok (.invokevirtual 109, 3) := by decide +kernel
theorem dX11_emboss_94 : decode cX11_emboss 94 = .ok (.ireturn, 1) := by decide +kernel
theorem dX11_emboss_95 : decode cX11_emboss 95 = .ok (.iload_n 3, 1) := by decide +kernel
theorem dX11_emboss_96 : decode cX11_emboss 96 = .ok (.aload 5, 2) := by decide +kernel
theorem dX11_emboss_98 : decode cX11_emboss 98 = .ok (.getfield 310, 3) := by decide +kernel
theorem dX11_emboss_101 : decode cX11_emboss 101 = .ok (.ifCond .eq 7, 3) := by decide +kernel
theorem dX11_emboss_104 : decode cX11_emboss 104 = .ok (.iconst 0, 1) := by decide +kernel
theorem dX11_emboss_105 : decode cX11_emboss 105 = .ok (.goto 8, 3) := by decide +kernel
theorem dX11_emboss_108 : decode cX11_emboss 108 = .ok (.aload 5, 2) := by decide +kernel
theorem dX11_emboss_110 : decode cX11_emboss 110 = .ok (.invokevirtual 326, 3) := by decide +kernel
theorem dX11_emboss_113 : decode cX11_emboss 113 = .ok (.iadd, 1) := by decide +kernel
theorem dX11_emboss_114 : decode cX11_emboss 114 = .ok (.istore_n 3, 1) := by decide +kernel
theorem dX11_emboss_115 : decode cX11_emboss 115 = .ok (.iinc 4 1, 3) := by decide +kernel
theorem dX11_emboss_118 : decode cX11_emboss 118 = .ok (.goto (-89), 3) := by decide +kernel
theorem dX11_emboss_121 : decode cX11_emboss 121 = .ok (.aload_n 0, 1) := by decide +kernel
theorem dX11_emboss_122 : decode cX11_emboss 122 = .ok (.iload_n 3, 1) := by decide +kernel
theorem dX11_emboss_123 : decode cX11_emboss 123 = .ok (.invokevirtual 109, 3) := by decide +kernel
theorem dX11_emboss_126 : decode cX11_emboss 126 = .ok (.ireturn, 1) := by decide +kernel
theorem dX11_closed_0 : decode cX11_closed 0 = .ok (.aload_n 0, 1) := by decide +kernel
theorem dX11_closed_1 : decode cX11_closed 1 = .ok (.getfield 90, 3) := by decide +kernel
theorem dX11_closed_4 : decode cX11_closed 4 = .ok (.ireturn, 1) := by decide +kernel
theorem dX11_read_0 : decode cX11_read 0 = .ok (.aload_n 0, 1) := by decide +kernel
theorem dX11_read_1 : decode cX11_read 1 = .ok (.getfield 30, 3) := by decide +kernel
theorem dX11_read_4 : decode cX11_read 4 = .ok (.iload_n 1, 1) := by decide +kernel
theorem dX11_read_5 : decode cX11_read 5 = .ok (.invokevirtual 231, 3) := by decide +kernel
theorem dX11_read_8 : decode cX11_read 8 = .ok (.astore 4, 2) := by decide +kernel
theorem dX11_read_10 : decode cX11_read 10 = .ok (.aload 4, 2) := by decide +kernel
theorem dX11_read_12 : decode cX11_read 12 = .ok (.ifnonnull 9, 3) := by decide +kernel
theorem dX11_read_15 : decode cX11_read 15 = .ok (.aload_n 0, 1) := by decide +kernel
theorem dX11_read_16 : decode cX11_read 16 = .ok (.iconst 3, 1) := by decide +kernel
theorem dX11_read_17 : decode cX11_read 17 = .ok (.invokevirtual 102, 3) := by decide +kernel
theorem dX11_read_20 : decode cX11_read 20 = .ok (.ireturn, 1) := by decide +kernel
theorem dX11_read_21 : decode cX11_read 21 = .ok (.iload_n 3, 1) := by decide +kernel
theorem dX11_read_22 : decode cX11_read 22 = .ok (.ifCond .ge 9, 3) := by decide +kernel
theorem dX11_read_25 : decode cX11_read 25 = .ok (.aload_n 0, 1) := by decide +kernel
theorem dX11_read_26 : decode cX11_read 26 = .ok (.iconst 5, 1) := by decide +kernel
theorem dX11_read_27 : decode cX11_read 27 = .ok (.invokevirtual 102, 3) := by decide +kernel
theorem dX11_read_30 : decode cX11_read 30 = .ok (.ireturn, 1) := by decide +kernel
theorem dX11_read_31 : decode cX11_read 31 = .ok (.iconst 0, 1) := by decide +kernel
theorem dX11_read_32 : decode cX11_read 32 = .ok (.istore 5, 2) := by decide +kernel
theorem dX11_read_34 : decode cX11_read 34 = .ok (.iload 5, 2) := by decide +kernel
theorem dX11_read_36 : decode cX11_read 36 = .ok (.iload_n 3, 1) := by decide +kernel
theorem dX11_read_37 : decode cX11_read 37 = .ok (.if_icmp .ge 39, 3) := by decide +kernel
theorem dX11_read_40 : decode cX11_read 40 = .ok (.aload_n 0, 1) := by decide +kernel
theorem dX11_read_41 : decode cX11_read 41 = .ok (.getfield 67, 3) := by decide +kernel
theorem dX11_read_44 : decode cX11_read 44 = .ok (.iload_n 2, 1) := by decide +kernel
theorem dX11_read_45 : decode cX11_read 45 = .ok (.iload 5, 2) := by decide +kernel
theorem dX11_read_47 : decode cX11_read 47 = .ok (.iadd, 1) := by decide +kernel
theorem dX11_read_48 : decode cX11_read 48 = .ok (.invokevirtual 288, 3) := by decide +kernel
theorem dX11_read_51 : decode cX11_read 51 = .ok (.ifnonnull 19, 3) := by decide +kernel
theorem dX11_read_54 : decode cX11_read 54 = .ok (.aload_n 0, 1) := by decide +kernel
theorem dX11_read_55 : decode cX11_read 55 = .ok (.aload_n 0, 1) := by decide +kernel
theorem dX11_read_56 : decode cX11_read 56 = .ok (.getfield 67, 3) := by decide +kernel
theorem dX11_read_59 : decode cX11_read 59 = .ok (.iload_n 2, 1) := by decide +kernel
theorem dX11_read_60 : decode cX11_read 60 = .ok (.iload 5, 2) := by decide +kernel
theorem dX11_read_62 : decode cX11_read 62 = .ok (.iadd, 1) := by decide +kernel
theorem dX11_read_63 : decode cX11_read 63 = .ok (.invokevirtual 292, 3) := by decide +kernel
theorem dX11_read_66 : decode cX11_read 66 = .ok (.invokevirtual 102, 3) := by decide +kernel
theorem dX11_read_69 : decode cX11_read 69 = .ok (.ireturn, 1) := by decide +kernel
theorem dX11_read_70 : decode cX11_read 70 = .ok (.iinc 5 1, 3) := by decide +kernel
theorem dX11_read_73 : decode cX11_read 73 = .ok (.goto (-39), 3) := by decide +kernel
theorem dX11_read_76 : decode cX11_read 76 = .ok (.aload_n 0, 1) := by decide +kernel
theorem dX11_read_77 : decode cX11_read 77 = .ok (.iload_n 2, 1) := by decide +kernel
theorem dX11_read_78 : decode cX11_read 78 = .ok (.iload_n 3, 1) := by decide +kernel
theorem dX11_read_79 : decode cX11_read 79 = .ok (.invokevirtual 328, 3) := by decide +kernel
theorem dX11_read_82 : decode cX11_read 82 = .ok (.aload_n 0, 1) := by decide +kernel
theorem dX11_read_83 : decode cX11_read 83 = .ok (.getfield 51, 3) := by decide +kernel
theorem dX11_read_86 : decode cX11_read 86 = .ok (.aload 4, 2) := by decide +kernel
theorem dX11_read_88 : decode cX11_read 88 = .ok (.invokevirtual 331, 3) := by decide +kernel
theorem dX11_read_91 : decode cX11_read 91 = .ok (.aload_n 0, 1) := by decide +kernel
theorem dX11_read_92 : decode cX11_read 92 = .ok (.getfield 51, 3) := by decide +kernel
theorem dX11_read_95 : decode cX11_read 95 = .ok (.invokevirtual 335, 3) := by decide +kernel
theorem dX11_read_98 : decode cX11_read 98 = .ok (.istore 5, 2) := by decide +kernel
theorem dX11_read_100 : decode cX11_read 100 = .ok (.aload_n 0, 1) := by decide +kernel
theorem dX11_read_101 : decode cX11_read 101 = .ok (.getfield 21, 3) := by decide +kernel
theorem dX11_read_104 : decode cX11_read 104 = .ok (.invokevirtual 164, 3) := by decide +kernel
theorem dX11_read_107 : decode cX11_read 107 = .ok (.iload 5, 2) := by decide +kernel
theorem dX11_read_109 : decode cX11_read 109 = .ok (.ifCond .ne 17, 3) := by decide +kernel
theorem dX11_read_112 : decode cX11_read 112 = .ok (.aload_n 0, 1) := by decide +kernel
theorem dX11_read_113 : decode cX11_read 113 = .ok (.bipush 9, 2) := by decide +kernel
theorem dX11_read_115 : decode cX11_read 115 = .ok (.aload_n 0, 1) := by decide +kernel
theorem dX11_read_116 : decode cX11_read 116 = .ok (.getfield 51, 3) := by decide +kernel
theorem dX11_read_119 : decode cX11_read 119 = .ok (.invokevirtual 338, 3) := by decide +kernel
theorem dX11_read_122 : decode cX11_read 122 = .ok (.invokevirtual 266, 3) := by decide +kernel
theorem dX11_read_125 : decode cX11_read 125 = .ok (.ireturn, 1) := by decide +kernel
theorem dX11_read_126 : decode cX11_read 126 = .ok (.aload_n 0, 1) := by decide +kernel
theorem dX11_read_127 : decode cX11_read 127 = .ok (.getfield 51, 3) := by decide +kernel
theorem dX11_read_130 : decode cX11_read 130 = .ok (.getfield 341, 3) := by decide +kernel
theorem dX11_read_133 : decode cX11_read 133 = .ok (.getfield 99, 3) := by decide +kernel
theorem dX11_read_136 : decode cX11_read 136 = .ok (.sipush 4000, 3) := by decide +kernel
theorem dX11_read_139 : decode cX11_read 139 = .ok (.if_icmp .le 10, 3) := by decide +kernel
theorem dX11_read_142 : decode cX11_read 142 = .ok (.aload_n 0, 1) := by decide +kernel
theorem dX11_read_143 : decode cX11_read 143 = .ok (.bipush 6, 2) := by decide +kernel
theorem dX11_read_145 : decode cX11_read 145 = .ok (.invokevirtual 102, 3) := by decide +kernel
theorem dX11_read_148 : decode cX11_read 148 = .ok (.ireturn, 1) := by decide +kernel
theorem dX11_read_149 : decode cX11_read 149 = .ok (.aload_n 0, 1) := by decide +kernel
theorem dX11_read_150 : decode cX11_read 150 = .ok (.getfield 21, 3) := by decide +kernel
theorem dX11_read_153 : decode cX11_read 153 = .ok (.aload_n 0, 1) := by decide +kernel
theorem dX11_read_154 : decode cX11_read 154 = .ok (.getfield 51, 3) := by decide +kernel
theorem dX11_read_157 : decode cX11_read 157 = .ok (.getfield 341, 3) := by decide +kernel
theorem dX11_read_160 : decode cX11_read 160 = .ok (.invokevirtual 227, 3) := by decide +kernel
theorem dX11_read_163 : decode cX11_read 163 = .ok (.aload_n 0, 1) := by decide +kernel
theorem dX11_read_164 : decode cX11_read 164 = .ok (.aload_n 0, 1) := by decide +kernel
theorem dX11_read_165 : decode cX11_read 165 = .ok (.getfield 21, 3) := by decide +kernel
theorem dX11_read_168 : decode cX11_read 168 = .ok (.getfield 99, 3) := by decide +kernel
theorem dX11_read_171 : decode cX11_read 171 = .ok (.invokevirtual 109, 3) := by decide +kernel
theorem dX11_read_174 : decode cX11_read 174 = .ok (.ireturn, 1) := by decide +kernel
theorem dX11_letter_0 : decode cX11_letter 0 = .ok (.iload_n 1, 1) := by decide +kernel
theorem dX11_letter_1 : decode cX11_letter 1 = .ok (.ifCond .lt 14, 3) := by decide +kernel
theorem dX11_letter_4 : decode cX11_letter 4 = .ok (.iload_n 1, 1) := by decide +kernel
theorem dX11_letter_5 : decode cX11_letter 5 = .ok (.aload_n 0, 1) := by decide +kernel
theorem dX11_letter_6 : decode cX11_letter 6 = .ok (.getfield 21, 3) := by decide +kernel
theorem dX11_letter_9 : decode cX11_letter 9 = .ok (.getfield 99, 3) := by decide +kernel
theorem dX11_letter_12 : decode cX11_letter 12 = .ok (.if_icmp .lt 11, 3) := by decide +kernel
theorem dX11_letter_15 : decode cX11_letter 15 = .ok (.aload_n 0, 1) := by decide +kernel
theorem dX11_letter_16 : decode cX11_letter 16 = .ok (.iconst 2, 1) := by decide +kernel
theorem dX11_letter_17 : decode cX11_letter 17 = .ok (.invokevirtual 102, 3) := by decide +kernel
theorem dX11_letter_20 : decode cX11_letter 20 = .ok (.goto 15, 3) := by decide +kernel
theorem dX11_letter_23 : decode cX11_letter 23 = .ok (.aload_n 0, 1) := by decide +kernel
theorem dX11_letter_24 : decode cX11_letter 24 = .ok (.aload_n 0, 1) := by decide +kernel
theorem dX11_letter_25 : decode cX11_letter 25 = .ok (.getfield 21, 3) := by decide +kernel
theorem dX11_letter_28 : decode cX11_letter 28 = .ok (.iload_n 1, 1) := by decide +kernel
theorem dX11_letter_29 : decode cX11_letter 29 = .ok (.invokevirtual 224, 3) := by decide +kernel
theorem dX11_letter_32 : decode cX11_letter 32 = .ok (.invokevirtual 109, 3) := by decide +kernel
theorem dX11_letter_35 : decode cX11_letter 35 = .ok (.ireturn, 1) := by decide +kernel
theorem dX11_readings_0 : decode cX11_readings 0 = .ok (.iload_n 3, 1) := by decide +kernel
theorem dX11_readings_1 : decode cX11_readings 1 = .ok (.iconst 1, 1) := by decide +kernel
theorem dX11_readings_2 : decode cX11_readings 2 = .ok (.if_icmp .lt 9, 3) := by decide +kernel
theorem dX11_readings_5 : decode cX11_readings 5 = .ok (.iload_n 3, 1) := by decide +kernel
theorem dX11_readings_6 : decode cX11_readings 6 = .ok (.bipush 50, 2) := by decide +kernel
theorem dX11_readings_8 : decode cX11_readings 8 = .ok (.if_icmp .le 10, 3) := by decide +kernel
theorem dX11_readings_11 : decode cX11_readings 11 = .ok (.aload_n 0, 1) := by decide +kernel
theorem dX11_readings_12 : decode cX11_readings 12 = .ok (.bipush 6, 2) := by decide +kernel
theorem dX11_readings_14 : decode cX11_readings 14 = .ok (.invokevirtual 102, 3) := by decide +kernel
theorem dX11_readings_17 : decode cX11_readings 17 = .ok (.ireturn, 1) := by decide +kernel
theorem dX11_readings_18 : decode cX11_readings 18 = .ok (.aload_n 0, 1) := by decide +kernel
theorem dX11_readings_19 : decode cX11_readings 19 = .ok (.getfield 30, 3) := by decide +kernel
theorem dX11_readings_22 : decode cX11_readings 22 = .ok (.iload_n 1, 1) := by decide +kernel
theorem dX11_readings_23 : decode cX11_readings 23 = .ok (.invokevirtual 231, 3) := by decide +kernel
theorem dX11_readings_26 : decode cX11_readings 26 = .ok (.astore 4, 2) := by decide +kernel
theorem dX11_readings_28 : decode cX11_readings 28 = .ok (.aload 4, 2) := by decide +kernel
theorem dX11_readings_30 : decode cX11_readings 30 = .ok (.ifnonnull 9, 3) := by decide +kernel
theorem dX11_readings_33 : decode cX11_readings 33 = .ok (.aload_n 0, 1) := by decide +kernel
theorem dX11_readings_34 : decode cX11_readings 34 = .ok (.iconst 3, 1) := by decide +kernel
theorem dX11_readings_35 : decode cX11_readings 35 = .ok (.invokevirtual 102, 3) := by decide +kernel
theorem dX11_readings_38 : decode cX11_readings 38 = .ok (.ireturn, 1) := by decide +kernel
theorem dX11_readings_39 : decode cX11_readings 39 = .ok (.aload_n 0, 1) := by decide +kernel
theorem dX11_readings_40 : decode cX11_readings 40 = .ok (.getfield 67, 3) := by decide +kernel
theorem dX11_readings_43 : decode cX11_readings 43 = .ok (.iload_n 2, 1) := by decide +kernel
theorem dX11_readings_44 : decode cX11_readings 44 = .ok (.invokevirtual 288, 3) := by decide +kernel
theorem dX11_readings_47 : decode cX11_readings 47 = .ok (.astore 5, 2) := by decide +kernel
theorem dX11_readings_49 : decode cX11_readings 49 = .ok (.aload 5, 2) := by decide +kernel
theorem dX11_readings_51 : decode cX11_readings 51 = .ok (.ifnonnull 16, 3) := by decide +kernel
theorem dX11_readings_54 : decode cX11_readings 54 = .ok (.aload_n 0, 1) := by decide +kernel
theorem dX11_readings_55 : decode cX11_readings 55 = .ok (.aload_n 0, 1) := by decide +kernel
theorem dX11_readings_56 : decode cX11_readings 56 = .ok (.getfield 67, 3) := by decide +kernel
theorem dX11_readings_59 : decode cX11_readings 59 = .ok (.iload_n 2, 1) := by decide +kernel
theorem dX11_readings_60 : decode cX11_readings 60 = .ok (.invokevirtual 292, 3) := by decide +kernel
theorem dX11_readings_63 : decode cX11_readings 63 = .ok (.invokevirtual 102, 3) := by decide +kernel
theorem dX11_readings_66 : decode cX11_readings 66 = .ok (.ireturn, 1) := by decide +kernel
theorem dX11_readings_67 : decode cX11_readings 67 = .ok (.aload 5, 2) := by decide +kernel
theorem dX11_readings_69 : decode cX11_readings 69 = .ok (.getfield 295, 3) := by decide +kernel
theorem dX11_readings_72 : decode cX11_readings 72 = .ok (.bipush 100, 2) := by decide +kernel
theorem dX11_readings_74 : decode cX11_readings 74 = .ok (.if_icmp .le 10, 3) := by decide +kernel
theorem dX11_readings_77 : decode cX11_readings 77 = .ok (.aload_n 0, 1) := by decide +kernel
theorem dX11_readings_78 : decode cX11_readings 78 = .ok (.bipush 6, 2) := by decide +kernel
theorem dX11_readings_80 : decode cX11_readings 80 = .ok (.invokevirtual 102, 3) := by decide +kernel
theorem dX11_readings_83 : decode cX11_readings 83 = .ok (.ireturn, 1) := by decide +kernel
theorem dX11_readings_84 : decode cX11_readings 84 = .ok (.aload_n 0, 1) := by decide +kernel
theorem dX11_readings_85 : decode cX11_readings 85 = .ok (.getfield 51, 3) := by decide +kernel
theorem dX11_readings_88 : decode cX11_readings 88 = .ok (.aload 4, 2) := by decide +kernel
theorem dX11_readings_90 : decode cX11_readings 90 = .ok (.invokevirtual 331, 3) := by decide +kernel
theorem dX11_readings_93 : decode cX11_readings 93 = .ok (.aload_n 0, 1) := by decide +kernel
theorem dX11_readings_94 : decode cX11_readings 94 = .ok (.getfield 60, 3) := by decide +kernel
theorem dX11_readings_97 : decode cX11_readings 97 = .ok (.aload 5, 2) := by decide +kernel
theorem dX11_readings_99 : decode cX11_readings 99 = .ok (.sipush 255, 3) := by decide +kernel
theorem dX11_readings_102 : decode cX11_readings 102 = .ok (.aload_n 0, 1) := by decide +kernel
theorem dX11_readings_103 : decode cX11_readings 103 = .ok (.getfield 84, 3) := by decide +kernel
theorem dX11_readings_106 : decode cX11_readings 106 = .ok (.iconst (-1), 1) := by decide +kernel
theorem dX11_readings_107 : decode cX11_readings 107 = .ok (.ixor, 1) := by decide +kernel
theorem dX11_readings_108 : decode cX11_readings 108 = .ok (.iand, 1) := by decide +kernel
theorem dX11_readings_109 : decode cX11_readings 109 = .ok (.iload_n 3, 1) := by decide +kernel
theorem dX11_readings_110 : decode cX11_readings 110 = .ok (.invokevirtual 356, 3) := by decide +kernel
theorem dX11_readings_113 : decode cX11_readings 113 = .ok (.aload_n 0, 1) := by decide +kernel
theorem dX11_readings_114 : decode cX11_readings 114 = .ok (.aload_n 0, 1) := by decide +kernel
theorem dX11_readings_115 : decode cX11_readings 115 = .ok (.getfield 60, 3) := by decide +kernel
theorem dX11_readings_118 : decode cX11_readings 118 = .ok (.getfield 360, 3) := by decide +kernel
theorem dX11_readings_121 : decode cX11_readings 121 = .ok (.invokevirtual 109, 3) := by decide +kernel
theorem dX11_readings_124 : decode cX11_readings 124 = .ok (.ireturn, 1) := by decide +kernel
theorem dX11_more_0 : decode cX11_more 0 = .ok (.aload_n 0, 1) := by decide +kernel
theorem dX11_more_1 : decode cX11_more 1 = .ok (.getfield 60, 3) := by decide +kernel
theorem dX11_more_4 : decode cX11_more 4 = .ok (.getfield 361, 3) := by decide +kernel
theorem dX11_more_7 : decode cX11_more 7 = .ok (.ifCond .eq 7, 3) := by decide +kernel
theorem dX11_more_10 : decode cX11_more 10 = .ok (.iconst 1, 1) := by decide +kernel
theorem dX11_more_11 : decode cX11_more 11 = .ok (.goto 4, 3) := by decide +kernel
theorem dX11_more_14 : decode cX11_more 14 = .ok (.iconst 0, 1) := by decide +kernel
theorem dX11_more_15 : decode cX11_more 15 = .ok (.ireturn, 1) := by decide +kernel
theorem dX11_reading_0 : decode cX11_reading 0 = .ok (.aload_n 0, 1) := by decide +kernel
theorem dX11_reading_1 : decode cX11_reading 1 = .ok (.getfield 60, 3) := by decide +kernel
theorem dX11_reading_4 : decode cX11_reading 4 = .ok (.iload_n 1, 1) := by decide +kernel
theorem dX11_reading_5 : decode cX11_reading 5 = .ok (.iload_n 2, 1) := by decide +kernel
theorem dX11_reading_6 : decode cX11_reading 6 = .ok (.invokevirtual 364, 3) := by decide +kernel
theorem dX11_reading_9 : decode cX11_reading 9 = .ok (.istore_n 3, 1) := by decide +kernel
theorem dX11_reading_10 : decode cX11_reading 10 = .ok (.iload_n 3, 1) := by decide +kernel
theorem dX11_reading_11 : decode cX11_reading 11 = .ok (.ifCond .ge 11, 3) := by decide +kernel
theorem dX11_reading_14 : decode cX11_reading 14 = .ok (.aload_n 0, 1) := by decide +kernel
theorem dX11_reading_15 : decode cX11_reading 15 = .ok (.iconst 2, 1) := by decide +kernel
theorem dX11_reading_16 : decode cX11_reading 16 = .ok (.invokevirtual 102, 3) := by decide +kernel
theorem dX11_reading_19 : decode cX11_reading 19 = .ok (.goto 8, 3) := by decide +kernel
theorem dX11_reading_22 : decode cX11_reading 22 = .ok (.aload_n 0, 1) := by decide +kernel
theorem dX11_reading_23 : decode cX11_reading 23 = .ok (.iload_n 3, 1) := by decide +kernel
theorem dX11_reading_24 : decode cX11_reading 24 = .ok (.invokevirtual 109, 3) := by decide +kernel
theorem dX11_reading_27 : decode cX11_reading 27 = .ok (.ireturn, 1) := by decide +kernel
theorem dX11_judge_0 : decode cX11_judge 0 = .ok (.aload_n 0, 1) := by decide +kernel
theorem dX11_judge_1 : decode cX11_judge 1 = .ok (.getfield 30, 3) := by decide +kernel
theorem dX11_judge_4 : decode cX11_judge 4 = .ok (.iload_n 1, 1) := by decide +kernel
theorem dX11_judge_5 : decode cX11_judge 5 = .ok (.invokevirtual 131, 3) := by decide +kernel
theorem dX11_judge_8 : decode cX11_judge 8 = .ok (.astore_n 2, 1) := by decide +kernel
theorem dX11_judge_9 : decode cX11_judge 9 = .ok (.aload_n 2, 1) := by decide +kernel
theorem dX11_judge_10 : decode cX11_judge 10 = .ok (.ifnonnull 9, 3) := by decide +kernel
theorem dX11_judge_13 : decode cX11_judge 13 = .ok (.aload_n 0, 1) := by decide +kernel
theorem dX11_judge_14 : decode cX11_judge 14 = .ok (.iconst 3, 1) := by decide +kernel
theorem dX11_judge_15 : decode cX11_judge 15 = .ok (.invokevirtual 102, 3) := by decide +kernel
theorem dX11_judge_18 : decode cX11_judge 18 = .ok (.ireturn, 1) := by decide +kernel
theorem dX11_judge_19 : decode cX11_judge 19 = .ok (.aload_n 2, 1) := by decide +kernel
theorem dX11_judge_20 : decode cX11_judge 20 = .ok (.getfield 135, 3) := by decide +kernel
theorem dX11_judge_23 : decode cX11_judge 23 = .ok (.iconst 4, 1) := by decide +kernel
theorem dX11_judge_24 : decode cX11_judge 24 = .ok (.if_icmp .ne 9, 3) := by decide +kernel
theorem dX11_judge_27 : decode cX11_judge 27 = .ok (.aload_n 0, 1) := by decide +kernel
theorem dX11_judge_28 : decode cX11_judge 28 = .ok (.iconst 4, 1) := by decide +kernel
theorem dX11_judge_29 : decode cX11_judge 29 = .ok (.invokevirtual 102, 3) := by decide +kernel
theorem dX11_judge_32 : decode cX11_judge 32 = .ok (.ireturn, 1) := by decide +kernel
theorem dX11_judge_33 : decode cX11_judge 33 = .ok (.aload_n 0, 1) := by decide +kernel
theorem dX11_judge_34 : decode cX11_judge 34 = .ok (.getfield 30, 3) := by decide +kernel
theorem dX11_judge_37 : decode cX11_judge 37 = .ok (.iload_n 1, 1) := by decide +kernel
theorem dX11_judge_38 : decode cX11_judge 38 = .ok (.invokevirtual 231, 3) := by decide +kernel
theorem dX11_judge_41 : decode cX11_judge 41 = .ok (.ifnonnull 9, 3) := by decide +kernel
theorem dX11_judge_44 : decode cX11_judge 44 = .ok (.aload_n 0, 1) := by decide +kernel
theorem dX11_judge_45 : decode cX11_judge 45 = .ok (.iconst 3, 1) := by decide +kernel
theorem dX11_judge_46 : decode cX11_judge 46 = .ok (.invokevirtual 102, 3) := by decide +kernel
theorem dX11_judge_49 : decode cX11_judge 49 = .ok (.ireturn, 1) := by decide +kernel
theorem dX11_judge_50 : decode cX11_judge 50 = .ok (.aload_n 2, 1) := by decide +kernel
theorem dX11_judge_51 : decode cX11_judge 51 = .ok (.invokevirtual 367, 3) := by decide +kernel
theorem dX11_judge_54 : decode cX11_judge 54 = .ok (.ifCond .eq 9, 3) := by decide +kernel
theorem dX11_judge_57 : decode cX11_judge 57 = .ok (.aload_n 0, 1) := by decide +kernel
theorem dX11_judge_58 : decode cX11_judge 58 = .ok (.iconst 0, 1) := by decide +kernel
theorem dX11_judge_59 : decode cX11_judge 59 = .ok (.invokevirtual 109, 3) := by decide +kernel
theorem dX11_judge_62 : decode cX11_judge 62 = .ok (.ireturn, 1) := by decide +kernel
theorem dX11_judge_63 : decode cX11_judge 63 = .ok (.aload_n 0, 1) := by decide +kernel
theorem dX11_judge_64 : decode cX11_judge 64 = .ok (.getfield 51, 3) := by decide +kernel
theorem dX11_judge_67 : decode cX11_judge 67 = .ok (.aload_n 2, 1) := by decide +kernel
theorem dX11_judge_68 : decode cX11_judge 68 = .ok (.invokevirtual 331, 3) := by decide +kernel
theorem dX11_judge_71 : decode cX11_judge 71 = .ok (.aload_n 0, 1) := by decide +kernel
theorem dX11_judge_72 : decode cX11_judge 72 = .ok (.getfield 51, 3) := by decide +kernel
theorem dX11_judge_75 : decode cX11_judge 75 = .ok (.getfield 370, 3) := by decide +kernel
theorem dX11_judge_78 : decode cX11_judge 78 = .ok (.aload_n 0, 1) := by decide +kernel
theorem dX11_judge_79 : decode cX11_judge 79 = .ok (.getfield 81, 3) := by decide +kernel
theorem dX11_judge_82 : decode cX11_judge 82 = .ok (.invokestatic 373, 3) := by decide +kernel
theorem dX11_judge_85 : decode cX11_judge 85 = .ok (.ifCond .eq 24, 3) := by decide +kernel
theorem dX11_judge_88 : decode cX11_judge 88 = .ok (.aload_n 0, 1) := by decide +kernel
theorem dX11_judge_89 : decode cX11_judge 89 = .ok (.getfield 51, 3) := by decide +kernel
theorem dX11_judge_92 : decode cX11_judge 92 = .ok (.getfield 377, 3) := by decide +kernel
theorem dX11_judge_95 : decode cX11_judge 95 = .ok (.aload_n 0, 1) := by decide +kernel
theorem dX11_judge_96 : decode cX11_judge 96 = .ok (.getfield 81, 3) := by decide +kernel
theorem dX11_judge_99 : decode cX11_judge 99 = .ok (.invokestatic 373, 3) := by decide +kernel
theorem dX11_judge_102 : decode cX11_judge 102 = .ok (.ifCond .eq 7, 3) := by decide +kernel
theorem dX11_judge_105 : decode cX11_judge 105 = .ok (.iconst 1, 1) := by decide +kernel
theorem dX11_judge_106 : decode cX11_judge 106 = .ok (.goto 4, 3) := by decide +kernel
theorem dX11_judge_109 : decode cX11_judge 109 = .ok (.iconst 0, 1) := by decide +kernel
theorem dX11_judge_110 : decode cX11_judge 110 = .ok (.istore_n 3, 1) := by decide +kernel
theorem dX11_judge_111 : decode cX11_judge 111 = .ok (.aload_n 0, 1) := by decide +kernel
theorem dX11_judge_112 : decode cX11_judge 112 = .ok (.iload_n 3, 1) := by decide +kernel
theorem dX11_judge_113 : decode cX11_judge 113 = .ok (.ifCond .eq 7, 3) := by decide +kernel
theorem dX11_judge_116 : decode cX11_judge 116 = .ok (.iconst 1, 1) := by decide +kernel
theorem dX11_judge_117 : decode cX11_judge 117 = .ok (.goto 4, 3) := by decide +kernel
theorem dX11_judge_120 : decode cX11_judge 120 = .ok (.iconst 0, 1) := by decide +kernel
theorem dX11_judge_121 : decode cX11_judge 121 = .ok (.invokevirtual 109, 3) := by decide +kernel
theorem dX11_judge_124 : decode cX11_judge 124 = .ok (.ireturn, 1) := by decide +kernel
theorem dX11_parts_0 : decode cX11_parts 0 = .ok (.aload_n 0, 1) := by decide +kernel
theorem dX11_parts_1 : decode cX11_parts 1 = .ok (.getfield 30, 3) := by decide +kernel
theorem dX11_parts_4 : decode cX11_parts 4 = .ok (.iload_n 1, 1) := by decide +kernel
theorem dX11_parts_5 : decode cX11_parts 5 = .ok (.invokevirtual 231, 3) := by decide +kernel
theorem dX11_parts_8 : decode cX11_parts 8 = .ok (.astore 4, 2) := by decide +kernel
theorem dX11_parts_10 : decode cX11_parts 10 = .ok (.aload 4, 2) := by decide +kernel
theorem dX11_parts_12 : decode cX11_parts 12 = .ok (.ifnonnull 9, 3) := by decide +kernel
theorem dX11_parts_15 : decode cX11_parts 15 = .ok (.aload_n 0, 1) := by decide +kernel
theorem dX11_parts_16 : decode cX11_parts 16 = .ok (.iconst 3, 1) := by decide +kernel
theorem dX11_parts_17 : decode cX11_parts 17 = .ok (.invokevirtual 102, 3) := by decide +kernel
theorem dX11_parts_20 : decode cX11_parts 20 = .ok (.ireturn, 1) := by decide +kernel
theorem dX11_parts_21 : decode cX11_parts 21 = .ok (.aload_n 0, 1) := by decide +kernel
theorem dX11_parts_22 : decode cX11_parts 22 = .ok (.getfield 51, 3) := by decide +kernel
theorem dX11_parts_25 : decode cX11_parts 25 = .ok (.aload 4, 2) := by decide +kernel
theorem dX11_parts_27 : decode cX11_parts 27 = .ok (.invokevirtual 331, 3) := by decide +kernel
theorem dX11_parts_30 : decode cX11_parts 30 = .ok (.aload_n 0, 1) := by decide +kernel
theorem dX11_parts_31 : decode cX11_parts 31 = .ok (.getfield 51, 3) := by decide +kernel
theorem dX11_parts_34 : decode cX11_parts 34 = .ok (.getfield 370, 3) := by decide +kernel
theorem dX11_parts_37 : decode cX11_parts 37 = .ok (.invokevirtual 183, 3) := by decide +kernel
theorem dX11_parts_40 : decode cX11_parts 40 = .ok (.istore 5, 2) := by decide +kernel
theorem dX11_parts_42 : decode cX11_parts 42 = .ok (.iload_n 2, 1) := by decide +kernel
theorem dX11_parts_43 : decode cX11_parts 43 = .ok (.ifCond .lt 19, 3) := by decide +kernel
theorem dX11_parts_46 : decode cX11_parts 46 = .ok (.iload_n 2, 1) := by decide +kernel
theorem dX11_parts_47 : decode cX11_parts 47 = .ok (.iload 5, 2) := by decide +kernel
theorem dX11_parts_49 : decode cX11_parts 49 = .ok (.if_icmp .ge 13, 3) := by decide +kernel
theorem dX11_parts_52 : decode cX11_parts 52 = .ok (.iload_n 3, 1) := by decide +kernel
theorem dX11_parts_53 : decode cX11_parts 53 = .ok (.ifCond .lt 9, 3) := by decide +kernel
theorem dX11_parts_56 : decode cX11_parts 56 = .ok (.iload_n 3, 1) := by decide +kernel
theorem dX11_parts_57 : decode cX11_parts 57 = .ok (.iload 5, 2) := by decide +kernel
theorem dX11_parts_59 : decode cX11_parts 59 = .ok (.if_icmp .lt 9, 3) := by decide +kernel
theorem dX11_parts_62 : decode cX11_parts 62 = .ok (.aload_n 0, 1) := by decide +kernel
theorem dX11_parts_63 : decode cX11_parts 63 = .ok (.iconst 2, 1) := by decide +kernel
theorem dX11_parts_64 : decode cX11_parts 64 = .ok (.invokevirtual 102, 3) := by decide +kernel
theorem dX11_parts_67 : decode cX11_parts 67 = .ok (.ireturn, 1) := by decide +kernel
theorem dX11_parts_68 : decode cX11_parts 68 = .ok (.aload_n 0, 1) := by decide +kernel
theorem dX11_parts_69 : decode cX11_parts 69 = .ok (.getfield 51, 3) := by decide +kernel
theorem dX11_parts_72 : decode cX11_parts 72 = .ok (.getfield 370, 3) := by decide +kernel
theorem dX11_parts_75 : decode cX11_parts 75 = .ok (.iload_n 2, 1) := by decide +kernel
theorem dX11_parts_76 : decode cX11_parts 76 = .ok (.invokevirtual 204, 3) := by decide +kernel
theorem dX11_parts_79 : decode cX11_parts 79 = .ok (.checkcast 188, 3) := by decide +kernel
theorem dX11_parts_82 : decode cX11_parts 82 = .ok (.astore 6, 2) := by decide +kernel
theorem dX11_parts_84 : decode cX11_parts 84 = .ok (.aload_n 0, 1) := by decide +kernel
theorem dX11_parts_85 : decode cX11_parts 85 = .ok (.getfield 51, 3) := by decide +kernel
theorem dX11_parts_88 : decode cX11_parts 88 = .ok (.getfield 370, 3) := by decide +kernel
theorem dX11_parts_91 : decode cX11_parts 91 = .ok (.iload_n 3, 1) := by decide +kernel
theorem dX11_parts_92 : decode cX11_parts 92 = .ok (.invokevirtual 204, 3) := by decide +kernel
theorem dX11_parts_95 : decode cX11_parts 95 = .ok (.checkcast 188, 3) := by decide +kernel
theorem dX11_parts_98 : decode cX11_parts 98 = .ok (.astore 7, 2) := by decide +kernel
theorem dX11_parts_100 : decode cX11_parts 100 = .ok (.aload 6, 2) := by decide +kernel
theorem dX11_parts_102 : decode cX11_parts 102 = .ok (.aload 7, 2) := by decide +kernel
theorem dX11_parts_104 : decode cX11_parts 104 = .ok (.invokevirtual 380, 3) := by decide +kernel
theorem dX11_parts_107 : decode cX11_parts 107 = .ok (.istore 8, 2) := by decide +kernel
theorem dX11_parts_109 : decode cX11_parts 109 = .ok (.iload 8, 2) := by decide +kernel
theorem dX11_parts_111 : decode cX11_parts 111 = .ok (.aload 6, 2) := by decide +kernel
theorem dX11_parts_113 : decode cX11_parts 113 = .ok (.getfield 384, 3) := by decide +kernel
theorem dX11_parts_116 : decode cX11_parts 116 = .ok (.arraylength, 1) := by decide +kernel
theorem dX11_parts_117 : decode cX11_parts 117 = .ok (.if_icmp .eq 14, 3) := by decide +kernel
theorem dX11_parts_120 : decode cX11_parts 120 = .ok (.iload 8, 2) := by decide +kernel
theorem dX11_parts_122 : decode cX11_parts 122 = .ok (.aload 7, 2) := by decide +kernel
theorem dX11_parts_124 : decode cX11_parts 124 = .ok (.getfield 384, 3) := by decide +kernel
theorem dX11_parts_127 : decode cX11_parts 127 = .ok (.arraylength, 1) := by decide +kernel
theorem dX11_parts_128 : decode cX11_parts 128 = .ok (.if_icmp .ne 7, 3) := by decide +kernel
theorem dX11_parts_131 : decode cX11_parts 131 = .ok (.iconst 1, 1) := by decide +kernel
theorem dX11_parts_132 : decode cX11_parts 132 = .ok (.goto 4, 3) := by decide +kernel
theorem dX11_parts_135 : decode cX11_parts 135 = .ok (.iconst 0, 1) := by decide +kernel
theorem dX11_parts_136 : decode cX11_parts 136 = .ok (.istore 9, 2) := by decide +kernel
theorem dX11_parts_138 : decode cX11_parts 138 = .ok (.aload_n 0, 1) := by decide +kernel
theorem dX11_parts_139 : decode cX11_parts 139 = .ok (.iload 9, 2) := by decide +kernel
theorem dX11_parts_141 : decode cX11_parts 141 = .ok (.ifCond .eq 10, 3) := by decide +kernel
theorem dX11_parts_144 : decode cX11_parts 144 = .ok (.iconst (-1), 1) := by decide +kernel
theorem dX11_parts_145 : decode cX11_parts 145 = .ok (.iload 8, 2) := by decide +kernel
theorem dX11_parts_147 : decode cX11_parts 147 = .ok (.isub, 1) := by decide +kernel
theorem dX11_parts_148 : decode cX11_parts 148 = .ok (.goto 5, 3) := by decide +kernel
theorem dX11_parts_151 : decode cX11_parts 151 = .ok (.iload 8, 2) := by decide +kernel
theorem dX11_parts_153 : decode cX11_parts 153 = .ok (.invokevirtual 109, 3) := by decide +kernel
theorem dX11_parts_156 : decode cX11_parts 156 = .ok (.ireturn, 1) := by decide +kernel
theorem dX11_unreadable_0 : decode cX11_unreadable 0 = .ok (.iload_n 2, 1) := by decide +kernel
theorem dX11_unreadable_1 : decode cX11_unreadable 1 = .ok (.iconst 1, 1) := by decide +kernel
theorem dX11_unreadable_2 : decode cX11_unreadable 2 = .ok (.if_icmp .lt 21, 3) := by decide +kernel
theorem dX11_unreadable_5 : decode cX11_unreadable 5 = .ok (.iload_n 2, 1) := by decide +kernel
theorem dX11_unreadable_6 : decode cX11_unreadable 6 = .ok (.bipush 6, 2) := by decide +kernel
theorem dX11_unreadable_8 : decode cX11_unreadable 8 = .ok (.if_icmp .gt 15, 3) := by decide +kernel
theorem dX11_unreadable_11 : decode cX11_unreadable 11 = .ok (.iload_n 3, 1) := by decide +kernel
theorem dX11_unreadable_12 : decode cX11_unreadable 12 = .ok (.iconst 1, 1) := by decide +kernel
theorem dX11_unreadable_13 : decode cX11_unreadable 13 = .ok (.if_icmp .lt 10, 3) := by decide +kernel
theorem dX11_unreadable_16 : decode cX11_unreadable 16 = .ok (.iload_n 3, 1) := by decide +kernel
theorem dX11_unreadable_17 : decode cX11_unreadable 17 = .ok (.sipush 5000, 3) := by decide +kernel
theorem dX11_unreadable_20 : decode cX11_unreadable 20 = .ok (.if_icmp .le 10, 3) := by decide +kernel
theorem dX11_unreadable_23 : decode cX11_unreadable 23 = .ok (.aload_n 0, 1) := by decide +kernel
theorem dX11_unreadable_24 : decode cX11_unreadable 24 = .ok (.bipush 6, 2) := by decide +kernel
theorem dX11_unreadable_26 : decode cX11_unreadable 26 = .ok (.invokevirtual 102, 3) := by decide +kernel
theorem dX11_unreadable_29 : decode cX11_unreadable 29 = .ok (.ireturn, 1) := by decide +kernel
theorem dX11_unreadable_30 : decode cX11_unreadable 30 = .ok (.aload_n 0, 1) := by decide +kernel
theorem dX11_unreadable_31 : decode cX11_unreadable 31 = .ok (.getfield 30, 3) := by decide +kernel
theorem dX11_unreadable_34 : decode cX11_unreadable 34 = .ok (.iload_n 1, 1) := by decide +kernel
theorem dX11_unreadable_35 : decode cX11_unreadable 35 = .ok (.invokevirtual 231, 3) := by decide +kernel
theorem dX11_unreadable_38 : decode cX11_unreadable 38 = .ok (.astore 4, 2) := by decide +kernel
theorem dX11_unreadable_40 : decode cX11_unreadable 40 = .ok (.aload 4, 2) := by decide +kernel
theorem dX11_unreadable_42 : decode cX11_unreadable 42 = .ok (.ifnonnull 9, 3) := by decide +kernel
theorem dX11_unreadable_45 : decode cX11_unreadable 45 = .ok (.aload_n 0, 1) := by decide +kernel
theorem dX11_unreadable_46 : decode cX11_unreadable 46 = .ok (.iconst 3, 1) := by decide +kernel
theorem dX11_unreadable_47 : decode cX11_unreadable 47 = .ok (.invokevirtual 102, 3) := by decide +kernel
theorem dX11_unreadable_50 : decode cX11_unreadable 50 = .ok (.ireturn, 1) := by decide +kernel
theorem dX11_unreadable_51 : decode cX11_unreadable 51 = .ok (.aload_n 0, 1) := by decide +kernel
theorem dX11_unreadable_52 : decode cX11_unreadable 52 = .ok (.getfield 51, 3) := by decide +kernel
theorem dX11_unreadable_55 : decode cX11_unreadable 55 = .ok (.aload 4, 2) := by decide +kernel
theorem dX11_unreadable_57 : decode cX11_unreadable 57 = .ok (.invokevirtual 331, 3) := by decide +kernel
theorem dX11_unreadable_60 : decode cX11_unreadable 60 = .ok (.aload_n 0, 1) := by decide +kernel
theorem dX11_unreadable_61 : decode cX11_unreadable 61 = .ok (.getfield 37, 3) := by decide +kernel
theorem dX11_unreadable_64 : decode cX11_unreadable 64 = .ok (.aload_n 0, 1) := by decide +kernel
theorem dX11_unreadable_65 : decode cX11_unreadable 65 = .ok (.getfield 51, 3) := by decide +kernel
theorem dX11_unreadable_68 : decode cX11_unreadable 68 = .ok (.aload 4, 2) := by decide +kernel
theorem dX11_unreadable_70 : decode cX11_unreadable 70 = .ok (.getfield 135, 3) := by decide +kernel
theorem dX11_unreadable_73 : decode cX11_unreadable 73 = .ok (.iconst 5, 1) := by decide +kernel
theorem dX11_unreadable_74 : decode cX11_unreadable 74 = .ok (.if_icmp .ne 7, 3) := by decide +kernel
theorem dX11_unreadable_77 : decode cX11_unreadable 77 = .ok (.iconst 1, 1) := by decide +kernel
theorem dX11_unreadable_78 : decode cX11_unreadable 78 = .ok (.goto 4, 3) := by decide +kernel
theorem dX11_unreadable_81 : decode cX11_unreadable 81 = .ok (.iconst 0, 1) := by decide +kernel
theorem dX11_unreadable_82 : decode cX11_unreadable 82 = .ok (.invokevirtual 385, 3) := by decide +kernel
theorem dX11_unreadable_85 : decode cX11_unreadable 85 = .ok (.aload_n 0, 1) := by decide +kernel
theorem dX11_unreadable_86 : decode cX11_unreadable 86 = .ok (.getfield 37, 3) := by decide +kernel
theorem dX11_unreadable_89 : decode cX11_unreadable 89 = .ok (.iload_n 2, 1) := by decide +kernel
theorem dX11_unreadable_90 : decode cX11_unreadable 90 = .ok (.invokevirtual 389, 3) := by decide +kernel
theorem dX11_unreadable_93 : decode cX11_unreadable 93 = .ok (.istore 5, 2) := by decide +kernel
theorem dX11_unreadable_95 : decode cX11_unreadable 95 = .ok (.iconst 0, 1) := by decide +kernel
theorem dX11_unreadable_96 : decode cX11_unreadable 96 = .ok (.istore 6, 2) := by decide +kernel
theorem dX11_unreadable_98 : decode cX11_unreadable 98 = .ok (.iload 5, 2) := by decide +kernel
theorem dX11_unreadable_100 : decode cX11_unreadable 100 = .ok (.ifCond .eq 100, 3) := by decide +kernel
theorem dX11_unreadable_103 : decode cX11_unreadable 103 = .ok (.iload 6, 2) := by decide +kernel
theorem dX11_unreadable_105 : decode cX11_unreadable 105 = .ok (.sipush 5000, 3) := by decide +kernel
theorem dX11_unreadable_108 : decode cX11_unreadable 108 = .ok (.if_icmp .gt 92, 3) := by decide +kernel
theorem dX11_unreadable_111 : decode cX11_unreadable 111 = .ok (.iload 6, 2) := by decide +kernel
theorem dX11_unreadable_113 : decode cX11_unreadable 113 = .ok (.iload_n 3, 1) := by decide +kernel
theorem dX11_unreadable_114 : decode cX11_unreadable 114 = .ok (.if_icmp .lt 10, 3) := by decide +kernel
theorem dX11_unreadable_117 : decode cX11_unreadable 117 = .ok (.aload_n 0, 1) := by decide +kernel
theorem dX11_unreadable_118 : decode cX11_unreadable 118 = .ok (.bipush 8, 2) := by decide +kernel
theorem dX11_unreadable_120 : decode cX11_unreadable 120 = .ok (.invokevirtual 102, 3) := by decide +kernel
theorem dX11_unreadable_123 : decode cX11_unreadable 123 = .ok (.ireturn, 1) := by decide +kernel
theorem dX11_unreadable_124 : decode cX11_unreadable 124 = .ok (.aload_n 0, 1) := by decide +kernel
theorem dX11_unreadable_125 : decode cX11_unreadable 125 = .ok (.getfield 37, 3) := by decide +kernel
theorem dX11_unreadable_128 : decode cX11_unreadable 128 = .ok (.aload_n 0, 1) := by decide +kernel
theorem dX11_unreadable_129 : decode cX11_unreadable 129 = .ok (.getfield 44, 3) := by decide +kernel
theorem dX11_unreadable_132 : decode cX11_unreadable 132 = .ok (.invokevirtual 392, 3) := by decide +kernel
theorem dX11_unreadable_135 : decode cX11_unreadable 135 = .ok (.aload_n 0, 1) := by decide +kernel
theorem dX11_unreadable_136 : decode cX11_unreadable 136 = .ok (.getfield 44, 3) := by decide +kernel
theorem dX11_unreadable_139 : decode cX11_unreadable 139 = .ok (.aload 4, 2) := by decide +kernel
theorem dX11_unreadable_141 : decode cX11_unreadable 141 = .ok (.invokevirtual 253, 3) := by decide +kernel
theorem dX11_unreadable_144 : decode cX11_unreadable 144 = .ok (.ifCond .ne 40, 3) := by decide +kernel
theorem dX11_unreadable_147 : decode cX11_unreadable 147 = .ok (.aload_n 0, 1) := by decide +kernel
theorem dX11_unreadable_148 : decode cX11_unreadable 148 = .ok (.invokevirtual 396, 3) := by decide +kernel
theorem dX11_unreadable_151 : decode cX11_unreadable 151 = .ok (.ifCond .ne 33, 3) := by decide +kernel
theorem dX11_unreadable_154 : decode cX11_unreadable 154 = .ok (.aload_n 0, 1) := by decide +kernel
theorem dX11_unreadable_155 : decode cX11_unreadable 155 = .ok (.getfield 21, 3) := by decide +kernel
theorem dX11_unreadable_158 : decode cX11_unreadable 158 = .ok (.invokevirtual 164, 3) := by decide +kernel
theorem dX11_unreadable_161 : decode cX11_unreadable 161 = .ok (.aload_n 0, 1) := by decide +kernel
theorem dX11_unreadable_162 : decode cX11_unreadable 162 = .ok (.getfield 44, 3) := by decide +kernel
theorem dX11_unreadable_165 : decode cX11_unreadable 165 = .ok (.aload_n 0, 1) := by decide +kernel
theorem dX11_unreadable_166 : decode cX11_unreadable 166 = .ok (.getfield 21, 3) := by decide +kernel
theorem dX11_unreadable_169 : decode cX11_unreadable 169 = .ok (.invokevirtual 399, 3) := by decide +kernel
theorem dX11_unreadable_172 : decode cX11_unreadable 172 = .ok (.aload_n 0, 1) := by decide +kernel
theorem dX11_unreadable_173 : decode cX11_unreadable 173 = .ok (.aload_n 0, 1) := by decide +kernel
theorem dX11_unreadable_174 : decode cX11_unreadable 174 = .ok (.getfield 44, 3) := by decide +kernel
theorem dX11_unreadable_177 : decode cX11_unreadable 177 = .ok (.getfield 402, 3) := by decide +kernel
theorem dX11_unreadable_180 : decode cX11_unreadable 180 = .ok (.invokevirtual 109, 3) := by decide +kernel
theorem dX11_unreadable_183 : decode cX11_unreadable 183 = .ok (.ireturn, 1) := by decide +kernel
theorem dX11_unreadable_184 : decode cX11_unreadable 184 = .ok (.aload_n 0, 1) := by decide +kernel
theorem dX11_unreadable_185 : decode cX11_unreadable 185 = .ok (.getfield 37, 3) := by decide +kernel
theorem dX11_unreadable_188 : decode cX11_unreadable 188 = .ok (.iload_n 2, 1) := by decide +kernel
theorem dX11_unreadable_189 : decode cX11_unreadable 189 = .ok (.invokevirtual 403, 3) := by decide +kernel
theorem dX11_unreadable_192 : decode cX11_unreadable 192 = .ok (.istore 5, 2) := by decide +kernel
theorem dX11_unreadable_194 : decode cX11_unreadable 194 = .ok (.iinc 6 1, 3) := by decide +kernel
theorem dX11_unreadable_197 : decode cX11_unreadable 197 = .ok (.goto (-99), 3) := by decide +kernel
theorem dX11_unreadable_200 : decode cX11_unreadable 200 = .ok (.aload_n 0, 1) := by decide +kernel
theorem dX11_unreadable_201 : decode cX11_unreadable 201 = .ok (.iconst 0, 1) := by decide +kernel
theorem dX11_unreadable_202 : decode cX11_unreadable 202 = .ok (.invokevirtual 109, 3) := by decide +kernel
theorem dX11_unreadable_205 : decode cX11_unreadable 205 = .ok (.ireturn, 1) := by decide +kernel
theorem dX11_saved_0 : decode cX11_saved 0 = .ok (.aload_n 0, 1) := by decide +kernel
theorem dX11_saved_1 : decode cX11_saved 1 = .ok (.getfield 30, 3) := by decide +kernel
theorem dX11_saved_4 : decode cX11_saved 4 = .ok (.iload_n 1, 1) := by decide +kernel
theorem dX11_saved_5 : decode cX11_saved 5 = .ok (.invokevirtual 231, 3) := by decide +kernel
theorem dX11_saved_8 : decode cX11_saved 8 = .ok (.astore_n 3, 1) := by decide +kernel
theorem dX11_saved_9 : decode cX11_saved 9 = .ok (.aload_n 0, 1) := by decide +kernel
theorem dX11_saved_10 : decode cX11_saved 10 = .ok (.getfield 30, 3) := by decide +kernel
theorem dX11_saved_13 : decode cX11_saved 13 = .ok (.iload_n 2, 1) := by decide +kernel
theorem dX11_saved_14 : decode cX11_saved 14 = .ok (.invokevirtual 231, 3) := by decide +kernel
theorem dX11_saved_17 : decode cX11_saved 17 = .ok (.astore 4, 2) := by decide +kernel
theorem dX11_saved_19 : decode cX11_saved 19 = .ok (.aload_n 3, 1) := by decide +kernel
theorem dX11_saved_20 : decode cX11_saved 20 = .ok (.ifnull 8, 3) := by decide +kernel
theorem dX11_saved_23 : decode cX11_saved 23 = .ok (.aload 4, 2) := by decide +kernel
theorem dX11_saved_25 : decode cX11_saved 25 = .ok (.ifnonnull 9, 3) := by decide +kernel
theorem dX11_saved_28 : decode cX11_saved 28 = .ok (.aload_n 0, 1) := by decide +kernel
theorem dX11_saved_29 : decode cX11_saved 29 = .ok (.iconst 3, 1) := by decide +kernel
theorem dX11_saved_30 : decode cX11_saved 30 = .ok (.invokevirtual 102, 3) := by decide +kernel
theorem dX11_saved_33 : decode cX11_saved 33 = .ok (.ireturn, 1) := by decide +kernel
theorem dX11_saved_34 : decode cX11_saved 34 = .ok (.iconst 0, 1) := by decide +kernel
theorem dX11_saved_35 : decode cX11_saved 35 = .ok (.istore 5, 2) := by decide +kernel
theorem dX11_saved_37 : decode cX11_saved 37 = .ok (.iconst 0, 1) := by decide +kernel
theorem dX11_saved_38 : decode cX11_saved 38 = .ok (.istore 6, 2) := by decide +kernel
theorem dX11_saved_40 : decode cX11_saved 40 = .ok (.iconst 0, 1) := by decide +kernel
theorem dX11_saved_41 : decode cX11_saved 41 = .ok (.istore 7, 2) := by decide +kernel
theorem dX11_saved_43 : decode cX11_saved 43 = .ok (.iload 6, 2) := by decide +kernel
theorem dX11_saved_45 : decode cX11_saved 45 = .ok (.ifCond .ne 141, 3) := by decide +kernel
theorem dX11_saved_48 : decode cX11_saved 48 = .ok (.iload 7, 2) := by decide +kernel
theorem dX11_saved_50 : decode cX11_saved 50 = .ok (.iconst 2, 1) := by decide +kernel
theorem dX11_saved_51 : decode cX11_saved 51 = .ok (.if_icmp .ge 135, 3) := by decide +kernel
theorem dX11_saved_54 : decode cX11_saved 54 = .ok (.aload_n 0, 1) := by decide +kernel
theorem dX11_saved_55 : decode cX11_saved 55 = .ok (.getfield 37, 3) := by decide +kernel
theorem dX11_saved_58 : decode cX11_saved 58 = .ok (.invokevirtual 235, 3) := by decide +kernel
theorem dX11_saved_61 : decode cX11_saved 61 = .ok (.aload_n 0, 1) := by decide +kernel
theorem dX11_saved_62 : decode cX11_saved 62 = .ok (.getfield 37, 3) := by decide +kernel
theorem dX11_saved_65 : decode cX11_saved 65 = .ok (.aload_n 0, 1) := by decide +kernel
theorem dX11_saved_66 : decode cX11_saved 66 = .ok (.getfield 18, 3) := by decide +kernel
theorem dX11_saved_69 : decode cX11_saved 69 = .ok (.aload_n 0, 1) := by decide +kernel
theorem dX11_saved_70 : decode cX11_saved 70 = .ok (.getfield 44, 3) := by decide +kernel
theorem dX11_saved_73 : decode cX11_saved 73 = .ok (.invokevirtual 238, 3) := by decide +kernel
theorem dX11_saved_76 : decode cX11_saved 76 = .ok (.istore 8, 2) := by decide +kernel
theorem dX11_saved_78 : decode cX11_saved 78 = .ok (.iconst 0, 1) := by decide +kernel
theorem dX11_saved_79 : decode cX11_saved 79 = .ok (.istore 9, 2) := by decide +kernel
theorem dX11_saved_81 : decode cX11_saved 81 = .ok (.iload 6, 2) := by decide +kernel
theorem dX11_saved_83 : decode cX11_saved 83 = .ok (.ifCond .ne 97, 3) := by decide +kernel
theorem dX11_saved_86 : decode cX11_saved 86 = .ok (.iload 8, 2) := by decide +kernel
theorem dX11_saved_88 : decode cX11_saved 88 = .ok (.ifCond .eq 92, 3) := by decide +kernel
theorem dX11_saved_91 : decode cX11_saved 91 = .ok (.iload 9, 2) := by decide +kernel
theorem dX11_saved_93 : decode cX11_saved 93 = .ok (.ldc 242, 2) := by decide +kernel
theorem dX11_saved_95 : decode cX11_saved 95 = .ok (.if_icmp .ge 85, 3) := by decide +kernel
theorem dX11_saved_98 : decode cX11_saved 98 = .ok (.iload 8, 2) := by decide +kernel
theorem dX11_saved_100 : decode cX11_saved 100 = .ok (.iconst 2, 1) := by decide +kernel
theorem dX11_saved_101 : decode cX11_saved 101 = .ok (.if_icmp .ne 51, 3) := by decide +kernel
theorem dX11_saved_104 : decode cX11_saved 104 = .ok (.aload_n 0, 1) := by decide +kernel
theorem dX11_saved_105 : decode cX11_saved 105 = .ok (.getfield 44, 3) := by decide +kernel
theorem dX11_saved_108 : decode cX11_saved 108 = .ok (.iload 7, 2) := by decide +kernel
theorem dX11_saved_110 : decode cX11_saved 110 = .ok (.ifCond .ne 7, 3) := by decide +kernel
theorem dX11_saved_113 : decode cX11_saved 113 = .ok (.aload_n 3, 1) := by decide +kernel
theorem dX11_saved_114 : decode cX11_saved 114 = .ok (.goto 5, 3) := by decide +kernel
theorem dX11_saved_117 : decode cX11_saved 117 = .ok (.aload 4, 2) := by decide +kernel
theorem dX11_saved_119 : decode cX11_saved 119 = .ok (.invokevirtual 253, 3) := by decide +kernel
theorem dX11_saved_122 : decode cX11_saved 122 = .ok (.istore 6, 2) := by decide +kernel
theorem dX11_saved_124 : decode cX11_saved 124 = .ok (.iload 5, 2) := by decide +kernel
theorem dX11_saved_126 : decode cX11_saved 126 = .ok (.iload 7, 2) := by decide +kernel
theorem dX11_saved_128 : decode cX11_saved 128 = .ok (.ifCond .ne 13, 3) := by decide +kernel
theorem dX11_saved_131 : decode cX11_saved 131 = .ok (.aload_n 0, 1) := by decide +kernel
theorem dX11_saved_132 : decode cX11_saved 132 = .ok (.getfield 44, 3) := by decide +kernel
theorem dX11_saved_135 : decode cX11_saved 135 = .ok (.getfield 277, 3) := by decide +kernel
theorem dX11_saved_138 : decode cX11_saved 138 = .ok (.goto 11, 3) := by decide +kernel
theorem dX11_saved_141 : decode cX11_saved 141 = .ok (.aload_n 0, 1) := by decide +kernel
theorem dX11_saved_142 : decode cX11_saved 142 = .ok (.getfield 44, 3) := by decide +kernel
theorem dX11_saved_145 : decode cX11_saved 145 = .ok (.getfield 277, 3) := by decide +kernel
theorem dX11_saved_148 : decode cX11_saved 148 = .ok (.ineg, 1) := by decide +kernel
theorem dX11_saved_149 : decode cX11_saved 149 = .ok (.iadd, 1) := by decide +kernel
theorem dX11_saved_150 : decode cX11_saved 150 = .ok (.istore 5, 2) := by decide +kernel
theorem dX11_saved_152 : decode cX11_saved 152 = .ok (.iload 6, 2) := by decide +kernel
theorem dX11_saved_154 : decode cX11_saved 154 = .ok (.ifCond .ne 20, 3) := by decide +kernel
theorem dX11_saved_157 : decode cX11_saved 157 = .ok (.aload_n 0, 1) := by decide +kernel
theorem dX11_saved_158 : decode cX11_saved 158 = .ok (.getfield 37, 3) := by decide +kernel
theorem dX11_saved_161 : decode cX11_saved 161 = .ok (.aload_n 0, 1) := by decide +kernel
theorem dX11_saved_162 : decode cX11_saved 162 = .ok (.getfield 18, 3) := by decide +kernel
theorem dX11_saved_165 : decode cX11_saved 165 = .ok (.aload_n 0, 1) := by decide +kernel
theorem dX11_saved_166 : decode cX11_saved 166 = .ok (.getfield 44, 3) := by decide +kernel
theorem dX11_saved_169 : decode cX11_saved 169 = .ok (.invokevirtual 238, 3) := by decide +kernel
theorem dX11_saved_172 : decode cX11_saved 172 = .ok (.istore 8, 2) := by decide +kernel
theorem dX11_saved_174 : decode cX11_saved 174 = .ok (.iinc 9 1, 3) := by decide +kernel
theorem dX11_saved_177 : decode cX11_saved 177 = .ok (.goto (-96), 3) := by decide +kernel
theorem dX11_saved_180 : decode cX11_saved 180 = .ok (.iinc 7 1, 3) := by decide +kernel
theorem dX11_saved_183 : decode cX11_saved 183 = .ok (.goto (-140), 3) := by decide +kernel
theorem dX11_saved_186 : decode cX11_saved 186 = .ok (.iload 6, 2) := by decide +kernel
theorem dX11_saved_188 : decode cX11_saved 188 = .ok (.ifCond .eq 19, 3) := by decide +kernel
theorem dX11_saved_191 : decode cX11_saved 191 = .ok (.aload_n 0, 1) := by decide +kernel
theorem dX11_saved_192 : decode cX11_saved 192 = .ok (.iload 6, 2) := by decide +kernel
theorem dX11_saved_194 : decode cX11_saved 194 = .ok (.aload_n 0, 1) := by decide +kernel
theorem dX11_saved_195 : decode cX11_saved 195 = .ok (.getfield 44, 3) := by decide +kernel
theorem dX11_saved_198 : decode cX11_saved 198 = .ok (.invokevirtual 263, 3) := by decide +kernel
theorem dX11_saved_201 : decode cX11_saved 201 = .ok (.invokevirtual 266, 3) := by decide +kernel
theorem dX11_saved_204 : decode cX11_saved 204 = .ok (.pop, 1) := by decide +kernel
theorem dX11_saved_205 : decode cX11_saved 205 = .ok (.iconst 0, 1) := by decide +kernel
theorem dX11_saved_206 : decode cX11_saved 206 = .ok (.ireturn, 1) := by decide +kernel
theorem dX11_saved_207 : decode cX11_saved 207 = .ok (.aload_n 0, 1) := by decide +kernel
theorem dX11_saved_208 : decode cX11_saved 208 = .ok (.iload 5, 2) := by decide +kernel
theorem dX11_saved_210 : decode cX11_saved 210 = .ok (.invokevirtual 109, 3) := by decide +kernel
theorem dX11_saved_213 : decode cX11_saved 213 = .ok (.ireturn, 1) := by decide +kernel
theorem dX11_place_0 : decode cX11_place 0 = .ok (.aload_n 0, 1) := by decide +kernel
theorem dX11_place_1 : decode cX11_place 1 = .ok (.getfield 96, 3) := by decide +kernel
theorem dX11_place_4 : decode cX11_place 4 = .ok (.ireturn, 1) := by decide +kernel
theorem dX11_finds_0 : decode cX11_finds 0 = .ok (.aload_n 0, 1) := by decide +kernel
theorem dX11_finds_1 : decode cX11_finds 1 = .ok (.getfield 44, 3) := by decide +kernel
theorem dX11_finds_4 : decode cX11_finds 4 = .ok (.iload_n 1, 1) := by decide +kernel
theorem dX11_finds_5 : decode cX11_finds 5 = .ok (.invokevirtual 413, 3) := by decide +kernel
theorem dX11_finds_8 : decode cX11_finds 8 = .ok (.ireturn, 1) := by decide +kernel
theorem dX11_status_0 : decode cX11_status 0 = .ok (.aload_n 0, 1) := by decide +kernel
theorem dX11_status_1 : decode cX11_status 1 = .ok (.getfield 93, 3) := by decide +kernel
theorem dX11_status_4 : decode cX11_status 4 = .ok (.ireturn, 1) := by decide +kernel
theorem dX11_done_0 : decode cX11_done 0 = .ok (.aload_n 0, 1) := by decide +kernel
theorem dX11_done_1 : decode cX11_done 1 = .ok (.iconst 0, 1) := by decide +kernel
theorem dX11_done_2 : decode cX11_done 2 = .ok (.putfield 93, 3) := by decide +kernel
theorem dX11_done_5 : decode cX11_done 5 = .ok (.aload_n 0, 1) := by decide +kernel
theorem dX11_done_6 : decode cX11_done 6 = .ok (.iconst (-1), 1) := by decide +kernel
theorem dX11_done_7 : decode cX11_done 7 = .ok (.putfield 96, 3) := by decide +kernel
theorem dX11_done_10 : decode cX11_done 10 = .ok (.iload_n 1, 1) := by decide +kernel
theorem dX11_done_11 : decode cX11_done 11 = .ok (.ireturn, 1) := by decide +kernel
theorem dX11_refuse_0 : decode cX11_refuse 0 = .ok (.aload_n 0, 1) := by decide +kernel
theorem dX11_refuse_1 : decode cX11_refuse 1 = .ok (.iload_n 1, 1) := by decide +kernel
theorem dX11_refuse_2 : decode cX11_refuse 2 = .ok (.putfield 93, 3) := by decide +kernel
theorem dX11_refuse_5 : decode cX11_refuse 5 = .ok (.aload_n 0, 1) := by decide +kernel
theorem dX11_refuse_6 : decode cX11_refuse 6 = .ok (.iconst (-1), 1) := by decide +kernel
theorem dX11_refuse_7 : decode cX11_refuse 7 = .ok (.putfield 96, 3) := by decide +kernel
theorem dX11_refuse_10 : decode cX11_refuse 10 = .ok (.iconst (-1), 1) := by decide +kernel
theorem dX11_refuse_11 : decode cX11_refuse 11 = .ok (.ireturn, 1) := by decide +kernel
theorem dX12_init_0 : decode cX12_init 0 = .ok (.aload_n 0, 1) := by decide +kernel
theorem dX12_init_1 : decode cX12_init 1 = .ok (.invokespecial 3, 3) := by decide +kernel
theorem dX12_init_4 : decode cX12_init 4 = .ok (.aload_n 0, 1) := by decide +kernel
theorem dX12_init_5 : decode cX12_init 5 = .ok (.iconst (-1), 1) := by decide +kernel
theorem dX12_init_6 : decode cX12_init 6 = .ok (.putfield 9, 3) := by decide +kernel
theorem dX12_init_9 : decode cX12_init 9 = .ok (.aload_n 0, 1) := by decide +kernel
theorem dX12_init_10 : decode cX12_init 10 = .ok (.sipush 3000, 3) := by decide +kernel
theorem dX12_init_13 : decode cX12_init 13 = .ok (.newarray .int, 2) := by decide +kernel
theorem dX12_init_15 : decode cX12_init 15 = .ok (.putfield 13, 3) := by decide +kernel
theorem dX12_init_18 : decode cX12_init 18 = .ok (.aload_n 0, 1) := by decide +kernel
theorem dX12_init_19 : decode cX12_init 19 = .ok (.bipush 30, 2) := by decide +kernel
theorem dX12_init_21 : decode cX12_init 21 = .ok (.newarray .boolean, 2) := by decide +kernel
theorem dX12_init_23 : decode cX12_init 23 = .ok (.putfield 17, 3) := by decide +kernel
theorem dX12_init_26 : decode cX12_init 26 = .ok (.aload_n 0, 1) := by decide +kernel
theorem dX12_init_27 : decode cX12_init 27 = .ok (.bipush 30, 2) := by decide +kernel
theorem dX12_init_29 : decode cX12_init 29 = .ok (.newarray .int, 2) := by decide +kernel
theorem dX12_init_31 : decode cX12_init 31 = .ok (.putfield 21, 3) := by decide +kernel
theorem dX12_init_34 : decode cX12_init 34 = .ok (.aload_n 0, 1) := by decide +kernel
theorem dX12_init_35 : decode cX12_init 35 = .ok (.bipush 30, 2) := by decide +kernel
theorem dX12_init_37 : decode cX12_init 37 = .ok (.newarray .int, 2) := by decide +kernel
theorem dX12_init_39 : decode cX12_init 39 = .ok (.putfield 24, 3) := by decide +kernel
theorem dX12_init_42 : decode cX12_init 42 = .ok (.aload_n 0, 1) := by decide +kernel
theorem dX12_init_43 : decode cX12_init 43 = .ok (.bipush 30, 2) := by decide +kernel
theorem dX12_init_45 : decode cX12_init 45 = .ok (.newarray .int, 2) := by decide +kernel
theorem dX12_init_47 : decode cX12_init 47 = .ok (.putfield 27, 3) := by decide +kernel
theorem dX12_init_50 : decode cX12_init 50 = .ok (.aload_n 0, 1) := by decide +kernel
theorem dX12_init_51 : decode cX12_init 51 = .ok (.bipush 30, 2) := by decide +kernel
theorem dX12_init_53 : decode cX12_init 53 = .ok (.newarray .int, 2) := by decide +kernel
theorem dX12_init_55 : decode cX12_init 55 = .ok (.putfield 30, 3) := by decide +kernel
theorem dX12_init_58 : decode cX12_init 58 = .ok (.aload_n 0, 1) := by decide +kernel
theorem dX12_init_59 : decode cX12_init 59 = .ok (.bipush 30, 2) := by decide +kernel
theorem dX12_init_61 : decode cX12_init 61 = .ok (.newarray .int, 2) := by decide +kernel
theorem dX12_init_63 : decode cX12_init 63 = .ok (.putfield 33, 3) := by decide +kernel
theorem dX12_init_66 : decode cX12_init 66 = .ok (.aload_n 0, 1) := by decide +kernel
theorem dX12_init_67 : decode cX12_init 67 = .ok (.sipush 6000, 3) := by decide +kernel
theorem dX12_init_70 : decode cX12_init 70 = .ok (.newarray .int, 2) := by decide +kernel
theorem dX12_init_72 : decode cX12_init 72 = .ok (.putfield 36, 3) := by decide +kernel
theorem dX12_init_75 : decode cX12_init 75 = .ok (.aload_n 0, 1) := by decide +kernel
theorem dX12_init_76 : decode cX12_init 76 = .ok (.sipush 6000, 3) := by decide +kernel
theorem dX12_init_79 : decode cX12_init 79 = .ok (.newarray .int, 2) := by decide +kernel
theorem dX12_init_81 : decode cX12_init 81 = .ok (.putfield 39, 3) := by decide +kernel
theorem dX12_init_84 : decode cX12_init 84 = .ok (.aload_n 0, 1) := by decide +kernel
theorem dX12_init_85 : decode cX12_init 85 = .ok (.sipush 6000, 3) := by decide +kernel
theorem dX12_init_88 : decode cX12_init 88 = .ok (.newarray .int, 2) := by decide +kernel
theorem dX12_init_90 : decode cX12_init 90 = .ok (.putfield 42, 3) := by decide +kernel
theorem dX12_init_93 : decode cX12_init 93 = .ok (.aload_n 0, 1) := by decide +kernel
theorem dX12_init_94 : decode cX12_init 94 = .ok (.ldc 45, 2) := by decide +kernel
theorem dX12_init_96 : decode cX12_init 96 = .ok (.newarray .int, 2) := by decide +kernel
theorem dX12_init_98 : decode cX12_init 98 = .ok (.putfield 46, 3) := by decide +kernel
theorem dX12_init_101 : decode cX12_init 101 = .ok (.aload_n 0, 1) := by decide +kernel
theorem dX12_init_102 : decode cX12_init 102 = .ok (.sipush 24000, 3) := by decide +kernel
theorem dX12_init_105 : decode cX12_init 105 = .ok (.newarray .int, 2) := by decide +kernel
theorem dX12_init_107 : decode cX12_init 107 = .ok (.putfield 49, 3) := by decide +kernel
theorem dX12_init_110 : decode cX12_init 110 = .ok (.aload_n 0, 1) := by decide +kernel
theorem dX12_init_111 : decode cX12_init 111 = .ok (.bipush 120, 2) := by decide +kernel
theorem dX12_init_113 : decode cX12_init 113 = .ok (.newarray .int, 2) := by decide +kernel
theorem dX12_init_115 : decode cX12_init 115 = .ok (.putfield 52, 3) := by decide +kernel
theorem dX12_init_118 : decode cX12_init 118 = .ok (.aload_n 0, 1) := by decide +kernel
theorem dX12_init_119 : decode cX12_init 119 = .ok (.sipush 480, 3) := by decide +kernel
theorem dX12_init_122 : decode cX12_init 122 = .ok (.newarray .int, 2) := by decide +kernel
theorem dX12_init_124 : decode cX12_init 124 = .ok (.putfield 55, 3) := by decide +kernel
theorem dX12_init_127 : decode cX12_init 127 = .ok (.aload_n 0, 1) := by decide +kernel
theorem dX12_init_128 : decode cX12_init 128 = .ok (.bipush 64, 2) := by decide +kernel
theorem dX12_init_130 : decode cX12_init 130 = .ok (.newarray .int, 2) := by decide +kernel
theorem dX12_init_132 : decode cX12_init 132 = .ok (.putfield 58, 3) := by decide +kernel
theorem dX12_init_135 : decode cX12_init 135 = .ok (.aload_n 0, 1) := by decide +kernel
theorem dX12_init_136 : decode cX12_init 136 = .ok (.sipush 512, 3) := by decide +kernel
theorem dX12_init_139 : decode cX12_init 139 = .ok (.newarray .int, 2) := by decide +kernel
theorem dX12_init_141 : decode cX12_init 141 = .ok (.putfield 61, 3) := by decide +kernel
theorem dX12_init_144 : decode cX12_init 144 = .ok (.aload_n 0, 1) := by decide +kernel
theorem dX12_init_145 : decode cX12_init 145 = .ok (.sipush 512, 3) := by decide +kernel
theorem dX12_init_148 : decode cX12_init 148 = .ok (.newarray .int, 2) := by decide +kernel
theorem dX12_init_150 : decode cX12_init 150 = .ok (.putfield 64, 3) := by decide +kernel
theorem dX12_init_153 : decode cX12_init 153 = .ok (.aload_n 0, 1) := by decide +kernel
theorem dX12_init_154 : decode cX12_init 154 = .ok (.sipush 513, 3) := by decide +kernel
theorem dX12_init_157 : decode cX12_init 157 = .ok (.newarray .boolean, 2) := by decide +kernel
theorem dX12_init_159 : decode cX12_init 159 = .ok (.putfield 67, 3) := by decide +kernel
theorem dX12_init_162 : decode cX12_init 162 = .ok (.aload_n 0, 1) := by decide +kernel
theorem dX12_init_163 : decode cX12_init 163 = .ok (.sipush 6144, 3) := by decide +kernel
theorem dX12_init_166 : decode cX12_init 166 = .ok (.newarray .int, 2) := by decide +kernel
theorem dX12_init_168 : decode cX12_init 168 = .ok (.putfield 70, 3) := by decide +kernel
theorem dX12_init_171 : decode cX12_init 171 = .ok (.aload_n 0, 1) := by decide +kernel
theorem dX12_init_172 : decode cX12_init 172 = .ok (.sipush 513, 3) := by decide +kernel
theorem dX12_init_175 : decode cX12_init 175 = .ok (.newarray .int, 2) := by decide +kernel
theorem dX12_init_177 : decode cX12_init 177 = .ok (.putfield 73, 3) := by decide +kernel
theorem dX12_init_180 : decode cX12_init 180 = .ok (.aload_n 0, 1) := by decide +kernel
theorem dX12_init_181 : decode cX12_init 181 = .ok (.iconst 5, 1) := by decide +kernel
theorem dX12_init_182 : decode cX12_init 182 = .ok (.newarray .int, 2) := by decide +kernel
theorem dX12_init_184 : decode cX12_init 184 = .ok (.putfield 76, 3) := by decide +kernel
theorem dX12_init_187 : decode cX12_init 187 = .ok (.aload_n 0, 1) := by decide +kernel
theorem dX12_init_188 : decode cX12_init 188 = .ok (.sipush 500, 3) := by decide +kernel
theorem dX12_init_191 : decode cX12_init 191 = .ok (.newarray .int, 2) := by decide +kernel
theorem dX12_init_193 : decode cX12_init 193 = .ok (.putfield 79, 3) := by decide +kernel
theorem dX12_init_196 : decode cX12_init 196 = .ok (.aload_n 0, 1) := by decide +kernel
theorem dX12_init_197 : decode cX12_init 197 = .ok (.bipush 32, 2) := by decide +kernel
theorem dX12_init_199 : decode cX12_init 199 = .ok (.putfield 82, 3) := by decide +kernel
theorem dX12_init_202 : decode cX12_init 202 = .ok (.aload_n 0, 1) := by decide +kernel
theorem dX12_init_203 : decode cX12_init 203 = .ok (.bipush 25, 2) := by decide +kernel
theorem dX12_init_205 : decode cX12_init 205 = .ok (.putfield 85, 3) := by decide +kernel
theorem dX12_init_208 : decode cX12_init 208 = .ok (.aload_n 0, 1) := by decide +kernel
theorem dX12_init_209 : decode cX12_init 209 = .ok (.bipush 36, 2) := by decide +kernel
theorem dX12_init_211 : decode cX12_init 211 = .ok (.putfield 88, 3) := by decide +kernel
theorem dX12_init_214 : decode cX12_init 214 = .ok (.aload_n 0, 1) := by decide +kernel
theorem dX12_init_215 : decode cX12_init 215 = .ok (.sipush 200, 3) := by decide +kernel
theorem dX12_init_218 : decode cX12_init 218 = .ok (.newarray .int, 2) := by decide +kernel
theorem dX12_init_220 : decode cX12_init 220 = .ok (.putfield 91, 3) := by decide +kernel
theorem dX12_init_223 : decode cX12_init 223 = .ok (.aload_n 0, 1) := by decide +kernel
theorem dX12_init_224 : decode cX12_init 224 = .ok (.ldc 94, 2) := by decide +kernel
theorem dX12_init_226 : decode cX12_init 226 = .ok (.newarray .int, 2) := by decide +kernel
theorem dX12_init_228 : decode cX12_init 228 = .ok (.putfield 95, 3) := by decide +kernel
theorem dX12_init_231 : decode cX12_init 231 = .ok (.aload_n 0, 1) := by decide +kernel
theorem dX12_init_232 : decode cX12_init 232 = .ok (.sipush 200, 3) := by decide +kernel
theorem dX12_init_235 : decode cX12_init 235 = .ok (.newarray .int, 2) := by decide +kernel
theorem dX12_init_237 : decode cX12_init 237 = .ok (.putfield 98, 3) := by decide +kernel
theorem dX12_init_240 : decode cX12_init 240 = .ok (.aload_n 0, 1) := by decide +kernel
theorem dX12_init_241 : decode cX12_init 241 = .ok (.ldc 94, 2) := by decide +kernel
theorem dX12_init_243 : decode cX12_init 243 = .ok (.newarray .int, 2) := by decide +kernel
theorem dX12_init_245 : decode cX12_init 245 = .ok (.putfield 101, 3) := by decide +kernel
theorem dX12_init_248 : decode cX12_init 248 = .ok (.aload_n 0, 1) := by decide +kernel
theorem dX12_init_249 : decode cX12_init 249 = .ok (.sipush 200, 3) := by decide +kernel
theorem dX12_init_252 : decode cX12_init 252 = .ok (.newarray .int, 2) := by decide +kernel
theorem dX12_init_254 : decode cX12_init 254 = .ok (.putfield 104, 3) := by decide +kernel
theorem dX12_init_257 : decode cX12_init 257 = .ok (.aload_n 0, 1) := by decide +kernel
theorem dX12_init_258 : decode cX12_init 258 = .ok (.sipush 12016, 3) := by decide +kernel
theorem dX12_init_261 : decode cX12_init 261 = .ok (.newarray .int, 2) := by decide +kernel
theorem dX12_init_263 : decode cX12_init 263 = .ok (.putfield 107, 3) := by decide +kernel
theorem dX12_init_266 : decode cX12_init 266 = .ok (.aload_n 0, 1) := by decide +kernel
theorem dX12_init_267 : decode cX12_init 267 = .ok (.sipush 12016, 3) := by decide +kernel
theorem dX12_init_270 : decode cX12_init 270 = .ok (.newarray .int, 2) := by decide +kernel
theorem dX12_init_272 : decode cX12_init 272 = .ok (.putfield 110, 3) := by decide +kernel
theorem dX12_init_275 : decode cX12_init 275 = .ok (.aload_n 0, 1) := by decide +kernel
theorem dX12_init_276 : decode cX12_init 276 = .ok (.sipush 12016, 3) := by decide +kernel
theorem dX12_init_279 : decode cX12_init 279 = .ok (.newarray .int, 2) := by decide +kernel
theorem dX12_init_281 : decode cX12_init 281 = .ok (.putfield 113, 3) := by decide +kernel
theorem dX12_init_284 : decode cX12_init 284 = .ok (.aload_n 0, 1) := by decide +kernel
theorem dX12_init_285 : decode cX12_init 285 = .ok (.iconst 2, 1) := by decide +kernel
theorem dX12_init_286 : decode cX12_init 286 = .ok (.newarray .int, 2) := by decide +kernel
theorem dX12_init_288 : decode cX12_init 288 = .ok (.putfield 116, 3) := by decide +kernel
theorem dX12_init_291 : decode cX12_init 291 = .ok (.aload_n 0, 1) := by decide +kernel
theorem dX12_init_292 : decode cX12_init 292 = .ok (.ldc 119, 2) := by decide +kernel
theorem dX12_init_294 : decode cX12_init 294 = .ok (.newarray .int, 2) := by decide +kernel
theorem dX12_init_296 : decode cX12_init 296 = .ok (.putfield 120, 3) := by decide +kernel
theorem dX12_init_299 : decode cX12_init 299 = .ok (.aload_n 0, 1) := by decide +kernel
theorem dX12_init_300 : decode cX12_init 300 = .ok (.ldc 119, 2) := by decide +kernel
theorem dX12_init_302 : decode cX12_init 302 = .ok (.newarray .int, 2) := by decide +kernel
theorem dX12_init_304 : decode cX12_init 304 = .ok (.putfield 123, 3) := by decide +kernel
theorem dX12_init_307 : decode cX12_init 307 = .ok (.aload_n 0, 1) := by decide +kernel
theorem dX12_init_308 : decode cX12_init 308 = .ok (.sipush 4000, 3) := by decide +kernel
theorem dX12_init_311 : decode cX12_init 311 = .ok (.newarray .int, 2) := by decide +kernel
theorem dX12_init_313 : decode cX12_init 313 = .ok (.putfield 126, 3) := by decide +kernel
theorem dX12_init_316 : decode cX12_init 316 = .ok (.aload_n 0, 1) := by decide +kernel
theorem dX12_init_317 : decode cX12_init 317 = .ok (.sipush 4000, 3) := by decide +kernel
theorem dX12_init_320 : decode cX12_init 320 = .ok (.newarray .int, 2) := by decide +kernel
theorem dX12_init_322 : decode cX12_init 322 = .ok (.putfield 129, 3) := by decide +kernel
theorem dX12_init_325 : decode cX12_init 325 = .ok (.aload_n 0, 1) := by decide +kernel
theorem dX12_init_326 : decode cX12_init 326 = .ok (.sipush 404, 3) := by decide +kernel
theorem dX12_init_329 : decode cX12_init 329 = .ok (.newarray .boolean, 2) := by decide +kernel
theorem dX12_init_331 : decode cX12_init 331 = .ok (.putfield 132, 3) := by decide +kernel
theorem dX12_init_334 : decode cX12_init 334 = .ok (.aload_n 0, 1) := by decide +kernel
theorem dX12_init_335 : decode cX12_init 335 = .ok (.ldc 135, 2) := by decide +kernel
theorem dX12_init_337 : decode cX12_init 337 = .ok (.newarray .int, 2) := by decide +kernel
theorem dX12_init_339 : decode cX12_init 339 = .ok (.putfield 136, 3) := by decide +kernel
theorem dX12_init_342 : decode cX12_init 342 = .ok (.aload_n 0, 1) := by decide +kernel
theorem dX12_init_343 : decode cX12_init 343 = .ok (.bipush 50, 2) := by decide +kernel
theorem dX12_init_345 : decode cX12_init 345 = .ok (.newarray .int, 2) := by decide +kernel
theorem dX12_init_347 : decode cX12_init 347 = .ok (.putfield 139, 3) := by decide +kernel
theorem dX12_init_350 : decode cX12_init 350 = .ok (.aload_n 0, 1) := by decide +kernel
theorem dX12_init_351 : decode cX12_init 351 = .ok (.sipush 1000, 3) := by decide +kernel
theorem dX12_init_354 : decode cX12_init 354 = .ok (.newarray .int, 2) := by decide +kernel
theorem dX12_init_356 : decode cX12_init 356 = .ok (.putfield 142, 3) := by decide +kernel
theorem dX12_init_359 : decode cX12_init 359 = .ok (.aload_n 0, 1) := by decide +kernel
theorem dX12_init_360 : decode cX12_init 360 = .ok (.sipush 256, 3) := by decide +kernel
theorem dX12_init_363 : decode cX12_init 363 = .ok (.newarray .int, 2) := by decide +kernel
theorem dX12_init_365 : decode cX12_init 365 = .ok (.putfield 145, 3) := by decide +kernel
theorem dX12_init_368 : decode cX12_init 368 = .ok (.return_, 1) := by decide +kernel
theorem dX12_fine_0 : decode cX12_fine 0 = .ok (.aload_n 0, 1) := by decide +kernel
theorem dX12_fine_1 : decode cX12_fine 1 = .ok (.iconst 0, 1) := by decide +kernel
theorem dX12_fine_2 : decode cX12_fine 2 = .ok (.putfield 148, 3) := by decide +kernel
theorem dX12_fine_5 : decode cX12_fine 5 = .ok (.aload_n 0, 1) := by decide +kernel
theorem dX12_fine_6 : decode cX12_fine 6 = .ok (.iconst (-1), 1) := by decide +kernel
theorem dX12_fine_7 : decode cX12_fine 7 = .ok (.putfield 9, 3) := by decide +kernel
theorem dX12_fine_10 : decode cX12_fine 10 = .ok (.iload_n 1, 1) := by decide +kernel
theorem dX12_fine_11 : decode cX12_fine 11 = .ok (.ireturn, 1) := by decide +kernel
theorem dX12_bad_0 : decode cX12_bad 0 = .ok (.aload_n 0, 1) := by decide +kernel
theorem dX12_bad_1 : decode cX12_bad 1 = .ok (.iload_n 1, 1) := by decide +kernel
theorem dX12_bad_2 : decode cX12_bad 2 = .ok (.putfield 148, 3) := by decide +kernel
theorem dX12_bad_5 : decode cX12_bad 5 = .ok (.aload_n 0, 1) := by decide +kernel
theorem dX12_bad_6 : decode cX12_bad 6 = .ok (.iconst (-1), 1) := by decide +kernel
theorem dX12_bad_7 : decode cX12_bad 7 = .ok (.putfield 9, 3) := by decide +kernel
theorem dX12_bad_10 : decode cX12_bad 10 = .ok (.iconst (-1), 1) := by decide +kernel
theorem dX12_bad_11 : decode cX12_bad 11 = .ok (.ireturn, 1) := by decide +kernel
theorem dJ6_bitCount_0f7a4_0 : decode cJ6_bitCount_0f7a4 0 = .ok (.iload_n 0, 1) := by decide +kernel
theorem dJ6_bitCount_0f7a4_1 : decode cJ6_bitCount_0f7a4 1 = .ok (.iload_n 0, 1) := by decide +kernel
theorem dJ6_bitCount_0f7a4_2 : decode cJ6_bitCount_0f7a4 2 = .ok (.iconst 1, 1) := by decide +kernel
theorem dJ6_bitCount_0f7a4_3 : decode cJ6_bitCount_0f7a4 3 = .ok (.iushr, 1) := by decide +kernel
theorem dJ6_bitCount_0f7a4_4 : decode cJ6_bitCount_0f7a4 4 = .ok (.ldc_w 265, 3) := by decide +kernel
theorem dJ6_bitCount_0f7a4_7 : decode cJ6_bitCount_0f7a4 7 = .ok (.iand, 1) := by decide +kernel
theorem dJ6_bitCount_0f7a4_8 : decode cJ6_bitCount_0f7a4 8 = .ok (.isub, 1) := by decide +kernel
theorem dJ6_bitCount_0f7a4_9 : decode cJ6_bitCount_0f7a4 9 = .ok (.istore_n 0, 1) := by decide +kernel
theorem dJ6_bitCount_0f7a4_10 : decode cJ6_bitCount_0f7a4 10 = .ok (.iload_n 0, 1) := by decide +kernel
theorem dJ6_bitCount_0f7a4_11 : decode cJ6_bitCount_0f7a4 11 = .ok (.ldc_w 266, 3) := by decide +kernel
theorem dJ6_bitCount_0f7a4_14 : decode cJ6_bitCount_0f7a4 14 = .ok (.iand, 1) := by decide +kernel
theorem dJ6_bitCount_0f7a4_15 : decode cJ6_bitCount_0f7a4 15 = .ok (.iload_n 0, 1) := by decide +kernel
theorem dJ6_bitCount_0f7a4_16 : decode cJ6_bitCount_0f7a4 16 = .ok (.iconst 2, 1) := by decide +kernel
theorem dJ6_bitCount_0f7a4_17 : decode cJ6_bitCount_0f7a4 17 = .ok (.iushr, 1) := by decide +kernel
theorem dJ6_bitCount_0f7a4_18 : decode cJ6_bitCount_0f7a4 18 = .ok (.ldc_w 266, 3) := by decide +kernel
theorem dJ6_bitCount_0f7a4_21 : decode cJ6_bitCount_0f7a4 21 = .ok (.iand, 1) := by decide +kernel
theorem dJ6_bitCount_0f7a4_22 : decode cJ6_bitCount_0f7a4 22 = .ok (.iadd, 1) := by decide +kernel
theorem dJ6_bitCount_0f7a4_23 : decode cJ6_bitCount_0f7a4 23 = .ok (.istore_n 0, 1) := by decide +kernel
theorem dJ6_bitCount_0f7a4_24 : decode cJ6_bitCount_0f7a4 24 = .ok (.iload_n 0, 1) := by decide +kernel
theorem dJ6_bitCount_0f7a4_25 : decode cJ6_bitCount_0f7a4 25 = .ok (.iload_n 0, 1) := by decide +kernel
theorem dJ6_bitCount_0f7a4_26 : decode cJ6_bitCount_0f7a4 26 = .ok (.iconst 4, 1) := by decide +kernel
theorem dJ6_bitCount_0f7a4_27 : decode cJ6_bitCount_0f7a4 27 = .ok (.iushr, 1) := by decide +kernel
theorem dJ6_bitCount_0f7a4_28 : decode cJ6_bitCount_0f7a4 28 = .ok (.iadd, 1) := by decide +kernel
theorem dJ6_bitCount_0f7a4_29 : decode cJ6_bitCount_0f7a4 29 = .ok (.ldc_w 267, 3) := by decide +kernel
theorem dJ6_bitCount_0f7a4_32 : decode cJ6_bitCount_0f7a4 32 = .ok (.iand, 1) := by decide +kernel
theorem dJ6_bitCount_0f7a4_33 : decode cJ6_bitCount_0f7a4 33 = .ok (.istore_n 0, 1) := by decide +kernel
theorem dJ6_bitCount_0f7a4_34 : decode cJ6_bitCount_0f7a4 34 = .ok (.iload_n 0, 1) := by decide +kernel
theorem dJ6_bitCount_0f7a4_35 : decode cJ6_bitCount_0f7a4 35 = .ok (.iload_n 0, 1) := by decide +kernel
theorem dJ6_bitCount_0f7a4_36 : decode cJ6_bitCount_0f7a4 36 = .ok (.bipush 8, 2) := by decide +kernel
theorem dJ6_bitCount_0f7a4_38 : decode cJ6_bitCount_0f7a4 38 = .ok (.iushr, 1) := by decide +kernel
theorem dJ6_bitCount_0f7a4_39 : decode cJ6_bitCount_0f7a4 39 = .ok (.iadd, 1) := by decide +kernel
theorem dJ6_bitCount_0f7a4_40 : decode cJ6_bitCount_0f7a4 40 = .ok (.istore_n 0, 1) := by decide +kernel
theorem dJ6_bitCount_0f7a4_41 : decode cJ6_bitCount_0f7a4 41 = .ok (.iload_n 0, 1) := by decide +kernel
theorem dJ6_bitCount_0f7a4_42 : decode cJ6_bitCount_0f7a4 42 = .ok (.iload_n 0, 1) := by decide +kernel
theorem dJ6_bitCount_0f7a4_43 : decode cJ6_bitCount_0f7a4 43 = .ok (.bipush 16, 2) := by decide +kernel
theorem dJ6_bitCount_0f7a4_45 : decode cJ6_bitCount_0f7a4 45 = .ok (.iushr, 1) := by decide +kernel
theorem dJ6_bitCount_0f7a4_46 : decode cJ6_bitCount_0f7a4 46 = .ok (.iadd, 1) := by decide +kernel
theorem dJ6_bitCount_0f7a4_47 : decode cJ6_bitCount_0f7a4 47 = .ok (.istore_n 0, 1) := by decide +kernel
theorem dJ6_bitCount_0f7a4_48 : decode cJ6_bitCount_0f7a4 48 = .ok (.iload_n 0, 1) := by decide +kernel
theorem dJ6_bitCount_0f7a4_49 : decode cJ6_bitCount_0f7a4 49 = .ok (.bipush 63, 2) := by decide +kernel
theorem dJ6_bitCount_0f7a4_51 : decode cJ6_bitCount_0f7a4 51 = .ok (.iand, 1) := by decide +kernel
theorem dJ6_bitCount_0f7a4_52 : decode cJ6_bitCount_0f7a4 52 = .ok (.ireturn, 1) := by decide +kernel
theorem dJxa1e45_init_da8c8_0 : decode cJxa1e45_init_da8c8 0 = .ok (.aload_n 0, 1) := by decide +kernel
theorem dJxa1e45_init_da8c8_1 : decode cJxa1e45_init_da8c8 1 = .ok (.invokespecial 1, 3) := by decide +kernel
theorem dJxa1e45_init_da8c8_4 : decode cJxa1e45_init_da8c8 4 = .ok (.return_, 1) := by decide +kernel
theorem dJxc12de_init_da8c8_0 : decode cJxc12de_init_da8c8 0 = .ok (.aload_n 0, 1) := by decide +kernel
theorem dJxc12de_init_da8c8_1 : decode cJxc12de_init_da8c8 1 = .ok (.invokespecial 1, 3) := by decide +kernel
theorem dJxc12de_init_da8c8_4 : decode cJxc12de_init_da8c8 4 = .ok (.aload_n 0, 1) := by decide +kernel
theorem dJxc12de_init_da8c8_5 : decode cJxc12de_init_da8c8 5 = .ok (.iconst 0, 1) := by decide +kernel
theorem dJxc12de_init_da8c8_6 : decode cJxc12de_init_da8c8 6 = .ok (.putfield 7, 3) := by decide +kernel
theorem dJxc12de_init_da8c8_9 : decode cJxc12de_init_da8c8 9 = .ok (.return_, 1) := by decide +kernel
theorem dJx4a65c_init_da8c8_0 : decode cJx4a65c_init_da8c8 0 = .ok (.aload_n 0, 1) := by decide +kernel
theorem dJx4a65c_init_da8c8_1 : decode cJx4a65c_init_da8c8 1 = .ok (.invokespecial 1, 3) := by decide +kernel
theorem dJx4a65c_init_da8c8_4 : decode cJx4a65c_init_da8c8 4 = .ok (.aload_n 0, 1) := by decide +kernel
theorem dJx4a65c_init_da8c8_5 : decode cJx4a65c_init_da8c8 5 = .ok (.getstatic 39, 3) := by decide +kernel
theorem dJx4a65c_init_da8c8_8 : decode cJx4a65c_init_da8c8 8 = .ok (.putfield 9, 3) := by decide +kernel
theorem dJx4a65c_init_da8c8_11 : decode cJx4a65c_init_da8c8 11 = .ok (.return_, 1) := by decide +kernel
theorem dJx4a65c_size_8abf5_0 : decode cJx4a65c_size_8abf5 0 = .ok (.aload_n 0, 1) := by decide +kernel
theorem dJx4a65c_size_8abf5_1 : decode cJx4a65c_size_8abf5 1 = .ok (.getfield 48, 3) := by decide +kernel
theorem dJx4a65c_size_8abf5_4 : decode cJx4a65c_size_8abf5 4 = .ok (.ireturn, 1) := by decide +kernel
theorem dJx4a65c_isEmpty_aae02_0 : decode cJx4a65c_isEmpty_aae02 0 = .ok (.aload_n 0, 1) := by decide +kernel
theorem dJx4a65c_isEmpty_aae02_1 : decode cJx4a65c_isEmpty_aae02 1 = .ok (.getfield 48, 3) := by decide +kernel
theorem dJx4a65c_isEmpty_aae02_4 : decode cJx4a65c_isEmpty_aae02 4 = .ok (.ifCond .ne 7, 3) := by decide +kernel
theorem dJx4a65c_isEmpty_aae02_7 : decode cJx4a65c_isEmpty_aae02 7 = .ok (.iconst 1, 1) := by decide +kernel
theorem dJx4a65c_isEmpty_aae02_8 : decode cJx4a65c_isEmpty_aae02 8 = .ok (.goto 4, 3) := by decide +kernel
theorem dJx4a65c_isEmpty_aae02_11 : decode cJx4a65c_isEmpty_aae02 11 = .ok (.iconst 0, 1) := by decide +kernel
theorem dJx4a65c_isEmpty_aae02_12 : decode cJx4a65c_isEmpty_aae02 12 = .ok (.ireturn, 1) := by decide +kernel
abbrev vwCl : List vw_C := [(RJx4a65c, TJx4a65c, 3), (RX0, TX0, 4), (RX1, TX1, 3), (RX2, TX2, 3), (RX3, TX3, 8), (RX4, TX4, 11), (RX5, TX5, 4), (RX6, TX6, 12), (RX7, TX7, 3), (RX8, TX8, 8), (RX9, TX9, 8), (RX10, TX10, 2), (RX11, TX11, 19), (RX12, TX12, 67)]
end
section
/-! POOL WALKS: a state is a list of addresses L and what each holds, E -/
abbrev GT : Type := va_G × ClassId × ClassId × ClassId × ClassId × ClassId × Nat
abbrev gT (G : GT) : List (ClassId × FieldType) := [(G.2.1, .int), (G.2.2.1, .boolean), (G.2.2.2.1, .object RX2), (G.2.2.2.2.1, .object RX5), (G.2.2.2.2.2.1, .object "java/lang/Object")]
def ob (ci N : Nat) (f : Nat → Value) : va_E := .inr (ci, (List.range N).map f)
def aI (G : GT) (n : Nat) (f : Nat → Int32) : va_E := .inl (G.2.1, n, .inl f)
def aZ (G : GT) (n : Nat) (f : Nat → Int32) : va_E := .inl (G.2.2.1, n, .inl f)
def aL (G : GT) (n : Nat) (f : Nat → Option Nat) : va_E := .inl (G.2.2.2.1, n, .inr (.inr (.inr (.inr f))))
def aR (G : GT) (n : Nat) (f : Nat → Option Nat) : va_E := .inl (G.2.2.2.2.1, n, .inr (.inr (.inr (.inr f))))
def aO (G : GT) (n : Nat) (f : Nat → Option Nat) : va_E := .inl (G.2.2.2.2.2.1, n, .inr (.inr (.inr (.inr f))))
abbrev g0 (G : GT) : Nat := G.2.2.2.2.2.2
def sZ (G : GT) (A : Nat → Prop) (U : State) (H : Heap) : Prop := va_Z "java/util/ArrayList" "DEFAULTCAPACITY_EMPTY_ELEMENTDATA" "[Ljava/lang/Object;" (.ref (g0 G)) A U H ∧ va_T (.object "java/lang/Object") (g0 G) 0 (fun _ => .null) A U H
def lw_g : List Cond := lw_tbl.filter goodWord
theorem lw_in {w : Cond} (h : w ∈ lw_tbl) (hg : goodWord w = true) : w ∈ lw_g := List.mem_filter.mpr ⟨h, hg⟩
def Nst (U : State) : Prop := (∀ (a : String) (i : Nat) (x : MethodName) (h : String), Cond.methodLinkNest a i x h ∈ lw_tbl → va_Nw (.methodLinkNest a i x h) U) ∧ (∀ C T : String, Cond.castable C T ∈ lw_tbl → va_Nw (.castable C T) U) ∧ (∀ C : String, Cond.arrayOver (.object C) ∈ lw_tbl → va_AO C U)
theorem Nst.of {args : Array Value} {s : State} (h : ∀ w ∈ lw_tbl, w.before args s = true) : Nst s := ⟨fun _ _ _ _ q => va_Nw.of rfl (h _ q), fun _ _ q => va_Nw.of rfl (h _ q), fun _ q => va_AO.of (h _ q)⟩
theorem Nst.warm {s U : State} (hW : s.WarmedH U.vm) (h : Nst s) : Nst U := ⟨fun a i x t q => va_Nw.warmM hW (h.1 a i x t q), fun C T q => va_Nw.warmC hW (h.2.1 C T q), fun C q => va_AO.moved hW.alike (h.2.2 C q)⟩
theorem Nst.same {s U : State} (hv : s.vm = U.vm) (h : Nst s) : Nst U := ⟨fun a i x t q => va_Nw.same rfl hv (h.1 a i x t q), fun C T q => va_Nw.same rfl hv (h.2.1 C T q), fun C q => va_AO.moved (by rw [hv]; exact Vm.Alike.refl _) (h.2.2 C q)⟩
abbrev PT : Type := Option Value → List Nat → (Nat → va_E) → Prop
def Qm (G : GT) (A : Nat → Prop) (Post : PT) : Array Value → State → Outcome → State → Prop := fun _ st oc t => (∃ (v : Option Value) (L' : List Nat) (E' : Nat → va_E), oc = .returned v ∧ Post v L' E' ∧ va_P G.1 vwCl (va_pl L' E') t.heap ∧ va_D A (va_pl L' E')) ∧ va_F A st t
def Cq (p : Program) (s : State) (m : MethodId) (args : Array Value) (meth : Method) (c : Code) (cc : ByteArray) (y : MethodName) (ret : Option FieldType) (G : GT) (A : Nat → Prop) (nL : Nat) : Prop :=
  p.tables.exec = Jvm.exec ∧ c.code = cc ∧ c.maxLocals = nL ∧ s.vm.findClass y.cls = some m.cls ∧ (∀ w ∈ lw_g, w.before args s = true) ∧ va_K G.1 vwCl (gT G) s ∧ (∀ q, s.heap.size ≤ q → A q) ∧ sZ G A s s.heap ∧ meth.sig.returnType = ret ∧ meth.locks = false ∧ meth.name = y.name ∧ Nst s
def wq (p : Program) (l : Launch) (e : Env) (R : Room) (s : State) (m : MethodId) (args : Array Value) (below : List Frame) (meth : Method) (c : Code) (G : GT) (A : Nat → Prop) (nL mc ms : Nat) (Post : PT) (L : List Nat) (E : Nat → va_E) (kc ks pc : Nat) (lv : List (Nat × Value)) (st : List Value) : Prop :=
  ∀ (H : Heap) (locs : List Loc) (ls : Array Slot), va_P G.1 vwCl (va_pl L E) H → va_D A (va_pl L E) → va_S A s.heap H locs → lv_has ls nL lv → W p l e R s m args below meth c H locs kc ks (MQ below (Qm G A Post) args s mc ms A) (F0 m pc ls st)
abbrev rmq (d mc ms : Nat) : Room := { frames := d, cells := mc, slots := ms, locals := 64 * d }
def Pcq (G : GT) (L : List Nat) (E : Nat → va_E) (sz : Nat) (U : State) : Prop := U.heap.size = sz ∧ va_P G.1 vwCl (va_pl L E) U.heap ∧ va_K G.1 vwCl (gT G) U ∧ va_D (fun _ => True) (va_pl L E) ∧ sZ G (va_A (va_pl L E) sz) U U.heap ∧ Nst U
def Mq (l : Launch) (G : GT) (y : MethodName) (cc : ByteArray) (n : Nat) (ret : Option FieldType) (d : Nat) (av : List Value) (L : List Nat) (E : Nat → va_E) (mc ms : Nat) (Post : PT) : Prop :=
  ∀ sz : Nat, Met l y (.code y cc n ret :: lw_g) (rmq d mc ms) (va_Pc av (Pcq G L E sz)) (Qm G (va_A (va_pl L E) sz) Post) mc ms (va_A (va_pl L E) sz)
def Pi (P : Int32 → List Nat → (Nat → va_E) → Prop) : PT := fun v L E => ∃ r : Int32, v = some (.int r) ∧ P r L E
def Pv (P : List Nat → (Nat → va_E) → Prop) : PT := fun v L E => v = none ∧ P L E
def Pr (P : Option Nat → List Nat → (Nat → va_E) → Prop) : PT := fun v L E => ∃ r : Option Nat, v = some (va_rf r) ∧ P r L E
def Ck (ci : Nat) (Cn : String) (T : u_T) (N : Nat) (ty : Nat → FieldType) : Prop := vwCl[ci]? = some (Cn, T, N) ∧ (∀ w ∈ u_ws Cn T N, w ∈ lw_g) ∧ (∀ k, k < N → parseFieldDescriptor (T k).2.2.1 = some (ty k)) ∧ (∀ a, a < N → ∀ b, b < N → a ≠ b → (T a).2.1 ≠ (T b).2.1)
theorem ob_get {N k : Nat} {f : Nat → Value} (h : k < N) : ((List.range N).map f)[k]? = some (f k) := by
  rw [List.getElem?_map, List.getElem?_range h]; rfl
theorem ob_V {N k : Nat} {f : Nat → Value} (h : k < N) : vp_V ((List.range N).map f) k = f k := by
  unfold vp_V; rw [List.getD_eq_getElem?_getD, ob_get h]; rfl
theorem ob_set {N k : Nat} {f : Nat → Value} {v : Value} (h : k < N) : ((List.range N).map f).set k v = (List.range N).map (va_up f k v) := by
  apply List.ext_getElem?
  intro j
  by_cases hj : j < N
  · rw [ob_get hj]
    by_cases e : j = k
    · subst e; rw [List.getElem?_set_self (by simpa using hj), va_up_self]
    · rw [List.getElem?_set_ne (fun q => e q.symm), ob_get hj, va_up_ne _ _ e]
  · rw [List.getElem?_eq_none (by simpa using hj), List.getElem?_eq_none (by simpa using hj)]
theorem pl_at {L : List Nat} {E : Nat → va_E} {a : Nat} (h : a ∈ L) : ∃ k : Nat, (va_pl L E)[k]? = some (a, E a) := by
  obtain ⟨k, hk⟩ := va_pl_get (X := []) (f := E) h
  exact ⟨k, hk⟩
theorem pl_set {A : Nat → Prop} {L : List Nat} {E : Nat → va_E} {a k : Nat} {x : va_E} (hD : va_D A (va_pl L E)) (h : a ∈ L) (hk : (va_pl L E)[k]? = some (a, E a)) : (va_pl L E).set k (a, x) = va_pl L (va_up E a x) := va_pl_set (X := []) hD h hk
theorem pl_free {A : Nat → Prop} {L : List Nat} {E : Nat → va_E} {s : State} {H : Heap} {locs : List Loc} (hD : va_D A (va_pl L E)) (hS : va_S A s.heap H locs) (hA : ∀ q, s.heap.size ≤ q → A q) : ∀ q, va_A (va_pl L E) H.size q → A q := by
  intro q h
  rcases h with ⟨k, x, h⟩ | h
  · exact hD.2 k (q, x) h
  · exact hA q (Nat.le_trans hS.1 h)
theorem sZ.pass {G : GT} {A B : Nat → Prop} {s U : State} {H : Heap} {locs : List Loc} (h : sZ G A s s.heap) (hS : va_S A s.heap H locs) (hB : ∀ q, B q → A q) (hv : s.vm.Alike U.vm) (hU : U.heap = H) : sZ G B U U.heap := by
  rw [hU]
  exact ⟨((h.1.kept (fun a h1 h2 => hS.2.1 a h1 h2)).narrow hB).moved hv, ((h.2.kept (fun a h1 h2 => hS.2.1 a h1 h2)).narrow hB).moved hv⟩
theorem Pcq.blind {G : GT} {L : List Nat} {E : Nat → va_E} {sz : Nat} {av : List Value} : FrameBlind (va_Pc av (Pcq G L E sz)) := by
  intro a U g mk q
  obtain ⟨q0, q1, qP, qK, qD, qZ, qN⟩ := q
  exact ⟨q0, q1, qP, va_K.moved (u := U) (U := U.calling g mk a) (Vm.Alike.refl U.vm) qK, qD, ⟨va_Z.moved (u := U) (U := U.calling g mk a) (Vm.Alike.refl U.vm) qZ.1, va_T.moved (u := U) (U := U.calling g mk a) (Vm.Alike.refl U.vm) qZ.2⟩, Nst.same (s := U) (U := U.calling g mk a) rfl qN⟩
theorem lw_good : lw_g.all goodWord = true := by
  rw [List.all_eq_true]
  intro w hw
  exact (List.mem_filter.mp hw).2
theorem lw_goodIn {y : MethodName} {cc : ByteArray} {n : Nat} {ret : Option FieldType} (h : Cond.code y cc n ret ∈ lw_g) : GoodIn lw_g (.code y cc n ret :: lw_g) := by
  intro w hw
  have hm : w ∈ lw_g := by
    rcases List.mem_cons.mp hw with e | e
    · rw [e]; exact h
    · exact e
  exact ⟨hm, good_of_word (List.all_eq_true.mp lw_good w hm)⟩

theorem ne_in {a q : Nat} {L : List Nat} (h : a ∈ L) (n : q ∉ L) : a ≠ q := fun z => n (z ▸ h)
theorem ne_ob {E : Nat → va_E} {a b ci cj N M : Nat} {f g : Nat → Value} (h1 : E a = ob ci N f) (h2 : E b = ob cj M g) (h : ci ≠ cj) : a ≠ b := by
  intro z; subst z; rw [h1] at h2; unfold ob at h2
  exact h (congrArg Prod.fst (Sum.inr.inj h2))
theorem ne_oI {G : GT} {E : Nat → va_E} {a b ci N n : Nat} {f : Nat → Value} {g : Nat → Int32} (h1 : E a = ob ci N f) (h2 : E b = aI G n g) : a ≠ b := by
  intro z; subst z; rw [h1] at h2; unfold ob aI at h2; cases h2
theorem ne_oZ {G : GT} {E : Nat → va_E} {a b ci N n : Nat} {f : Nat → Value} {g : Nat → Int32} (h1 : E a = ob ci N f) (h2 : E b = aZ G n g) : a ≠ b := by
  intro z; subst z; rw [h1] at h2; unfold ob aZ at h2; cases h2
theorem i32_lt {a b : Int32} : a < b ↔ a.toInt < b.toInt := Int32.lt_iff_toInt_lt
theorem i32_le {a b : Int32} : a ≤ b ↔ a.toInt ≤ b.toInt := Int32.le_iff_toInt_le
theorem i32_eq {a b : Int32} : a = b ↔ a.toInt = b.toInt := Int32.toInt_inj.symm
def inn (x lo hi : Int32) : Int32 := if lo ≤ x ∧ x ≤ hi then 1 else 0
theorem inn_f {x lo hi : Int32} : inn x lo hi = 0 ↔ ¬ (lo ≤ x ∧ x ≤ hi) := by
  unfold inn; split
  · rename_i h; exact ⟨fun q => absurd q (by decide), fun q => absurd h q⟩
  · rename_i h; exact ⟨fun _ => h, fun _ => rfl⟩
theorem inn_01 {x lo hi : Int32} : narrow .boolean (.int (inn x lo hi)) = .int (inn x lo hi) := by
  unfold inn; split <;> decide
theorem tn_m1 : ((-1) : Int32).toInt = -1 := rfl
theorem tn_0 : ((0) : Int32).toInt = 0 := rfl
theorem tn_1 : ((1) : Int32).toInt = 1 := rfl
theorem tn_2 : ((2) : Int32).toInt = 2 := rfl
theorem tn_3 : ((3) : Int32).toInt = 3 := rfl
theorem tn_4 : ((4) : Int32).toInt = 4 := rfl
theorem tn_5 : ((5) : Int32).toInt = 5 := rfl
theorem tn_6 : ((6) : Int32).toInt = 6 := rfl
theorem tn_7 : ((7) : Int32).toInt = 7 := rfl
theorem tn_8 : ((8) : Int32).toInt = 8 := rfl
theorem tn_10 : ((10) : Int32).toInt = 10 := rfl
theorem tn_30 : ((30) : Int32).toInt = 30 := rfl
theorem tn_31 : ((31) : Int32).toInt = 31 := rfl
theorem tn_32 : ((32) : Int32).toInt = 32 := rfl
theorem tn_36 : ((36) : Int32).toInt = 36 := rfl
theorem tn_40 : ((40) : Int32).toInt = 40 := rfl
theorem tn_50 : ((50) : Int32).toInt = 50 := rfl
theorem tn_100 : ((100) : Int32).toInt = 100 := rfl
theorem tn_126 : ((126) : Int32).toInt = 126 := rfl
theorem tn_200 : ((200) : Int32).toInt = 200 := rfl
theorem tn_255 : ((255) : Int32).toInt = 255 := rfl
theorem tn_500 : ((500) : Int32).toInt = 500 := rfl
theorem tn_512 : ((512) : Int32).toInt = 512 := rfl
theorem tn_3000 : ((3000) : Int32).toInt = 3000 := rfl
theorem tn_5000 : ((5000) : Int32).toInt = 5000 := rfl
section PQ
variable {p : Program} {l : Launch} {e : Env} {R : Room} {s : State} {m : MethodId} {args : Array Value} {below : List Frame} {meth : Method} {c : Code} {cc : ByteArray} {y : MethodName} {ret : Option FieldType} {G : GT} {A : Nat → Prop} {nL mc ms : Nat} {Post : PT} {L : List Nat} {E : Nat → va_E} {kc ks pc : Nat} {lv : List (Nat × Value)} {st : List Value}

theorem Mq.mk {n d : Nat} {av : List Value} (hy : plainName y.cls = true) (hn : (lg_sl av).length ≤ n) (body : ∀ (p : Program) (e : Env) (s : State) (m : MethodId) (args : Array Value) (below : List Frame) (meth : Method) (c : Code) (A : Nat → Prop), Cq p s m args meth c cc y ret G A n → wq p l e (rmq d mc ms) s m args below meth c G A n mc ms Post L E 0 0 0 (lv_args 0 av) []) : Mq l G y cc n ret d av L E mc ms Post := by
  intro sz
  refine Met.ofW (cc := cc) (maxL := n) (ret := ret) hy rfl ?_
  intro p e s m args below meth c s₁ B hml hv
  obtain ⟨rfl, hsz, hP, hK, hD0, hZ, hN⟩ := hv
  subst hsz
  have hts := atoms_spec (ws := .code y cc n ret :: lw_g) B.pre
  have hl := lv_entry av (n := n) hn
  rw [lg_entry_eq]
  have hown := findClass_of_methodNamed B.named
  exact body p e s m _ below meth c _ ⟨B.exec, B.bytes, hml, hown, fun w hw => hts w (List.mem_cons_of_mem _ hw), hK, fun q h => Or.inr h, hZ, B.returns, B.notSynchronized, (name_of_methodNamed B.named B.method).1, hN⟩ s.heap [] _ hP hD0.self va_S.rf hl

theorem q_iconst (C : Cq p s m args meth c cc y ret G A nL) {n : Int} {v : Int32} (d : decode cc pc = .ok (.iconst n, 1)) (hv : Int32.ofInt n = v) (k : wq p l e R s m args below meth c G A nL mc ms Post L E kc ks (pc + 1) lv (.int v :: st)) : wq p l e R s m args below meth c G A nL mc ms Post L E kc ks pc lv st := fun H locs ls hP hD hS hl => lv_iconst C.1 C.2.1 d hv (k H locs ls hP hD hS hl)
theorem q_bipush (C : Cq p s m args meth c cc y ret G A nL) {n : Int} {v : Int32} (d : decode cc pc = .ok (.bipush n, 2)) (hv : (Int8.ofInt n).toInt32 = v) (k : wq p l e R s m args below meth c G A nL mc ms Post L E kc ks (pc + 2) lv (.int v :: st)) : wq p l e R s m args below meth c G A nL mc ms Post L E kc ks pc lv st := fun H locs ls hP hD hS hl => lv_bipush C.1 C.2.1 d hv (k H locs ls hP hD hS hl)
theorem q_sipush (C : Cq p s m args meth c cc y ret G A nL) {n : Int} {v : Int32} (d : decode cc pc = .ok (.sipush n, 3)) (hv : (Int16.ofInt n).toInt32 = v) (k : wq p l e R s m args below meth c G A nL mc ms Post L E kc ks (pc + 3) lv (.int v :: st)) : wq p l e R s m args below meth c G A nL mc ms Post L E kc ks pc lv st := fun H locs ls hP hD hS hl => lv_sipush C.1 C.2.1 d hv (k H locs ls hP hD hS hl)
theorem q_ldc (C : Cq p s m args meth c cc y ret G A nL) {idx : Nat} {v : Int32} (d : decode cc pc = .ok (.ldc idx, 2)) (hc : Cond.constant y.cls idx v ∈ lw_g) (k : wq p l e R s m args below meth c G A nL mc ms Post L E kc ks (pc + 2) lv (.int v :: st)) : wq p l e R s m args below meth c G A nL mc ms Post L E kc ks pc lv st := fun H locs ls hP hD hS hl => lv_ldc C.1 C.2.1 C.2.2.2.1 (C.2.2.2.2.1 _ hc) d (k H locs ls hP hD hS hl)
theorem q_ldcw (C : Cq p s m args meth c cc y ret G A nL) {idx : Nat} {v : Int32} (d : decode cc pc = .ok (.ldc_w idx, 3)) (hc : Cond.constant y.cls idx v ∈ lw_g) (k : wq p l e R s m args below meth c G A nL mc ms Post L E kc ks (pc + 3) lv (.int v :: st)) : wq p l e R s m args below meth c G A nL mc ms Post L E kc ks pc lv st := fun H locs ls hP hD hS hl => lv_ldcw C.1 C.2.1 C.2.2.2.1 (C.2.2.2.2.1 _ hc) d (k H locs ls hP hD hS hl)
theorem q_i2l (C : Cq p s m args meth c cc y ret G A nL) {x : Int32} {v : Int64} (d : decode cc pc = .ok (.i2l, 1)) (hv : x.toInt64 = v) (k : wq p l e R s m args below meth c G A nL mc ms Post L E kc ks (pc + 1) lv (.long v :: st)) : wq p l e R s m args below meth c G A nL mc ms Post L E kc ks pc lv (.int x :: st) := fun H locs ls hP hD hS hl => lv_i2l C.1 C.2.1 d hv (k H locs ls hP hD hS hl)
theorem q_l2i (C : Cq p s m args meth c cc y ret G A nL) {x : Int64} {v : Int32} (d : decode cc pc = .ok (.l2i, 1)) (hv : x.toInt32 = v) (k : wq p l e R s m args below meth c G A nL mc ms Post L E kc ks (pc + 1) lv (.int v :: st)) : wq p l e R s m args below meth c G A nL mc ms Post L E kc ks pc lv (.long x :: st) := fun H locs ls hP hD hS hl => lv_l2i C.1 C.2.1 d hv (k H locs ls hP hD hS hl)
theorem q_ladd (C : Cq p s m args meth c cc y ret G A nL) {x y2 v : Int64} (d : decode cc pc = .ok (.ladd, 1)) (hv : x + y2 = v) (k : wq p l e R s m args below meth c G A nL mc ms Post L E kc ks (pc + 1) lv (.long v :: st)) : wq p l e R s m args below meth c G A nL mc ms Post L E kc ks pc lv (.long y2 :: .long x :: st) := fun H locs ls hP hD hS hl => lv_ladd C.1 C.2.1 d (hv ▸ (k H locs ls hP hD hS hl))
theorem q_lconst (C : Cq p s m args meth c cc y ret G A nL) {n : Fin 2} {v : Int64} (d : decode cc pc = .ok (.lconst n, 1)) (hv : Int64.ofNat (n : Nat) = v) (k : wq p l e R s m args below meth c G A nL mc ms Post L E kc ks (pc + 1) lv (.long v :: st)) : wq p l e R s m args below meth c G A nL mc ms Post L E kc ks pc lv st := fun H locs ls hP hD hS hl => lv_lconst C.1 C.2.1 d hv (k H locs ls hP hD hS hl)
theorem q_lload (C : Cq p s m args meth c cc y ret G A nL) {i j : Nat} {x : Int64} (d : decode cc pc = .ok (.lload i, 2)) (hj : lv[j]? = some (i, .long x)) (k : wq p l e R s m args below meth c G A nL mc ms Post L E kc ks (pc + 2) lv (.long x :: st)) : wq p l e R s m args below meth c G A nL mc ms Post L E kc ks pc lv st := fun H locs ls hP hD hS hl => lv_lload C.1 C.2.1 d (lv_at hl j hj) (k H locs ls hP hD hS hl)
theorem q_lcmp (C : Cq p s m args meth c cc y ret G A nL) {x y2 : Int64} {v : Int32} (d : decode cc pc = .ok (.lcmp, 1)) (hv : lg_cmp x y2 = v) (k : wq p l e R s m args below meth c G A nL mc ms Post L E kc ks (pc + 1) lv (.int v :: st)) : wq p l e R s m args below meth c G A nL mc ms Post L E kc ks pc lv (.long y2 :: .long x :: st) := fun H locs ls hP hD hS hl => W.lcmp C.1 C.2.1 d (hv ▸ (k H locs ls hP hD hS hl))
theorem q_lstore (C : Cq p s m args meth c cc y ret G A nL) {i : Nat} {x : Int64} {lv2 : List (Nat × Value)} (d : decode cc pc = .ok (.lstore i, 2)) (hn : i + 1 < nL) (hl : (i, Value.long x) :: lv.filter (fun q => !(q.1 == i) && (!(q.1 == i + 1) && !(q.1 + 1 == i && q.2.category == 2))) = lv2) (k : wq p l e R s m args below meth c G A nL mc ms Post L E kc ks (pc + 2) lv2 st) : wq p l e R s m args below meth c G A nL mc ms Post L E kc ks pc lv (Value.long x :: st) := fun H locs ls hP hD hS h => lv_lstore C.1 C.2.1 d h hn hl (fun ls h => k H locs ls hP hD hS h)
theorem q_null (C : Cq p s m args meth c cc y ret G A nL)  (d : decode cc pc = .ok (.aconst_null, 1))  (k : wq p l e R s m args below meth c G A nL mc ms Post L E kc ks (pc + 1) lv (.null :: st)) : wq p l e R s m args below meth c G A nL mc ms Post L E kc ks pc lv st := fun H locs ls hP hD hS hl => lv_null C.1 C.2.1 d (k H locs ls hP hD hS hl)
theorem q_iload_n (C : Cq p s m args meth c cc y ret G A nL) {i : Fin 4} {j : Nat} {x : Int32} (d : decode cc pc = .ok (.iload_n i, 1)) (hj : lv[j]? = some ((i : Nat), .int x)) (k : wq p l e R s m args below meth c G A nL mc ms Post L E kc ks (pc + 1) lv (.int x :: st)) : wq p l e R s m args below meth c G A nL mc ms Post L E kc ks pc lv st := fun H locs ls hP hD hS hl => lv_iload_n C.1 C.2.1 d rfl (lv_at hl j hj) (k H locs ls hP hD hS hl)
theorem q_iload (C : Cq p s m args meth c cc y ret G A nL) {i : Nat} {j : Nat} {x : Int32} (d : decode cc pc = .ok (.iload i, 2)) (hj : lv[j]? = some (i, .int x)) (k : wq p l e R s m args below meth c G A nL mc ms Post L E kc ks (pc + 2) lv (.int x :: st)) : wq p l e R s m args below meth c G A nL mc ms Post L E kc ks pc lv st := fun H locs ls hP hD hS hl => lv_iload C.1 C.2.1 d (lv_at hl j hj) (k H locs ls hP hD hS hl)
theorem q_aload_n (C : Cq p s m args meth c cc y ret G A nL) {i : Fin 4} {j : Nat} {x : Nat} (d : decode cc pc = .ok (.aload_n i, 1)) (hj : lv[j]? = some ((i : Nat), .ref x)) (k : wq p l e R s m args below meth c G A nL mc ms Post L E kc ks (pc + 1) lv (.ref x :: st)) : wq p l e R s m args below meth c G A nL mc ms Post L E kc ks pc lv st := fun H locs ls hP hD hS hl => lv_aload_n C.1 C.2.1 d rfl (lv_at hl j hj) (k H locs ls hP hD hS hl)
theorem q_aload (C : Cq p s m args meth c cc y ret G A nL) {i : Nat} {j : Nat} {x : Nat} (d : decode cc pc = .ok (.aload i, 2)) (hj : lv[j]? = some (i, .ref x)) (k : wq p l e R s m args below meth c G A nL mc ms Post L E kc ks (pc + 2) lv (.ref x :: st)) : wq p l e R s m args below meth c G A nL mc ms Post L E kc ks pc lv st := fun H locs ls hP hD hS hl => lv_aload C.1 C.2.1 d (lv_at hl j hj) (k H locs ls hP hD hS hl)
theorem q_aload_nN (C : Cq p s m args meth c cc y ret G A nL) {i : Fin 4} {j : Nat} (d : decode cc pc = .ok (.aload_n i, 1)) (hj : lv[j]? = some ((i : Nat), .null)) (k : wq p l e R s m args below meth c G A nL mc ms Post L E kc ks (pc + 1) lv (.null :: st)) : wq p l e R s m args below meth c G A nL mc ms Post L E kc ks pc lv st := fun H locs ls hP hD hS hl => lv_aload_nN C.1 C.2.1 d rfl (lv_at hl j hj) (k H locs ls hP hD hS hl)
theorem q_aloadN (C : Cq p s m args meth c cc y ret G A nL) {i : Nat} {j : Nat} (d : decode cc pc = .ok (.aload i, 2)) (hj : lv[j]? = some (i, .null)) (k : wq p l e R s m args below meth c G A nL mc ms Post L E kc ks (pc + 2) lv (.null :: st)) : wq p l e R s m args below meth c G A nL mc ms Post L E kc ks pc lv st := fun H locs ls hP hD hS hl => lv_aloadN C.1 C.2.1 d (lv_at hl j hj) (k H locs ls hP hD hS hl)
theorem q_istore_n (C : Cq p s m args meth c cc y ret G A nL) {i : Fin 4} {x : Int32} {lv2 : List (Nat × Value)} (d : decode cc pc = .ok (.istore_n i, 1)) (hn : (i : Nat) < nL) (hl : ((i : Nat), Value.int x) :: lv.filter (fun q => !(q.1 == (i : Nat)) && !(q.1 + 1 == (i : Nat) && q.2.category == 2)) = lv2) (k : wq p l e R s m args below meth c G A nL mc ms Post L E kc ks (pc + 1) lv2 st) : wq p l e R s m args below meth c G A nL mc ms Post L E kc ks pc lv (Value.int x :: st) := fun H locs ls hP hD hS h => lv_istore_n C.1 C.2.1 d rfl h hn hl (fun ls h => k H locs ls hP hD hS h)
theorem q_istore (C : Cq p s m args meth c cc y ret G A nL) {i : Nat} {x : Int32} {lv2 : List (Nat × Value)} (d : decode cc pc = .ok (.istore i, 2)) (hn : i < nL) (hl : (i, Value.int x) :: lv.filter (fun q => !(q.1 == i) && !(q.1 + 1 == i && q.2.category == 2)) = lv2) (k : wq p l e R s m args below meth c G A nL mc ms Post L E kc ks (pc + 2) lv2 st) : wq p l e R s m args below meth c G A nL mc ms Post L E kc ks pc lv (Value.int x :: st) := fun H locs ls hP hD hS h => lv_istore C.1 C.2.1 d h hn hl (fun ls h => k H locs ls hP hD hS h)
theorem q_astore_n (C : Cq p s m args meth c cc y ret G A nL) {i : Fin 4} {x : Nat} {lv2 : List (Nat × Value)} (d : decode cc pc = .ok (.astore_n i, 1)) (hn : (i : Nat) < nL) (hl : ((i : Nat), Value.ref x) :: lv.filter (fun q => !(q.1 == (i : Nat)) && !(q.1 + 1 == (i : Nat) && q.2.category == 2)) = lv2) (k : wq p l e R s m args below meth c G A nL mc ms Post L E kc ks (pc + 1) lv2 st) : wq p l e R s m args below meth c G A nL mc ms Post L E kc ks pc lv (Value.ref x :: st) := fun H locs ls hP hD hS h => lv_astore_n C.1 C.2.1 d rfl h hn hl (fun ls h => k H locs ls hP hD hS h)
theorem q_astore (C : Cq p s m args meth c cc y ret G A nL) {i : Nat} {x : Nat} {lv2 : List (Nat × Value)} (d : decode cc pc = .ok (.astore i, 2)) (hn : i < nL) (hl : (i, Value.ref x) :: lv.filter (fun q => !(q.1 == i) && !(q.1 + 1 == i && q.2.category == 2)) = lv2) (k : wq p l e R s m args below meth c G A nL mc ms Post L E kc ks (pc + 2) lv2 st) : wq p l e R s m args below meth c G A nL mc ms Post L E kc ks pc lv (Value.ref x :: st) := fun H locs ls hP hD hS h => lv_astore C.1 C.2.1 d h hn hl (fun ls h => k H locs ls hP hD hS h)
theorem q_astore_nN (C : Cq p s m args meth c cc y ret G A nL) {i : Fin 4}  {lv2 : List (Nat × Value)} (d : decode cc pc = .ok (.astore_n i, 1)) (hn : (i : Nat) < nL) (hl : ((i : Nat), Value.null) :: lv.filter (fun q => !(q.1 == (i : Nat)) && !(q.1 + 1 == (i : Nat) && q.2.category == 2)) = lv2) (k : wq p l e R s m args below meth c G A nL mc ms Post L E kc ks (pc + 1) lv2 st) : wq p l e R s m args below meth c G A nL mc ms Post L E kc ks pc lv (Value.null :: st) := fun H locs ls hP hD hS h => lv_astore_nN C.1 C.2.1 d rfl h hn hl (fun ls h => k H locs ls hP hD hS h)
theorem q_astoreN (C : Cq p s m args meth c cc y ret G A nL) {i : Nat}  {lv2 : List (Nat × Value)} (d : decode cc pc = .ok (.astore i, 2)) (hn : i < nL) (hl : (i, Value.null) :: lv.filter (fun q => !(q.1 == i) && !(q.1 + 1 == i && q.2.category == 2)) = lv2) (k : wq p l e R s m args below meth c G A nL mc ms Post L E kc ks (pc + 2) lv2 st) : wq p l e R s m args below meth c G A nL mc ms Post L E kc ks pc lv (Value.null :: st) := fun H locs ls hP hD hS h => lv_astoreN C.1 C.2.1 d h hn hl (fun ls h => k H locs ls hP hD hS h)
theorem q_iinc (C : Cq p s m args meth c cc y ret G A nL) {i j : Nat} {n : Int} {x v : Int32} {lv2 : List (Nat × Value)} (d : decode cc pc = .ok (.iinc i n, 3)) (hj : lv[j]? = some (i, .int x)) (hv : x + Int32.ofInt n = v) (hn : i < nL) (hl : (i, Value.int v) :: lv.filter (fun q => !(q.1 == i) && !(q.1 + 1 == i && q.2.category == 2)) = lv2) (k : wq p l e R s m args below meth c G A nL mc ms Post L E kc ks (pc + 3) lv2 st) : wq p l e R s m args below meth c G A nL mc ms Post L E kc ks pc lv st := fun H locs ls hP hD hS h => lv_iinc C.1 C.2.1 d h hj hv hn hl (fun ls h => k H locs ls hP hD hS h)
theorem q_iadd (C : Cq p s m args meth c cc y ret G A nL) {x y2 v : Int32} (d : decode cc pc = .ok (.iadd, 1)) (hv : x + y2 = v) (k : wq p l e R s m args below meth c G A nL mc ms Post L E kc ks (pc + 1) lv (.int v :: st)) : wq p l e R s m args below meth c G A nL mc ms Post L E kc ks pc lv (.int y2 :: .int x :: st) := fun H locs ls hP hD hS hl => lv_iadd C.1 C.2.1 d (hv ▸ (k H locs ls hP hD hS hl))
theorem q_isub (C : Cq p s m args meth c cc y ret G A nL) {x y2 v : Int32} (d : decode cc pc = .ok (.isub, 1)) (hv : x - y2 = v) (k : wq p l e R s m args below meth c G A nL mc ms Post L E kc ks (pc + 1) lv (.int v :: st)) : wq p l e R s m args below meth c G A nL mc ms Post L E kc ks pc lv (.int y2 :: .int x :: st) := fun H locs ls hP hD hS hl => lv_isub C.1 C.2.1 d (hv ▸ (k H locs ls hP hD hS hl))
theorem q_imul (C : Cq p s m args meth c cc y ret G A nL) {x y2 v : Int32} (d : decode cc pc = .ok (.imul, 1)) (hv : x * y2 = v) (k : wq p l e R s m args below meth c G A nL mc ms Post L E kc ks (pc + 1) lv (.int v :: st)) : wq p l e R s m args below meth c G A nL mc ms Post L E kc ks pc lv (.int y2 :: .int x :: st) := fun H locs ls hP hD hS hl => lv_imul C.1 C.2.1 d (hv ▸ (k H locs ls hP hD hS hl))
theorem q_iand (C : Cq p s m args meth c cc y ret G A nL) {x y2 v : Int32} (d : decode cc pc = .ok (.iand, 1)) (hv : x &&& y2 = v) (k : wq p l e R s m args below meth c G A nL mc ms Post L E kc ks (pc + 1) lv (.int v :: st)) : wq p l e R s m args below meth c G A nL mc ms Post L E kc ks pc lv (.int y2 :: .int x :: st) := fun H locs ls hP hD hS hl => lv_iand C.1 C.2.1 d (hv ▸ (k H locs ls hP hD hS hl))
theorem q_ior (C : Cq p s m args meth c cc y ret G A nL) {x y2 v : Int32} (d : decode cc pc = .ok (.ior, 1)) (hv : x ||| y2 = v) (k : wq p l e R s m args below meth c G A nL mc ms Post L E kc ks (pc + 1) lv (.int v :: st)) : wq p l e R s m args below meth c G A nL mc ms Post L E kc ks pc lv (.int y2 :: .int x :: st) := fun H locs ls hP hD hS hl => lv_ior C.1 C.2.1 d (hv ▸ (k H locs ls hP hD hS hl))
theorem q_ixor (C : Cq p s m args meth c cc y ret G A nL) {x y2 v : Int32} (d : decode cc pc = .ok (.ixor, 1)) (hv : x ^^^ y2 = v) (k : wq p l e R s m args below meth c G A nL mc ms Post L E kc ks (pc + 1) lv (.int v :: st)) : wq p l e R s m args below meth c G A nL mc ms Post L E kc ks pc lv (.int y2 :: .int x :: st) := fun H locs ls hP hD hS hl => lv_ixor C.1 C.2.1 d (hv ▸ (k H locs ls hP hD hS hl))
theorem q_ishl (C : Cq p s m args meth c cc y ret G A nL) {x y2 v : Int32} (d : decode cc pc = .ok (.ishl, 1)) (hv : x <<< (y2 &&& 31) = v) (k : wq p l e R s m args below meth c G A nL mc ms Post L E kc ks (pc + 1) lv (.int v :: st)) : wq p l e R s m args below meth c G A nL mc ms Post L E kc ks pc lv (.int y2 :: .int x :: st) := fun H locs ls hP hD hS hl => lv_ishl C.1 C.2.1 d (hv ▸ (k H locs ls hP hD hS hl))
theorem q_ishr (C : Cq p s m args meth c cc y ret G A nL) {x y2 v : Int32} (d : decode cc pc = .ok (.ishr, 1)) (hv : x >>> (y2 &&& 31) = v) (k : wq p l e R s m args below meth c G A nL mc ms Post L E kc ks (pc + 1) lv (.int v :: st)) : wq p l e R s m args below meth c G A nL mc ms Post L E kc ks pc lv (.int y2 :: .int x :: st) := fun H locs ls hP hD hS hl => lv_ishr C.1 C.2.1 d (hv ▸ (k H locs ls hP hD hS hl))
theorem q_iushr (C : Cq p s m args meth c cc y ret G A nL) {x y2 v : Int32} (d : decode cc pc = .ok (.iushr, 1)) (hv : (x.toUInt32 >>> (y2.toUInt32 &&& Int32.toUInt32 31)).toInt32 = v) (k : wq p l e R s m args below meth c G A nL mc ms Post L E kc ks (pc + 1) lv (.int v :: st)) : wq p l e R s m args below meth c G A nL mc ms Post L E kc ks pc lv (.int y2 :: .int x :: st) := fun H locs ls hP hD hS hl => lv_iushr C.1 C.2.1 d hv (k H locs ls hP hD hS hl)
theorem q_idiv (C : Cq p s m args meth c cc y ret G A nL) {x y2 v : Int32} (d : decode cc pc = .ok (.idiv, 1)) (hne : ¬ y2 = 0) (hv : x / y2 = v) (k : wq p l e R s m args below meth c G A nL mc ms Post L E kc ks (pc + 1) lv (.int v :: st)) : wq p l e R s m args below meth c G A nL mc ms Post L E kc ks pc lv (.int y2 :: .int x :: st) := fun H locs ls hP hD hS hl => lv_idiv C.1 C.2.1 d hne (hv ▸ (k H locs ls hP hD hS hl))
theorem q_ineg (C : Cq p s m args meth c cc y ret G A nL) {x v : Int32} (d : decode cc pc = .ok (.ineg, 1)) (hv : -x = v) (k : wq p l e R s m args below meth c G A nL mc ms Post L E kc ks (pc + 1) lv (.int v :: st)) : wq p l e R s m args below meth c G A nL mc ms Post L E kc ks pc lv (.int x :: st) := fun H locs ls hP hD hS hl => lv_ineg C.1 C.2.1 d (hv ▸ (k H locs ls hP hD hS hl))
theorem q_dup (C : Cq p s m args meth c cc y ret G A nL) {v : Value} (d : decode cc pc = .ok (.dup, 1)) (hv : v.category = 1) (k : wq p l e R s m args below meth c G A nL mc ms Post L E kc ks (pc + 1) lv (v :: v :: st)) : wq p l e R s m args below meth c G A nL mc ms Post L E kc ks pc lv (v :: st) := fun H locs ls hP hD hS hl => lv_dup C.1 C.2.1 d hv (k H locs ls hP hD hS hl)
theorem q_pop (C : Cq p s m args meth c cc y ret G A nL) {v : Value} (d : decode cc pc = .ok (.pop, 1)) (hv : v.category = 1) (k : wq p l e R s m args below meth c G A nL mc ms Post L E kc ks (pc + 1) lv st) : wq p l e R s m args below meth c G A nL mc ms Post L E kc ks pc lv (v :: st) := fun H locs ls hP hD hS hl => lv_pop C.1 C.2.1 d hv (k H locs ls hP hD hS hl)
theorem q_dup_x1 (C : Cq p s m args meth c cc y ret G A nL) {v w : Value} (d : decode cc pc = .ok (.dup_x1, 1)) (hv : v.category = 1) (hw : w.category = 1) (k : wq p l e R s m args below meth c G A nL mc ms Post L E kc ks (pc + 1) lv (v :: w :: v :: st)) : wq p l e R s m args below meth c G A nL mc ms Post L E kc ks pc lv (v :: w :: st) := fun H locs ls hP hD hS hl => lv_dup_x1 C.1 C.2.1 d hv hw (k H locs ls hP hD hS hl)
theorem q_dup_x2 (C : Cq p s m args meth c cc y ret G A nL) {v w u : Value} (d : decode cc pc = .ok (.dup_x2, 1)) (hv : v.category = 1) (hw : w.category = 1) (hu : u.category = 1) (k : wq p l e R s m args below meth c G A nL mc ms Post L E kc ks (pc + 1) lv (v :: w :: u :: v :: st)) : wq p l e R s m args below meth c G A nL mc ms Post L E kc ks pc lv (v :: w :: u :: st) := fun H locs ls hP hD hS hl => lv_dup_x2 C.1 C.2.1 d hv hw hu (k H locs ls hP hD hS hl)
theorem q_dup2 (C : Cq p s m args meth c cc y ret G A nL) {v w : Value} (d : decode cc pc = .ok (.dup2, 1)) (hv : v.category = 1) (hw : w.category = 1) (k : wq p l e R s m args below meth c G A nL mc ms Post L E kc ks (pc + 1) lv (v :: w :: v :: w :: st)) : wq p l e R s m args below meth c G A nL mc ms Post L E kc ks pc lv (v :: w :: st) := fun H locs ls hP hD hS hl => lv_dup2_11 C.1 C.2.1 d hv hw (k H locs ls hP hD hS hl)
theorem q_if_eq (C : Cq p s m args meth c cc y ret G A nL) {x : Int32} {off : Int} {tgt : Nat} (d : decode cc pc = .ok (.ifCond .eq off, 3)) (ht : (pc : Int) + off = (tgt : Int)) (kt : x = 0 → wq p l e R s m args below meth c G A nL mc ms Post L E kc ks tgt lv st) (kf : ¬ x = 0 → wq p l e R s m args below meth c G A nL mc ms Post L E kc ks (pc + 3) lv st) : wq p l e R s m args below meth c G A nL mc ms Post L E kc ks pc lv (.int x :: st) := fun H locs ls hP hD hS hl => lv_if_eq C.1 C.2.1 d ht (fun h => kt h H locs ls hP hD hS hl) (fun h => kf h H locs ls hP hD hS hl)
theorem q_if_ne (C : Cq p s m args meth c cc y ret G A nL) {x : Int32} {off : Int} {tgt : Nat} (d : decode cc pc = .ok (.ifCond .ne off, 3)) (ht : (pc : Int) + off = (tgt : Int)) (kt : ¬ x = 0 → wq p l e R s m args below meth c G A nL mc ms Post L E kc ks tgt lv st) (kf : x = 0 → wq p l e R s m args below meth c G A nL mc ms Post L E kc ks (pc + 3) lv st) : wq p l e R s m args below meth c G A nL mc ms Post L E kc ks pc lv (.int x :: st) := fun H locs ls hP hD hS hl => lv_if_ne C.1 C.2.1 d ht (fun h => kt h H locs ls hP hD hS hl) (fun h => kf h H locs ls hP hD hS hl)
theorem q_if_lt (C : Cq p s m args meth c cc y ret G A nL) {x : Int32} {off : Int} {tgt : Nat} (d : decode cc pc = .ok (.ifCond .lt off, 3)) (ht : (pc : Int) + off = (tgt : Int)) (kt : x < 0 → wq p l e R s m args below meth c G A nL mc ms Post L E kc ks tgt lv st) (kf : ¬ x < 0 → wq p l e R s m args below meth c G A nL mc ms Post L E kc ks (pc + 3) lv st) : wq p l e R s m args below meth c G A nL mc ms Post L E kc ks pc lv (.int x :: st) := fun H locs ls hP hD hS hl => lv_if_lt C.1 C.2.1 d ht (fun h => kt h H locs ls hP hD hS hl) (fun h => kf h H locs ls hP hD hS hl)
theorem q_if_ge (C : Cq p s m args meth c cc y ret G A nL) {x : Int32} {off : Int} {tgt : Nat} (d : decode cc pc = .ok (.ifCond .ge off, 3)) (ht : (pc : Int) + off = (tgt : Int)) (kt : 0 ≤ x → wq p l e R s m args below meth c G A nL mc ms Post L E kc ks tgt lv st) (kf : ¬ 0 ≤ x → wq p l e R s m args below meth c G A nL mc ms Post L E kc ks (pc + 3) lv st) : wq p l e R s m args below meth c G A nL mc ms Post L E kc ks pc lv (.int x :: st) := fun H locs ls hP hD hS hl => lv_if_ge C.1 C.2.1 d ht (fun h => kt h H locs ls hP hD hS hl) (fun h => kf h H locs ls hP hD hS hl)
theorem q_if_gt (C : Cq p s m args meth c cc y ret G A nL) {x : Int32} {off : Int} {tgt : Nat} (d : decode cc pc = .ok (.ifCond .gt off, 3)) (ht : (pc : Int) + off = (tgt : Int)) (kt : 0 < x → wq p l e R s m args below meth c G A nL mc ms Post L E kc ks tgt lv st) (kf : ¬ 0 < x → wq p l e R s m args below meth c G A nL mc ms Post L E kc ks (pc + 3) lv st) : wq p l e R s m args below meth c G A nL mc ms Post L E kc ks pc lv (.int x :: st) := fun H locs ls hP hD hS hl => lv_if_gt C.1 C.2.1 d ht (fun h => kt h H locs ls hP hD hS hl) (fun h => kf h H locs ls hP hD hS hl)
theorem q_if_le (C : Cq p s m args meth c cc y ret G A nL) {x : Int32} {off : Int} {tgt : Nat} (d : decode cc pc = .ok (.ifCond .le off, 3)) (ht : (pc : Int) + off = (tgt : Int)) (kt : x ≤ 0 → wq p l e R s m args below meth c G A nL mc ms Post L E kc ks tgt lv st) (kf : ¬ x ≤ 0 → wq p l e R s m args below meth c G A nL mc ms Post L E kc ks (pc + 3) lv st) : wq p l e R s m args below meth c G A nL mc ms Post L E kc ks pc lv (.int x :: st) := fun H locs ls hP hD hS hl => lv_if_le C.1 C.2.1 d ht (fun h => kt h H locs ls hP hD hS hl) (fun h => kf h H locs ls hP hD hS hl)
theorem q_icmp_eq (C : Cq p s m args meth c cc y ret G A nL) {x y2 : Int32} {off : Int} {tgt : Nat} (d : decode cc pc = .ok (.if_icmp .eq off, 3)) (ht : (pc : Int) + off = (tgt : Int)) (kt : x = y2 → wq p l e R s m args below meth c G A nL mc ms Post L E kc ks tgt lv st) (kf : ¬ x = y2 → wq p l e R s m args below meth c G A nL mc ms Post L E kc ks (pc + 3) lv st) : wq p l e R s m args below meth c G A nL mc ms Post L E kc ks pc lv (.int y2 :: .int x :: st) := fun H locs ls hP hD hS hl => lv_icmp_eq C.1 C.2.1 d ht (fun h => kt h H locs ls hP hD hS hl) (fun h => kf h H locs ls hP hD hS hl)
theorem q_icmp_ne (C : Cq p s m args meth c cc y ret G A nL) {x y2 : Int32} {off : Int} {tgt : Nat} (d : decode cc pc = .ok (.if_icmp .ne off, 3)) (ht : (pc : Int) + off = (tgt : Int)) (kt : ¬ x = y2 → wq p l e R s m args below meth c G A nL mc ms Post L E kc ks tgt lv st) (kf : x = y2 → wq p l e R s m args below meth c G A nL mc ms Post L E kc ks (pc + 3) lv st) : wq p l e R s m args below meth c G A nL mc ms Post L E kc ks pc lv (.int y2 :: .int x :: st) := fun H locs ls hP hD hS hl => lv_icmp_ne C.1 C.2.1 d ht (fun h => kt h H locs ls hP hD hS hl) (fun h => kf h H locs ls hP hD hS hl)
theorem q_icmp_lt (C : Cq p s m args meth c cc y ret G A nL) {x y2 : Int32} {off : Int} {tgt : Nat} (d : decode cc pc = .ok (.if_icmp .lt off, 3)) (ht : (pc : Int) + off = (tgt : Int)) (kt : x < y2 → wq p l e R s m args below meth c G A nL mc ms Post L E kc ks tgt lv st) (kf : ¬ x < y2 → wq p l e R s m args below meth c G A nL mc ms Post L E kc ks (pc + 3) lv st) : wq p l e R s m args below meth c G A nL mc ms Post L E kc ks pc lv (.int y2 :: .int x :: st) := fun H locs ls hP hD hS hl => lv_icmp_lt C.1 C.2.1 d ht (fun h => kt h H locs ls hP hD hS hl) (fun h => kf h H locs ls hP hD hS hl)
theorem q_icmp_ge (C : Cq p s m args meth c cc y ret G A nL) {x y2 : Int32} {off : Int} {tgt : Nat} (d : decode cc pc = .ok (.if_icmp .ge off, 3)) (ht : (pc : Int) + off = (tgt : Int)) (kt : y2 ≤ x → wq p l e R s m args below meth c G A nL mc ms Post L E kc ks tgt lv st) (kf : ¬ y2 ≤ x → wq p l e R s m args below meth c G A nL mc ms Post L E kc ks (pc + 3) lv st) : wq p l e R s m args below meth c G A nL mc ms Post L E kc ks pc lv (.int y2 :: .int x :: st) := fun H locs ls hP hD hS hl => lv_icmp_ge C.1 C.2.1 d ht (fun h => kt h H locs ls hP hD hS hl) (fun h => kf h H locs ls hP hD hS hl)
theorem q_icmp_gt (C : Cq p s m args meth c cc y ret G A nL) {x y2 : Int32} {off : Int} {tgt : Nat} (d : decode cc pc = .ok (.if_icmp .gt off, 3)) (ht : (pc : Int) + off = (tgt : Int)) (kt : y2 < x → wq p l e R s m args below meth c G A nL mc ms Post L E kc ks tgt lv st) (kf : ¬ y2 < x → wq p l e R s m args below meth c G A nL mc ms Post L E kc ks (pc + 3) lv st) : wq p l e R s m args below meth c G A nL mc ms Post L E kc ks pc lv (.int y2 :: .int x :: st) := fun H locs ls hP hD hS hl => lv_icmp_gt C.1 C.2.1 d ht (fun h => kt h H locs ls hP hD hS hl) (fun h => kf h H locs ls hP hD hS hl)
theorem q_icmp_le (C : Cq p s m args meth c cc y ret G A nL) {x y2 : Int32} {off : Int} {tgt : Nat} (d : decode cc pc = .ok (.if_icmp .le off, 3)) (ht : (pc : Int) + off = (tgt : Int)) (kt : x ≤ y2 → wq p l e R s m args below meth c G A nL mc ms Post L E kc ks tgt lv st) (kf : ¬ x ≤ y2 → wq p l e R s m args below meth c G A nL mc ms Post L E kc ks (pc + 3) lv st) : wq p l e R s m args below meth c G A nL mc ms Post L E kc ks pc lv (.int y2 :: .int x :: st) := fun H locs ls hP hD hS hl => lv_icmp_le C.1 C.2.1 d ht (fun h => kt h H locs ls hP hD hS hl) (fun h => kf h H locs ls hP hD hS hl)
theorem q_acmp_eq (C : Cq p s m args meth c cc y ret G A nL) {rx ry : Option Nat} {off : Int} {tgt : Nat} (d : decode cc pc = .ok (.if_acmp .eq off, 3)) (ht : (pc : Int) + off = (tgt : Int)) (kt : rx = ry → wq p l e R s m args below meth c G A nL mc ms Post L E kc ks tgt lv st) (kf : ¬ rx = ry → wq p l e R s m args below meth c G A nL mc ms Post L E kc ks (pc + 3) lv st) : wq p l e R s m args below meth c G A nL mc ms Post L E kc ks pc lv (va_rf ry :: va_rf rx :: st) := fun H locs ls hP hD hS hl => lv_acmp_eq C.1 C.2.1 d ht (fun h => kt h H locs ls hP hD hS hl) (fun h => kf h H locs ls hP hD hS hl)
theorem q_acmp_ne (C : Cq p s m args meth c cc y ret G A nL) {rx ry : Option Nat} {off : Int} {tgt : Nat} (d : decode cc pc = .ok (.if_acmp .ne off, 3)) (ht : (pc : Int) + off = (tgt : Int)) (kt : ¬ rx = ry → wq p l e R s m args below meth c G A nL mc ms Post L E kc ks tgt lv st) (kf : rx = ry → wq p l e R s m args below meth c G A nL mc ms Post L E kc ks (pc + 3) lv st) : wq p l e R s m args below meth c G A nL mc ms Post L E kc ks pc lv (va_rf ry :: va_rf rx :: st) := fun H locs ls hP hD hS hl => lv_acmp_ne C.1 C.2.1 d ht (fun h => kt h H locs ls hP hD hS hl) (fun h => kf h H locs ls hP hD hS hl)
theorem q_goto (C : Cq p s m args meth c cc y ret G A nL) {off : Int} {tgt : Nat} (d : decode cc pc = .ok (.goto off, 3)) (ht : (pc : Int) + off = (tgt : Int)) (k : wq p l e R s m args below meth c G A nL mc ms Post L E kc ks tgt lv st) : wq p l e R s m args below meth c G A nL mc ms Post L E kc ks pc lv st := fun H locs ls hP hD hS hl => lv_goto C.1 C.2.1 d ht (k H locs ls hP hD hS hl)
theorem q_ifnonnull (C : Cq p s m args meth c cc y ret G A nL) {x : Nat} {off : Int} {tgt : Nat} (d : decode cc pc = .ok (.ifnonnull off, 3)) (ht : (pc : Int) + off = (tgt : Int)) (k : wq p l e R s m args below meth c G A nL mc ms Post L E kc ks tgt lv st) : wq p l e R s m args below meth c G A nL mc ms Post L E kc ks pc lv (.ref x :: st) := fun H locs ls hP hD hS hl => lv_ifnonnull C.1 C.2.1 d ht (k H locs ls hP hD hS hl)
theorem q_ifnonnullN (C : Cq p s m args meth c cc y ret G A nL) {off : Int} (d : decode cc pc = .ok (.ifnonnull off, 3))  (k : wq p l e R s m args below meth c G A nL mc ms Post L E kc ks (pc + 3) lv st) : wq p l e R s m args below meth c G A nL mc ms Post L E kc ks pc lv (.null :: st) := fun H locs ls hP hD hS hl => lv_ifnonnullN C.1 C.2.1 d (k H locs ls hP hD hS hl)
theorem q_ifnull (C : Cq p s m args meth c cc y ret G A nL) {x : Nat} {off : Int} (d : decode cc pc = .ok (.ifnull off, 3))  (k : wq p l e R s m args below meth c G A nL mc ms Post L E kc ks (pc + 3) lv st) : wq p l e R s m args below meth c G A nL mc ms Post L E kc ks pc lv (.ref x :: st) := fun H locs ls hP hD hS hl => lv_ifnull C.1 C.2.1 d (k H locs ls hP hD hS hl)
theorem q_ifnullN (C : Cq p s m args meth c cc y ret G A nL) {off : Int} {tgt : Nat} (d : decode cc pc = .ok (.ifnull off, 3)) (ht : (pc : Int) + off = (tgt : Int)) (k : wq p l e R s m args below meth c G A nL mc ms Post L E kc ks tgt lv st) : wq p l e R s m args below meth c G A nL mc ms Post L E kc ks pc lv (.null :: st) := fun H locs ls hP hD hS hl => lv_ifnullN C.1 C.2.1 d ht (k H locs ls hP hD hS hl)
theorem q_get (C : Cq p s m args meth c cc y ret G A nL) {a ci N k idx : Nat} {Cn : String} {T : u_T} {ty : Nat → FieldType} {f : Nat → Value} {v : Value} (ck : Ck ci Cn T N ty) (d : decode cc pc = .ok (.getfield idx, 3)) (lk : Cond.fieldLink y.cls idx (T k).1 (T k).2.1 (T k).2.2.1 ∈ lw_g) (hk : k < N) (ha : a ∈ L) (hE : E a = ob ci N f) (hv : f k = v) (kk : wq p l e R s m args below meth c G A nL mc ms Post L E kc ks (pc + 3) lv (v :: st)) : wq p l e R s m args below meth c G A nL mc ms Post L E kc ks pc lv (.ref a :: st) := by
  intro H locs ls hP hD hS hl
  obtain ⟨q0, hq⟩ := pl_at (E := E) ha
  exact va_get (D := G.1) C.1 C.2.1 C.2.2.2.2.1 ck.2.1 C.2.2.2.1 C.2.2.2.2.2.1 hP q0 (by rw [hq, hE]; rfl) ck.1 k hk (C.2.2.2.2.1 _ lk) (fun _ h => h) (by rw [ob_get hk, hv]) d (kk H locs ls hP hD hS hl)
theorem q_put (C : Cq p s m args meth c cc y ret G A nL) {a ci N k idx : Nat} {Cn : String} {T : u_T} {ty : Nat → FieldType} {f : Nat → Value} {v : Value} (ck : Ck ci Cn T N ty) (d : decode cc pc = .ok (.putfield idx, 3)) (lk : Cond.fieldLink y.cls idx (T k).1 (T k).2.1 (T k).2.2.1 ∈ lw_g) (hk : k < N) (hfin : (T k).2.2.2 = false) (ha : a ∈ L) (hE : E a = ob ci N f) (hn : narrow (ty k) v = v) (hfit : fits (ty k) v = true) (kk : wq p l e R s m args below meth c G A nL mc ms Post L (va_up E a (ob ci N (va_up f k v))) kc ks (pc + 3) lv st) : wq p l e R s m args below meth c G A nL mc ms Post L E kc ks pc lv (v :: .ref a :: st) := by
  intro H locs ls hP hD hS hl
  obtain ⟨q0, hq⟩ := pl_at (E := E) ha
  refine va_put (D := G.1) C.1 C.2.1 C.2.2.2.2.1 ck.2.1 ty ck.2.2.1 ck.2.2.2 C.2.2.2.1 C.2.2.2.2.2.1 hP hD hS q0 (by rw [hq, hE]; rfl) ck.1 k hk (C.2.2.2.2.1 _ lk) (fun _ h => h) hfin (ck.2.2.1 k hk) hn hfit (by simpa using hk) d (fun H1 locs1 hP1 hD1 hS1 => ?_)
  rw [ob_set hk, pl_set hD ha hq] at hP1 hD1
  exact kk H1 locs1 ls hP1 hD1 hS1 hl
theorem q_putF (C : Cq p s m args meth c cc y ret G A nL) {a ci N k idx : Nat} {Cn : String} {T : u_T} {ty : Nat → FieldType} {f : Nat → Value} {v : Value} (ck : Ck ci Cn T N ty) (d : decode cc pc = .ok (.putfield idx, 3)) (lk : Cond.fieldLink y.cls idx (T k).1 (T k).2.1 (T k).2.2.1 ∈ lw_g) (hk : k < N) (hfin : (T k).2.2.2 = true) (hi : y.name = "<init>") (hd : (T k).1 = y.cls) (ha : a ∈ L) (hE : E a = ob ci N f) (hn : narrow (ty k) v = v) (hfit : fits (ty k) v = true) (kk : wq p l e R s m args below meth c G A nL mc ms Post L (va_up E a (ob ci N (va_up f k v))) kc ks (pc + 3) lv st) : wq p l e R s m args below meth c G A nL mc ms Post L E kc ks pc lv (v :: .ref a :: st) := by
  intro H locs ls hP hD hS hl
  obtain ⟨q0, hq⟩ := pl_at (E := E) ha
  refine va_putF (D := G.1) C.1 C.2.1 C.2.2.2.2.1 ck.2.1 ty ck.2.2.1 ck.2.2.2 C.2.2.2.1 C.2.2.2.2.2.1 hP hD hS q0 (by rw [hq, hE]; rfl) ck.1 k hk (C.2.2.2.2.1 _ lk) (fun _ h => h) hfin (C.2.2.2.2.2.2.2.2.2.2.1.trans hi) hd (ck.2.2.1 k hk) hn hfit (by simpa using hk) d (fun H1 locs1 hP1 hD1 hS1 => ?_)
  rw [ob_set hk, pl_set hD ha hq] at hP1 hD1
  exact kk H1 locs1 ls hP1 hD1 hS1 hl
theorem q_iald (C : Cq p s m args meth c cc y ret G A nL) {a n : Nat} {f : Nat → Int32} {i v : Int32} (d : decode cc pc = .ok (.iaload, 1)) (ha : a ∈ L) (hE : E a = aI G n f) (hin : vp_in i n) (hv : f i.toNatClampNeg = v) (kk : wq p l e R s m args below meth c G A nL mc ms Post L E kc ks (pc + 1) lv (.int v :: st)) : wq p l e R s m args below meth c G A nL mc ms Post L E kc ks pc lv (.int i :: .ref a :: st) := by
  intro H locs ls hP hD hS hl
  obtain ⟨q0, hq⟩ := pl_at (E := E) ha
  exact va_iald C.1 C.2.1 C.2.2.2.2.2.1 hP q0 0 (by rw [hq, hE]; rfl) rfl hin d (hv ▸ kk H locs ls hP hD hS hl)
theorem q_zald (C : Cq p s m args meth c cc y ret G A nL) {a n : Nat} {f : Nat → Int32} {i v : Int32} (d : decode cc pc = .ok (.baload, 1)) (ha : a ∈ L) (hE : E a = aZ G n f) (hin : vp_in i n) (hv : f i.toNatClampNeg = v) (kk : wq p l e R s m args below meth c G A nL mc ms Post L E kc ks (pc + 1) lv (.int v :: st)) : wq p l e R s m args below meth c G A nL mc ms Post L E kc ks pc lv (.int i :: .ref a :: st) := by
  intro H locs ls hP hD hS hl
  obtain ⟨q0, hq⟩ := pl_at (E := E) ha
  exact va_zald C.1 C.2.1 C.2.2.2.2.2.1 hP q0 1 (by rw [hq, hE]; rfl) rfl hin d (hv ▸ kk H locs ls hP hD hS hl)
theorem q_iast (C : Cq p s m args meth c cc y ret G A nL) {a n : Nat} {f : Nat → Int32} {i x : Int32} (d : decode cc pc = .ok (.iastore, 1)) (ha : a ∈ L) (hE : E a = aI G n f) (hin : vp_in i n) (kk : wq p l e R s m args below meth c G A nL mc ms Post L (va_up E a (aI G n (upd f i.toNatClampNeg x))) kc ks (pc + 1) lv st) : wq p l e R s m args below meth c G A nL mc ms Post L E kc ks pc lv (.int x :: .int i :: .ref a :: st) := by
  intro H locs ls hP hD hS hl
  obtain ⟨q0, hq⟩ := pl_at (E := E) ha
  refine va_iast C.1 C.2.1 C.2.2.2.2.2.1 hP hD hS q0 0 (by rw [hq, hE]; rfl) rfl hin d (fun H1 locs1 hP1 hD1 hS1 => ?_)
  rw [pl_set hD ha hq] at hP1 hD1
  exact kk H1 locs1 ls hP1 hD1 hS1 hl
theorem q_zast (C : Cq p s m args meth c cc y ret G A nL) {a n : Nat} {f : Nat → Int32} {i x : Int32} (d : decode cc pc = .ok (.bastore, 1)) (ha : a ∈ L) (hE : E a = aZ G n f) (hin : vp_in i n) (kk : ∀ f2, wq p l e R s m args below meth c G A nL mc ms Post L (va_up E a (aZ G n f2)) kc ks (pc + 1) lv st) : wq p l e R s m args below meth c G A nL mc ms Post L E kc ks pc lv (.int x :: .int i :: .ref a :: st) := by
  intro H locs ls hP hD hS hl
  obtain ⟨q0, hq⟩ := pl_at (E := E) ha
  refine va_zast C.1 C.2.1 C.2.2.2.2.2.1 hP hD hS q0 1 (by rw [hq, hE]; rfl) rfl hin d (fun H1 locs1 hP1 hD1 hS1 => ?_)
  rw [pl_set hD ha hq] at hP1 hD1
  exact kk _ H1 locs1 ls hP1 hD1 hS1 hl
theorem q_alenI (C : Cq p s m args meth c cc y ret G A nL) {a n : Nat} {f : Nat → Int32} {v : Int32} (d : decode cc pc = .ok (.arraylength, 1)) (ha : a ∈ L) (hE : E a = aI G n f) (hv : Int32.ofNat n = v) (kk : wq p l e R s m args below meth c G A nL mc ms Post L E kc ks (pc + 1) lv (.int v :: st)) : wq p l e R s m args below meth c G A nL mc ms Post L E kc ks pc lv (.ref a :: st) := by
  intro H locs ls hP hD hS hl
  obtain ⟨q0, hq⟩ := pl_at (E := E) ha
  exact va_alen C.1 C.2.1 C.2.2.2.2.2.1 hP q0 0 (by rw [hq, hE]; rfl) rfl hv d (kk H locs ls hP hD hS hl)
theorem q_alenZ (C : Cq p s m args meth c cc y ret G A nL) {a n : Nat} {f : Nat → Int32} {v : Int32} (d : decode cc pc = .ok (.arraylength, 1)) (ha : a ∈ L) (hE : E a = aZ G n f) (hv : Int32.ofNat n = v) (kk : wq p l e R s m args below meth c G A nL mc ms Post L E kc ks (pc + 1) lv (.int v :: st)) : wq p l e R s m args below meth c G A nL mc ms Post L E kc ks pc lv (.ref a :: st) := by
  intro H locs ls hP hD hS hl
  obtain ⟨q0, hq⟩ := pl_at (E := E) ha
  exact va_alen C.1 C.2.1 C.2.2.2.2.2.1 hP q0 1 (by rw [hq, hE]; rfl) rfl hv d (kk H locs ls hP hD hS hl)
theorem q_alenL (C : Cq p s m args meth c cc y ret G A nL) {a n : Nat} {f : Nat → Option Nat} {v : Int32} (d : decode cc pc = .ok (.arraylength, 1)) (ha : a ∈ L) (hE : E a = aL G n f) (hv : Int32.ofNat n = v) (kk : wq p l e R s m args below meth c G A nL mc ms Post L E kc ks (pc + 1) lv (.int v :: st)) : wq p l e R s m args below meth c G A nL mc ms Post L E kc ks pc lv (.ref a :: st) := by
  intro H locs ls hP hD hS hl
  obtain ⟨q0, hq⟩ := pl_at (E := E) ha
  exact va_alen C.1 C.2.1 C.2.2.2.2.2.1 hP q0 2 (by rw [hq, hE]; rfl) rfl hv d (kk H locs ls hP hD hS hl)
theorem q_alenR (C : Cq p s m args meth c cc y ret G A nL) {a n : Nat} {f : Nat → Option Nat} {v : Int32} (d : decode cc pc = .ok (.arraylength, 1)) (ha : a ∈ L) (hE : E a = aR G n f) (hv : Int32.ofNat n = v) (kk : wq p l e R s m args below meth c G A nL mc ms Post L E kc ks (pc + 1) lv (.int v :: st)) : wq p l e R s m args below meth c G A nL mc ms Post L E kc ks pc lv (.ref a :: st) := by
  intro H locs ls hP hD hS hl
  obtain ⟨q0, hq⟩ := pl_at (E := E) ha
  exact va_alen C.1 C.2.1 C.2.2.2.2.2.1 hP q0 3 (by rw [hq, hE]; rfl) rfl hv d (kk H locs ls hP hD hS hl)
theorem q_alenO (C : Cq p s m args meth c cc y ret G A nL) {a n : Nat} {f : Nat → Option Nat} {v : Int32} (d : decode cc pc = .ok (.arraylength, 1)) (ha : a ∈ L) (hE : E a = aO G n f) (hv : Int32.ofNat n = v) (kk : wq p l e R s m args below meth c G A nL mc ms Post L E kc ks (pc + 1) lv (.int v :: st)) : wq p l e R s m args below meth c G A nL mc ms Post L E kc ks pc lv (.ref a :: st) := by
  intro H locs ls hP hD hS hl
  obtain ⟨q0, hq⟩ := pl_at (E := E) ha
  exact va_alen C.1 C.2.1 C.2.2.2.2.2.1 hP q0 4 (by rw [hq, hE]; rfl) rfl hv d (kk H locs ls hP hD hS hl)
theorem q_aaldL (C : Cq p s m args meth c cc y ret G A nL) {a n : Nat} {f : Nat → Option Nat} {i : Int32} {v : Value} (d : decode cc pc = .ok (.aaload, 1)) (ha : a ∈ L) (hE : E a = aL G n f) (hin : vp_in i n) (hv : va_rf (f i.toNatClampNeg) = v) (kk : wq p l e R s m args below meth c G A nL mc ms Post L E kc ks (pc + 1) lv (v :: st)) : wq p l e R s m args below meth c G A nL mc ms Post L E kc ks pc lv (.int i :: .ref a :: st) := by
  intro H locs ls hP hD hS hl
  obtain ⟨q0, hq⟩ := pl_at (E := E) ha
  exact va_aldq C.1 C.2.1 C.2.2.2.2.2.1 hP q0 2 (by rw [hq, hE]; rfl) rfl hin d (hv ▸ kk H locs ls hP hD hS hl)
theorem q_aaldR (C : Cq p s m args meth c cc y ret G A nL) {a n : Nat} {f : Nat → Option Nat} {i : Int32} {v : Value} (d : decode cc pc = .ok (.aaload, 1)) (ha : a ∈ L) (hE : E a = aR G n f) (hin : vp_in i n) (hv : va_rf (f i.toNatClampNeg) = v) (kk : wq p l e R s m args below meth c G A nL mc ms Post L E kc ks (pc + 1) lv (v :: st)) : wq p l e R s m args below meth c G A nL mc ms Post L E kc ks pc lv (.int i :: .ref a :: st) := by
  intro H locs ls hP hD hS hl
  obtain ⟨q0, hq⟩ := pl_at (E := E) ha
  exact va_aldq C.1 C.2.1 C.2.2.2.2.2.1 hP q0 3 (by rw [hq, hE]; rfl) rfl hin d (hv ▸ kk H locs ls hP hD hS hl)
theorem q_aaldO (C : Cq p s m args meth c cc y ret G A nL) {a n : Nat} {f : Nat → Option Nat} {i : Int32} {v : Value} (d : decode cc pc = .ok (.aaload, 1)) (ha : a ∈ L) (hE : E a = aO G n f) (hin : vp_in i n) (hv : va_rf (f i.toNatClampNeg) = v) (kk : wq p l e R s m args below meth c G A nL mc ms Post L E kc ks (pc + 1) lv (v :: st)) : wq p l e R s m args below meth c G A nL mc ms Post L E kc ks pc lv (.int i :: .ref a :: st) := by
  intro H locs ls hP hD hS hl
  obtain ⟨q0, hq⟩ := pl_at (E := E) ha
  exact va_aldq C.1 C.2.1 C.2.2.2.2.2.1 hP q0 4 (by rw [hq, hE]; rfl) rfl hin d (hv ▸ kk H locs ls hP hD hS hl)
theorem q_aastO (C : Cq p s m args meth c cc y ret G A nL) {a b n ci N : Nat} {Cn : String} {T : u_T} {ty : Nat → FieldType} {f : Nat → Option Nat} {g : Nat → Value} {i : Int32} (ck : Ck ci Cn T N ty) (d : decode cc pc = .ok (.aastore, 1)) (hc : Cond.castable Cn "java/lang/Object" ∈ lw_tbl) (ha : a ∈ L) (hE : E a = aO G n f) (hb : b ∈ L) (hEb : E b = ob ci N g) (hin : vp_in i n) (kk : wq p l e R s m args below meth c G A nL mc ms Post L (va_up E a (aO G n (va_up f i.toNatClampNeg (some b)))) kc ks (pc + 1) lv st) : wq p l e R s m args below meth c G A nL mc ms Post L E kc ks pc lv (.ref b :: .int i :: .ref a :: st) := by
  intro H locs ls hP hD hS hl
  obtain ⟨q0, hq⟩ := pl_at (E := E) ha
  obtain ⟨q1, hq1⟩ := pl_at (E := E) hb
  refine va_astqO C.1 C.2.1 C.2.2.2.2.2.1 hP hD hS q0 4 q1 ci (r := (Cn, T, N)) (by rw [hq, hE]; rfl) rfl (C.2.2.2.2.2.2.2.2.2.2.2.2.1 _ _ hc) (by rw [hq1, hEb]; rfl) ck.1 hin d (fun H1 locs1 hP1 hD1 hS1 => ?_)
  rw [pl_set hD ha hq] at hP1 hD1
  exact kk H1 locs1 ls hP1 hD1 hS1 hl
theorem q_copyi (C : Cq p s m args meth c cc y ret G A nL) {a b n0 n1 idx : Nat} {f g : Nat → Int32} {sp dp n : Int32} (d : decode cc pc = .ok (.invokestatic idx, 3)) (lk : Cond.methodLink y.cls idx arraycopyName ∈ lw_g) (hn : Cond.native arraycopyName ∈ lw_g) (hs : Cond.static arraycopyName ∈ lw_g) (hi : Cond.initialized "java/lang/System" ∈ lw_g) (ha : a ∈ L) (hE : E a = aI G n0 f) (hb : b ∈ L) (hEb : E b = aI G n1 g) (h1 : ¬ sp < 0) (h2 : ¬ dp < 0) (h3 : ¬ n < 0) (h4 : sp.toNatClampNeg + n.toNatClampNeg ≤ n0) (h5 : dp.toNatClampNeg + n.toNatClampNeg ≤ n1) (hR : 1 ≤ R.frames ∧ 64 ≤ R.locals) (hst : (st.map fun v => v.category).sum ≤ 8) (kk : wq p l e R s m args below meth c G A nL mc ms Post L (va_up E b (aI G n1 (va_cpy f g sp.toNatClampNeg dp.toNatClampNeg n.toNatClampNeg))) kc ks (pc + 3) lv st) : wq p l e R s m args below meth c G A nL mc ms Post L E kc ks pc lv (.int n :: .int dp :: .ref b :: .int sp :: .ref a :: st) := by
  intro H locs ls hP hD hS hl
  obtain ⟨q0, hq⟩ := pl_at (E := E) ha
  obtain ⟨q1, hq1⟩ := pl_at (E := E) hb
  have hts := C.2.2.2.2.1
  refine va_copyi C.1 C.2.1 (C.2.2.1.trans hl.1.symm) C.2.2.2.1 (hts _ lk) (hts _ hn) (hts _ hs) (hts _ hi) C.2.2.2.2.2.1 hP hD hS q0 q1 0 0 (by rw [hq, hE]; rfl) (by rw [hq1, hEb]; rfl) rfl rfl rfl h1 h2 h3 h4 h5 (fun _ _ => rfl) hR.1 (Nat.le_trans (Nat.add_le_add_right hst _) (Nat.le_trans (by decide) hR.2)) d (fun H1 locs1 hP1 hD1 hS1 => ?_)
  rw [pl_set hD hb hq1] at hP1 hD1
  exact kk H1 locs1 ls hP1 hD1 hS1 hl
theorem q_new (C : Cq p s m args meth c cc y ret G A nL) {ci N idx : Nat} {Cn : String} {T : u_T} {ty : Nat → FieldType} (ck : Ck ci Cn T N ty) (d : decode cc pc = .ok (.new idx, 3)) (lk : Cond.classLink y.cls idx Cn ∈ lw_g) (hi : Cond.instantiable Cn N ∈ lw_g) (hn : Cond.initialized Cn ∈ lw_g) (hf : kc + 1 ≤ R.cells ∧ ks + N ≤ R.slots) (kk : ∀ q : Nat, q ∉ L → wq p l e R s m args below meth c G A nL mc ms Post (L ++ [q]) (va_up E q (ob ci N (fun j => defaultValue (ty j)))) (kc + 1) (ks + N) (pc + 3) lv (.ref q :: st)) : wq p l e R s m args below meth c G A nL mc ms Post L E kc ks pc lv st := by
  intro H locs ls hP hD hS hl
  refine va_new (ci := ci) (fs := (List.range N).map (fun j => defaultValue (ty j))) C.1 C.2.1 C.2.2.2.2.1 ck.2.1 ty ck.2.2.1 C.2.2.2.1 (C.2.2.2.2.1 _ lk) (C.2.2.2.2.1 _ hi) (C.2.2.2.2.1 _ hn) C.2.2.2.2.2.1 hP hD hS C.2.2.2.2.2.2.1 ck.1 (fun j hj => (ob_V (f := fun j => defaultValue (ty j)) hj).symm) hf.1 hf.2 d (fun q H1 hP1 hD1 hS1 => ?_)
  have hq : q ∉ L := by
    intro hm
    obtain ⟨k1, h1⟩ := pl_at (E := E) hm
    have hlt := (List.getElem?_eq_some_iff.mp h1).1
    have h2 : (va_pl L E ++ [(q, .inr (ci, (List.range N).map (fun j => defaultValue (ty j))))])[k1]? = some (q, E q) := by rw [List.getElem?_append_left hlt]; exact h1
    have h3 : (va_pl L E ++ [(q, .inr (ci, (List.range N).map (fun j => defaultValue (ty j))))])[(va_pl L E).length]? = some (q, .inr (ci, (List.range N).map (fun j => defaultValue (ty j)))) := by simp
    have := hD1.1 _ _ _ _ h2 h3 rfl
    omega
  rw [va_pl_push hq] at hP1 hD1
  exact kk q hq H1 locs ls hP1 hD1 hS1 hl
theorem pl_notin {A : Nat → Prop} {L : List Nat} {E : Nat → va_E} {q : Nat} {x : va_E} (hD : va_D A (va_pl L E ++ [(q, x)])) : q ∉ L := by
  intro hm
  obtain ⟨k1, h1⟩ := pl_at (E := E) hm
  have hlt := (List.getElem?_eq_some_iff.mp h1).1
  have h2 : (va_pl L E ++ [(q, x)])[k1]? = some (q, E q) := by rw [List.getElem?_append_left hlt]; exact h1
  have h3 : (va_pl L E ++ [(q, x)])[(va_pl L E).length]? = some (q, x) := by simp
  have := hD.1 _ _ _ _ h2 h3 rfl
  omega
theorem q_newaI (C : Cq p s m args meth c cc y ret G A nL) {n : Int32} {N : Nat} (d : decode cc pc = .ok (.newarray .int, 2)) (lk : Cond.arrayClass .int ∈ lw_g) (hn : ¬ n < 0) (hN : n.toNatClampNeg = N) (hb : N ≤ 100000) (hf : kc + 1 ≤ R.cells ∧ ks + N ≤ R.slots) (kk : ∀ q : Nat, q ∉ L → wq p l e R s m args below meth c G A nL mc ms Post (L ++ [q]) (va_up E q (aI G N (fun _ => 0))) (kc + 1) (ks + N) (pc + 2) lv (.ref q :: st)) : wq p l e R s m args below meth c G A nL mc ms Post L E kc ks pc lv (.int n :: st) := by
  intro H locs ls hP hD hS hl
  refine va_newa (atype := .int) (N' := N) (a0 := (N, .inl (fun _ => 0))) C.1 C.2.1 (C.2.2.2.2.1 _ lk) rfl C.2.2.2.2.2.1 hP hD hS C.2.2.2.2.2.2.1 (fun cA => rfl) hn hN (Nat.le_trans (Nat.mul_le_mul hb (show componentBytes .int ≤ 8 by decide)) (by decide)) hf.1 hf.2 d (fun q cA H1 hK1 hP1 hD1 hS1 => ?_)
  have hq := pl_notin hD1
  have hc : cA = G.2.1 := by
    have h1 : va_RA s cA .int := (hK1.2 5 (cA, .int) rfl).2
    have h2 : va_RA s G.2.1 .int := (C.2.2.2.2.2.1.2 0 (G.2.1, .int) rfl).2
    exact Option.some.inj (Eq.trans (Eq.symm h1) h2)
  subst hc
  rw [va_pl_push hq] at hP1 hD1
  exact kk q hq H1 locs ls hP1 hD1 hS1 hl
theorem q_newaZ (C : Cq p s m args meth c cc y ret G A nL) {n : Int32} {N : Nat} (d : decode cc pc = .ok (.newarray .boolean, 2)) (lk : Cond.arrayClass .boolean ∈ lw_g) (hn : ¬ n < 0) (hN : n.toNatClampNeg = N) (hb : N ≤ 100000) (hf : kc + 1 ≤ R.cells ∧ ks + N ≤ R.slots) (kk : ∀ q : Nat, q ∉ L → wq p l e R s m args below meth c G A nL mc ms Post (L ++ [q]) (va_up E q (aZ G N (fun _ => 0))) (kc + 1) (ks + N) (pc + 2) lv (.ref q :: st)) : wq p l e R s m args below meth c G A nL mc ms Post L E kc ks pc lv (.int n :: st) := by
  intro H locs ls hP hD hS hl
  refine va_newa (atype := .boolean) (N' := N) (a0 := (N, .inl (fun _ => 0))) C.1 C.2.1 (C.2.2.2.2.1 _ lk) rfl C.2.2.2.2.2.1 hP hD hS C.2.2.2.2.2.2.1 (fun cA => rfl) hn hN (Nat.le_trans (Nat.mul_le_mul hb (show componentBytes .boolean ≤ 8 by decide)) (by decide)) hf.1 hf.2 d (fun q cA H1 hK1 hP1 hD1 hS1 => ?_)
  have hq := pl_notin hD1
  have hc : cA = G.2.2.1 := by
    have h1 : va_RA s cA .boolean := (hK1.2 5 (cA, .boolean) rfl).2
    have h2 : va_RA s G.2.2.1 .boolean := (C.2.2.2.2.2.1.2 1 (G.2.2.1, .boolean) rfl).2
    exact Option.some.inj (Eq.trans (Eq.symm h1) h2)
  subst hc
  rw [va_pl_push hq] at hP1 hD1
  exact kk q hq H1 locs ls hP1 hD1 hS1 hl
theorem q_newqL (C : Cq p s m args meth c cc y ret G A nL) {n : Int32} {N idx : Nat} (d : decode cc pc = .ok (.anewarray idx, 3)) (lk : Cond.classLink y.cls idx RX2 ∈ lw_g) (lo : Cond.arrayOver (.object RX2) ∈ lw_tbl) (hn : ¬ n < 0) (hN : n.toNatClampNeg = N) (hb : N ≤ 100000) (hf : kc + 1 ≤ R.cells ∧ ks + N ≤ R.slots) (kk : ∀ q : Nat, q ∉ L → wq p l e R s m args below meth c G A nL mc ms Post (L ++ [q]) (va_up E q (aL G N (fun _ => none))) (kc + 1) (ks + N) (pc + 3) lv (.ref q :: st)) : wq p l e R s m args below meth c G A nL mc ms Post L E kc ks pc lv (.int n :: st) := by
  intro H locs ls hP hD hS hl
  refine va_newq (N' := N) C.1 C.2.1 C.2.2.2.1 (C.2.2.2.2.1 _ lk) (C.2.2.2.2.2.2.2.2.2.2.2.2.2 _ lo) C.2.2.2.2.2.1 hP hD hS C.2.2.2.2.2.2.1 hn hN (by omega) hf.1 hf.2 d (fun q cA H1 hK1 hP1 hD1 hS1 => ?_)
  have hq := pl_notin hD1
  have hc : cA = G.2.2.2.1 := by
    obtain ⟨_, _, _, _, _, h1⟩ := (hK1.2 5 (cA, .object RX2) rfl).2
    obtain ⟨_, _, _, _, _, h2⟩ := (C.2.2.2.2.2.1.2 2 (G.2.2.2.1, .object RX2) rfl).2
    exact Option.some.inj (h1.symm.trans h2)
  subst hc
  rw [va_pl_push hq] at hP1 hD1
  exact kk q hq H1 locs ls hP1 hD1 hS1 hl
theorem q_newqR (C : Cq p s m args meth c cc y ret G A nL) {n : Int32} {N idx : Nat} (d : decode cc pc = .ok (.anewarray idx, 3)) (lk : Cond.classLink y.cls idx RX5 ∈ lw_g) (lo : Cond.arrayOver (.object RX5) ∈ lw_tbl) (hn : ¬ n < 0) (hN : n.toNatClampNeg = N) (hb : N ≤ 100000) (hf : kc + 1 ≤ R.cells ∧ ks + N ≤ R.slots) (kk : ∀ q : Nat, q ∉ L → wq p l e R s m args below meth c G A nL mc ms Post (L ++ [q]) (va_up E q (aR G N (fun _ => none))) (kc + 1) (ks + N) (pc + 3) lv (.ref q :: st)) : wq p l e R s m args below meth c G A nL mc ms Post L E kc ks pc lv (.int n :: st) := by
  intro H locs ls hP hD hS hl
  refine va_newq (N' := N) C.1 C.2.1 C.2.2.2.1 (C.2.2.2.2.1 _ lk) (C.2.2.2.2.2.2.2.2.2.2.2.2.2 _ lo) C.2.2.2.2.2.1 hP hD hS C.2.2.2.2.2.2.1 hn hN (by omega) hf.1 hf.2 d (fun q cA H1 hK1 hP1 hD1 hS1 => ?_)
  have hq := pl_notin hD1
  have hc : cA = G.2.2.2.2.1 := by
    obtain ⟨_, _, _, _, _, h1⟩ := (hK1.2 5 (cA, .object RX5) rfl).2
    obtain ⟨_, _, _, _, _, h2⟩ := (C.2.2.2.2.2.1.2 3 (G.2.2.2.2.1, .object RX5) rfl).2
    exact Option.some.inj (h1.symm.trans h2)
  subst hc
  rw [va_pl_push hq] at hP1 hD1
  exact kk q hq H1 locs ls hP1 hD1 hS1 hl
theorem q_newqO (C : Cq p s m args meth c cc y ret G A nL) {n : Int32} {N idx : Nat} (d : decode cc pc = .ok (.anewarray idx, 3)) (lk : Cond.classLink y.cls idx "java/lang/Object" ∈ lw_g) (lo : Cond.arrayOver (.object "java/lang/Object") ∈ lw_tbl) (hn : ¬ n < 0) (hN : n.toNatClampNeg = N) (hb : N ≤ 100000) (hf : kc + 1 ≤ R.cells ∧ ks + N ≤ R.slots) (kk : ∀ q : Nat, q ∉ L → wq p l e R s m args below meth c G A nL mc ms Post (L ++ [q]) (va_up E q (aO G N (fun _ => none))) (kc + 1) (ks + N) (pc + 3) lv (.ref q :: st)) : wq p l e R s m args below meth c G A nL mc ms Post L E kc ks pc lv (.int n :: st) := by
  intro H locs ls hP hD hS hl
  refine va_newq (N' := N) C.1 C.2.1 C.2.2.2.1 (C.2.2.2.2.1 _ lk) (C.2.2.2.2.2.2.2.2.2.2.2.2.2 _ lo) C.2.2.2.2.2.1 hP hD hS C.2.2.2.2.2.2.1 hn hN (by omega) hf.1 hf.2 d (fun q cA H1 hK1 hP1 hD1 hS1 => ?_)
  have hq := pl_notin hD1
  have hc : cA = G.2.2.2.2.2.1 := by
    obtain ⟨_, _, _, _, _, h1⟩ := (hK1.2 5 (cA, .object "java/lang/Object") rfl).2
    obtain ⟨_, _, _, _, _, h2⟩ := (C.2.2.2.2.2.1.2 4 (G.2.2.2.2.2.1, .object "java/lang/Object") rfl).2
    exact Option.some.inj (h1.symm.trans h2)
  subst hc
  rw [va_pl_push hq] at hP1 hD1
  exact kk q hq H1 locs ls hP1 hD1 hS1 hl
theorem q_objInit (C : Cq p s m args meth c cc y ret G A nL) {idx a : Nat} (d : decode cc pc = .ok (.invokespecial idx, 3)) (lk : Cond.methodLink y.cls idx Lib.objectInit ∈ lw_g) (hi : Cond.instanceMethod Lib.objectInit ∈ lw_g) (hc : Cond.code Lib.objectInit ⟨#[0xb1]⟩ 1 none ∈ lw_g) (hR : 1 ≤ R.frames ∧ 20 ≤ R.locals) (hst : (st.map fun v => v.category).sum ≤ 8) (kk : wq p l e R s m args below meth c G A nL mc ms Post L E kc ks (pc + 3) lv st) : wq p l e R s m args below meth c G A nL mc ms Post L E kc ks pc lv (.ref a :: st) := by
  intro H locs ls hP hD hS hl
  refine W.objInit C.1 C.2.1 C.2.2.2.1 (C.2.2.2.2.1 _ lk) (C.2.2.2.2.1 _ hi) (C.2.2.2.2.1 _ hc) rfl (hl.1.trans C.2.2.1.symm) rfl d hR.1 ?_ (kk H locs ls hP hD hS hl)
  have h8 := lv_room (m := m) (pc := pc) (ls := ls) (rest := .ref a :: st) hst
  have := hR.2
  omega
/-- what a call needs of the tables -/
def Wb (own : String) (idx : Nat) (y : MethodName) (cc : ByteArray) (n : Nat) (ret : Option FieldType) (k : Nat) : Prop := Cond.methodLink own idx y ∈ lw_g ∧ Cond.initialized y.cls ∈ lw_g ∧ Cond.code y cc n ret ∈ lw_g ∧ (y.cls ≠ "java/lang/invoke/MethodHandle" ∧ y.cls ≠ "java/lang/invoke/VarHandle" ∧ (parseMethodDescriptor y.desc).map (fun d => d.parameters.length) = some k)
def Wv (own : String) (idx : Nat) (y : MethodName) (cc : ByteArray) (n : Nat) (ret : Option FieldType) (k : Nat) : Prop := Wb own idx y cc n ret k ∧ Cond.instanceMethod y ∈ lw_g ∧ Cond.selects y.cls y y ∈ lw_g
def Ws (own : String) (idx : Nat) (y : MethodName) (cc : ByteArray) (n : Nat) (ret : Option FieldType) (k : Nat) : Prop := Wb own idx y cc n ret k ∧ Cond.static y ∈ lw_g
def Wi (own : String) (idx : Nat) (y : MethodName) (cc : ByteArray) (n : Nat) (k : Nat) : Prop := Wb own idx y cc n none k ∧ y.name = "<init>" ∧ Cond.instanceMethod y ∈ lw_g
theorem q_after (C : Cq p s m args meth c cc y ret G A nL) {mc2 ms2 : Nat} {a2 : Array Value} {st0 rest : List Value} {P2 : PT} {H : Heap} {locs : List Loc} {ls : Array Slot} (hD : va_D A (va_pl L E)) (hS : va_S A s.heap H locs) (hl : lv_has ls nL lv) (hr : va_Run p l e R s m args below meth c H locs kc ks mc2 ms2 (F0 m pc ls st0) rest (Qm G (va_A (va_pl L E) H.size) P2 a2) (va_A (va_pl L E) H.size)) (kk : ∀ (v : Option Value) (L2 : List Nat) (E2 : Nat → va_E), P2 v L2 E2 → wq p l e R s m args below meth c G A nL mc ms Post L2 E2 (kc + mc2) (ks + ms2) (pc + 3) lv (v.toList ++ rest)) : W p l e R s m args below meth c H locs kc ks (MQ below (Qm G A Post) args s mc ms A) (F0 m pc ls st0) := by
  have hF := pl_free hD hS C.2.2.2.2.2.2.1
  intro T hT X
  obtain ⟨v, st₀, t, T', Lc, h0, X', hL, e1, e2, ⟨⟨v', L', E', hv, hp, hP', hD'⟩, hz, hk⟩, stp⟩ := hr T hT X
  cases hv
  rw [h0] at hz hk
  have hS1 : va_S A s.heap T'.heap (locs ++ Lc) := ⟨Nat.le_trans hS.1 (by rw [e1]; exact hz), fun q h1 h2 => by rw [e1, hk q (Nat.lt_of_lt_of_le h1 hS.1) (fun z => h2 (hF q z))]; exact hS.2.1 q h1 h2, fun q hq => by
      rcases List.mem_append.mp hq with h | h
      · exact hS.2.2 q h
      · exact hF _ (hL q h)⟩
  obtain ⟨t2, a1, b1⟩ := kk v L' E' hp T'.heap (locs ++ Lc) ls (by rw [e1]; exact hP') (hD'.weaken (fun _ q _ h => hF q.1 h)) hS1 hl T' rfl X'
  exact ⟨t2, stp t2 a1, b1⟩
theorem q_callV (C : Cq p s m args meth c cc y ret G A nL) {y2 : MethodName} {cc2 : ByteArray} {n2 d2 mc2 ms2 idx b ci N k2 : Nat} {ret2 : Option FieldType} {P2 : PT} {As rest : List Value} {T : u_T} {ty : Nat → FieldType} {f : Nat → Value} (M : Mq l G y2 cc2 n2 ret2 d2 (.ref b :: As) L E mc2 ms2 P2) (d : decode cc pc = .ok (.invokevirtual idx, 3)) (hw : Wv y.cls idx y2 cc2 n2 ret2 k2) (hk : As.length = k2) (hb : b ∈ L) (hE : E b = ob ci N f) (ck : Ck ci y2.cls T N ty) (hst : st = As.reverse ++ .ref b :: rest) (hcat : (rest.map fun v => v.category).sum ≤ 8) (hR : d2 + 1 ≤ R.frames ∧ 8 + (n2 + 11) + 64 * d2 ≤ R.locals) (hf : kc + mc2 ≤ R.cells ∧ ks + ms2 ≤ R.slots) (kk : ∀ (v : Option Value) (L2 : List Nat) (E2 : Nat → va_E), P2 v L2 E2 → wq p l e R s m args below meth c G A nL mc ms Post L2 E2 (kc + mc2) (ks + ms2) (pc + 3) lv (v.toList ++ rest)) : wq p l e R s m args below meth c G A nL mc ms Post L E kc ks pc lv st := by
  intro H locs ls hP hD hS hl
  subst hst
  obtain ⟨q0, hq⟩ := pl_at (E := E) hb
  obtain ⟨⟨w1, w2, w3, w4⟩, w5, w6⟩ := hw
  have hts := C.2.2.2.2.1
  exact q_after C hD hS hl (va_runV (As := As) (rest := rest) (Ts := lw_g) ⟨C.1, C.2.1, C.2.2.1, C.2.2.2.1, hts⟩ (M H.size) ⟨callB_of k2 hts (lw_goodIn w3) rfl rfl rfl (hts _ w2) (hts _ w1) w4 hR, hts _ w5, hts _ w6⟩ ⟨Pcq.blind, va_recv C.2.2.2.2.2.1 hP (ci := ci) (q0 := q0) ck.1 (by rw [hq, hE]; rfl), fun U hU hW => ⟨rfl, by rw [hU], by rw [hU]; exact hP, va_K.moved hW.alike C.2.2.2.2.2.1, hD.weaken (fun _ _ _ _ => trivial), C.2.2.2.2.2.2.2.1.pass hS (pl_free hD hS C.2.2.2.2.2.2.1) hW.alike hU, C.2.2.2.2.2.2.2.2.2.2.2.warm hW⟩⟩ rfl hk hl.1 rfl (lv_room hcat) d hf) kk
theorem q_callI (C : Cq p s m args meth c cc y ret G A nL) {y2 : MethodName} {cc2 : ByteArray} {n2 d2 mc2 ms2 idx b k2 : Nat} {P2 : PT} {As rest : List Value} (M : Mq l G y2 cc2 n2 none d2 (.ref b :: As) L E mc2 ms2 P2) (d : decode cc pc = .ok (.invokespecial idx, 3)) (hw : Wi y.cls idx y2 cc2 n2 k2) (hk : As.length = k2) (hst : st = As.reverse ++ .ref b :: rest) (hcat : (rest.map fun v => v.category).sum ≤ 8) (hR : d2 + 1 ≤ R.frames ∧ 8 + (n2 + 11) + 64 * d2 ≤ R.locals) (hf : kc + mc2 ≤ R.cells ∧ ks + ms2 ≤ R.slots) (kk : ∀ (v : Option Value) (L2 : List Nat) (E2 : Nat → va_E), P2 v L2 E2 → wq p l e R s m args below meth c G A nL mc ms Post L2 E2 (kc + mc2) (ks + ms2) (pc + 3) lv (v.toList ++ rest)) : wq p l e R s m args below meth c G A nL mc ms Post L E kc ks pc lv st := by
  intro H locs ls hP hD hS hl
  subst hst
  obtain ⟨⟨w1, w2, w3, w4⟩, w5, w6⟩ := hw
  have hts := C.2.2.2.2.1
  exact q_after C hD hS hl (va_runI (As := As) (rest := rest) (Ts := lw_g) ⟨C.1, C.2.1, C.2.2.1, C.2.2.2.1, hts⟩ (M H.size) ⟨callB_of k2 hts (lw_goodIn w3) rfl rfl rfl (hts _ w2) (hts _ w1) w4 hR, w5, hts _ w6⟩ ⟨Pcq.blind, fun U hU hW => ⟨rfl, by rw [hU], by rw [hU]; exact hP, va_K.moved hW.alike C.2.2.2.2.2.1, hD.weaken (fun _ _ _ _ => trivial), C.2.2.2.2.2.2.2.1.pass hS (pl_free hD hS C.2.2.2.2.2.2.1) hW.alike hU, C.2.2.2.2.2.2.2.2.2.2.2.warm hW⟩⟩ rfl hk hl.1 rfl (lv_room hcat) d hf) kk
theorem q_callS (C : Cq p s m args meth c cc y ret G A nL) {y2 : MethodName} {cc2 : ByteArray} {n2 d2 mc2 ms2 idx k2 : Nat} {ret2 : Option FieldType} {P2 : PT} {As rest : List Value} (M : Mq l G y2 cc2 n2 ret2 d2 As L E mc2 ms2 P2) (d : decode cc pc = .ok (.invokestatic idx, 3)) (hw : Ws y.cls idx y2 cc2 n2 ret2 k2) (hk : As.length = k2) (hst : st = As.reverse ++ rest) (hcat : (rest.map fun v => v.category).sum ≤ 8) (hR : d2 + 1 ≤ R.frames ∧ 8 + (n2 + 11) + 64 * d2 ≤ R.locals) (hf : kc + mc2 ≤ R.cells ∧ ks + ms2 ≤ R.slots) (kk : ∀ (v : Option Value) (L2 : List Nat) (E2 : Nat → va_E), P2 v L2 E2 → wq p l e R s m args below meth c G A nL mc ms Post L2 E2 (kc + mc2) (ks + ms2) (pc + 3) lv (v.toList ++ rest)) : wq p l e R s m args below meth c G A nL mc ms Post L E kc ks pc lv st := by
  intro H locs ls hP hD hS hl
  subst hst
  obtain ⟨⟨w1, w2, w3, w4⟩, w5⟩ := hw
  have hts := C.2.2.2.2.1
  exact q_after C hD hS hl (va_runS (As := As) (rest := rest) (Ts := lw_g) ⟨C.1, C.2.1, C.2.2.1, C.2.2.2.1, hts⟩ (M H.size) ⟨callB_of k2 hts (lw_goodIn w3) rfl rfl rfl (hts _ w2) (hts _ w1) w4 hR, hts _ w5⟩ ⟨Pcq.blind, fun U hU hW => ⟨rfl, by rw [hU], by rw [hU]; exact hP, va_K.moved hW.alike C.2.2.2.2.2.1, hD.weaken (fun _ _ _ _ => trivial), C.2.2.2.2.2.2.2.1.pass hS (pl_free hD hS C.2.2.2.2.2.2.1) hW.alike hU, C.2.2.2.2.2.2.2.2.2.2.2.warm hW⟩⟩ rfl hk hl.1 rfl (lv_room hcat) d hf) kk
def Wn (own : String) (idx : Nat) (y : MethodName) (host : String) (cc : ByteArray) (n : Nat) (k : Nat) : Prop := (Cond.methodLinkNest own idx y host ∈ lw_tbl ∧ Cond.initialized y.cls ∈ lw_g ∧ Cond.code y cc n none ∈ lw_g ∧ (y.cls ≠ "java/lang/invoke/MethodHandle" ∧ y.cls ≠ "java/lang/invoke/VarHandle" ∧ (parseMethodDescriptor y.desc).map (fun d => d.parameters.length) = some k)) ∧ y.name = "<init>" ∧ Cond.instanceMethod y ∈ lw_g
theorem q_callIN (C : Cq p s m args meth c cc y ret G A nL) {y2 : MethodName} {host : String} {cc2 : ByteArray} {n2 d2 mc2 ms2 idx b k2 : Nat} {P2 : PT} {As rest : List Value} (M : Mq l G y2 cc2 n2 none d2 (.ref b :: As) L E mc2 ms2 P2) (d : decode cc pc = .ok (.invokespecial idx, 3)) (hw : Wn y.cls idx y2 host cc2 n2 k2) (hk : As.length = k2) (hst : st = As.reverse ++ .ref b :: rest) (hcat : (rest.map fun v => v.category).sum ≤ 8) (hR : d2 + 1 ≤ R.frames ∧ 8 + (n2 + 11) + 64 * d2 ≤ R.locals) (hf : kc + mc2 ≤ R.cells ∧ ks + ms2 ≤ R.slots) (kk : ∀ (v : Option Value) (L2 : List Nat) (E2 : Nat → va_E), P2 v L2 E2 → wq p l e R s m args below meth c G A nL mc ms Post L2 E2 (kc + mc2) (ks + ms2) (pc + 3) lv (v.toList ++ rest)) : wq p l e R s m args below meth c G A nL mc ms Post L E kc ks pc lv st := by
  intro H locs ls hP hD hS hl
  subst hst
  obtain ⟨⟨w1, w2, w3, w4⟩, w5, w6⟩ := hw
  have hts := C.2.2.2.2.1
  exact q_after C hD hS hl (va_runIN (As := As) (rest := rest) (Ts := lw_g) ⟨C.1, C.2.1, C.2.2.1, C.2.2.2.1, hts⟩ (M H.size) ⟨va_cnB k2 hts (lw_goodIn w3) rfl rfl rfl (C.2.2.2.2.2.2.2.2.2.2.2.1 _ _ _ _ w1) (hts _ w2) w4 hR, w5, hts _ w6⟩ ⟨Pcq.blind, fun U hU hW => ⟨rfl, by rw [hU], by rw [hU]; exact hP, va_K.moved hW.alike C.2.2.2.2.2.1, hD.weaken (fun _ _ _ _ => trivial), C.2.2.2.2.2.2.2.1.pass hS (pl_free hD hS C.2.2.2.2.2.2.1) hW.alike hU, C.2.2.2.2.2.2.2.2.2.2.2.warm hW⟩⟩ rfl hk hl.1 rfl (lv_room hcat) d hf) kk
theorem q_mmax (C : Cq p s m args meth c cc y ret G A nL) {idx : Nat} {x y2 v : Int32} (d : decode cc pc = .ok (.invokestatic idx, 3)) (lk : Cond.methodLink y.cls idx Lib.Math.max.name ∈ lw_g) (h1 : Cond.static Lib.Math.max.name ∈ lw_g) (h2 : Cond.initialized "java/lang/Math" ∈ lw_g) (h3 : Cond.code Lib.Math.max.name Lib.Math.max.code 2 (some .int) ∈ lw_g) (hR : 1 ≤ R.frames ∧ 21 ≤ R.locals) (hf : kc ≤ R.cells ∧ ks ≤ R.slots) (hst : (st.map fun v => v.category).sum ≤ 8) (hv : (if x < y2 then y2 else x) = v) (kk : wq p l e R s m args below meth c G A nL mc ms Post L E kc ks (pc + 3) lv (.int v :: st)) : wq p l e R s m args below meth c G A nL mc ms Post L E kc ks pc lv (.int y2 :: .int x :: st) := by
  intro H locs ls hP hD hS hl
  subst hv
  have hts := C.2.2.2.2.1
  exact va_mmax C.1 C.2.1 (C.2.2.1.trans hl.1.symm) C.2.2.2.1 (hts _ lk) (hts _ h1) (hts _ h2) (hts _ h3) hR.1 (by have := hR.2; omega) hf.1 hf.2 d (kk H locs ls hP hD hS hl)
theorem q_mmin (C : Cq p s m args meth c cc y ret G A nL) {idx : Nat} {x y2 v : Int32} (d : decode cc pc = .ok (.invokestatic idx, 3)) (lk : Cond.methodLink y.cls idx Lib.Math.min.name ∈ lw_g) (h1 : Cond.static Lib.Math.min.name ∈ lw_g) (h2 : Cond.initialized "java/lang/Math" ∈ lw_g) (h3 : Cond.code Lib.Math.min.name Lib.Math.min.code 2 (some .int) ∈ lw_g) (hR : 1 ≤ R.frames ∧ 21 ≤ R.locals) (hf : kc ≤ R.cells ∧ ks ≤ R.slots) (hst : (st.map fun v => v.category).sum ≤ 8) (hv : (if y2 < x then y2 else x) = v) (kk : wq p l e R s m args below meth c G A nL mc ms Post L E kc ks (pc + 3) lv (.int v :: st)) : wq p l e R s m args below meth c G A nL mc ms Post L E kc ks pc lv (.int y2 :: .int x :: st) := by
  intro H locs ls hP hD hS hl
  subst hv
  have hts := C.2.2.2.2.1
  exact va_mmin C.1 C.2.1 (C.2.2.1.trans hl.1.symm) C.2.2.2.1 (hts _ lk) (hts _ h1) (hts _ h2) (hts _ h3) hR.1 (by have := hR.2; omega) hf.1 hf.2 d (kk H locs ls hP hD hS hl)
theorem q_gets (C : Cq p s m args meth c cc y ret G A nL) {idx : Nat} (d : decode cc pc = .ok (.getstatic idx, 3)) (lk : Cond.fieldLink y.cls idx "java/util/ArrayList" "DEFAULTCAPACITY_EMPTY_ELEMENTDATA" "[Ljava/lang/Object;" ∈ lw_g) (kk : wq p l e R s m args below meth c G A nL mc ms Post L E kc ks (pc + 3) lv (.ref (g0 G) :: st)) : wq p l e R s m args below meth c G A nL mc ms Post L E kc ks pc lv st := fun H locs ls hP hD hS hl => va_gets C.1 C.2.1 C.2.2.2.2.2.2.2.1.1 hS C.2.2.2.1 (C.2.2.2.2.1 _ lk) (fun _ h => h) d (kk H locs ls hP hD hS hl)
theorem q_tlen (C : Cq p s m args meth c cc y ret G A nL) (d : decode cc pc = .ok (.arraylength, 1)) (kk : wq p l e R s m args below meth c G A nL mc ms Post L E kc ks (pc + 1) lv (.int 0 :: st)) : wq p l e R s m args below meth c G A nL mc ms Post L E kc ks pc lv (.ref (g0 G) :: st) := fun H locs ls hP hD hS hl => va_tlen C.1 C.2.1 C.2.2.2.2.2.2.2.1.2 hS rfl d (kk H locs ls hP hD hS hl)
theorem q_iret (C : Cq p s m args meth c cc y ret G A nL) {v : Int32} (d : decode cc pc = .ok (.ireturn, 1)) (hr : ret = some .int) (h1 : kc ≤ mc) (h2 : ks ≤ ms) (hp : Post (some (.int v)) L E) : wq p l e R s m args below meth c G A nL mc ms Post L E kc ks pc lv [.int v] := by
  intro H locs ls hP hD hS hl
  refine W.widen h1 h2 ?_
  exact W.iret C.1 C.2.1 (C.2.2.2.2.2.2.2.2.1.trans hr) (fun t ht hW => ⟨⟨_, L, E, rfl, hp, by rw [ht]; exact hP, hD⟩, hS.F ht⟩) hS.2.2 d C.2.2.2.2.2.2.2.2.2.1
theorem q_zret (C : Cq p s m args meth c cc y ret G A nL) {v : Int32} (d : decode cc pc = .ok (.ireturn, 1)) (hr : ret = some .boolean) (hn : narrow .boolean (.int v) = .int v) (h1 : kc ≤ mc) (h2 : ks ≤ ms) (hp : Post (some (.int v)) L E) : wq p l e R s m args below meth c G A nL mc ms Post L E kc ks pc lv [.int v] := by
  intro H locs ls hP hD hS hl
  refine W.widen h1 h2 ?_
  exact W.zret C.1 C.2.1 (C.2.2.2.2.2.2.2.2.1.trans hr) hn (fun t ht hW => ⟨⟨_, L, E, rfl, hp, by rw [ht]; exact hP, hD⟩, hS.F ht⟩) hS.2.2 d C.2.2.2.2.2.2.2.2.2.1
theorem q_vret (C : Cq p s m args meth c cc y ret G A nL) (d : decode cc pc = .ok (.return_, 1)) (hr : ret = none) (h1 : kc ≤ mc) (h2 : ks ≤ ms) (hp : Post none L E) : wq p l e R s m args below meth c G A nL mc ms Post L E kc ks pc lv [] := by
  intro H locs ls hP hD hS hl
  refine W.widen h1 h2 ?_
  exact W.vret C.1 C.2.1 (C.2.2.2.2.2.2.2.2.1.trans hr) (fun t ht hW => ⟨⟨_, L, E, rfl, hp, by rw [ht]; exact hP, hD⟩, hS.F ht⟩) hS.2.2 d C.2.2.2.2.2.2.2.2.2.1
theorem q_aret (C : Cq p s m args meth c cc y ret G A nL) {v : Value} {rt : FieldType} (d : decode cc pc = .ok (.areturn, 1)) (hr : ret = some rt) (hrt : (∃ n, rt = .object n) ∨ ∃ t, rt = .array t) (hv : v = .null ∨ ∃ a, v = .ref a) (h1 : kc ≤ mc) (h2 : ks ≤ ms) (hp : Post (some v) L E) : wq p l e R s m args below meth c G A nL mc ms Post L E kc ks pc lv [v] := by
  intro H locs ls hP hD hS hl
  refine W.widen h1 h2 ?_
  exact W.aret C.1 C.2.1 (C.2.2.2.2.2.2.2.2.1.trans hr) hrt hv (fun t ht hW => ⟨⟨_, L, E, rfl, hp, by rw [ht]; exact hP, hD⟩, hS.F ht⟩) hS.2.2 d C.2.2.2.2.2.2.2.2.2.1
theorem q_eq {E1 : Nat → va_E} {L1 : List Nat} (hL : L = L1) (hE : E = E1) (k : wq p l e R s m args below meth c G A nL mc ms Post L1 E1 kc ks pc lv st) : wq p l e R s m args below meth c G A nL mc ms Post L E kc ks pc lv st := by subst hL; subst hE; exact k
theorem q_st {st2 : List Value} (h : st = st2) (k : wq p l e R s m args below meth c G A nL mc ms Post L E kc ks pc lv st2) : wq p l e R s m args below meth c G A nL mc ms Post L E kc ks pc lv st := by subst h; exact k
theorem q_cut (k : ∀ (L1 : List Nat) (E1 : Nat → va_E), L1 = L → E1 = E → wq p l e R s m args below meth c G A nL mc ms Post L1 E1 kc ks pc lv st) : wq p l e R s m args below meth c G A nL mc ms Post L E kc ks pc lv st := k L E rfl rfl
end PQ
end
section
theorem mT1 {w : Cond} (h : w ∈ tables_1_1) : w ∈ lw_tbl := List.mem_append_right _ (show w ∈ tables_1 from List.mem_append_left _ h)
theorem mT2 {w : Cond} (h : w ∈ tables_1_2) : w ∈ lw_tbl := List.mem_append_right _ (show w ∈ tables_1 from List.mem_append_right _ (List.mem_append_left _ h))
theorem mT3 {w : Cond} (h : w ∈ tables_1_3) : w ∈ lw_tbl := List.mem_append_right _ (show w ∈ tables_1 from List.mem_append_right _ (List.mem_append_right _ (List.mem_append_left _ h)))
theorem mT4 {w : Cond} (h : w ∈ tables_1_4) : w ∈ lw_tbl := List.mem_append_right _ (show w ∈ tables_1 from List.mem_append_right _ (List.mem_append_right _ (List.mem_append_right _ (List.mem_append_left _ h))))
theorem mT5 {w : Cond} (h : w ∈ tables_1_5) : w ∈ lw_tbl := List.mem_append_right _ (show w ∈ tables_1 from List.mem_append_right _ (List.mem_append_right _ (List.mem_append_right _ (List.mem_append_right _ (List.mem_append_left _ h)))))
theorem mT6 {w : Cond} (h : w ∈ tables_1_6) : w ∈ lw_tbl := List.mem_append_right _ (show w ∈ tables_1 from List.mem_append_right _ (List.mem_append_right _ (List.mem_append_right _ (List.mem_append_right _ (List.mem_append_right _ (List.mem_append_left _ h))))))
theorem mT7 {w : Cond} (h : w ∈ tables_1_7) : w ∈ lw_tbl := List.mem_append_right _ (show w ∈ tables_1 from List.mem_append_right _ (List.mem_append_right _ (List.mem_append_right _ (List.mem_append_right _ (List.mem_append_right _ (List.mem_append_right _ (List.mem_append_left _ h)))))))
theorem mT8 {w : Cond} (h : w ∈ tables_1_8) : w ∈ lw_tbl := List.mem_append_right _ (show w ∈ tables_1 from List.mem_append_right _ (List.mem_append_right _ (List.mem_append_right _ (List.mem_append_right _ (List.mem_append_right _ (List.mem_append_right _ (List.mem_append_right _ (h))))))))
theorem w1_1t : (Jvm.Cond.initialized "DotPress") ∈ lw_tbl := mT1 (List.mem_of_getElem? (i := 1) rfl)
theorem w1_1 : (Jvm.Cond.initialized "DotPress") ∈ lw_g := lw_in w1_1t rfl
theorem w1_10t : (Jvm.Cond.initialized "DotPress$Readings") ∈ lw_tbl := mT1 (List.mem_of_getElem? (i := 10) rfl)
theorem w1_10 : (Jvm.Cond.initialized "DotPress$Readings") ∈ lw_g := lw_in w1_10t rfl
theorem w1_100t : (Jvm.Cond.instanceMethod ({ cls := "DotPress$Source", name := "<init>", desc := "()V" } : Jvm.MethodName)) ∈ lw_tbl := mT1 (List.mem_of_getElem? (i := 100) rfl)
theorem w1_100 : (Jvm.Cond.instanceMethod ({ cls := "DotPress$Source", name := "<init>", desc := "()V" } : Jvm.MethodName)) ∈ lw_g := lw_in w1_100t rfl
theorem w1_101t : (Jvm.Cond.code ({ cls := "DotPress$Source", name := "<init>", desc := "()V" } : Jvm.MethodName) prog_10_method_1_code (1 : Nat) (Option.none : Option Jvm.ClassFile.FieldType)) ∈ lw_tbl := mT1 (List.mem_of_getElem? (i := 101) rfl)
theorem w1_101 : (Jvm.Cond.code ({ cls := "DotPress$Source", name := "<init>", desc := "()V" } : Jvm.MethodName) prog_10_method_1_code (1 : Nat) (Option.none : Option Jvm.ClassFile.FieldType)) ∈ lw_g := lw_in w1_101t rfl
theorem w1_102t : (Jvm.Cond.methodLink "DotPress$Source" (3 : Nat) ({ cls := "java/lang/Object", name := "<init>", desc := "()V" } : Jvm.MethodName)) ∈ lw_tbl := mT1 (List.mem_of_getElem? (i := 102) rfl)
theorem w1_102 : (Jvm.Cond.methodLink "DotPress$Source" (3 : Nat) ({ cls := "java/lang/Object", name := "<init>", desc := "()V" } : Jvm.MethodName)) ∈ lw_g := lw_in w1_102t rfl
theorem w1_103t : (Jvm.Cond.fieldLink "DotPress$Source" (9 : Nat) "DotPress$Source" "at" "I") ∈ lw_tbl := mT1 (List.mem_of_getElem? (i := 103) rfl)
theorem w1_103 : (Jvm.Cond.fieldLink "DotPress$Source" (9 : Nat) "DotPress$Source" "at" "I") ∈ lw_g := lw_in w1_103t rfl
theorem w1_104t : (Jvm.Cond.fieldLink "DotPress$Source" (15 : Nat) "DotPress$Source" "inLine" "Z") ∈ lw_tbl := mT1 (List.mem_of_getElem? (i := 104) rfl)
theorem w1_104 : (Jvm.Cond.fieldLink "DotPress$Source" (15 : Nat) "DotPress$Source" "inLine" "Z") ∈ lw_g := lw_in w1_104t rfl
theorem w1_105t : (Jvm.Cond.fieldLink "DotPress$Source" (19 : Nat) "DotPress$Source" "centred" "Z") ∈ lw_tbl := mT1 (List.mem_of_getElem? (i := 105) rfl)
theorem w1_105 : (Jvm.Cond.fieldLink "DotPress$Source" (19 : Nat) "DotPress$Source" "centred" "Z") ∈ lw_g := lw_in w1_105t rfl
theorem w1_107t : (Jvm.Cond.fieldLink "DotPress$Source" (22 : Nat) "DotPress$Source" "isSpelt" "[Z") ∈ lw_tbl := mT1 (List.mem_of_getElem? (i := 107) rfl)
theorem w1_107 : (Jvm.Cond.fieldLink "DotPress$Source" (22 : Nat) "DotPress$Source" "isSpelt" "[Z") ∈ lw_g := lw_in w1_107t rfl
theorem w1_108t : (Jvm.Cond.fieldLink "DotPress$Source" (26 : Nat) "DotPress$Source" "alphabet" "[I") ∈ lw_tbl := mT1 (List.mem_of_getElem? (i := 108) rfl)
theorem w1_108 : (Jvm.Cond.fieldLink "DotPress$Source" (26 : Nat) "DotPress$Source" "alphabet" "[I") ∈ lw_g := lw_in w1_108t rfl
theorem w1_109t : (Jvm.Cond.fieldLink "DotPress$Source" (30 : Nat) "DotPress$Source" "alphabetSize" "I") ∈ lw_tbl := mT1 (List.mem_of_getElem? (i := 109) rfl)
theorem w1_109 : (Jvm.Cond.fieldLink "DotPress$Source" (30 : Nat) "DotPress$Source" "alphabetSize" "I") ∈ lw_g := lw_in w1_109t rfl
theorem w1_11t : (Jvm.Cond.initialized "DotPress$Sheet") ∈ lw_tbl := mT1 (List.mem_of_getElem? (i := 11) rfl)
theorem w1_11 : (Jvm.Cond.initialized "DotPress$Sheet") ∈ lw_g := lw_in w1_11t rfl
theorem w1_110t : (Jvm.Cond.fieldLink "DotPress$Source" (33 : Nat) "DotPress$Source" "turns" "[I") ∈ lw_tbl := mT1 (List.mem_of_getElem? (i := 110) rfl)
theorem w1_110 : (Jvm.Cond.fieldLink "DotPress$Source" (33 : Nat) "DotPress$Source" "turns" "[I") ∈ lw_g := lw_in w1_110t rfl
theorem w1_111t : (Jvm.Cond.fieldLink "DotPress$Source" (36 : Nat) "DotPress$Source" "spelling" "I") ∈ lw_tbl := mT1 (List.mem_of_getElem? (i := 111) rfl)
theorem w1_111 : (Jvm.Cond.fieldLink "DotPress$Source" (36 : Nat) "DotPress$Source" "spelling" "I") ∈ lw_g := lw_in w1_111t rfl
theorem w1_112t : (Jvm.Cond.lays "DotPress$Source" "DotPress$Source" "at" "I") ∈ lw_tbl := mT1 (List.mem_of_getElem? (i := 112) rfl)
theorem w1_112 : (Jvm.Cond.lays "DotPress$Source" "DotPress$Source" "at" "I") ∈ lw_g := lw_in w1_112t rfl
theorem w1_114t : (Jvm.Cond.lays "DotPress$Source" "DotPress$Source" "inLine" "Z") ∈ lw_tbl := mT1 (List.mem_of_getElem? (i := 114) rfl)
theorem w1_114 : (Jvm.Cond.lays "DotPress$Source" "DotPress$Source" "inLine" "Z") ∈ lw_g := lw_in w1_114t rfl
theorem w1_116t : (Jvm.Cond.lays "DotPress$Source" "DotPress$Source" "centred" "Z") ∈ lw_tbl := mT1 (List.mem_of_getElem? (i := 116) rfl)
theorem w1_116 : (Jvm.Cond.lays "DotPress$Source" "DotPress$Source" "centred" "Z") ∈ lw_g := lw_in w1_116t rfl
theorem w1_118t : (Jvm.Cond.laysFinal "DotPress$Source" "DotPress$Source" "isSpelt" "[Z") ∈ lw_tbl := mT1 (List.mem_of_getElem? (i := 118) rfl)
theorem w1_118 : (Jvm.Cond.laysFinal "DotPress$Source" "DotPress$Source" "isSpelt" "[Z") ∈ lw_g := lw_in w1_118t rfl
theorem w1_120t : (Jvm.Cond.laysFinal "DotPress$Source" "DotPress$Source" "alphabet" "[I") ∈ lw_tbl := mT1 (List.mem_of_getElem? (i := 120) rfl)
theorem w1_120 : (Jvm.Cond.laysFinal "DotPress$Source" "DotPress$Source" "alphabet" "[I") ∈ lw_g := lw_in w1_120t rfl
theorem w1_122t : (Jvm.Cond.lays "DotPress$Source" "DotPress$Source" "alphabetSize" "I") ∈ lw_tbl := mT1 (List.mem_of_getElem? (i := 122) rfl)
theorem w1_122 : (Jvm.Cond.lays "DotPress$Source" "DotPress$Source" "alphabetSize" "I") ∈ lw_g := lw_in w1_122t rfl
theorem w1_124t : (Jvm.Cond.laysFinal "DotPress$Source" "DotPress$Source" "turns" "[I") ∈ lw_tbl := mT1 (List.mem_of_getElem? (i := 124) rfl)
theorem w1_124 : (Jvm.Cond.laysFinal "DotPress$Source" "DotPress$Source" "turns" "[I") ∈ lw_g := lw_in w1_124t rfl
theorem w1_126t : (Jvm.Cond.lays "DotPress$Source" "DotPress$Source" "spelling" "I") ∈ lw_tbl := mT1 (List.mem_of_getElem? (i := 126) rfl)
theorem w1_126 : (Jvm.Cond.lays "DotPress$Source" "DotPress$Source" "spelling" "I") ∈ lw_g := lw_in w1_126t rfl
theorem w1_129t : (Jvm.Cond.arrayClass Jvm.ClassFile.FieldType.boolean) ∈ lw_tbl := mT1 (List.mem_of_getElem? (i := 129) rfl)
theorem w1_129 : (Jvm.Cond.arrayClass Jvm.ClassFile.FieldType.boolean) ∈ lw_g := lw_in w1_129t rfl
theorem w1_130t : (Jvm.Cond.classLink "DotPress" (41 : Nat) "DotPress$Setting") ∈ lw_tbl := mT1 (List.mem_of_getElem? (i := 130) rfl)
theorem w1_130 : (Jvm.Cond.classLink "DotPress" (41 : Nat) "DotPress$Setting") ∈ lw_g := lw_in w1_130t rfl
theorem w1_131t : (Jvm.Cond.instantiable "DotPress$Setting" (12 : Nat)) ∈ lw_tbl := mT1 (List.mem_of_getElem? (i := 131) rfl)
theorem w1_131 : (Jvm.Cond.instantiable "DotPress$Setting" (12 : Nat)) ∈ lw_g := lw_in w1_131t rfl
theorem w1_132t : (Jvm.Cond.methodLinkNest "DotPress" (43 : Nat) ({ cls := "DotPress$Setting", name := "<init>", desc := "()V" } : Jvm.MethodName) "DotPress") ∈ lw_tbl := mT1 (List.mem_of_getElem? (i := 132) rfl)
theorem w1_133t : (Jvm.Cond.instanceMethod ({ cls := "DotPress$Setting", name := "<init>", desc := "()V" } : Jvm.MethodName)) ∈ lw_tbl := mT1 (List.mem_of_getElem? (i := 133) rfl)
theorem w1_133 : (Jvm.Cond.instanceMethod ({ cls := "DotPress$Setting", name := "<init>", desc := "()V" } : Jvm.MethodName)) ∈ lw_g := lw_in w1_133t rfl
theorem w1_134t : (Jvm.Cond.code ({ cls := "DotPress$Setting", name := "<init>", desc := "()V" } : Jvm.MethodName) prog_8_method_1_code (1 : Nat) (Option.none : Option Jvm.ClassFile.FieldType)) ∈ lw_tbl := mT1 (List.mem_of_getElem? (i := 134) rfl)
theorem w1_134 : (Jvm.Cond.code ({ cls := "DotPress$Setting", name := "<init>", desc := "()V" } : Jvm.MethodName) prog_8_method_1_code (1 : Nat) (Option.none : Option Jvm.ClassFile.FieldType)) ∈ lw_g := lw_in w1_134t rfl
theorem w1_135t : (Jvm.Cond.methodLink "DotPress$Setting" (3 : Nat) ({ cls := "java/lang/Object", name := "<init>", desc := "()V" } : Jvm.MethodName)) ∈ lw_tbl := mT1 (List.mem_of_getElem? (i := 135) rfl)
theorem w1_135 : (Jvm.Cond.methodLink "DotPress$Setting" (3 : Nat) ({ cls := "java/lang/Object", name := "<init>", desc := "()V" } : Jvm.MethodName)) ∈ lw_g := lw_in w1_135t rfl
theorem w1_136t : (Jvm.Cond.fieldLink "DotPress$Setting" (9 : Nat) "DotPress$Setting" "letters" "[I") ∈ lw_tbl := mT1 (List.mem_of_getElem? (i := 136) rfl)
theorem w1_136 : (Jvm.Cond.fieldLink "DotPress$Setting" (9 : Nat) "DotPress$Setting" "letters" "[I") ∈ lw_g := lw_in w1_136t rfl
theorem w1_137t : (Jvm.Cond.fieldLink "DotPress$Setting" (15 : Nat) "DotPress$Setting" "places" "[I") ∈ lw_tbl := mT1 (List.mem_of_getElem? (i := 137) rfl)
theorem w1_137 : (Jvm.Cond.fieldLink "DotPress$Setting" (15 : Nat) "DotPress$Setting" "places" "[I") ∈ lw_g := lw_in w1_137t rfl
theorem w1_138t : (Jvm.Cond.fieldLink "DotPress$Setting" (18 : Nat) "DotPress$Setting" "breaks" "[Z") ∈ lw_tbl := mT1 (List.mem_of_getElem? (i := 138) rfl)
theorem w1_138 : (Jvm.Cond.fieldLink "DotPress$Setting" (18 : Nat) "DotPress$Setting" "breaks" "[Z") ∈ lw_g := lw_in w1_138t rfl
theorem w1_139t : (Jvm.Cond.fieldLink "DotPress$Setting" (22 : Nat) "DotPress$Setting" "starts" "[I") ∈ lw_tbl := mT1 (List.mem_of_getElem? (i := 139) rfl)
theorem w1_139 : (Jvm.Cond.fieldLink "DotPress$Setting" (22 : Nat) "DotPress$Setting" "starts" "[I") ∈ lw_g := lw_in w1_139t rfl
theorem w1_14t : (Jvm.Cond.initialized "java/lang/Math") ∈ lw_tbl := mT1 (List.mem_of_getElem? (i := 14) rfl)
theorem w1_14 : (Jvm.Cond.initialized "java/lang/Math") ∈ lw_g := lw_in w1_14t rfl
theorem w1_140t : (Jvm.Cond.fieldLink "DotPress$Setting" (25 : Nat) "DotPress$Setting" "size" "I") ∈ lw_tbl := mT1 (List.mem_of_getElem? (i := 140) rfl)
theorem w1_140 : (Jvm.Cond.fieldLink "DotPress$Setting" (25 : Nat) "DotPress$Setting" "size" "I") ∈ lw_g := lw_in w1_140t rfl
theorem w1_143t : (Jvm.Cond.fieldLink "DotPress$Setting" (29 : Nat) "DotPress$Setting" "breakComes" "Z") ∈ lw_tbl := mT1 (List.mem_of_getElem? (i := 143) rfl)
theorem w1_143 : (Jvm.Cond.fieldLink "DotPress$Setting" (29 : Nat) "DotPress$Setting" "breakComes" "Z") ∈ lw_g := lw_in w1_143t rfl
theorem w1_144t : (Jvm.Cond.fieldLink "DotPress$Setting" (33 : Nat) "DotPress$Setting" "cells" "[I") ∈ lw_tbl := mT1 (List.mem_of_getElem? (i := 144) rfl)
theorem w1_144 : (Jvm.Cond.fieldLink "DotPress$Setting" (33 : Nat) "DotPress$Setting" "cells" "[I") ∈ lw_g := lw_in w1_144t rfl
theorem w1_147t : (Jvm.Cond.fieldLink "DotPress$Setting" (36 : Nat) "DotPress$Setting" "count" "I") ∈ lw_tbl := mT1 (List.mem_of_getElem? (i := 147) rfl)
theorem w1_147 : (Jvm.Cond.fieldLink "DotPress$Setting" (36 : Nat) "DotPress$Setting" "count" "I") ∈ lw_g := lw_in w1_147t rfl
theorem w1_150t : (Jvm.Cond.fieldLink "DotPress$Setting" (39 : Nat) "DotPress$Setting" "finds" "[I") ∈ lw_tbl := mT1 (List.mem_of_getElem? (i := 150) rfl)
theorem w1_150 : (Jvm.Cond.fieldLink "DotPress$Setting" (39 : Nat) "DotPress$Setting" "finds" "[I") ∈ lw_g := lw_in w1_150t rfl
theorem w1_151t : (Jvm.Cond.fieldLink "DotPress$Setting" (42 : Nat) "DotPress$Setting" "unknown" "I") ∈ lw_tbl := mT1 (List.mem_of_getElem? (i := 151) rfl)
theorem w1_151 : (Jvm.Cond.fieldLink "DotPress$Setting" (42 : Nat) "DotPress$Setting" "unknown" "I") ∈ lw_g := lw_in w1_151t rfl
theorem w1_152t : (Jvm.Cond.fieldLink "DotPress$Setting" (45 : Nat) "DotPress$Setting" "partBegin" "I") ∈ lw_tbl := mT1 (List.mem_of_getElem? (i := 152) rfl)
theorem w1_152 : (Jvm.Cond.fieldLink "DotPress$Setting" (45 : Nat) "DotPress$Setting" "partBegin" "I") ∈ lw_g := lw_in w1_152t rfl
theorem w1_153t : (Jvm.Cond.fieldLink "DotPress$Setting" (48 : Nat) "DotPress$Setting" "partEnd" "I") ∈ lw_tbl := mT1 (List.mem_of_getElem? (i := 153) rfl)
theorem w1_153 : (Jvm.Cond.fieldLink "DotPress$Setting" (48 : Nat) "DotPress$Setting" "partEnd" "I") ∈ lw_g := lw_in w1_153t rfl
theorem w1_154t : (Jvm.Cond.laysFinal "DotPress$Setting" "DotPress$Setting" "letters" "[I") ∈ lw_tbl := mT1 (List.mem_of_getElem? (i := 154) rfl)
theorem w1_154 : (Jvm.Cond.laysFinal "DotPress$Setting" "DotPress$Setting" "letters" "[I") ∈ lw_g := lw_in w1_154t rfl
theorem w1_156t : (Jvm.Cond.laysFinal "DotPress$Setting" "DotPress$Setting" "places" "[I") ∈ lw_tbl := mT1 (List.mem_of_getElem? (i := 156) rfl)
theorem w1_156 : (Jvm.Cond.laysFinal "DotPress$Setting" "DotPress$Setting" "places" "[I") ∈ lw_g := lw_in w1_156t rfl
theorem w1_158t : (Jvm.Cond.laysFinal "DotPress$Setting" "DotPress$Setting" "breaks" "[Z") ∈ lw_tbl := mT1 (List.mem_of_getElem? (i := 158) rfl)
theorem w1_158 : (Jvm.Cond.laysFinal "DotPress$Setting" "DotPress$Setting" "breaks" "[Z") ∈ lw_g := lw_in w1_158t rfl
theorem w1_160t : (Jvm.Cond.laysFinal "DotPress$Setting" "DotPress$Setting" "starts" "[I") ∈ lw_tbl := mT1 (List.mem_of_getElem? (i := 160) rfl)
theorem w1_160 : (Jvm.Cond.laysFinal "DotPress$Setting" "DotPress$Setting" "starts" "[I") ∈ lw_g := lw_in w1_160t rfl
theorem w1_162t : (Jvm.Cond.lays "DotPress$Setting" "DotPress$Setting" "size" "I") ∈ lw_tbl := mT1 (List.mem_of_getElem? (i := 162) rfl)
theorem w1_162 : (Jvm.Cond.lays "DotPress$Setting" "DotPress$Setting" "size" "I") ∈ lw_g := lw_in w1_162t rfl
theorem w1_164t : (Jvm.Cond.lays "DotPress$Setting" "DotPress$Setting" "breakComes" "Z") ∈ lw_tbl := mT1 (List.mem_of_getElem? (i := 164) rfl)
theorem w1_164 : (Jvm.Cond.lays "DotPress$Setting" "DotPress$Setting" "breakComes" "Z") ∈ lw_g := lw_in w1_164t rfl
theorem w1_166t : (Jvm.Cond.laysFinal "DotPress$Setting" "DotPress$Setting" "cells" "[I") ∈ lw_tbl := mT1 (List.mem_of_getElem? (i := 166) rfl)
theorem w1_166 : (Jvm.Cond.laysFinal "DotPress$Setting" "DotPress$Setting" "cells" "[I") ∈ lw_g := lw_in w1_166t rfl
theorem w1_168t : (Jvm.Cond.lays "DotPress$Setting" "DotPress$Setting" "count" "I") ∈ lw_tbl := mT1 (List.mem_of_getElem? (i := 168) rfl)
theorem w1_168 : (Jvm.Cond.lays "DotPress$Setting" "DotPress$Setting" "count" "I") ∈ lw_g := lw_in w1_168t rfl
theorem w1_170t : (Jvm.Cond.laysFinal "DotPress$Setting" "DotPress$Setting" "finds" "[I") ∈ lw_tbl := mT1 (List.mem_of_getElem? (i := 170) rfl)
theorem w1_170 : (Jvm.Cond.laysFinal "DotPress$Setting" "DotPress$Setting" "finds" "[I") ∈ lw_g := lw_in w1_170t rfl
theorem w1_172t : (Jvm.Cond.lays "DotPress$Setting" "DotPress$Setting" "unknown" "I") ∈ lw_tbl := mT1 (List.mem_of_getElem? (i := 172) rfl)
theorem w1_172 : (Jvm.Cond.lays "DotPress$Setting" "DotPress$Setting" "unknown" "I") ∈ lw_g := lw_in w1_172t rfl
theorem w1_174t : (Jvm.Cond.lays "DotPress$Setting" "DotPress$Setting" "partBegin" "I") ∈ lw_tbl := mT1 (List.mem_of_getElem? (i := 174) rfl)
theorem w1_174 : (Jvm.Cond.lays "DotPress$Setting" "DotPress$Setting" "partBegin" "I") ∈ lw_g := lw_in w1_174t rfl
theorem w1_176t : (Jvm.Cond.lays "DotPress$Setting" "DotPress$Setting" "partEnd" "I") ∈ lw_tbl := mT1 (List.mem_of_getElem? (i := 176) rfl)
theorem w1_176 : (Jvm.Cond.lays "DotPress$Setting" "DotPress$Setting" "partEnd" "I") ∈ lw_g := lw_in w1_176t rfl
theorem w1_179t : (Jvm.Cond.classLink "DotPress" (48 : Nat) "DotPress$Reader") ∈ lw_tbl := mT1 (List.mem_of_getElem? (i := 179) rfl)
theorem w1_179 : (Jvm.Cond.classLink "DotPress" (48 : Nat) "DotPress$Reader") ∈ lw_g := lw_in w1_179t rfl
theorem w1_180t : (Jvm.Cond.instantiable "DotPress$Reader" (8 : Nat)) ∈ lw_tbl := mT1 (List.mem_of_getElem? (i := 180) rfl)
theorem w1_180 : (Jvm.Cond.instantiable "DotPress$Reader" (8 : Nat)) ∈ lw_g := lw_in w1_180t rfl
theorem w1_181t : (Jvm.Cond.methodLinkNest "DotPress" (50 : Nat) ({ cls := "DotPress$Reader", name := "<init>", desc := "()V" } : Jvm.MethodName) "DotPress") ∈ lw_tbl := mT1 (List.mem_of_getElem? (i := 181) rfl)
theorem w1_182t : (Jvm.Cond.instanceMethod ({ cls := "DotPress$Reader", name := "<init>", desc := "()V" } : Jvm.MethodName)) ∈ lw_tbl := mT1 (List.mem_of_getElem? (i := 182) rfl)
theorem w1_182 : (Jvm.Cond.instanceMethod ({ cls := "DotPress$Reader", name := "<init>", desc := "()V" } : Jvm.MethodName)) ∈ lw_g := lw_in w1_182t rfl
theorem w1_183t : (Jvm.Cond.code ({ cls := "DotPress$Reader", name := "<init>", desc := "()V" } : Jvm.MethodName) prog_5_method_1_code (1 : Nat) (Option.none : Option Jvm.ClassFile.FieldType)) ∈ lw_tbl := mT1 (List.mem_of_getElem? (i := 183) rfl)
theorem w1_183 : (Jvm.Cond.code ({ cls := "DotPress$Reader", name := "<init>", desc := "()V" } : Jvm.MethodName) prog_5_method_1_code (1 : Nat) (Option.none : Option Jvm.ClassFile.FieldType)) ∈ lw_g := lw_in w1_183t rfl
theorem w1_184t : (Jvm.Cond.methodLink "DotPress$Reader" (3 : Nat) ({ cls := "java/lang/Object", name := "<init>", desc := "()V" } : Jvm.MethodName)) ∈ lw_tbl := mT1 (List.mem_of_getElem? (i := 184) rfl)
theorem w1_184 : (Jvm.Cond.methodLink "DotPress$Reader" (3 : Nat) ({ cls := "java/lang/Object", name := "<init>", desc := "()V" } : Jvm.MethodName)) ∈ lw_g := lw_in w1_184t rfl
theorem w1_185t : (Jvm.Cond.classLink "DotPress$Reader" (9 : Nat) "java/util/ArrayList") ∈ lw_tbl := mT1 (List.mem_of_getElem? (i := 185) rfl)
theorem w1_185 : (Jvm.Cond.classLink "DotPress$Reader" (9 : Nat) "java/util/ArrayList") ∈ lw_g := lw_in w1_185t rfl
theorem w1_186t : (Jvm.Cond.methodLink "DotPress$Reader" (11 : Nat) ({ cls := "java/util/ArrayList", name := "<init>", desc := "()V" } : Jvm.MethodName)) ∈ lw_tbl := mT1 (List.mem_of_getElem? (i := 186) rfl)
theorem w1_186 : (Jvm.Cond.methodLink "DotPress$Reader" (11 : Nat) ({ cls := "java/util/ArrayList", name := "<init>", desc := "()V" } : Jvm.MethodName)) ∈ lw_g := lw_in w1_186t rfl
theorem w1_187t : (Jvm.Cond.classLink "DotPress$Reader" (21 : Nat) "DotPress$Ints") ∈ lw_tbl := mT1 (List.mem_of_getElem? (i := 187) rfl)
theorem w1_187 : (Jvm.Cond.classLink "DotPress$Reader" (21 : Nat) "DotPress$Ints") ∈ lw_g := lw_in w1_187t rfl
theorem w1_188t : (Jvm.Cond.methodLink "DotPress$Reader" (23 : Nat) ({ cls := "DotPress$Ints", name := "<init>", desc := "(I)V" } : Jvm.MethodName)) ∈ lw_tbl := mT1 (List.mem_of_getElem? (i := 188) rfl)
theorem w1_188 : (Jvm.Cond.methodLink "DotPress$Reader" (23 : Nat) ({ cls := "DotPress$Ints", name := "<init>", desc := "(I)V" } : Jvm.MethodName)) ∈ lw_g := lw_in w1_188t rfl
theorem w1_189t : (Jvm.Cond.constant "DotPress$Reader" (33 : Nat) (40200 : Int32)) ∈ lw_tbl := mT1 (List.mem_of_getElem? (i := 189) rfl)
theorem w1_189 : (Jvm.Cond.constant "DotPress$Reader" (33 : Nat) (40200 : Int32)) ∈ lw_g := lw_in w1_189t rfl
theorem w1_190t : (Jvm.Cond.fieldLink "DotPress$Reader" (12 : Nat) "DotPress$Reader" "first" "Ljava/util/ArrayList;") ∈ lw_tbl := mT1 (List.mem_of_getElem? (i := 190) rfl)
theorem w1_190 : (Jvm.Cond.fieldLink "DotPress$Reader" (12 : Nat) "DotPress$Reader" "first" "Ljava/util/ArrayList;") ∈ lw_g := lw_in w1_190t rfl
theorem w1_193t : (Jvm.Cond.fieldLink "DotPress$Reader" (18 : Nat) "DotPress$Reader" "second" "Ljava/util/ArrayList;") ∈ lw_tbl := mT1 (List.mem_of_getElem? (i := 193) rfl)
theorem w1_193 : (Jvm.Cond.fieldLink "DotPress$Reader" (18 : Nat) "DotPress$Reader" "second" "Ljava/util/ArrayList;") ∈ lw_g := lw_in w1_193t rfl
theorem w1_196t : (Jvm.Cond.fieldLink "DotPress$Reader" (26 : Nat) "DotPress$Reader" "firstBegins" "LDotPress$Ints;") ∈ lw_tbl := mT1 (List.mem_of_getElem? (i := 196) rfl)
theorem w1_196 : (Jvm.Cond.fieldLink "DotPress$Reader" (26 : Nat) "DotPress$Reader" "firstBegins" "LDotPress$Ints;") ∈ lw_g := lw_in w1_196t rfl
theorem w1_197t : (Jvm.Cond.fieldLink "DotPress$Reader" (30 : Nat) "DotPress$Reader" "secondBegins" "LDotPress$Ints;") ∈ lw_tbl := mT1 (List.mem_of_getElem? (i := 197) rfl)
theorem w1_197 : (Jvm.Cond.fieldLink "DotPress$Reader" (30 : Nat) "DotPress$Reader" "secondBegins" "LDotPress$Ints;") ∈ lw_g := lw_in w1_197t rfl
theorem w1_198t : (Jvm.Cond.fieldLink "DotPress$Reader" (34 : Nat) "DotPress$Reader" "cells" "LDotPress$Ints;") ∈ lw_tbl := mT1 (List.mem_of_getElem? (i := 198) rfl)
theorem w1_198 : (Jvm.Cond.fieldLink "DotPress$Reader" (34 : Nat) "DotPress$Reader" "cells" "LDotPress$Ints;") ∈ lw_g := lw_in w1_198t rfl
theorem w1_199t : (Jvm.Cond.fieldLink "DotPress$Reader" (37 : Nat) "DotPress$Reader" "places" "LDotPress$Ints;") ∈ lw_tbl := mT1 (List.mem_of_getElem? (i := 199) rfl)
theorem w1_199 : (Jvm.Cond.fieldLink "DotPress$Reader" (37 : Nat) "DotPress$Reader" "places" "LDotPress$Ints;") ∈ lw_g := lw_in w1_199t rfl
theorem w1_2t : (Jvm.Cond.initialized "DotPress$Ints") ∈ lw_tbl := mT1 (List.mem_of_getElem? (i := 2) rfl)
theorem w1_2 : (Jvm.Cond.initialized "DotPress$Ints") ∈ lw_g := lw_in w1_2t rfl
theorem w1_200t : (Jvm.Cond.fieldLink "DotPress$Reader" (40 : Nat) "DotPress$Reader" "bytes" "LDotPress$Ints;") ∈ lw_tbl := mT1 (List.mem_of_getElem? (i := 200) rfl)
theorem w1_200 : (Jvm.Cond.fieldLink "DotPress$Reader" (40 : Nat) "DotPress$Reader" "bytes" "LDotPress$Ints;") ∈ lw_g := lw_in w1_200t rfl
theorem w1_202t : (Jvm.Cond.fieldLink "DotPress$Reader" (43 : Nat) "DotPress$Reader" "wrong" "I") ∈ lw_tbl := mT1 (List.mem_of_getElem? (i := 202) rfl)
theorem w1_202 : (Jvm.Cond.fieldLink "DotPress$Reader" (43 : Nat) "DotPress$Reader" "wrong" "I") ∈ lw_g := lw_in w1_202t rfl
theorem w1_203t : (Jvm.Cond.laysFinal "DotPress$Reader" "DotPress$Reader" "first" "Ljava/util/ArrayList;") ∈ lw_tbl := mT1 (List.mem_of_getElem? (i := 203) rfl)
theorem w1_203 : (Jvm.Cond.laysFinal "DotPress$Reader" "DotPress$Reader" "first" "Ljava/util/ArrayList;") ∈ lw_g := lw_in w1_203t rfl
theorem w1_205t : (Jvm.Cond.laysFinal "DotPress$Reader" "DotPress$Reader" "second" "Ljava/util/ArrayList;") ∈ lw_tbl := mT1 (List.mem_of_getElem? (i := 205) rfl)
theorem w1_205 : (Jvm.Cond.laysFinal "DotPress$Reader" "DotPress$Reader" "second" "Ljava/util/ArrayList;") ∈ lw_g := lw_in w1_205t rfl
theorem w1_207t : (Jvm.Cond.laysFinal "DotPress$Reader" "DotPress$Reader" "firstBegins" "LDotPress$Ints;") ∈ lw_tbl := mT1 (List.mem_of_getElem? (i := 207) rfl)
theorem w1_207 : (Jvm.Cond.laysFinal "DotPress$Reader" "DotPress$Reader" "firstBegins" "LDotPress$Ints;") ∈ lw_g := lw_in w1_207t rfl
theorem w1_209t : (Jvm.Cond.laysFinal "DotPress$Reader" "DotPress$Reader" "secondBegins" "LDotPress$Ints;") ∈ lw_tbl := mT1 (List.mem_of_getElem? (i := 209) rfl)
theorem w1_209 : (Jvm.Cond.laysFinal "DotPress$Reader" "DotPress$Reader" "secondBegins" "LDotPress$Ints;") ∈ lw_g := lw_in w1_209t rfl
theorem w1_211t : (Jvm.Cond.laysFinal "DotPress$Reader" "DotPress$Reader" "cells" "LDotPress$Ints;") ∈ lw_tbl := mT1 (List.mem_of_getElem? (i := 211) rfl)
theorem w1_211 : (Jvm.Cond.laysFinal "DotPress$Reader" "DotPress$Reader" "cells" "LDotPress$Ints;") ∈ lw_g := lw_in w1_211t rfl
theorem w1_213t : (Jvm.Cond.laysFinal "DotPress$Reader" "DotPress$Reader" "places" "LDotPress$Ints;") ∈ lw_tbl := mT1 (List.mem_of_getElem? (i := 213) rfl)
theorem w1_213 : (Jvm.Cond.laysFinal "DotPress$Reader" "DotPress$Reader" "places" "LDotPress$Ints;") ∈ lw_g := lw_in w1_213t rfl
theorem w1_215t : (Jvm.Cond.laysFinal "DotPress$Reader" "DotPress$Reader" "bytes" "LDotPress$Ints;") ∈ lw_tbl := mT1 (List.mem_of_getElem? (i := 215) rfl)
theorem w1_215 : (Jvm.Cond.laysFinal "DotPress$Reader" "DotPress$Reader" "bytes" "LDotPress$Ints;") ∈ lw_g := lw_in w1_215t rfl
theorem w1_217t : (Jvm.Cond.lays "DotPress$Reader" "DotPress$Reader" "wrong" "I") ∈ lw_tbl := mT1 (List.mem_of_getElem? (i := 217) rfl)
theorem w1_217 : (Jvm.Cond.lays "DotPress$Reader" "DotPress$Reader" "wrong" "I") ∈ lw_g := lw_in w1_217t rfl
theorem w1_220t : (Jvm.Cond.classLink "DotPress" (55 : Nat) "DotPress$Readings") ∈ lw_tbl := mT1 (List.mem_of_getElem? (i := 220) rfl)
theorem w1_220 : (Jvm.Cond.classLink "DotPress" (55 : Nat) "DotPress$Readings") ∈ lw_g := lw_in w1_220t rfl
theorem w1_221t : (Jvm.Cond.instantiable "DotPress$Readings" (11 : Nat)) ∈ lw_tbl := mT1 (List.mem_of_getElem? (i := 221) rfl)
theorem w1_221 : (Jvm.Cond.instantiable "DotPress$Readings" (11 : Nat)) ∈ lw_g := lw_in w1_221t rfl
theorem w1_222t : (Jvm.Cond.methodLink "DotPress" (57 : Nat) ({ cls := "DotPress$Readings", name := "<init>", desc := "(LDotPress$Reader;)V" } : Jvm.MethodName)) ∈ lw_tbl := mT1 (List.mem_of_getElem? (i := 222) rfl)
theorem w1_222 : (Jvm.Cond.methodLink "DotPress" (57 : Nat) ({ cls := "DotPress$Readings", name := "<init>", desc := "(LDotPress$Reader;)V" } : Jvm.MethodName)) ∈ lw_g := lw_in w1_222t rfl
theorem w1_223t : (Jvm.Cond.instanceMethod ({ cls := "DotPress$Readings", name := "<init>", desc := "(LDotPress$Reader;)V" } : Jvm.MethodName)) ∈ lw_tbl := mT1 (List.mem_of_getElem? (i := 223) rfl)
theorem w1_223 : (Jvm.Cond.instanceMethod ({ cls := "DotPress$Readings", name := "<init>", desc := "(LDotPress$Reader;)V" } : Jvm.MethodName)) ∈ lw_g := lw_in w1_223t rfl
theorem w1_224t : (Jvm.Cond.code ({ cls := "DotPress$Readings", name := "<init>", desc := "(LDotPress$Reader;)V" } : Jvm.MethodName) prog_6_method_1_code (2 : Nat) (Option.none : Option Jvm.ClassFile.FieldType)) ∈ lw_tbl := mT1 (List.mem_of_getElem? (i := 224) rfl)
theorem w1_224 : (Jvm.Cond.code ({ cls := "DotPress$Readings", name := "<init>", desc := "(LDotPress$Reader;)V" } : Jvm.MethodName) prog_6_method_1_code (2 : Nat) (Option.none : Option Jvm.ClassFile.FieldType)) ∈ lw_g := lw_in w1_224t rfl
theorem w1_225t : (Jvm.Cond.methodLink "DotPress$Readings" (3 : Nat) ({ cls := "java/lang/Object", name := "<init>", desc := "()V" } : Jvm.MethodName)) ∈ lw_tbl := mT1 (List.mem_of_getElem? (i := 225) rfl)
theorem w1_225 : (Jvm.Cond.methodLink "DotPress$Readings" (3 : Nat) ({ cls := "java/lang/Object", name := "<init>", desc := "()V" } : Jvm.MethodName)) ∈ lw_g := lw_in w1_225t rfl
theorem w1_226t : (Jvm.Cond.classLink "DotPress$Readings" (25 : Nat) "DotPress$Ints") ∈ lw_tbl := mT1 (List.mem_of_getElem? (i := 226) rfl)
theorem w1_226 : (Jvm.Cond.classLink "DotPress$Readings" (25 : Nat) "DotPress$Ints") ∈ lw_g := lw_in w1_226t rfl
theorem w1_227t : (Jvm.Cond.constant "DotPress$Readings" (27 : Nat) (40000 : Int32)) ∈ lw_tbl := mT1 (List.mem_of_getElem? (i := 227) rfl)
theorem w1_227 : (Jvm.Cond.constant "DotPress$Readings" (27 : Nat) (40000 : Int32)) ∈ lw_g := lw_in w1_227t rfl
theorem w1_228t : (Jvm.Cond.methodLink "DotPress$Readings" (28 : Nat) ({ cls := "DotPress$Ints", name := "<init>", desc := "(I)V" } : Jvm.MethodName)) ∈ lw_tbl := mT1 (List.mem_of_getElem? (i := 228) rfl)
theorem w1_228 : (Jvm.Cond.methodLink "DotPress$Readings" (28 : Nat) ({ cls := "DotPress$Ints", name := "<init>", desc := "(I)V" } : Jvm.MethodName)) ∈ lw_g := lw_in w1_228t rfl
theorem w1_229t : (Jvm.Cond.fieldLink "DotPress$Readings" (9 : Nat) "DotPress$Readings" "canEnd" "[Z") ∈ lw_tbl := mT1 (List.mem_of_getElem? (i := 229) rfl)
theorem w1_229 : (Jvm.Cond.fieldLink "DotPress$Readings" (9 : Nat) "DotPress$Readings" "canEnd" "[Z") ∈ lw_g := lw_in w1_229t rfl
theorem w1_230t : (Jvm.Cond.fieldLink "DotPress$Readings" (15 : Nat) "DotPress$Readings" "nodes" "[I") ∈ lw_tbl := mT1 (List.mem_of_getElem? (i := 230) rfl)
theorem w1_230 : (Jvm.Cond.fieldLink "DotPress$Readings" (15 : Nat) "DotPress$Readings" "nodes" "[I") ∈ lw_g := lw_in w1_230t rfl
theorem w1_231t : (Jvm.Cond.fieldLink "DotPress$Readings" (19 : Nat) "DotPress$Readings" "choices" "[I") ∈ lw_tbl := mT1 (List.mem_of_getElem? (i := 231) rfl)
theorem w1_231 : (Jvm.Cond.fieldLink "DotPress$Readings" (19 : Nat) "DotPress$Readings" "choices" "[I") ∈ lw_g := lw_in w1_231t rfl
theorem w1_232t : (Jvm.Cond.fieldLink "DotPress$Readings" (22 : Nat) "DotPress$Readings" "ends" "[I") ∈ lw_tbl := mT1 (List.mem_of_getElem? (i := 232) rfl)
theorem w1_232 : (Jvm.Cond.fieldLink "DotPress$Readings" (22 : Nat) "DotPress$Readings" "ends" "[I") ∈ lw_g := lw_in w1_232t rfl
theorem w1_233t : (Jvm.Cond.fieldLink "DotPress$Readings" (31 : Nat) "DotPress$Readings" "bytes" "LDotPress$Ints;") ∈ lw_tbl := mT1 (List.mem_of_getElem? (i := 233) rfl)
theorem w1_233 : (Jvm.Cond.fieldLink "DotPress$Readings" (31 : Nat) "DotPress$Readings" "bytes" "LDotPress$Ints;") ∈ lw_g := lw_in w1_233t rfl
theorem w1_234t : (Jvm.Cond.fieldLink "DotPress$Readings" (35 : Nat) "DotPress$Readings" "count" "I") ∈ lw_tbl := mT1 (List.mem_of_getElem? (i := 234) rfl)
theorem w1_234 : (Jvm.Cond.fieldLink "DotPress$Readings" (35 : Nat) "DotPress$Readings" "count" "I") ∈ lw_g := lw_in w1_234t rfl
theorem w1_236t : (Jvm.Cond.fieldLink "DotPress$Readings" (39 : Nat) "DotPress$Readings" "leftSome" "Z") ∈ lw_tbl := mT1 (List.mem_of_getElem? (i := 236) rfl)
theorem w1_236 : (Jvm.Cond.fieldLink "DotPress$Readings" (39 : Nat) "DotPress$Readings" "leftSome" "Z") ∈ lw_g := lw_in w1_236t rfl
theorem w1_237t : (Jvm.Cond.fieldLink "DotPress" (361 : Nat) "DotPress$Readings" "leftSome" "Z") ∈ lw_tbl := mT1 (List.mem_of_getElem? (i := 237) rfl)
theorem w1_237 : (Jvm.Cond.fieldLink "DotPress" (361 : Nat) "DotPress$Readings" "leftSome" "Z") ∈ lw_g := lw_in w1_237t rfl
theorem w1_238t : (Jvm.Cond.fieldLink "DotPress$Readings" (52 : Nat) "DotPress$Readings" "rows" "LDotPress$Reader;") ∈ lw_tbl := mT1 (List.mem_of_getElem? (i := 238) rfl)
theorem w1_238 : (Jvm.Cond.fieldLink "DotPress$Readings" (52 : Nat) "DotPress$Readings" "rows" "LDotPress$Reader;") ∈ lw_g := lw_in w1_238t rfl
theorem w1_239t : (Jvm.Cond.fieldLink "DotPress$Readings" (43 : Nat) "DotPress$Readings" "cells" "[I") ∈ lw_tbl := mT1 (List.mem_of_getElem? (i := 239) rfl)
theorem w1_239 : (Jvm.Cond.fieldLink "DotPress$Readings" (43 : Nat) "DotPress$Readings" "cells" "[I") ∈ lw_g := lw_in w1_239t rfl
theorem w1_28t : (Jvm.Cond.code ({ cls := "DotPress", name := "<init>", desc := "()V" } : Jvm.MethodName) prog_1_method_1_code (1 : Nat) (Option.none : Option Jvm.ClassFile.FieldType)) ∈ lw_tbl := mT1 (List.mem_of_getElem? (i := 28) rfl)
theorem w1_28 : (Jvm.Cond.code ({ cls := "DotPress", name := "<init>", desc := "()V" } : Jvm.MethodName) prog_1_method_1_code (1 : Nat) (Option.none : Option Jvm.ClassFile.FieldType)) ∈ lw_g := lw_in w1_28t rfl
theorem w1_29t : (Jvm.Cond.methodLink "DotPress" (1 : Nat) ({ cls := "java/lang/Object", name := "<init>", desc := "()V" } : Jvm.MethodName)) ∈ lw_tbl := mT1 (List.mem_of_getElem? (i := 29) rfl)
theorem w1_29 : (Jvm.Cond.methodLink "DotPress" (1 : Nat) ({ cls := "java/lang/Object", name := "<init>", desc := "()V" } : Jvm.MethodName)) ∈ lw_g := lw_in w1_29t rfl
theorem w1_3t : (Jvm.Cond.initialized "DotPress$Tables") ∈ lw_tbl := mT1 (List.mem_of_getElem? (i := 3) rfl)
theorem w1_3 : (Jvm.Cond.initialized "DotPress$Tables") ∈ lw_g := lw_in w1_3t rfl
theorem w1_30t : (Jvm.Cond.instanceMethod ({ cls := "java/lang/Object", name := "<init>", desc := "()V" } : Jvm.MethodName)) ∈ lw_tbl := mT1 (List.mem_of_getElem? (i := 30) rfl)
theorem w1_30 : (Jvm.Cond.instanceMethod ({ cls := "java/lang/Object", name := "<init>", desc := "()V" } : Jvm.MethodName)) ∈ lw_g := lw_in w1_30t rfl
theorem w1_31t : (Jvm.Cond.code ({ cls := "java/lang/Object", name := "<init>", desc := "()V" } : Jvm.MethodName) object_method_1_code (1 : Nat) (Option.none : Option Jvm.ClassFile.FieldType)) ∈ lw_tbl := mT1 (List.mem_of_getElem? (i := 31) rfl)
theorem w1_31 : (Jvm.Cond.code ({ cls := "java/lang/Object", name := "<init>", desc := "()V" } : Jvm.MethodName) object_method_1_code (1 : Nat) (Option.none : Option Jvm.ClassFile.FieldType)) ∈ lw_g := lw_in w1_31t rfl
theorem w1_32t : (Jvm.Cond.classLink "DotPress" (7 : Nat) "DotPress$Ints") ∈ lw_tbl := mT1 (List.mem_of_getElem? (i := 32) rfl)
theorem w1_32 : (Jvm.Cond.classLink "DotPress" (7 : Nat) "DotPress$Ints") ∈ lw_g := lw_in w1_32t rfl
theorem w1_33t : (Jvm.Cond.instantiable "DotPress$Ints" (3 : Nat)) ∈ lw_tbl := mT1 (List.mem_of_getElem? (i := 33) rfl)
theorem w1_33 : (Jvm.Cond.instantiable "DotPress$Ints" (3 : Nat)) ∈ lw_g := lw_in w1_33t rfl
theorem w1_34t : (Jvm.Cond.methodLink "DotPress" (11 : Nat) ({ cls := "DotPress$Ints", name := "<init>", desc := "(I)V" } : Jvm.MethodName)) ∈ lw_tbl := mT1 (List.mem_of_getElem? (i := 34) rfl)
theorem w1_34 : (Jvm.Cond.methodLink "DotPress" (11 : Nat) ({ cls := "DotPress$Ints", name := "<init>", desc := "(I)V" } : Jvm.MethodName)) ∈ lw_g := lw_in w1_34t rfl
theorem w1_35t : (Jvm.Cond.instanceMethod ({ cls := "DotPress$Ints", name := "<init>", desc := "(I)V" } : Jvm.MethodName)) ∈ lw_tbl := mT1 (List.mem_of_getElem? (i := 35) rfl)
theorem w1_35 : (Jvm.Cond.instanceMethod ({ cls := "DotPress$Ints", name := "<init>", desc := "(I)V" } : Jvm.MethodName)) ∈ lw_g := lw_in w1_35t rfl
theorem w1_36t : (Jvm.Cond.code ({ cls := "DotPress$Ints", name := "<init>", desc := "(I)V" } : Jvm.MethodName) prog_3_method_1_code (2 : Nat) (Option.none : Option Jvm.ClassFile.FieldType)) ∈ lw_tbl := mT1 (List.mem_of_getElem? (i := 36) rfl)
theorem w1_36 : (Jvm.Cond.code ({ cls := "DotPress$Ints", name := "<init>", desc := "(I)V" } : Jvm.MethodName) prog_3_method_1_code (2 : Nat) (Option.none : Option Jvm.ClassFile.FieldType)) ∈ lw_g := lw_in w1_36t rfl
theorem w1_37t : (Jvm.Cond.methodLink "DotPress$Ints" (1 : Nat) ({ cls := "java/lang/Object", name := "<init>", desc := "()V" } : Jvm.MethodName)) ∈ lw_tbl := mT1 (List.mem_of_getElem? (i := 37) rfl)
theorem w1_37 : (Jvm.Cond.methodLink "DotPress$Ints" (1 : Nat) ({ cls := "java/lang/Object", name := "<init>", desc := "()V" } : Jvm.MethodName)) ∈ lw_g := lw_in w1_37t rfl
theorem w1_38t : (Jvm.Cond.fieldLink "DotPress$Ints" (13 : Nat) "DotPress$Ints" "limit" "I") ∈ lw_tbl := mT1 (List.mem_of_getElem? (i := 38) rfl)
theorem w1_38 : (Jvm.Cond.fieldLink "DotPress$Ints" (13 : Nat) "DotPress$Ints" "limit" "I") ∈ lw_g := lw_in w1_38t rfl
theorem w1_39t : (Jvm.Cond.fieldLink "DotPress$Ints" (16 : Nat) "DotPress$Ints" "items" "[I") ∈ lw_tbl := mT1 (List.mem_of_getElem? (i := 39) rfl)
theorem w1_39 : (Jvm.Cond.fieldLink "DotPress$Ints" (16 : Nat) "DotPress$Ints" "items" "[I") ∈ lw_g := lw_in w1_39t rfl
theorem w1_4t : (Jvm.Cond.initialized "java/util/AbstractCollection") ∈ lw_tbl := mT1 (List.mem_of_getElem? (i := 4) rfl)
theorem w1_4 : (Jvm.Cond.initialized "java/util/AbstractCollection") ∈ lw_g := lw_in w1_4t rfl
theorem w1_43t : (Jvm.Cond.fieldLink "DotPress$Ints" (7 : Nat) "DotPress$Ints" "size" "I") ∈ lw_tbl := mT1 (List.mem_of_getElem? (i := 43) rfl)
theorem w1_43 : (Jvm.Cond.fieldLink "DotPress$Ints" (7 : Nat) "DotPress$Ints" "size" "I") ∈ lw_g := lw_in w1_43t rfl
theorem w1_44t : (Jvm.Cond.fieldLink "DotPress" (99 : Nat) "DotPress$Ints" "size" "I") ∈ lw_tbl := mT1 (List.mem_of_getElem? (i := 44) rfl)
theorem w1_44 : (Jvm.Cond.fieldLink "DotPress" (99 : Nat) "DotPress$Ints" "size" "I") ∈ lw_g := lw_in w1_44t rfl
theorem w1_5t : (Jvm.Cond.initialized "java/util/AbstractList") ∈ lw_tbl := mT1 (List.mem_of_getElem? (i := 5) rfl)
theorem w1_5 : (Jvm.Cond.initialized "java/util/AbstractList") ∈ lw_g := lw_in w1_5t rfl
theorem w1_50t : (Jvm.Cond.laysFinal "DotPress$Ints" "DotPress$Ints" "limit" "I") ∈ lw_tbl := mT1 (List.mem_of_getElem? (i := 50) rfl)
theorem w1_50 : (Jvm.Cond.laysFinal "DotPress$Ints" "DotPress$Ints" "limit" "I") ∈ lw_g := lw_in w1_50t rfl
theorem w1_52t : (Jvm.Cond.lays "DotPress$Ints" "DotPress$Ints" "items" "[I") ∈ lw_tbl := mT1 (List.mem_of_getElem? (i := 52) rfl)
theorem w1_52 : (Jvm.Cond.lays "DotPress$Ints" "DotPress$Ints" "items" "[I") ∈ lw_g := lw_in w1_52t rfl
theorem w1_54t : (Jvm.Cond.lays "DotPress$Ints" "DotPress$Ints" "size" "I") ∈ lw_tbl := mT1 (List.mem_of_getElem? (i := 54) rfl)
theorem w1_54 : (Jvm.Cond.lays "DotPress$Ints" "DotPress$Ints" "size" "I") ∈ lw_g := lw_in w1_54t rfl
theorem w1_57t : (Jvm.Cond.arrayClass Jvm.ClassFile.FieldType.int) ∈ lw_tbl := mT1 (List.mem_of_getElem? (i := 57) rfl)
theorem w1_57 : (Jvm.Cond.arrayClass Jvm.ClassFile.FieldType.int) ∈ lw_g := lw_in w1_57t rfl
theorem w1_58t : (Jvm.Cond.classLink "DotPress" (27 : Nat) "DotPress$Tables") ∈ lw_tbl := mT1 (List.mem_of_getElem? (i := 58) rfl)
theorem w1_58 : (Jvm.Cond.classLink "DotPress" (27 : Nat) "DotPress$Tables") ∈ lw_g := lw_in w1_58t rfl
theorem w1_59t : (Jvm.Cond.instantiable "DotPress$Tables" (2 : Nat)) ∈ lw_tbl := mT1 (List.mem_of_getElem? (i := 59) rfl)
theorem w1_59 : (Jvm.Cond.instantiable "DotPress$Tables" (2 : Nat)) ∈ lw_g := lw_in w1_59t rfl
theorem w1_6t : (Jvm.Cond.initialized "java/util/ArrayList") ∈ lw_tbl := mT1 (List.mem_of_getElem? (i := 6) rfl)
theorem w1_6 : (Jvm.Cond.initialized "java/util/ArrayList") ∈ lw_g := lw_in w1_6t rfl
theorem w1_60t : (Jvm.Cond.methodLinkNest "DotPress" (29 : Nat) ({ cls := "DotPress$Tables", name := "<init>", desc := "()V" } : Jvm.MethodName) "DotPress") ∈ lw_tbl := mT1 (List.mem_of_getElem? (i := 60) rfl)
theorem w1_61t : (Jvm.Cond.instanceMethod ({ cls := "DotPress$Tables", name := "<init>", desc := "()V" } : Jvm.MethodName)) ∈ lw_tbl := mT1 (List.mem_of_getElem? (i := 61) rfl)
theorem w1_61 : (Jvm.Cond.instanceMethod ({ cls := "DotPress$Tables", name := "<init>", desc := "()V" } : Jvm.MethodName)) ∈ lw_g := lw_in w1_61t rfl
theorem w1_62t : (Jvm.Cond.code ({ cls := "DotPress$Tables", name := "<init>", desc := "()V" } : Jvm.MethodName) prog_12_method_1_code (1 : Nat) (Option.none : Option Jvm.ClassFile.FieldType)) ∈ lw_tbl := mT1 (List.mem_of_getElem? (i := 62) rfl)
theorem w1_62 : (Jvm.Cond.code ({ cls := "DotPress$Tables", name := "<init>", desc := "()V" } : Jvm.MethodName) prog_12_method_1_code (1 : Nat) (Option.none : Option Jvm.ClassFile.FieldType)) ∈ lw_g := lw_in w1_62t rfl
theorem w1_63t : (Jvm.Cond.methodLink "DotPress$Tables" (3 : Nat) ({ cls := "java/lang/Object", name := "<init>", desc := "()V" } : Jvm.MethodName)) ∈ lw_tbl := mT1 (List.mem_of_getElem? (i := 63) rfl)
theorem w1_63 : (Jvm.Cond.methodLink "DotPress$Tables" (3 : Nat) ({ cls := "java/lang/Object", name := "<init>", desc := "()V" } : Jvm.MethodName)) ∈ lw_g := lw_in w1_63t rfl
theorem w1_64t : (Jvm.Cond.classLink "DotPress$Tables" (9 : Nat) "java/util/ArrayList") ∈ lw_tbl := mT1 (List.mem_of_getElem? (i := 64) rfl)
theorem w1_64 : (Jvm.Cond.classLink "DotPress$Tables" (9 : Nat) "java/util/ArrayList") ∈ lw_g := lw_in w1_64t rfl
theorem w1_65t : (Jvm.Cond.instantiable "java/util/ArrayList" (3 : Nat)) ∈ lw_tbl := mT1 (List.mem_of_getElem? (i := 65) rfl)
theorem w1_65 : (Jvm.Cond.instantiable "java/util/ArrayList" (3 : Nat)) ∈ lw_g := lw_in w1_65t rfl
theorem w1_66t : (Jvm.Cond.methodLink "DotPress$Tables" (11 : Nat) ({ cls := "java/util/ArrayList", name := "<init>", desc := "()V" } : Jvm.MethodName)) ∈ lw_tbl := mT1 (List.mem_of_getElem? (i := 66) rfl)
theorem w1_66 : (Jvm.Cond.methodLink "DotPress$Tables" (11 : Nat) ({ cls := "java/util/ArrayList", name := "<init>", desc := "()V" } : Jvm.MethodName)) ∈ lw_g := lw_in w1_66t rfl
theorem w1_67t : (Jvm.Cond.instanceMethod ({ cls := "java/util/ArrayList", name := "<init>", desc := "()V" } : Jvm.MethodName)) ∈ lw_tbl := mT1 (List.mem_of_getElem? (i := 67) rfl)
theorem w1_67 : (Jvm.Cond.instanceMethod ({ cls := "java/util/ArrayList", name := "<init>", desc := "()V" } : Jvm.MethodName)) ∈ lw_g := lw_in w1_67t rfl
theorem w1_68t : (Jvm.Cond.code ({ cls := "java/util/ArrayList", name := "<init>", desc := "()V" } : Jvm.MethodName) prog_23_method_2_code (1 : Nat) (Option.none : Option Jvm.ClassFile.FieldType)) ∈ lw_tbl := mT1 (List.mem_of_getElem? (i := 68) rfl)
theorem w1_68 : (Jvm.Cond.code ({ cls := "java/util/ArrayList", name := "<init>", desc := "()V" } : Jvm.MethodName) prog_23_method_2_code (1 : Nat) (Option.none : Option Jvm.ClassFile.FieldType)) ∈ lw_g := lw_in w1_68t rfl
theorem w1_69t : (Jvm.Cond.methodLink "java/util/ArrayList" (1 : Nat) ({ cls := "java/util/AbstractList", name := "<init>", desc := "()V" } : Jvm.MethodName)) ∈ lw_tbl := mT1 (List.mem_of_getElem? (i := 69) rfl)
theorem w1_69 : (Jvm.Cond.methodLink "java/util/ArrayList" (1 : Nat) ({ cls := "java/util/AbstractList", name := "<init>", desc := "()V" } : Jvm.MethodName)) ∈ lw_g := lw_in w1_69t rfl
theorem w1_7t : (Jvm.Cond.initialized "DotPress$Source") ∈ lw_tbl := mT1 (List.mem_of_getElem? (i := 7) rfl)
theorem w1_7 : (Jvm.Cond.initialized "DotPress$Source") ∈ lw_g := lw_in w1_7t rfl
theorem w1_70t : (Jvm.Cond.instanceMethod ({ cls := "java/util/AbstractList", name := "<init>", desc := "()V" } : Jvm.MethodName)) ∈ lw_tbl := mT1 (List.mem_of_getElem? (i := 70) rfl)
theorem w1_70 : (Jvm.Cond.instanceMethod ({ cls := "java/util/AbstractList", name := "<init>", desc := "()V" } : Jvm.MethodName)) ∈ lw_g := lw_in w1_70t rfl
theorem w1_71t : (Jvm.Cond.code ({ cls := "java/util/AbstractList", name := "<init>", desc := "()V" } : Jvm.MethodName) prog_22_method_1_code (1 : Nat) (Option.none : Option Jvm.ClassFile.FieldType)) ∈ lw_tbl := mT1 (List.mem_of_getElem? (i := 71) rfl)
theorem w1_71 : (Jvm.Cond.code ({ cls := "java/util/AbstractList", name := "<init>", desc := "()V" } : Jvm.MethodName) prog_22_method_1_code (1 : Nat) (Option.none : Option Jvm.ClassFile.FieldType)) ∈ lw_g := lw_in w1_71t rfl
theorem w1_72t : (Jvm.Cond.methodLink "java/util/AbstractList" (1 : Nat) ({ cls := "java/util/AbstractCollection", name := "<init>", desc := "()V" } : Jvm.MethodName)) ∈ lw_tbl := mT1 (List.mem_of_getElem? (i := 72) rfl)
theorem w1_72 : (Jvm.Cond.methodLink "java/util/AbstractList" (1 : Nat) ({ cls := "java/util/AbstractCollection", name := "<init>", desc := "()V" } : Jvm.MethodName)) ∈ lw_g := lw_in w1_72t rfl
theorem w1_73t : (Jvm.Cond.instanceMethod ({ cls := "java/util/AbstractCollection", name := "<init>", desc := "()V" } : Jvm.MethodName)) ∈ lw_tbl := mT1 (List.mem_of_getElem? (i := 73) rfl)
theorem w1_73 : (Jvm.Cond.instanceMethod ({ cls := "java/util/AbstractCollection", name := "<init>", desc := "()V" } : Jvm.MethodName)) ∈ lw_g := lw_in w1_73t rfl
theorem w1_74t : (Jvm.Cond.code ({ cls := "java/util/AbstractCollection", name := "<init>", desc := "()V" } : Jvm.MethodName) prog_21_method_1_code (1 : Nat) (Option.none : Option Jvm.ClassFile.FieldType)) ∈ lw_tbl := mT1 (List.mem_of_getElem? (i := 74) rfl)
theorem w1_74 : (Jvm.Cond.code ({ cls := "java/util/AbstractCollection", name := "<init>", desc := "()V" } : Jvm.MethodName) prog_21_method_1_code (1 : Nat) (Option.none : Option Jvm.ClassFile.FieldType)) ∈ lw_g := lw_in w1_74t rfl
theorem w1_75t : (Jvm.Cond.methodLink "java/util/AbstractCollection" (1 : Nat) ({ cls := "java/lang/Object", name := "<init>", desc := "()V" } : Jvm.MethodName)) ∈ lw_tbl := mT1 (List.mem_of_getElem? (i := 75) rfl)
theorem w1_75 : (Jvm.Cond.methodLink "java/util/AbstractCollection" (1 : Nat) ({ cls := "java/lang/Object", name := "<init>", desc := "()V" } : Jvm.MethodName)) ∈ lw_g := lw_in w1_75t rfl
theorem w1_76t : (Jvm.Cond.fieldLink "java/util/ArrayList" (39 : Nat) "java/util/ArrayList" "DEFAULTCAPACITY_EMPTY_ELEMENTDATA" "[Ljava/lang/Object;") ∈ lw_tbl := mT1 (List.mem_of_getElem? (i := 76) rfl)
theorem w1_76 : (Jvm.Cond.fieldLink "java/util/ArrayList" (39 : Nat) "java/util/ArrayList" "DEFAULTCAPACITY_EMPTY_ELEMENTDATA" "[Ljava/lang/Object;") ∈ lw_g := lw_in w1_76t rfl
theorem w1_78t : (Jvm.Cond.fieldLink "java/util/ArrayList" (9 : Nat) "java/util/ArrayList" "elementData" "[Ljava/lang/Object;") ∈ lw_tbl := mT1 (List.mem_of_getElem? (i := 78) rfl)
theorem w1_78 : (Jvm.Cond.fieldLink "java/util/ArrayList" (9 : Nat) "java/util/ArrayList" "elementData" "[Ljava/lang/Object;") ∈ lw_g := lw_in w1_78t rfl
theorem w1_79t : (Jvm.Cond.fieldLink "java/util/ArrayList" (48 : Nat) "java/util/ArrayList" "size" "I") ∈ lw_tbl := mT1 (List.mem_of_getElem? (i := 79) rfl)
theorem w1_79 : (Jvm.Cond.fieldLink "java/util/ArrayList" (48 : Nat) "java/util/ArrayList" "size" "I") ∈ lw_g := lw_in w1_79t rfl
theorem w1_8t : (Jvm.Cond.initialized "DotPress$Setting") ∈ lw_tbl := mT1 (List.mem_of_getElem? (i := 8) rfl)
theorem w1_8 : (Jvm.Cond.initialized "DotPress$Setting") ∈ lw_g := lw_in w1_8t rfl
theorem w1_80t : (Jvm.Cond.fieldLink "java/util/AbstractList" (7 : Nat) "java/util/AbstractList" "modCount" "I") ∈ lw_tbl := mT1 (List.mem_of_getElem? (i := 80) rfl)
theorem w1_80 : (Jvm.Cond.fieldLink "java/util/AbstractList" (7 : Nat) "java/util/AbstractList" "modCount" "I") ∈ lw_g := lw_in w1_80t rfl
theorem w1_83t : (Jvm.Cond.lays "java/util/ArrayList" "java/util/ArrayList" "elementData" "[Ljava/lang/Object;") ∈ lw_tbl := mT1 (List.mem_of_getElem? (i := 83) rfl)
theorem w1_83 : (Jvm.Cond.lays "java/util/ArrayList" "java/util/ArrayList" "elementData" "[Ljava/lang/Object;") ∈ lw_g := lw_in w1_83t rfl
theorem w1_85t : (Jvm.Cond.lays "java/util/ArrayList" "java/util/ArrayList" "size" "I") ∈ lw_tbl := mT1 (List.mem_of_getElem? (i := 85) rfl)
theorem w1_85 : (Jvm.Cond.lays "java/util/ArrayList" "java/util/ArrayList" "size" "I") ∈ lw_g := lw_in w1_85t rfl
theorem w1_87t : (Jvm.Cond.lays "java/util/ArrayList" "java/util/AbstractList" "modCount" "I") ∈ lw_tbl := mT1 (List.mem_of_getElem? (i := 87) rfl)
theorem w1_87 : (Jvm.Cond.lays "java/util/ArrayList" "java/util/AbstractList" "modCount" "I") ∈ lw_g := lw_in w1_87t rfl
theorem w1_9t : (Jvm.Cond.initialized "DotPress$Reader") ∈ lw_tbl := mT1 (List.mem_of_getElem? (i := 9) rfl)
theorem w1_9 : (Jvm.Cond.initialized "DotPress$Reader") ∈ lw_g := lw_in w1_9t rfl
theorem w1_90t : (Jvm.Cond.fieldLink "DotPress$Tables" (12 : Nat) "DotPress$Tables" "made" "Ljava/util/ArrayList;") ∈ lw_tbl := mT1 (List.mem_of_getElem? (i := 90) rfl)
theorem w1_90 : (Jvm.Cond.fieldLink "DotPress$Tables" (12 : Nat) "DotPress$Tables" "made" "Ljava/util/ArrayList;") ∈ lw_g := lw_in w1_90t rfl
theorem w1_91t : (Jvm.Cond.fieldLink "DotPress$Tables" (18 : Nat) "DotPress$Tables" "changes" "Ljava/util/ArrayList;") ∈ lw_tbl := mT1 (List.mem_of_getElem? (i := 91) rfl)
theorem w1_91 : (Jvm.Cond.fieldLink "DotPress$Tables" (18 : Nat) "DotPress$Tables" "changes" "Ljava/util/ArrayList;") ∈ lw_g := lw_in w1_91t rfl
theorem w1_92t : (Jvm.Cond.laysFinal "DotPress$Tables" "DotPress$Tables" "made" "Ljava/util/ArrayList;") ∈ lw_tbl := mT1 (List.mem_of_getElem? (i := 92) rfl)
theorem w1_92 : (Jvm.Cond.laysFinal "DotPress$Tables" "DotPress$Tables" "made" "Ljava/util/ArrayList;") ∈ lw_g := lw_in w1_92t rfl
theorem w1_94t : (Jvm.Cond.laysFinal "DotPress$Tables" "DotPress$Tables" "changes" "Ljava/util/ArrayList;") ∈ lw_tbl := mT1 (List.mem_of_getElem? (i := 94) rfl)
theorem w1_94 : (Jvm.Cond.laysFinal "DotPress$Tables" "DotPress$Tables" "changes" "Ljava/util/ArrayList;") ∈ lw_g := lw_in w1_94t rfl
theorem w1_97t : (Jvm.Cond.classLink "DotPress" (34 : Nat) "DotPress$Source") ∈ lw_tbl := mT1 (List.mem_of_getElem? (i := 97) rfl)
theorem w1_97 : (Jvm.Cond.classLink "DotPress" (34 : Nat) "DotPress$Source") ∈ lw_g := lw_in w1_97t rfl
theorem w1_98t : (Jvm.Cond.instantiable "DotPress$Source" (8 : Nat)) ∈ lw_tbl := mT1 (List.mem_of_getElem? (i := 98) rfl)
theorem w1_98 : (Jvm.Cond.instantiable "DotPress$Source" (8 : Nat)) ∈ lw_g := lw_in w1_98t rfl
theorem w1_99t : (Jvm.Cond.methodLinkNest "DotPress" (36 : Nat) ({ cls := "DotPress$Source", name := "<init>", desc := "()V" } : Jvm.MethodName) "DotPress") ∈ lw_tbl := mT1 (List.mem_of_getElem? (i := 99) rfl)
theorem w2_0t : (Jvm.Cond.fieldLink "DotPress$Readings" (46 : Nat) "DotPress$Readings" "size" "I") ∈ lw_tbl := mT2 (List.mem_of_getElem? (i := 0) rfl)
theorem w2_0 : (Jvm.Cond.fieldLink "DotPress$Readings" (46 : Nat) "DotPress$Readings" "size" "I") ∈ lw_g := lw_in w2_0t rfl
theorem w2_1t : (Jvm.Cond.fieldLink "DotPress$Readings" (49 : Nat) "DotPress$Readings" "seen" "I") ∈ lw_tbl := mT2 (List.mem_of_getElem? (i := 1) rfl)
theorem w2_1 : (Jvm.Cond.fieldLink "DotPress$Readings" (49 : Nat) "DotPress$Readings" "seen" "I") ∈ lw_g := lw_in w2_1t rfl
theorem w2_10t : (Jvm.Cond.laysFinal "DotPress$Readings" "DotPress$Readings" "bytes" "LDotPress$Ints;") ∈ lw_tbl := mT2 (List.mem_of_getElem? (i := 10) rfl)
theorem w2_10 : (Jvm.Cond.laysFinal "DotPress$Readings" "DotPress$Readings" "bytes" "LDotPress$Ints;") ∈ lw_g := lw_in w2_10t rfl
theorem w2_106t : (Jvm.Cond.methodLink "DotPress" (102 : Nat) ({ cls := "DotPress", name := "refuse", desc := "(I)I" } : Jvm.MethodName)) ∈ lw_tbl := mT2 (List.mem_of_getElem? (i := 106) rfl)
theorem w2_106 : (Jvm.Cond.methodLink "DotPress" (102 : Nat) ({ cls := "DotPress", name := "refuse", desc := "(I)I" } : Jvm.MethodName)) ∈ lw_g := lw_in w2_106t rfl
theorem w2_108t : (Jvm.Cond.instanceMethod ({ cls := "DotPress", name := "refuse", desc := "(I)I" } : Jvm.MethodName)) ∈ lw_tbl := mT2 (List.mem_of_getElem? (i := 108) rfl)
theorem w2_108 : (Jvm.Cond.instanceMethod ({ cls := "DotPress", name := "refuse", desc := "(I)I" } : Jvm.MethodName)) ∈ lw_g := lw_in w2_108t rfl
theorem w2_109t : (Jvm.Cond.code ({ cls := "DotPress", name := "refuse", desc := "(I)I" } : Jvm.MethodName) prog_1_method_54_code (2 : Nat) (Option.some Jvm.ClassFile.FieldType.int)) ∈ lw_tbl := mT2 (List.mem_of_getElem? (i := 109) rfl)
theorem w2_109 : (Jvm.Cond.code ({ cls := "DotPress", name := "refuse", desc := "(I)I" } : Jvm.MethodName) prog_1_method_54_code (2 : Nat) (Option.some Jvm.ClassFile.FieldType.int)) ∈ lw_g := lw_in w2_109t rfl
theorem w2_12t : (Jvm.Cond.lays "DotPress$Readings" "DotPress$Readings" "count" "I") ∈ lw_tbl := mT2 (List.mem_of_getElem? (i := 12) rfl)
theorem w2_12 : (Jvm.Cond.lays "DotPress$Readings" "DotPress$Readings" "count" "I") ∈ lw_g := lw_in w2_12t rfl
theorem w2_129t : (Jvm.Cond.static ({ cls := "java/lang/Math", name := "min", desc := "(II)I" } : Jvm.MethodName)) ∈ lw_tbl := mT2 (List.mem_of_getElem? (i := 129) rfl)
theorem w2_129 : (Jvm.Cond.static ({ cls := "java/lang/Math", name := "min", desc := "(II)I" } : Jvm.MethodName)) ∈ lw_g := lw_in w2_129t rfl
theorem w2_130t : (Jvm.Cond.code ({ cls := "java/lang/Math", name := "min", desc := "(II)I" } : Jvm.MethodName) prog_19_method_69_code (2 : Nat) (Option.some Jvm.ClassFile.FieldType.int)) ∈ lw_tbl := mT2 (List.mem_of_getElem? (i := 130) rfl)
theorem w2_130 : (Jvm.Cond.code ({ cls := "java/lang/Math", name := "min", desc := "(II)I" } : Jvm.MethodName) prog_19_method_69_code (2 : Nat) (Option.some Jvm.ClassFile.FieldType.int)) ∈ lw_g := lw_in w2_130t rfl
theorem w2_134t : (Jvm.Cond.methodLink "DotPress" (109 : Nat) ({ cls := "DotPress", name := "done", desc := "(I)I" } : Jvm.MethodName)) ∈ lw_tbl := mT2 (List.mem_of_getElem? (i := 134) rfl)
theorem w2_134 : (Jvm.Cond.methodLink "DotPress" (109 : Nat) ({ cls := "DotPress", name := "done", desc := "(I)I" } : Jvm.MethodName)) ∈ lw_g := lw_in w2_134t rfl
theorem w2_136t : (Jvm.Cond.instanceMethod ({ cls := "DotPress", name := "done", desc := "(I)I" } : Jvm.MethodName)) ∈ lw_tbl := mT2 (List.mem_of_getElem? (i := 136) rfl)
theorem w2_136 : (Jvm.Cond.instanceMethod ({ cls := "DotPress", name := "done", desc := "(I)I" } : Jvm.MethodName)) ∈ lw_g := lw_in w2_136t rfl
theorem w2_137t : (Jvm.Cond.code ({ cls := "DotPress", name := "done", desc := "(I)I" } : Jvm.MethodName) prog_1_method_53_code (2 : Nat) (Option.some Jvm.ClassFile.FieldType.int)) ∈ lw_tbl := mT2 (List.mem_of_getElem? (i := 137) rfl)
theorem w2_137 : (Jvm.Cond.code ({ cls := "DotPress", name := "done", desc := "(I)I" } : Jvm.MethodName) prog_1_method_53_code (2 : Nat) (Option.some Jvm.ClassFile.FieldType.int)) ∈ lw_g := lw_in w2_137t rfl
theorem w2_14t : (Jvm.Cond.lays "DotPress$Readings" "DotPress$Readings" "leftSome" "Z") ∈ lw_tbl := mT2 (List.mem_of_getElem? (i := 14) rfl)
theorem w2_14 : (Jvm.Cond.lays "DotPress$Readings" "DotPress$Readings" "leftSome" "Z") ∈ lw_g := lw_in w2_14t rfl
theorem w2_141t : (Jvm.Cond.code ({ cls := "DotPress", name := "end", desc := "(I)I" } : Jvm.MethodName) prog_1_method_4_code (2 : Nat) (Option.some Jvm.ClassFile.FieldType.int)) ∈ lw_tbl := mT2 (List.mem_of_getElem? (i := 141) rfl)
theorem w2_141 : (Jvm.Cond.code ({ cls := "DotPress", name := "end", desc := "(I)I" } : Jvm.MethodName) prog_1_method_4_code (2 : Nat) (Option.some Jvm.ClassFile.FieldType.int)) ∈ lw_g := lw_in w2_141t rfl
theorem w2_142t : (Jvm.Cond.methodLink "DotPress" (115 : Nat) ({ cls := "DotPress$Ints", name := "keep", desc := "(I)V" } : Jvm.MethodName)) ∈ lw_tbl := mT2 (List.mem_of_getElem? (i := 142) rfl)
theorem w2_142 : (Jvm.Cond.methodLink "DotPress" (115 : Nat) ({ cls := "DotPress$Ints", name := "keep", desc := "(I)V" } : Jvm.MethodName)) ∈ lw_g := lw_in w2_142t rfl
theorem w2_143t : (Jvm.Cond.instanceMethod ({ cls := "DotPress$Ints", name := "keep", desc := "(I)V" } : Jvm.MethodName)) ∈ lw_tbl := mT2 (List.mem_of_getElem? (i := 143) rfl)
theorem w2_143 : (Jvm.Cond.instanceMethod ({ cls := "DotPress$Ints", name := "keep", desc := "(I)V" } : Jvm.MethodName)) ∈ lw_g := lw_in w2_143t rfl
theorem w2_144t : (Jvm.Cond.selects "DotPress$Ints" ({ cls := "DotPress$Ints", name := "keep", desc := "(I)V" } : Jvm.MethodName) ({ cls := "DotPress$Ints", name := "keep", desc := "(I)V" } : Jvm.MethodName)) ∈ lw_tbl := mT2 (List.mem_of_getElem? (i := 144) rfl)
theorem w2_144 : (Jvm.Cond.selects "DotPress$Ints" ({ cls := "DotPress$Ints", name := "keep", desc := "(I)V" } : Jvm.MethodName) ({ cls := "DotPress$Ints", name := "keep", desc := "(I)V" } : Jvm.MethodName)) ∈ lw_g := lw_in w2_144t rfl
theorem w2_145t : (Jvm.Cond.code ({ cls := "DotPress$Ints", name := "keep", desc := "(I)V" } : Jvm.MethodName) prog_3_method_6_code (2 : Nat) (Option.none : Option Jvm.ClassFile.FieldType)) ∈ lw_tbl := mT2 (List.mem_of_getElem? (i := 145) rfl)
theorem w2_145 : (Jvm.Cond.code ({ cls := "DotPress$Ints", name := "keep", desc := "(I)V" } : Jvm.MethodName) prog_3_method_6_code (2 : Nat) (Option.none : Option Jvm.ClassFile.FieldType)) ∈ lw_g := lw_in w2_145t rfl
theorem w2_146t : (Jvm.Cond.methodLink "DotPress$Ints" (30 : Nat) ({ cls := "java/lang/Math", name := "min", desc := "(II)I" } : Jvm.MethodName)) ∈ lw_tbl := mT2 (List.mem_of_getElem? (i := 146) rfl)
theorem w2_146 : (Jvm.Cond.methodLink "DotPress$Ints" (30 : Nat) ({ cls := "java/lang/Math", name := "min", desc := "(II)I" } : Jvm.MethodName)) ∈ lw_g := lw_in w2_146t rfl
theorem w2_147t : (Jvm.Cond.methodLink "DotPress$Ints" (36 : Nat) ({ cls := "java/lang/Math", name := "max", desc := "(II)I" } : Jvm.MethodName)) ∈ lw_tbl := mT2 (List.mem_of_getElem? (i := 147) rfl)
theorem w2_147 : (Jvm.Cond.methodLink "DotPress$Ints" (36 : Nat) ({ cls := "java/lang/Math", name := "max", desc := "(II)I" } : Jvm.MethodName)) ∈ lw_g := lw_in w2_147t rfl
theorem w2_148t : (Jvm.Cond.static ({ cls := "java/lang/Math", name := "max", desc := "(II)I" } : Jvm.MethodName)) ∈ lw_tbl := mT2 (List.mem_of_getElem? (i := 148) rfl)
theorem w2_148 : (Jvm.Cond.static ({ cls := "java/lang/Math", name := "max", desc := "(II)I" } : Jvm.MethodName)) ∈ lw_g := lw_in w2_148t rfl
theorem w2_149t : (Jvm.Cond.code ({ cls := "java/lang/Math", name := "max", desc := "(II)I" } : Jvm.MethodName) prog_19_method_65_code (2 : Nat) (Option.some Jvm.ClassFile.FieldType.int)) ∈ lw_tbl := mT2 (List.mem_of_getElem? (i := 149) rfl)
theorem w2_149 : (Jvm.Cond.code ({ cls := "java/lang/Math", name := "max", desc := "(II)I" } : Jvm.MethodName) prog_19_method_65_code (2 : Nat) (Option.some Jvm.ClassFile.FieldType.int)) ∈ lw_g := lw_in w2_149t rfl
theorem w2_157t : (Jvm.Cond.code ({ cls := "DotPress$Tables", name := "isFull", desc := "()Z" } : Jvm.MethodName) prog_12_method_2_code (1 : Nat) (Option.some Jvm.ClassFile.FieldType.boolean)) ∈ lw_tbl := mT2 (List.mem_of_getElem? (i := 157) rfl)
theorem w2_157 : (Jvm.Cond.code ({ cls := "DotPress$Tables", name := "isFull", desc := "()Z" } : Jvm.MethodName) prog_12_method_2_code (1 : Nat) (Option.some Jvm.ClassFile.FieldType.boolean)) ∈ lw_g := lw_in w2_157t rfl
theorem w2_158t : (Jvm.Cond.methodLink "DotPress$Tables" (21 : Nat) ({ cls := "java/util/ArrayList", name := "size", desc := "()I" } : Jvm.MethodName)) ∈ lw_tbl := mT2 (List.mem_of_getElem? (i := 158) rfl)
theorem w2_158 : (Jvm.Cond.methodLink "DotPress$Tables" (21 : Nat) ({ cls := "java/util/ArrayList", name := "size", desc := "()I" } : Jvm.MethodName)) ∈ lw_g := lw_in w2_158t rfl
theorem w2_159t : (Jvm.Cond.instanceMethod ({ cls := "java/util/ArrayList", name := "size", desc := "()I" } : Jvm.MethodName)) ∈ lw_tbl := mT2 (List.mem_of_getElem? (i := 159) rfl)
theorem w2_159 : (Jvm.Cond.instanceMethod ({ cls := "java/util/ArrayList", name := "size", desc := "()I" } : Jvm.MethodName)) ∈ lw_g := lw_in w2_159t rfl
theorem w2_16t : (Jvm.Cond.laysFinal "DotPress$Readings" "DotPress$Readings" "rows" "LDotPress$Reader;") ∈ lw_tbl := mT2 (List.mem_of_getElem? (i := 16) rfl)
theorem w2_16 : (Jvm.Cond.laysFinal "DotPress$Readings" "DotPress$Readings" "rows" "LDotPress$Reader;") ∈ lw_g := lw_in w2_16t rfl
theorem w2_160t : (Jvm.Cond.selects "java/util/ArrayList" ({ cls := "java/util/ArrayList", name := "size", desc := "()I" } : Jvm.MethodName) ({ cls := "java/util/ArrayList", name := "size", desc := "()I" } : Jvm.MethodName)) ∈ lw_tbl := mT2 (List.mem_of_getElem? (i := 160) rfl)
theorem w2_160 : (Jvm.Cond.selects "java/util/ArrayList" ({ cls := "java/util/ArrayList", name := "size", desc := "()I" } : Jvm.MethodName) ({ cls := "java/util/ArrayList", name := "size", desc := "()I" } : Jvm.MethodName)) ∈ lw_g := lw_in w2_160t rfl
theorem w2_161t : (Jvm.Cond.code ({ cls := "java/util/ArrayList", name := "size", desc := "()I" } : Jvm.MethodName) prog_23_method_8_code (1 : Nat) (Option.some Jvm.ClassFile.FieldType.int)) ∈ lw_tbl := mT2 (List.mem_of_getElem? (i := 161) rfl)
theorem w2_161 : (Jvm.Cond.code ({ cls := "java/util/ArrayList", name := "size", desc := "()I" } : Jvm.MethodName) prog_23_method_8_code (1 : Nat) (Option.some Jvm.ClassFile.FieldType.int)) ∈ lw_g := lw_in w2_161t rfl
theorem w2_18t : (Jvm.Cond.laysFinal "DotPress$Readings" "DotPress$Readings" "cells" "[I") ∈ lw_tbl := mT2 (List.mem_of_getElem? (i := 18) rfl)
theorem w2_18 : (Jvm.Cond.laysFinal "DotPress$Readings" "DotPress$Readings" "cells" "[I") ∈ lw_g := lw_in w2_18t rfl
theorem w2_2t : (Jvm.Cond.laysFinal "DotPress$Readings" "DotPress$Readings" "canEnd" "[Z") ∈ lw_tbl := mT2 (List.mem_of_getElem? (i := 2) rfl)
theorem w2_2 : (Jvm.Cond.laysFinal "DotPress$Readings" "DotPress$Readings" "canEnd" "[Z") ∈ lw_g := lw_in w2_2t rfl
theorem w2_20t : (Jvm.Cond.lays "DotPress$Readings" "DotPress$Readings" "size" "I") ∈ lw_tbl := mT2 (List.mem_of_getElem? (i := 20) rfl)
theorem w2_20 : (Jvm.Cond.lays "DotPress$Readings" "DotPress$Readings" "size" "I") ∈ lw_g := lw_in w2_20t rfl
theorem w2_200t : (Jvm.Cond.laysFinal "DotPress$Table" "DotPress$Table" "kind" "I") ∈ lw_tbl := mT2 (List.mem_of_getElem? (i := 200) rfl)
theorem w2_200 : (Jvm.Cond.laysFinal "DotPress$Table" "DotPress$Table" "kind" "I") ∈ lw_g := lw_in w2_200t rfl
theorem w2_202t : (Jvm.Cond.laysFinal "DotPress$Table" "DotPress$Table" "dots" "I") ∈ lw_tbl := mT2 (List.mem_of_getElem? (i := 202) rfl)
theorem w2_202 : (Jvm.Cond.laysFinal "DotPress$Table" "DotPress$Table" "dots" "I") ∈ lw_g := lw_in w2_202t rfl
theorem w2_204t : (Jvm.Cond.laysFinal "DotPress$Table" "DotPress$Table" "base" "LDotPress$Table;") ∈ lw_tbl := mT2 (List.mem_of_getElem? (i := 204) rfl)
theorem w2_204 : (Jvm.Cond.laysFinal "DotPress$Table" "DotPress$Table" "base" "LDotPress$Table;") ∈ lw_g := lw_in w2_204t rfl
theorem w2_206t : (Jvm.Cond.laysFinal "DotPress$Table" "DotPress$Table" "second" "LDotPress$Table;") ∈ lw_tbl := mT2 (List.mem_of_getElem? (i := 206) rfl)
theorem w2_206 : (Jvm.Cond.laysFinal "DotPress$Table" "DotPress$Table" "second" "LDotPress$Table;") ∈ lw_g := lw_in w2_206t rfl
theorem w2_208t : (Jvm.Cond.laysFinal "DotPress$Table" "DotPress$Table" "rules" "Ljava/util/ArrayList;") ∈ lw_tbl := mT2 (List.mem_of_getElem? (i := 208) rfl)
theorem w2_208 : (Jvm.Cond.laysFinal "DotPress$Table" "DotPress$Table" "rules" "Ljava/util/ArrayList;") ∈ lw_g := lw_in w2_208t rfl
theorem w2_210t : (Jvm.Cond.laysFinal "DotPress$Table" "DotPress$Table" "initials" "LDotPress$Ints;") ∈ lw_tbl := mT2 (List.mem_of_getElem? (i := 210) rfl)
theorem w2_210 : (Jvm.Cond.laysFinal "DotPress$Table" "DotPress$Table" "initials" "LDotPress$Ints;") ∈ lw_g := lw_in w2_210t rfl
theorem w2_212t : (Jvm.Cond.laysFinal "DotPress$Table" "DotPress$Table" "indicators" "[LDotPress$Row;") ∈ lw_tbl := mT2 (List.mem_of_getElem? (i := 212) rfl)
theorem w2_212 : (Jvm.Cond.laysFinal "DotPress$Table" "DotPress$Table" "indicators" "[LDotPress$Row;") ∈ lw_g := lw_in w2_212t rfl
theorem w2_214t : (Jvm.Cond.lays "DotPress$Table" "DotPress$Table" "dropped" "Z") ∈ lw_tbl := mT2 (List.mem_of_getElem? (i := 214) rfl)
theorem w2_214 : (Jvm.Cond.lays "DotPress$Table" "DotPress$Table" "dropped" "Z") ∈ lw_g := lw_in w2_214t rfl
theorem w2_22t : (Jvm.Cond.lays "DotPress$Readings" "DotPress$Readings" "seen" "I") ∈ lw_tbl := mT2 (List.mem_of_getElem? (i := 22) rfl)
theorem w2_22 : (Jvm.Cond.lays "DotPress$Readings" "DotPress$Readings" "seen" "I") ∈ lw_g := lw_in w2_22t rfl
theorem w2_25t : (Jvm.Cond.classLink "DotPress" (64 : Nat) "DotPress$Sheet") ∈ lw_tbl := mT2 (List.mem_of_getElem? (i := 25) rfl)
theorem w2_25 : (Jvm.Cond.classLink "DotPress" (64 : Nat) "DotPress$Sheet") ∈ lw_g := lw_in w2_25t rfl
theorem w2_26t : (Jvm.Cond.instantiable "DotPress$Sheet" (3 : Nat)) ∈ lw_tbl := mT2 (List.mem_of_getElem? (i := 26) rfl)
theorem w2_26 : (Jvm.Cond.instantiable "DotPress$Sheet" (3 : Nat)) ∈ lw_g := lw_in w2_26t rfl
theorem w2_27t : (Jvm.Cond.methodLinkNest "DotPress" (66 : Nat) ({ cls := "DotPress$Sheet", name := "<init>", desc := "()V" } : Jvm.MethodName) "DotPress") ∈ lw_tbl := mT2 (List.mem_of_getElem? (i := 27) rfl)
theorem w2_28t : (Jvm.Cond.instanceMethod ({ cls := "DotPress$Sheet", name := "<init>", desc := "()V" } : Jvm.MethodName)) ∈ lw_tbl := mT2 (List.mem_of_getElem? (i := 28) rfl)
theorem w2_28 : (Jvm.Cond.instanceMethod ({ cls := "DotPress$Sheet", name := "<init>", desc := "()V" } : Jvm.MethodName)) ∈ lw_g := lw_in w2_28t rfl
theorem w2_29t : (Jvm.Cond.code ({ cls := "DotPress$Sheet", name := "<init>", desc := "()V" } : Jvm.MethodName) prog_9_method_1_code (1 : Nat) (Option.none : Option Jvm.ClassFile.FieldType)) ∈ lw_tbl := mT2 (List.mem_of_getElem? (i := 29) rfl)
theorem w2_29 : (Jvm.Cond.code ({ cls := "DotPress$Sheet", name := "<init>", desc := "()V" } : Jvm.MethodName) prog_9_method_1_code (1 : Nat) (Option.none : Option Jvm.ClassFile.FieldType)) ∈ lw_g := lw_in w2_29t rfl
theorem w2_30t : (Jvm.Cond.methodLink "DotPress$Sheet" (3 : Nat) ({ cls := "java/lang/Object", name := "<init>", desc := "()V" } : Jvm.MethodName)) ∈ lw_tbl := mT2 (List.mem_of_getElem? (i := 30) rfl)
theorem w2_30 : (Jvm.Cond.methodLink "DotPress$Sheet" (3 : Nat) ({ cls := "java/lang/Object", name := "<init>", desc := "()V" } : Jvm.MethodName)) ∈ lw_g := lw_in w2_30t rfl
theorem w2_31t : (Jvm.Cond.classLink "DotPress$Sheet" (9 : Nat) "DotPress$Line") ∈ lw_tbl := mT2 (List.mem_of_getElem? (i := 31) rfl)
theorem w2_31 : (Jvm.Cond.classLink "DotPress$Sheet" (9 : Nat) "DotPress$Line") ∈ lw_g := lw_in w2_31t rfl
theorem w2_32t : (Jvm.Cond.arrayOver (Jvm.ClassFile.FieldType.object "DotPress$Line")) ∈ lw_tbl := mT2 (List.mem_of_getElem? (i := 32) rfl)
theorem w2_33t : (Jvm.Cond.fieldLink "DotPress$Sheet" (11 : Nat) "DotPress$Sheet" "rows" "[LDotPress$Line;") ∈ lw_tbl := mT2 (List.mem_of_getElem? (i := 33) rfl)
theorem w2_33 : (Jvm.Cond.fieldLink "DotPress$Sheet" (11 : Nat) "DotPress$Sheet" "rows" "[LDotPress$Line;") ∈ lw_g := lw_in w2_33t rfl
theorem w2_34t : (Jvm.Cond.fieldLink "DotPress$Sheet" (17 : Nat) "DotPress$Sheet" "count" "I") ∈ lw_tbl := mT2 (List.mem_of_getElem? (i := 34) rfl)
theorem w2_34 : (Jvm.Cond.fieldLink "DotPress$Sheet" (17 : Nat) "DotPress$Sheet" "count" "I") ∈ lw_g := lw_in w2_34t rfl
theorem w2_35t : (Jvm.Cond.fieldLink "DotPress" (269 : Nat) "DotPress$Sheet" "count" "I") ∈ lw_tbl := mT2 (List.mem_of_getElem? (i := 35) rfl)
theorem w2_35 : (Jvm.Cond.fieldLink "DotPress" (269 : Nat) "DotPress$Sheet" "count" "I") ∈ lw_g := lw_in w2_35t rfl
theorem w2_36t : (Jvm.Cond.fieldLink "DotPress$Sheet" (21 : Nat) "DotPress$Sheet" "textBegin" "I") ∈ lw_tbl := mT2 (List.mem_of_getElem? (i := 36) rfl)
theorem w2_36 : (Jvm.Cond.fieldLink "DotPress$Sheet" (21 : Nat) "DotPress$Sheet" "textBegin" "I") ∈ lw_g := lw_in w2_36t rfl
theorem w2_37t : (Jvm.Cond.laysFinal "DotPress$Sheet" "DotPress$Sheet" "rows" "[LDotPress$Line;") ∈ lw_tbl := mT2 (List.mem_of_getElem? (i := 37) rfl)
theorem w2_37 : (Jvm.Cond.laysFinal "DotPress$Sheet" "DotPress$Sheet" "rows" "[LDotPress$Line;") ∈ lw_g := lw_in w2_37t rfl
theorem w2_39t : (Jvm.Cond.lays "DotPress$Sheet" "DotPress$Sheet" "count" "I") ∈ lw_tbl := mT2 (List.mem_of_getElem? (i := 39) rfl)
theorem w2_39 : (Jvm.Cond.lays "DotPress$Sheet" "DotPress$Sheet" "count" "I") ∈ lw_g := lw_in w2_39t rfl
theorem w2_4t : (Jvm.Cond.laysFinal "DotPress$Readings" "DotPress$Readings" "nodes" "[I") ∈ lw_tbl := mT2 (List.mem_of_getElem? (i := 4) rfl)
theorem w2_4 : (Jvm.Cond.laysFinal "DotPress$Readings" "DotPress$Readings" "nodes" "[I") ∈ lw_g := lw_in w2_4t rfl
theorem w2_41t : (Jvm.Cond.lays "DotPress$Sheet" "DotPress$Sheet" "textBegin" "I") ∈ lw_tbl := mT2 (List.mem_of_getElem? (i := 41) rfl)
theorem w2_41 : (Jvm.Cond.lays "DotPress$Sheet" "DotPress$Sheet" "textBegin" "I") ∈ lw_g := lw_in w2_41t rfl
theorem w2_44t : (Jvm.Cond.fieldLink "DotPress" (14 : Nat) "DotPress" "tape" "LDotPress$Ints;") ∈ lw_tbl := mT2 (List.mem_of_getElem? (i := 44) rfl)
theorem w2_44 : (Jvm.Cond.fieldLink "DotPress" (14 : Nat) "DotPress" "tape" "LDotPress$Ints;") ∈ lw_g := lw_in w2_44t rfl
theorem w2_45t : (Jvm.Cond.fieldLink "DotPress" (18 : Nat) "DotPress" "written" "LDotPress$Ints;") ∈ lw_tbl := mT2 (List.mem_of_getElem? (i := 45) rfl)
theorem w2_45 : (Jvm.Cond.fieldLink "DotPress" (18 : Nat) "DotPress" "written" "LDotPress$Ints;") ∈ lw_g := lw_in w2_45t rfl
theorem w2_46t : (Jvm.Cond.fieldLink "DotPress" (21 : Nat) "DotPress" "bytesRead" "LDotPress$Ints;") ∈ lw_tbl := mT2 (List.mem_of_getElem? (i := 46) rfl)
theorem w2_46 : (Jvm.Cond.fieldLink "DotPress" (21 : Nat) "DotPress" "bytesRead" "LDotPress$Ints;") ∈ lw_g := lw_in w2_46t rfl
theorem w2_47t : (Jvm.Cond.fieldLink "DotPress" (24 : Nat) "DotPress" "header" "LDotPress$Ints;") ∈ lw_tbl := mT2 (List.mem_of_getElem? (i := 47) rfl)
theorem w2_47 : (Jvm.Cond.fieldLink "DotPress" (24 : Nat) "DotPress" "header" "LDotPress$Ints;") ∈ lw_g := lw_in w2_47t rfl
theorem w2_48t : (Jvm.Cond.fieldLink "DotPress" (30 : Nat) "DotPress" "tables" "LDotPress$Tables;") ∈ lw_tbl := mT2 (List.mem_of_getElem? (i := 48) rfl)
theorem w2_48 : (Jvm.Cond.fieldLink "DotPress" (30 : Nat) "DotPress" "tables" "LDotPress$Tables;") ∈ lw_g := lw_in w2_48t rfl
theorem w2_49t : (Jvm.Cond.fieldLink "DotPress" (37 : Nat) "DotPress" "source" "LDotPress$Source;") ∈ lw_tbl := mT2 (List.mem_of_getElem? (i := 49) rfl)
theorem w2_49 : (Jvm.Cond.fieldLink "DotPress" (37 : Nat) "DotPress" "source" "LDotPress$Source;") ∈ lw_g := lw_in w2_49t rfl
theorem w2_50t : (Jvm.Cond.fieldLink "DotPress" (44 : Nat) "DotPress" "word" "LDotPress$Setting;") ∈ lw_tbl := mT2 (List.mem_of_getElem? (i := 50) rfl)
theorem w2_50 : (Jvm.Cond.fieldLink "DotPress" (44 : Nat) "DotPress" "word" "LDotPress$Setting;") ∈ lw_g := lw_in w2_50t rfl
theorem w2_51t : (Jvm.Cond.fieldLink "DotPress" (51 : Nat) "DotPress" "reader" "LDotPress$Reader;") ∈ lw_tbl := mT2 (List.mem_of_getElem? (i := 51) rfl)
theorem w2_51 : (Jvm.Cond.fieldLink "DotPress" (51 : Nat) "DotPress" "reader" "LDotPress$Reader;") ∈ lw_g := lw_in w2_51t rfl
theorem w2_52t : (Jvm.Cond.fieldLink "DotPress" (60 : Nat) "DotPress" "found" "LDotPress$Readings;") ∈ lw_tbl := mT2 (List.mem_of_getElem? (i := 52) rfl)
theorem w2_52 : (Jvm.Cond.fieldLink "DotPress" (60 : Nat) "DotPress" "found" "LDotPress$Readings;") ∈ lw_g := lw_in w2_52t rfl
theorem w2_53t : (Jvm.Cond.fieldLink "DotPress" (67 : Nat) "DotPress" "sheet" "LDotPress$Sheet;") ∈ lw_tbl := mT2 (List.mem_of_getElem? (i := 53) rfl)
theorem w2_53 : (Jvm.Cond.fieldLink "DotPress" (67 : Nat) "DotPress" "sheet" "LDotPress$Sheet;") ∈ lw_g := lw_in w2_53t rfl
theorem w2_54t : (Jvm.Cond.fieldLink "DotPress" (71 : Nat) "DotPress" "draft" "LDotPress$Sheet;") ∈ lw_tbl := mT2 (List.mem_of_getElem? (i := 54) rfl)
theorem w2_54 : (Jvm.Cond.fieldLink "DotPress" (71 : Nat) "DotPress" "draft" "LDotPress$Sheet;") ∈ lw_g := lw_in w2_54t rfl
theorem w2_55t : (Jvm.Cond.fieldLink "DotPress" (74 : Nat) "DotPress" "width" "I") ∈ lw_tbl := mT2 (List.mem_of_getElem? (i := 55) rfl)
theorem w2_55 : (Jvm.Cond.fieldLink "DotPress" (74 : Nat) "DotPress" "width" "I") ∈ lw_g := lw_in w2_55t rfl
theorem w2_56t : (Jvm.Cond.fieldLink "DotPress" (78 : Nat) "DotPress" "height" "I") ∈ lw_tbl := mT2 (List.mem_of_getElem? (i := 56) rfl)
theorem w2_56 : (Jvm.Cond.fieldLink "DotPress" (78 : Nat) "DotPress" "height" "I") ∈ lw_g := lw_in w2_56t rfl
theorem w2_57t : (Jvm.Cond.fieldLink "DotPress" (81 : Nat) "DotPress" "hyphen" "I") ∈ lw_tbl := mT2 (List.mem_of_getElem? (i := 57) rfl)
theorem w2_57 : (Jvm.Cond.fieldLink "DotPress" (81 : Nat) "DotPress" "hyphen" "I") ∈ lw_g := lw_in w2_57t rfl
theorem w2_58t : (Jvm.Cond.fieldLink "DotPress" (84 : Nat) "DotPress" "failedDots" "I") ∈ lw_tbl := mT2 (List.mem_of_getElem? (i := 58) rfl)
theorem w2_58 : (Jvm.Cond.fieldLink "DotPress" (84 : Nat) "DotPress" "failedDots" "I") ∈ lw_g := lw_in w2_58t rfl
theorem w2_59t : (Jvm.Cond.fieldLink "DotPress" (87 : Nat) "DotPress" "linesCopied" "I") ∈ lw_tbl := mT2 (List.mem_of_getElem? (i := 59) rfl)
theorem w2_59 : (Jvm.Cond.fieldLink "DotPress" (87 : Nat) "DotPress" "linesCopied" "I") ∈ lw_g := lw_in w2_59t rfl
theorem w2_6t : (Jvm.Cond.laysFinal "DotPress$Readings" "DotPress$Readings" "choices" "[I") ∈ lw_tbl := mT2 (List.mem_of_getElem? (i := 6) rfl)
theorem w2_6 : (Jvm.Cond.laysFinal "DotPress$Readings" "DotPress$Readings" "choices" "[I") ∈ lw_g := lw_in w2_6t rfl
theorem w2_60t : (Jvm.Cond.fieldLink "DotPress" (90 : Nat) "DotPress" "linesClosed" "I") ∈ lw_tbl := mT2 (List.mem_of_getElem? (i := 60) rfl)
theorem w2_60 : (Jvm.Cond.fieldLink "DotPress" (90 : Nat) "DotPress" "linesClosed" "I") ∈ lw_g := lw_in w2_60t rfl
theorem w2_61t : (Jvm.Cond.fieldLink "DotPress" (93 : Nat) "DotPress" "latestStatus" "I") ∈ lw_tbl := mT2 (List.mem_of_getElem? (i := 61) rfl)
theorem w2_61 : (Jvm.Cond.fieldLink "DotPress" (93 : Nat) "DotPress" "latestStatus" "I") ∈ lw_g := lw_in w2_61t rfl
theorem w2_62t : (Jvm.Cond.fieldLink "DotPress" (96 : Nat) "DotPress" "latestPlace" "I") ∈ lw_tbl := mT2 (List.mem_of_getElem? (i := 62) rfl)
theorem w2_62 : (Jvm.Cond.fieldLink "DotPress" (96 : Nat) "DotPress" "latestPlace" "I") ∈ lw_g := lw_in w2_62t rfl
theorem w2_63t : (Jvm.Cond.laysFinal "DotPress" "DotPress" "tape" "LDotPress$Ints;") ∈ lw_tbl := mT2 (List.mem_of_getElem? (i := 63) rfl)
theorem w2_63 : (Jvm.Cond.laysFinal "DotPress" "DotPress" "tape" "LDotPress$Ints;") ∈ lw_g := lw_in w2_63t rfl
theorem w2_65t : (Jvm.Cond.laysFinal "DotPress" "DotPress" "written" "LDotPress$Ints;") ∈ lw_tbl := mT2 (List.mem_of_getElem? (i := 65) rfl)
theorem w2_65 : (Jvm.Cond.laysFinal "DotPress" "DotPress" "written" "LDotPress$Ints;") ∈ lw_g := lw_in w2_65t rfl
theorem w2_67t : (Jvm.Cond.laysFinal "DotPress" "DotPress" "bytesRead" "LDotPress$Ints;") ∈ lw_tbl := mT2 (List.mem_of_getElem? (i := 67) rfl)
theorem w2_67 : (Jvm.Cond.laysFinal "DotPress" "DotPress" "bytesRead" "LDotPress$Ints;") ∈ lw_g := lw_in w2_67t rfl
theorem w2_69t : (Jvm.Cond.laysFinal "DotPress" "DotPress" "header" "LDotPress$Ints;") ∈ lw_tbl := mT2 (List.mem_of_getElem? (i := 69) rfl)
theorem w2_69 : (Jvm.Cond.laysFinal "DotPress" "DotPress" "header" "LDotPress$Ints;") ∈ lw_g := lw_in w2_69t rfl
theorem w2_71t : (Jvm.Cond.laysFinal "DotPress" "DotPress" "tables" "LDotPress$Tables;") ∈ lw_tbl := mT2 (List.mem_of_getElem? (i := 71) rfl)
theorem w2_71 : (Jvm.Cond.laysFinal "DotPress" "DotPress" "tables" "LDotPress$Tables;") ∈ lw_g := lw_in w2_71t rfl
theorem w2_73t : (Jvm.Cond.laysFinal "DotPress" "DotPress" "source" "LDotPress$Source;") ∈ lw_tbl := mT2 (List.mem_of_getElem? (i := 73) rfl)
theorem w2_73 : (Jvm.Cond.laysFinal "DotPress" "DotPress" "source" "LDotPress$Source;") ∈ lw_g := lw_in w2_73t rfl
theorem w2_75t : (Jvm.Cond.laysFinal "DotPress" "DotPress" "word" "LDotPress$Setting;") ∈ lw_tbl := mT2 (List.mem_of_getElem? (i := 75) rfl)
theorem w2_75 : (Jvm.Cond.laysFinal "DotPress" "DotPress" "word" "LDotPress$Setting;") ∈ lw_g := lw_in w2_75t rfl
theorem w2_77t : (Jvm.Cond.laysFinal "DotPress" "DotPress" "reader" "LDotPress$Reader;") ∈ lw_tbl := mT2 (List.mem_of_getElem? (i := 77) rfl)
theorem w2_77 : (Jvm.Cond.laysFinal "DotPress" "DotPress" "reader" "LDotPress$Reader;") ∈ lw_g := lw_in w2_77t rfl
theorem w2_79t : (Jvm.Cond.laysFinal "DotPress" "DotPress" "found" "LDotPress$Readings;") ∈ lw_tbl := mT2 (List.mem_of_getElem? (i := 79) rfl)
theorem w2_79 : (Jvm.Cond.laysFinal "DotPress" "DotPress" "found" "LDotPress$Readings;") ∈ lw_g := lw_in w2_79t rfl
theorem w2_8t : (Jvm.Cond.laysFinal "DotPress$Readings" "DotPress$Readings" "ends" "[I") ∈ lw_tbl := mT2 (List.mem_of_getElem? (i := 8) rfl)
theorem w2_8 : (Jvm.Cond.laysFinal "DotPress$Readings" "DotPress$Readings" "ends" "[I") ∈ lw_g := lw_in w2_8t rfl
theorem w2_81t : (Jvm.Cond.lays "DotPress" "DotPress" "sheet" "LDotPress$Sheet;") ∈ lw_tbl := mT2 (List.mem_of_getElem? (i := 81) rfl)
theorem w2_81 : (Jvm.Cond.lays "DotPress" "DotPress" "sheet" "LDotPress$Sheet;") ∈ lw_g := lw_in w2_81t rfl
theorem w2_83t : (Jvm.Cond.lays "DotPress" "DotPress" "draft" "LDotPress$Sheet;") ∈ lw_tbl := mT2 (List.mem_of_getElem? (i := 83) rfl)
theorem w2_83 : (Jvm.Cond.lays "DotPress" "DotPress" "draft" "LDotPress$Sheet;") ∈ lw_g := lw_in w2_83t rfl
theorem w2_85t : (Jvm.Cond.lays "DotPress" "DotPress" "width" "I") ∈ lw_tbl := mT2 (List.mem_of_getElem? (i := 85) rfl)
theorem w2_85 : (Jvm.Cond.lays "DotPress" "DotPress" "width" "I") ∈ lw_g := lw_in w2_85t rfl
theorem w2_87t : (Jvm.Cond.lays "DotPress" "DotPress" "height" "I") ∈ lw_tbl := mT2 (List.mem_of_getElem? (i := 87) rfl)
theorem w2_87 : (Jvm.Cond.lays "DotPress" "DotPress" "height" "I") ∈ lw_g := lw_in w2_87t rfl
theorem w2_89t : (Jvm.Cond.lays "DotPress" "DotPress" "hyphen" "I") ∈ lw_tbl := mT2 (List.mem_of_getElem? (i := 89) rfl)
theorem w2_89 : (Jvm.Cond.lays "DotPress" "DotPress" "hyphen" "I") ∈ lw_g := lw_in w2_89t rfl
theorem w2_91t : (Jvm.Cond.lays "DotPress" "DotPress" "failedDots" "I") ∈ lw_tbl := mT2 (List.mem_of_getElem? (i := 91) rfl)
theorem w2_91 : (Jvm.Cond.lays "DotPress" "DotPress" "failedDots" "I") ∈ lw_g := lw_in w2_91t rfl
theorem w2_93t : (Jvm.Cond.lays "DotPress" "DotPress" "linesCopied" "I") ∈ lw_tbl := mT2 (List.mem_of_getElem? (i := 93) rfl)
theorem w2_93 : (Jvm.Cond.lays "DotPress" "DotPress" "linesCopied" "I") ∈ lw_g := lw_in w2_93t rfl
theorem w2_95t : (Jvm.Cond.lays "DotPress" "DotPress" "linesClosed" "I") ∈ lw_tbl := mT2 (List.mem_of_getElem? (i := 95) rfl)
theorem w2_95 : (Jvm.Cond.lays "DotPress" "DotPress" "linesClosed" "I") ∈ lw_g := lw_in w2_95t rfl
theorem w2_97t : (Jvm.Cond.lays "DotPress" "DotPress" "latestStatus" "I") ∈ lw_tbl := mT2 (List.mem_of_getElem? (i := 97) rfl)
theorem w2_97 : (Jvm.Cond.lays "DotPress" "DotPress" "latestStatus" "I") ∈ lw_g := lw_in w2_97t rfl
theorem w2_99t : (Jvm.Cond.lays "DotPress" "DotPress" "latestPlace" "I") ∈ lw_tbl := mT2 (List.mem_of_getElem? (i := 99) rfl)
theorem w2_99 : (Jvm.Cond.lays "DotPress" "DotPress" "latestPlace" "I") ∈ lw_g := lw_in w2_99t rfl
theorem w3_115t : (Jvm.Cond.code ({ cls := "DotPress$Ints", name := "isWithin", desc := "(IIII)Z" } : Jvm.MethodName) prog_3_method_7_code (6 : Nat) (Option.some Jvm.ClassFile.FieldType.boolean)) ∈ lw_tbl := mT3 (List.mem_of_getElem? (i := 115) rfl)
theorem w3_115 : (Jvm.Cond.code ({ cls := "DotPress$Ints", name := "isWithin", desc := "(IIII)Z" } : Jvm.MethodName) prog_3_method_7_code (6 : Nat) (Option.some Jvm.ClassFile.FieldType.boolean)) ∈ lw_g := lw_in w3_115t rfl
theorem w3_151t : (Jvm.Cond.laysFinal "DotPress$Row" "DotPress$Row" "role" "I") ∈ lw_tbl := mT3 (List.mem_of_getElem? (i := 151) rfl)
theorem w3_151 : (Jvm.Cond.laysFinal "DotPress$Row" "DotPress$Row" "role" "I") ∈ lw_g := lw_in w3_151t rfl
theorem w3_153t : (Jvm.Cond.laysFinal "DotPress$Row" "DotPress$Row" "letters" "[I") ∈ lw_tbl := mT3 (List.mem_of_getElem? (i := 153) rfl)
theorem w3_153 : (Jvm.Cond.laysFinal "DotPress$Row" "DotPress$Row" "letters" "[I") ∈ lw_g := lw_in w3_153t rfl
theorem w3_155t : (Jvm.Cond.laysFinal "DotPress$Row" "DotPress$Row" "cells" "[I") ∈ lw_tbl := mT3 (List.mem_of_getElem? (i := 155) rfl)
theorem w3_155 : (Jvm.Cond.laysFinal "DotPress$Row" "DotPress$Row" "cells" "[I") ∈ lw_g := lw_in w3_155t rfl
theorem w3_157t : (Jvm.Cond.lays "DotPress$Row" "DotPress$Row" "condition" "I") ∈ lw_tbl := mT3 (List.mem_of_getElem? (i := 157) rfl)
theorem w3_157 : (Jvm.Cond.lays "DotPress$Row" "DotPress$Row" "condition" "I") ∈ lw_g := lw_in w3_157t rfl
theorem w3_169t : (Jvm.Cond.code ({ cls := "DotPress$Ints", name := "clear", desc := "()V" } : Jvm.MethodName) prog_3_method_5_code (1 : Nat) (Option.none : Option Jvm.ClassFile.FieldType)) ∈ lw_tbl := mT3 (List.mem_of_getElem? (i := 169) rfl)
theorem w3_169 : (Jvm.Cond.code ({ cls := "DotPress$Ints", name := "clear", desc := "()V" } : Jvm.MethodName) prog_3_method_5_code (1 : Nat) (Option.none : Option Jvm.ClassFile.FieldType)) ∈ lw_g := lw_in w3_169t rfl
theorem w3_173t : (Jvm.Cond.code ({ cls := "DotPress", name := "condition", desc := "(III)I" } : Jvm.MethodName) prog_1_method_12_code (7 : Nat) (Option.some Jvm.ClassFile.FieldType.int)) ∈ lw_tbl := mT3 (List.mem_of_getElem? (i := 173) rfl)
theorem w3_173 : (Jvm.Cond.code ({ cls := "DotPress", name := "condition", desc := "(III)I" } : Jvm.MethodName) prog_1_method_12_code (7 : Nat) (Option.some Jvm.ClassFile.FieldType.int)) ∈ lw_g := lw_in w3_173t rfl
theorem w3_190t : (Jvm.Cond.code ({ cls := "DotPress", name := "undo", desc := "()I" } : Jvm.MethodName) prog_1_method_15_code (1 : Nat) (Option.some Jvm.ClassFile.FieldType.int)) ∈ lw_tbl := mT3 (List.mem_of_getElem? (i := 190) rfl)
theorem w3_190 : (Jvm.Cond.code ({ cls := "DotPress", name := "undo", desc := "()I" } : Jvm.MethodName) prog_1_method_15_code (1 : Nat) (Option.some Jvm.ClassFile.FieldType.int)) ∈ lw_g := lw_in w3_190t rfl
theorem w3_191t : (Jvm.Cond.methodLink "DotPress" (218 : Nat) ({ cls := "DotPress$Tables", name := "takeBack", desc := "()Z" } : Jvm.MethodName)) ∈ lw_tbl := mT3 (List.mem_of_getElem? (i := 191) rfl)
theorem w3_191 : (Jvm.Cond.methodLink "DotPress" (218 : Nat) ({ cls := "DotPress$Tables", name := "takeBack", desc := "()Z" } : Jvm.MethodName)) ∈ lw_g := lw_in w3_191t rfl
theorem w3_192t : (Jvm.Cond.instanceMethod ({ cls := "DotPress$Tables", name := "takeBack", desc := "()Z" } : Jvm.MethodName)) ∈ lw_tbl := mT3 (List.mem_of_getElem? (i := 192) rfl)
theorem w3_192 : (Jvm.Cond.instanceMethod ({ cls := "DotPress$Tables", name := "takeBack", desc := "()Z" } : Jvm.MethodName)) ∈ lw_g := lw_in w3_192t rfl
theorem w3_193t : (Jvm.Cond.selects "DotPress$Tables" ({ cls := "DotPress$Tables", name := "takeBack", desc := "()Z" } : Jvm.MethodName) ({ cls := "DotPress$Tables", name := "takeBack", desc := "()Z" } : Jvm.MethodName)) ∈ lw_tbl := mT3 (List.mem_of_getElem? (i := 193) rfl)
theorem w3_193 : (Jvm.Cond.selects "DotPress$Tables" ({ cls := "DotPress$Tables", name := "takeBack", desc := "()Z" } : Jvm.MethodName) ({ cls := "DotPress$Tables", name := "takeBack", desc := "()Z" } : Jvm.MethodName)) ∈ lw_g := lw_in w3_193t rfl
theorem w3_194t : (Jvm.Cond.code ({ cls := "DotPress$Tables", name := "takeBack", desc := "()Z" } : Jvm.MethodName) prog_12_method_7_code (2 : Nat) (Option.some Jvm.ClassFile.FieldType.boolean)) ∈ lw_tbl := mT3 (List.mem_of_getElem? (i := 194) rfl)
theorem w3_194 : (Jvm.Cond.code ({ cls := "DotPress$Tables", name := "takeBack", desc := "()Z" } : Jvm.MethodName) prog_12_method_7_code (2 : Nat) (Option.some Jvm.ClassFile.FieldType.boolean)) ∈ lw_g := lw_in w3_194t rfl
theorem w3_195t : (Jvm.Cond.methodLink "DotPress$Tables" (59 : Nat) ({ cls := "java/util/ArrayList", name := "isEmpty", desc := "()Z" } : Jvm.MethodName)) ∈ lw_tbl := mT3 (List.mem_of_getElem? (i := 195) rfl)
theorem w3_195 : (Jvm.Cond.methodLink "DotPress$Tables" (59 : Nat) ({ cls := "java/util/ArrayList", name := "isEmpty", desc := "()Z" } : Jvm.MethodName)) ∈ lw_g := lw_in w3_195t rfl
theorem w3_196t : (Jvm.Cond.instanceMethod ({ cls := "java/util/ArrayList", name := "isEmpty", desc := "()Z" } : Jvm.MethodName)) ∈ lw_tbl := mT3 (List.mem_of_getElem? (i := 196) rfl)
theorem w3_196 : (Jvm.Cond.instanceMethod ({ cls := "java/util/ArrayList", name := "isEmpty", desc := "()Z" } : Jvm.MethodName)) ∈ lw_g := lw_in w3_196t rfl
theorem w3_197t : (Jvm.Cond.selects "java/util/ArrayList" ({ cls := "java/util/ArrayList", name := "isEmpty", desc := "()Z" } : Jvm.MethodName) ({ cls := "java/util/ArrayList", name := "isEmpty", desc := "()Z" } : Jvm.MethodName)) ∈ lw_tbl := mT3 (List.mem_of_getElem? (i := 197) rfl)
theorem w3_197 : (Jvm.Cond.selects "java/util/ArrayList" ({ cls := "java/util/ArrayList", name := "isEmpty", desc := "()Z" } : Jvm.MethodName) ({ cls := "java/util/ArrayList", name := "isEmpty", desc := "()Z" } : Jvm.MethodName)) ∈ lw_g := lw_in w3_197t rfl
theorem w3_198t : (Jvm.Cond.code ({ cls := "java/util/ArrayList", name := "isEmpty", desc := "()Z" } : Jvm.MethodName) prog_23_method_9_code (1 : Nat) (Option.some Jvm.ClassFile.FieldType.boolean)) ∈ lw_tbl := mT3 (List.mem_of_getElem? (i := 198) rfl)
theorem w3_198 : (Jvm.Cond.code ({ cls := "java/util/ArrayList", name := "isEmpty", desc := "()Z" } : Jvm.MethodName) prog_23_method_9_code (1 : Nat) (Option.some Jvm.ClassFile.FieldType.boolean)) ∈ lw_g := lw_in w3_198t rfl
theorem w3_219t : (Jvm.Cond.code ({ cls := "DotPress$Ints", name := "addAll", desc := "(LDotPress$Ints;)V" } : Jvm.MethodName) prog_3_method_3_code (3 : Nat) (Option.none : Option Jvm.ClassFile.FieldType)) ∈ lw_tbl := mT3 (List.mem_of_getElem? (i := 219) rfl)
theorem w3_219 : (Jvm.Cond.code ({ cls := "DotPress$Ints", name := "addAll", desc := "(LDotPress$Ints;)V" } : Jvm.MethodName) prog_3_method_3_code (3 : Nat) (Option.none : Option Jvm.ClassFile.FieldType)) ∈ lw_g := lw_in w3_219t rfl
theorem w3_224t : (Jvm.Cond.code ({ cls := "DotPress", name := "measure", desc := "(III)I" } : Jvm.MethodName) prog_1_method_18_code (4 : Nat) (Option.some Jvm.ClassFile.FieldType.int)) ∈ lw_tbl := mT3 (List.mem_of_getElem? (i := 224) rfl)
theorem w3_224 : (Jvm.Cond.code ({ cls := "DotPress", name := "measure", desc := "(III)I" } : Jvm.MethodName) prog_1_method_18_code (4 : Nat) (Option.some Jvm.ClassFile.FieldType.int)) ∈ lw_g := lw_in w3_224t rfl
theorem w3_228t : (Jvm.Cond.code ({ cls := "DotPress", name := "set", desc := "(I)I" } : Jvm.MethodName) prog_1_method_19_code (7 : Nat) (Option.some Jvm.ClassFile.FieldType.int)) ∈ lw_tbl := mT3 (List.mem_of_getElem? (i := 228) rfl)
theorem w3_228 : (Jvm.Cond.code ({ cls := "DotPress", name := "set", desc := "(I)I" } : Jvm.MethodName) prog_1_method_19_code (7 : Nat) (Option.some Jvm.ClassFile.FieldType.int)) ∈ lw_g := lw_in w3_228t rfl
theorem w3_229t : (Jvm.Cond.methodLink "DotPress" (231 : Nat) ({ cls := "DotPress$Tables", name := "whole", desc := "(I)LDotPress$Table;" } : Jvm.MethodName)) ∈ lw_tbl := mT3 (List.mem_of_getElem? (i := 229) rfl)
theorem w3_229 : (Jvm.Cond.methodLink "DotPress" (231 : Nat) ({ cls := "DotPress$Tables", name := "whole", desc := "(I)LDotPress$Table;" } : Jvm.MethodName)) ∈ lw_g := lw_in w3_229t rfl
theorem w3_230t : (Jvm.Cond.instanceMethod ({ cls := "DotPress$Tables", name := "whole", desc := "(I)LDotPress$Table;" } : Jvm.MethodName)) ∈ lw_tbl := mT3 (List.mem_of_getElem? (i := 230) rfl)
theorem w3_230 : (Jvm.Cond.instanceMethod ({ cls := "DotPress$Tables", name := "whole", desc := "(I)LDotPress$Table;" } : Jvm.MethodName)) ∈ lw_g := lw_in w3_230t rfl
theorem w3_231t : (Jvm.Cond.selects "DotPress$Tables" ({ cls := "DotPress$Tables", name := "whole", desc := "(I)LDotPress$Table;" } : Jvm.MethodName) ({ cls := "DotPress$Tables", name := "whole", desc := "(I)LDotPress$Table;" } : Jvm.MethodName)) ∈ lw_tbl := mT3 (List.mem_of_getElem? (i := 231) rfl)
theorem w3_231 : (Jvm.Cond.selects "DotPress$Tables" ({ cls := "DotPress$Tables", name := "whole", desc := "(I)LDotPress$Table;" } : Jvm.MethodName) ({ cls := "DotPress$Tables", name := "whole", desc := "(I)LDotPress$Table;" } : Jvm.MethodName)) ∈ lw_g := lw_in w3_231t rfl
theorem w3_232t : (Jvm.Cond.code ({ cls := "DotPress$Tables", name := "whole", desc := "(I)LDotPress$Table;" } : Jvm.MethodName) prog_12_method_4_code (3 : Nat) (Option.some (Jvm.ClassFile.FieldType.object "DotPress$Table"))) ∈ lw_tbl := mT3 (List.mem_of_getElem? (i := 232) rfl)
theorem w3_232 : (Jvm.Cond.code ({ cls := "DotPress$Tables", name := "whole", desc := "(I)LDotPress$Table;" } : Jvm.MethodName) prog_12_method_4_code (3 : Nat) (Option.some (Jvm.ClassFile.FieldType.object "DotPress$Table"))) ∈ lw_g := lw_in w3_232t rfl
theorem w3_233t : (Jvm.Cond.methodLink "DotPress$Tables" (35 : Nat) ({ cls := "DotPress$Tables", name := "alive", desc := "(I)LDotPress$Table;" } : Jvm.MethodName)) ∈ lw_tbl := mT3 (List.mem_of_getElem? (i := 233) rfl)
theorem w3_233 : (Jvm.Cond.methodLink "DotPress$Tables" (35 : Nat) ({ cls := "DotPress$Tables", name := "alive", desc := "(I)LDotPress$Table;" } : Jvm.MethodName)) ∈ lw_g := lw_in w3_233t rfl
theorem w3_48t : (Jvm.Cond.laysFinal "DotPress$Change" "DotPress$Change" "what" "I") ∈ lw_tbl := mT3 (List.mem_of_getElem? (i := 48) rfl)
theorem w3_48 : (Jvm.Cond.laysFinal "DotPress$Change" "DotPress$Change" "what" "I") ∈ lw_g := lw_in w3_48t rfl
theorem w3_50t : (Jvm.Cond.laysFinal "DotPress$Change" "DotPress$Change" "table" "LDotPress$Table;") ∈ lw_tbl := mT3 (List.mem_of_getElem? (i := 50) rfl)
theorem w3_50 : (Jvm.Cond.laysFinal "DotPress$Change" "DotPress$Change" "table" "LDotPress$Table;") ∈ lw_g := lw_in w3_50t rfl
theorem w3_52t : (Jvm.Cond.laysFinal "DotPress$Change" "DotPress$Change" "row" "LDotPress$Row;") ∈ lw_tbl := mT3 (List.mem_of_getElem? (i := 52) rfl)
theorem w3_52 : (Jvm.Cond.laysFinal "DotPress$Change" "DotPress$Change" "row" "LDotPress$Row;") ∈ lw_g := lw_in w3_52t rfl
theorem w3_54t : (Jvm.Cond.laysFinal "DotPress$Change" "DotPress$Change" "number" "I") ∈ lw_tbl := mT3 (List.mem_of_getElem? (i := 54) rfl)
theorem w3_54 : (Jvm.Cond.laysFinal "DotPress$Change" "DotPress$Change" "number" "I") ∈ lw_g := lw_in w3_54t rfl
theorem w3_76t : (Jvm.Cond.methodLink "DotPress" (131 : Nat) ({ cls := "DotPress$Tables", name := "alive", desc := "(I)LDotPress$Table;" } : Jvm.MethodName)) ∈ lw_tbl := mT3 (List.mem_of_getElem? (i := 76) rfl)
theorem w3_76 : (Jvm.Cond.methodLink "DotPress" (131 : Nat) ({ cls := "DotPress$Tables", name := "alive", desc := "(I)LDotPress$Table;" } : Jvm.MethodName)) ∈ lw_g := lw_in w3_76t rfl
theorem w3_77t : (Jvm.Cond.instanceMethod ({ cls := "DotPress$Tables", name := "alive", desc := "(I)LDotPress$Table;" } : Jvm.MethodName)) ∈ lw_tbl := mT3 (List.mem_of_getElem? (i := 77) rfl)
theorem w3_77 : (Jvm.Cond.instanceMethod ({ cls := "DotPress$Tables", name := "alive", desc := "(I)LDotPress$Table;" } : Jvm.MethodName)) ∈ lw_g := lw_in w3_77t rfl
theorem w3_78t : (Jvm.Cond.selects "DotPress$Tables" ({ cls := "DotPress$Tables", name := "alive", desc := "(I)LDotPress$Table;" } : Jvm.MethodName) ({ cls := "DotPress$Tables", name := "alive", desc := "(I)LDotPress$Table;" } : Jvm.MethodName)) ∈ lw_tbl := mT3 (List.mem_of_getElem? (i := 78) rfl)
theorem w3_78 : (Jvm.Cond.selects "DotPress$Tables" ({ cls := "DotPress$Tables", name := "alive", desc := "(I)LDotPress$Table;" } : Jvm.MethodName) ({ cls := "DotPress$Tables", name := "alive", desc := "(I)LDotPress$Table;" } : Jvm.MethodName)) ∈ lw_g := lw_in w3_78t rfl
theorem w3_79t : (Jvm.Cond.code ({ cls := "DotPress$Tables", name := "alive", desc := "(I)LDotPress$Table;" } : Jvm.MethodName) prog_12_method_3_code (3 : Nat) (Option.some (Jvm.ClassFile.FieldType.object "DotPress$Table"))) ∈ lw_tbl := mT3 (List.mem_of_getElem? (i := 79) rfl)
theorem w3_79 : (Jvm.Cond.code ({ cls := "DotPress$Tables", name := "alive", desc := "(I)LDotPress$Table;" } : Jvm.MethodName) prog_12_method_3_code (3 : Nat) (Option.some (Jvm.ClassFile.FieldType.object "DotPress$Table"))) ∈ lw_g := lw_in w3_79t rfl
theorem w3_92t : (Jvm.Cond.code ({ cls := "DotPress", name := "join", desc := "(II)I" } : Jvm.MethodName) prog_1_method_6_code (5 : Nat) (Option.some Jvm.ClassFile.FieldType.int)) ∈ lw_tbl := mT3 (List.mem_of_getElem? (i := 92) rfl)
theorem w3_92 : (Jvm.Cond.code ({ cls := "DotPress", name := "join", desc := "(II)I" } : Jvm.MethodName) prog_1_method_6_code (5 : Nat) (Option.some Jvm.ClassFile.FieldType.int)) ∈ lw_g := lw_in w3_92t rfl
theorem w3_97t : (Jvm.Cond.code ({ cls := "DotPress", name := "drop", desc := "(I)I" } : Jvm.MethodName) prog_1_method_7_code (3 : Nat) (Option.some Jvm.ClassFile.FieldType.int)) ∈ lw_tbl := mT3 (List.mem_of_getElem? (i := 97) rfl)
theorem w3_97 : (Jvm.Cond.code ({ cls := "DotPress", name := "drop", desc := "(I)I" } : Jvm.MethodName) prog_1_method_7_code (3 : Nat) (Option.some Jvm.ClassFile.FieldType.int)) ∈ lw_g := lw_in w3_97t rfl
theorem w4_173t : (Jvm.Cond.code ({ cls := "DotPress", name := "lines", desc := "()I" } : Jvm.MethodName) prog_1_method_22_code (1 : Nat) (Option.some Jvm.ClassFile.FieldType.int)) ∈ lw_tbl := mT4 (List.mem_of_getElem? (i := 173) rfl)
theorem w4_173 : (Jvm.Cond.code ({ cls := "DotPress", name := "lines", desc := "()I" } : Jvm.MethodName) prog_1_method_22_code (1 : Nat) (Option.some Jvm.ClassFile.FieldType.int)) ∈ lw_g := lw_in w4_173t rfl
theorem w4_189t : (Jvm.Cond.code ({ cls := "DotPress", name := "length", desc := "(I)I" } : Jvm.MethodName) prog_1_method_26_code (3 : Nat) (Option.some Jvm.ClassFile.FieldType.int)) ∈ lw_tbl := mT4 (List.mem_of_getElem? (i := 189) rfl)
theorem w4_189 : (Jvm.Cond.code ({ cls := "DotPress", name := "length", desc := "(I)I" } : Jvm.MethodName) prog_1_method_26_code (3 : Nat) (Option.some Jvm.ClassFile.FieldType.int)) ∈ lw_g := lw_in w4_189t rfl
theorem w4_190t : (Jvm.Cond.methodLink "DotPress" (288 : Nat) ({ cls := "DotPress$Sheet", name := "present", desc := "(I)LDotPress$Line;" } : Jvm.MethodName)) ∈ lw_tbl := mT4 (List.mem_of_getElem? (i := 190) rfl)
theorem w4_190 : (Jvm.Cond.methodLink "DotPress" (288 : Nat) ({ cls := "DotPress$Sheet", name := "present", desc := "(I)LDotPress$Line;" } : Jvm.MethodName)) ∈ lw_g := lw_in w4_190t rfl
theorem w4_191t : (Jvm.Cond.instanceMethod ({ cls := "DotPress$Sheet", name := "present", desc := "(I)LDotPress$Line;" } : Jvm.MethodName)) ∈ lw_tbl := mT4 (List.mem_of_getElem? (i := 191) rfl)
theorem w4_191 : (Jvm.Cond.instanceMethod ({ cls := "DotPress$Sheet", name := "present", desc := "(I)LDotPress$Line;" } : Jvm.MethodName)) ∈ lw_g := lw_in w4_191t rfl
theorem w4_192t : (Jvm.Cond.selects "DotPress$Sheet" ({ cls := "DotPress$Sheet", name := "present", desc := "(I)LDotPress$Line;" } : Jvm.MethodName) ({ cls := "DotPress$Sheet", name := "present", desc := "(I)LDotPress$Line;" } : Jvm.MethodName)) ∈ lw_tbl := mT4 (List.mem_of_getElem? (i := 192) rfl)
theorem w4_192 : (Jvm.Cond.selects "DotPress$Sheet" ({ cls := "DotPress$Sheet", name := "present", desc := "(I)LDotPress$Line;" } : Jvm.MethodName) ({ cls := "DotPress$Sheet", name := "present", desc := "(I)LDotPress$Line;" } : Jvm.MethodName)) ∈ lw_g := lw_in w4_192t rfl
theorem w4_193t : (Jvm.Cond.code ({ cls := "DotPress$Sheet", name := "present", desc := "(I)LDotPress$Line;" } : Jvm.MethodName) prog_9_method_4_code (3 : Nat) (Option.some (Jvm.ClassFile.FieldType.object "DotPress$Line"))) ∈ lw_tbl := mT4 (List.mem_of_getElem? (i := 193) rfl)
theorem w4_193 : (Jvm.Cond.code ({ cls := "DotPress$Sheet", name := "present", desc := "(I)LDotPress$Line;" } : Jvm.MethodName) prog_9_method_4_code (3 : Nat) (Option.some (Jvm.ClassFile.FieldType.object "DotPress$Line"))) ∈ lw_g := lw_in w4_193t rfl
theorem w4_194t : (Jvm.Cond.methodLink "DotPress" (292 : Nat) ({ cls := "DotPress$Sheet", name := "whyNone", desc := "(I)I" } : Jvm.MethodName)) ∈ lw_tbl := mT4 (List.mem_of_getElem? (i := 194) rfl)
theorem w4_194 : (Jvm.Cond.methodLink "DotPress" (292 : Nat) ({ cls := "DotPress$Sheet", name := "whyNone", desc := "(I)I" } : Jvm.MethodName)) ∈ lw_g := lw_in w4_194t rfl
theorem w4_195t : (Jvm.Cond.instanceMethod ({ cls := "DotPress$Sheet", name := "whyNone", desc := "(I)I" } : Jvm.MethodName)) ∈ lw_tbl := mT4 (List.mem_of_getElem? (i := 195) rfl)
theorem w4_195 : (Jvm.Cond.instanceMethod ({ cls := "DotPress$Sheet", name := "whyNone", desc := "(I)I" } : Jvm.MethodName)) ∈ lw_g := lw_in w4_195t rfl
theorem w4_196t : (Jvm.Cond.selects "DotPress$Sheet" ({ cls := "DotPress$Sheet", name := "whyNone", desc := "(I)I" } : Jvm.MethodName) ({ cls := "DotPress$Sheet", name := "whyNone", desc := "(I)I" } : Jvm.MethodName)) ∈ lw_tbl := mT4 (List.mem_of_getElem? (i := 196) rfl)
theorem w4_196 : (Jvm.Cond.selects "DotPress$Sheet" ({ cls := "DotPress$Sheet", name := "whyNone", desc := "(I)I" } : Jvm.MethodName) ({ cls := "DotPress$Sheet", name := "whyNone", desc := "(I)I" } : Jvm.MethodName)) ∈ lw_g := lw_in w4_196t rfl
theorem w4_197t : (Jvm.Cond.code ({ cls := "DotPress$Sheet", name := "whyNone", desc := "(I)I" } : Jvm.MethodName) prog_9_method_5_code (2 : Nat) (Option.some Jvm.ClassFile.FieldType.int)) ∈ lw_tbl := mT4 (List.mem_of_getElem? (i := 197) rfl)
theorem w4_197 : (Jvm.Cond.code ({ cls := "DotPress$Sheet", name := "whyNone", desc := "(I)I" } : Jvm.MethodName) prog_9_method_5_code (2 : Nat) (Option.some Jvm.ClassFile.FieldType.int)) ∈ lw_g := lw_in w4_197t rfl
theorem w4_21t : (Jvm.Cond.code ({ cls := "DotPress$Setting", name := "clear", desc := "()V" } : Jvm.MethodName) prog_8_method_2_code (1 : Nat) (Option.none : Option Jvm.ClassFile.FieldType)) ∈ lw_tbl := mT4 (List.mem_of_getElem? (i := 21) rfl)
theorem w4_21 : (Jvm.Cond.code ({ cls := "DotPress$Setting", name := "clear", desc := "()V" } : Jvm.MethodName) prog_8_method_2_code (1 : Nat) (Option.none : Option Jvm.ClassFile.FieldType)) ∈ lw_g := lw_in w4_21t rfl
theorem w4_214t : (Jvm.Cond.code ({ cls := "DotPress", name := "cut", desc := "(II)I" } : Jvm.MethodName) prog_1_method_30_code (4 : Nat) (Option.some Jvm.ClassFile.FieldType.int)) ∈ lw_tbl := mT4 (List.mem_of_getElem? (i := 214) rfl)
theorem w4_214 : (Jvm.Cond.code ({ cls := "DotPress", name := "cut", desc := "(II)I" } : Jvm.MethodName) prog_1_method_30_code (4 : Nat) (Option.some Jvm.ClassFile.FieldType.int)) ∈ lw_g := lw_in w4_214t rfl
theorem w4_223t : (Jvm.Cond.code ({ cls := "DotPress", name := "lose", desc := "(I)I" } : Jvm.MethodName) prog_1_method_31_code (3 : Nat) (Option.some Jvm.ClassFile.FieldType.int)) ∈ lw_tbl := mT4 (List.mem_of_getElem? (i := 223) rfl)
theorem w4_223 : (Jvm.Cond.code ({ cls := "DotPress", name := "lose", desc := "(I)I" } : Jvm.MethodName) prog_1_method_31_code (3 : Nat) (Option.some Jvm.ClassFile.FieldType.int)) ∈ lw_g := lw_in w4_223t rfl
theorem w4_224t : (Jvm.Cond.methodLink "DotPress" (308 : Nat) ({ cls := "DotPress$Sheet", name := "at", desc := "(I)LDotPress$Line;" } : Jvm.MethodName)) ∈ lw_tbl := mT4 (List.mem_of_getElem? (i := 224) rfl)
theorem w4_224 : (Jvm.Cond.methodLink "DotPress" (308 : Nat) ({ cls := "DotPress$Sheet", name := "at", desc := "(I)LDotPress$Line;" } : Jvm.MethodName)) ∈ lw_g := lw_in w4_224t rfl
theorem w4_228t : (Jvm.Cond.code ({ cls := "DotPress", name := "copyRow", desc := "(IIIII)I" } : Jvm.MethodName) prog_1_method_32_code (8 : Nat) (Option.some Jvm.ClassFile.FieldType.int)) ∈ lw_tbl := mT4 (List.mem_of_getElem? (i := 228) rfl)
theorem w4_228 : (Jvm.Cond.code ({ cls := "DotPress", name := "copyRow", desc := "(IIIII)I" } : Jvm.MethodName) prog_1_method_32_code (8 : Nat) (Option.some Jvm.ClassFile.FieldType.int)) ∈ lw_g := lw_in w4_228t rfl
theorem w4_237t : (Jvm.Cond.code ({ cls := "DotPress", name := "copyLines", desc := "(III)I" } : Jvm.MethodName) prog_1_method_33_code (7 : Nat) (Option.some Jvm.ClassFile.FieldType.int)) ∈ lw_tbl := mT4 (List.mem_of_getElem? (i := 237) rfl)
theorem w4_237 : (Jvm.Cond.code ({ cls := "DotPress", name := "copyLines", desc := "(III)I" } : Jvm.MethodName) prog_1_method_33_code (7 : Nat) (Option.some Jvm.ClassFile.FieldType.int)) ∈ lw_g := lw_in w4_237t rfl
theorem w4_57t : (Jvm.Cond.laysFinal "DotPress$Line" "DotPress$Line" "cells" "[I") ∈ lw_tbl := mT4 (List.mem_of_getElem? (i := 57) rfl)
theorem w4_57 : (Jvm.Cond.laysFinal "DotPress$Line" "DotPress$Line" "cells" "[I") ∈ lw_g := lw_in w4_57t rfl
theorem w4_59t : (Jvm.Cond.lays "DotPress$Line" "DotPress$Line" "size" "I") ∈ lw_tbl := mT4 (List.mem_of_getElem? (i := 59) rfl)
theorem w4_59 : (Jvm.Cond.lays "DotPress$Line" "DotPress$Line" "size" "I") ∈ lw_g := lw_in w4_59t rfl
theorem w4_61t : (Jvm.Cond.lays "DotPress$Line" "DotPress$Line" "lacking" "Z") ∈ lw_tbl := mT4 (List.mem_of_getElem? (i := 61) rfl)
theorem w4_61 : (Jvm.Cond.lays "DotPress$Line" "DotPress$Line" "lacking" "Z") ∈ lw_g := lw_in w4_61t rfl
theorem w4_72t : (Jvm.Cond.methodLink "DotPress$Sheet" (24 : Nat) ({ cls := "DotPress$Sheet", name := "at", desc := "(I)LDotPress$Line;" } : Jvm.MethodName)) ∈ lw_tbl := mT4 (List.mem_of_getElem? (i := 72) rfl)
theorem w4_72 : (Jvm.Cond.methodLink "DotPress$Sheet" (24 : Nat) ({ cls := "DotPress$Sheet", name := "at", desc := "(I)LDotPress$Line;" } : Jvm.MethodName)) ∈ lw_g := lw_in w4_72t rfl
theorem w4_73t : (Jvm.Cond.instanceMethod ({ cls := "DotPress$Sheet", name := "at", desc := "(I)LDotPress$Line;" } : Jvm.MethodName)) ∈ lw_tbl := mT4 (List.mem_of_getElem? (i := 73) rfl)
theorem w4_73 : (Jvm.Cond.instanceMethod ({ cls := "DotPress$Sheet", name := "at", desc := "(I)LDotPress$Line;" } : Jvm.MethodName)) ∈ lw_g := lw_in w4_73t rfl
theorem w4_74t : (Jvm.Cond.selects "DotPress$Sheet" ({ cls := "DotPress$Sheet", name := "at", desc := "(I)LDotPress$Line;" } : Jvm.MethodName) ({ cls := "DotPress$Sheet", name := "at", desc := "(I)LDotPress$Line;" } : Jvm.MethodName)) ∈ lw_tbl := mT4 (List.mem_of_getElem? (i := 74) rfl)
theorem w4_74 : (Jvm.Cond.selects "DotPress$Sheet" ({ cls := "DotPress$Sheet", name := "at", desc := "(I)LDotPress$Line;" } : Jvm.MethodName) ({ cls := "DotPress$Sheet", name := "at", desc := "(I)LDotPress$Line;" } : Jvm.MethodName)) ∈ lw_g := lw_in w4_74t rfl
theorem w4_75t : (Jvm.Cond.code ({ cls := "DotPress$Sheet", name := "at", desc := "(I)LDotPress$Line;" } : Jvm.MethodName) prog_9_method_3_code (2 : Nat) (Option.some (Jvm.ClassFile.FieldType.object "DotPress$Line"))) ∈ lw_tbl := mT4 (List.mem_of_getElem? (i := 75) rfl)
theorem w4_75 : (Jvm.Cond.code ({ cls := "DotPress$Sheet", name := "at", desc := "(I)LDotPress$Line;" } : Jvm.MethodName) prog_9_method_3_code (2 : Nat) (Option.some (Jvm.ClassFile.FieldType.object "DotPress$Line"))) ∈ lw_g := lw_in w4_75t rfl
theorem w5_113t : (Jvm.Cond.code ({ cls := "DotPress", name := "letter", desc := "(I)I" } : Jvm.MethodName) prog_1_method_39_code (2 : Nat) (Option.some Jvm.ClassFile.FieldType.int)) ∈ lw_tbl := mT5 (List.mem_of_getElem? (i := 113) rfl)
theorem w5_113 : (Jvm.Cond.code ({ cls := "DotPress", name := "letter", desc := "(I)I" } : Jvm.MethodName) prog_1_method_39_code (2 : Nat) (Option.some Jvm.ClassFile.FieldType.int)) ∈ lw_g := lw_in w5_113t rfl
theorem w5_122t : (Jvm.Cond.code ({ cls := "DotPress", name := "readings", desc := "(III)I" } : Jvm.MethodName) prog_1_method_41_code (6 : Nat) (Option.some Jvm.ClassFile.FieldType.int)) ∈ lw_tbl := mT5 (List.mem_of_getElem? (i := 122) rfl)
theorem w5_122 : (Jvm.Cond.code ({ cls := "DotPress", name := "readings", desc := "(III)I" } : Jvm.MethodName) prog_1_method_41_code (6 : Nat) (Option.some Jvm.ClassFile.FieldType.int)) ∈ lw_g := lw_in w5_122t rfl
theorem w5_16t : (Jvm.Cond.code ({ cls := "java/lang/Integer", name := "bitCount", desc := "(I)I" } : Jvm.MethodName) prog_17_method_49_code (1 : Nat) (Option.some Jvm.ClassFile.FieldType.int)) ∈ lw_tbl := mT5 (List.mem_of_getElem? (i := 16) rfl)
theorem w5_16 : (Jvm.Cond.code ({ cls := "java/lang/Integer", name := "bitCount", desc := "(I)I" } : Jvm.MethodName) prog_17_method_49_code (1 : Nat) (Option.some Jvm.ClassFile.FieldType.int)) ∈ lw_g := lw_in w5_16t rfl
theorem w5_169t : (Jvm.Cond.code ({ cls := "DotPress", name := "more", desc := "()I" } : Jvm.MethodName) prog_1_method_42_code (1 : Nat) (Option.some Jvm.ClassFile.FieldType.int)) ∈ lw_tbl := mT5 (List.mem_of_getElem? (i := 169) rfl)
theorem w5_169 : (Jvm.Cond.code ({ cls := "DotPress", name := "more", desc := "()I" } : Jvm.MethodName) prog_1_method_42_code (1 : Nat) (Option.some Jvm.ClassFile.FieldType.int)) ∈ lw_g := lw_in w5_169t rfl
theorem w5_17t : (Jvm.Cond.constant "java/lang/Integer" (265 : Nat) (1431655765 : Int32)) ∈ lw_tbl := mT5 (List.mem_of_getElem? (i := 17) rfl)
theorem w5_17 : (Jvm.Cond.constant "java/lang/Integer" (265 : Nat) (1431655765 : Int32)) ∈ lw_g := lw_in w5_17t rfl
theorem w5_173t : (Jvm.Cond.code ({ cls := "DotPress", name := "reading", desc := "(II)I" } : Jvm.MethodName) prog_1_method_43_code (4 : Nat) (Option.some Jvm.ClassFile.FieldType.int)) ∈ lw_tbl := mT5 (List.mem_of_getElem? (i := 173) rfl)
theorem w5_173 : (Jvm.Cond.code ({ cls := "DotPress", name := "reading", desc := "(II)I" } : Jvm.MethodName) prog_1_method_43_code (4 : Nat) (Option.some Jvm.ClassFile.FieldType.int)) ∈ lw_g := lw_in w5_173t rfl
theorem w5_174t : (Jvm.Cond.methodLink "DotPress" (364 : Nat) ({ cls := "DotPress$Readings", name := "byteOf", desc := "(II)I" } : Jvm.MethodName)) ∈ lw_tbl := mT5 (List.mem_of_getElem? (i := 174) rfl)
theorem w5_174 : (Jvm.Cond.methodLink "DotPress" (364 : Nat) ({ cls := "DotPress$Readings", name := "byteOf", desc := "(II)I" } : Jvm.MethodName)) ∈ lw_g := lw_in w5_174t rfl
theorem w5_175t : (Jvm.Cond.instanceMethod ({ cls := "DotPress$Readings", name := "byteOf", desc := "(II)I" } : Jvm.MethodName)) ∈ lw_tbl := mT5 (List.mem_of_getElem? (i := 175) rfl)
theorem w5_175 : (Jvm.Cond.instanceMethod ({ cls := "DotPress$Readings", name := "byteOf", desc := "(II)I" } : Jvm.MethodName)) ∈ lw_g := lw_in w5_175t rfl
theorem w5_176t : (Jvm.Cond.selects "DotPress$Readings" ({ cls := "DotPress$Readings", name := "byteOf", desc := "(II)I" } : Jvm.MethodName) ({ cls := "DotPress$Readings", name := "byteOf", desc := "(II)I" } : Jvm.MethodName)) ∈ lw_tbl := mT5 (List.mem_of_getElem? (i := 176) rfl)
theorem w5_176 : (Jvm.Cond.selects "DotPress$Readings" ({ cls := "DotPress$Readings", name := "byteOf", desc := "(II)I" } : Jvm.MethodName) ({ cls := "DotPress$Readings", name := "byteOf", desc := "(II)I" } : Jvm.MethodName)) ∈ lw_g := lw_in w5_176t rfl
theorem w5_177t : (Jvm.Cond.code ({ cls := "DotPress$Readings", name := "byteOf", desc := "(II)I" } : Jvm.MethodName) prog_6_method_2_code (4 : Nat) (Option.some Jvm.ClassFile.FieldType.int)) ∈ lw_tbl := mT5 (List.mem_of_getElem? (i := 177) rfl)
theorem w5_177 : (Jvm.Cond.code ({ cls := "DotPress$Readings", name := "byteOf", desc := "(II)I" } : Jvm.MethodName) prog_6_method_2_code (4 : Nat) (Option.some Jvm.ClassFile.FieldType.int)) ∈ lw_g := lw_in w5_177t rfl
theorem w5_18t : (Jvm.Cond.constant "java/lang/Integer" (266 : Nat) (858993459 : Int32)) ∈ lw_tbl := mT5 (List.mem_of_getElem? (i := 18) rfl)
theorem w5_18 : (Jvm.Cond.constant "java/lang/Integer" (266 : Nat) (858993459 : Int32)) ∈ lw_g := lw_in w5_18t rfl
theorem w5_182t : (Jvm.Cond.code ({ cls := "DotPress", name := "judge", desc := "(I)I" } : Jvm.MethodName) prog_1_method_44_code (4 : Nat) (Option.some Jvm.ClassFile.FieldType.int)) ∈ lw_tbl := mT5 (List.mem_of_getElem? (i := 182) rfl)
theorem w5_182 : (Jvm.Cond.code ({ cls := "DotPress", name := "judge", desc := "(I)I" } : Jvm.MethodName) prog_1_method_44_code (4 : Nat) (Option.some Jvm.ClassFile.FieldType.int)) ∈ lw_g := lw_in w5_182t rfl
theorem w5_19t : (Jvm.Cond.constant "java/lang/Integer" (267 : Nat) (252645135 : Int32)) ∈ lw_tbl := mT5 (List.mem_of_getElem? (i := 19) rfl)
theorem w5_19 : (Jvm.Cond.constant "java/lang/Integer" (267 : Nat) (252645135 : Int32)) ∈ lw_g := lw_in w5_19t rfl
theorem w5_209t : (Jvm.Cond.code ({ cls := "DotPress", name := "parts", desc := "(III)I" } : Jvm.MethodName) prog_1_method_45_code (10 : Nat) (Option.some Jvm.ClassFile.FieldType.int)) ∈ lw_tbl := mT5 (List.mem_of_getElem? (i := 209) rfl)
theorem w5_209 : (Jvm.Cond.code ({ cls := "DotPress", name := "parts", desc := "(III)I" } : Jvm.MethodName) prog_1_method_45_code (10 : Nat) (Option.some Jvm.ClassFile.FieldType.int)) ∈ lw_g := lw_in w5_209t rfl
theorem w5_214t : (Jvm.Cond.code ({ cls := "DotPress", name := "unreadable", desc := "(III)I" } : Jvm.MethodName) prog_1_method_46_code (7 : Nat) (Option.some Jvm.ClassFile.FieldType.int)) ∈ lw_tbl := mT5 (List.mem_of_getElem? (i := 214) rfl)
theorem w5_214 : (Jvm.Cond.code ({ cls := "DotPress", name := "unreadable", desc := "(III)I" } : Jvm.MethodName) prog_1_method_46_code (7 : Nat) (Option.some Jvm.ClassFile.FieldType.int)) ∈ lw_g := lw_in w5_214t rfl
theorem w5_23t : (Jvm.Cond.code ({ cls := "DotPress", name := "closed", desc := "()I" } : Jvm.MethodName) prog_1_method_36_code (1 : Nat) (Option.some Jvm.ClassFile.FieldType.int)) ∈ lw_tbl := mT5 (List.mem_of_getElem? (i := 23) rfl)
theorem w5_23 : (Jvm.Cond.code ({ cls := "DotPress", name := "closed", desc := "()I" } : Jvm.MethodName) prog_1_method_36_code (1 : Nat) (Option.some Jvm.ClassFile.FieldType.int)) ∈ lw_g := lw_in w5_23t rfl
theorem w5_27t : (Jvm.Cond.code ({ cls := "DotPress", name := "read", desc := "(III)I" } : Jvm.MethodName) prog_1_method_37_code (6 : Nat) (Option.some Jvm.ClassFile.FieldType.int)) ∈ lw_tbl := mT5 (List.mem_of_getElem? (i := 27) rfl)
theorem w5_27 : (Jvm.Cond.code ({ cls := "DotPress", name := "read", desc := "(III)I" } : Jvm.MethodName) prog_1_method_37_code (6 : Nat) (Option.some Jvm.ClassFile.FieldType.int)) ∈ lw_g := lw_in w5_27t rfl
theorem w5_5t : (Jvm.Cond.code ({ cls := "DotPress", name := "copied", desc := "()I" } : Jvm.MethodName) prog_1_method_34_code (1 : Nat) (Option.some Jvm.ClassFile.FieldType.int)) ∈ lw_tbl := mT5 (List.mem_of_getElem? (i := 5) rfl)
theorem w5_5 : (Jvm.Cond.code ({ cls := "DotPress", name := "copied", desc := "()I" } : Jvm.MethodName) prog_1_method_34_code (1 : Nat) (Option.some Jvm.ClassFile.FieldType.int)) ∈ lw_g := lw_in w5_5t rfl
theorem w5_9t : (Jvm.Cond.code ({ cls := "DotPress", name := "emboss", desc := "(II)I" } : Jvm.MethodName) prog_1_method_35_code (6 : Nat) (Option.some Jvm.ClassFile.FieldType.int)) ∈ lw_tbl := mT5 (List.mem_of_getElem? (i := 9) rfl)
theorem w5_9 : (Jvm.Cond.code ({ cls := "DotPress", name := "emboss", desc := "(II)I" } : Jvm.MethodName) prog_1_method_35_code (6 : Nat) (Option.some Jvm.ClassFile.FieldType.int)) ∈ lw_g := lw_in w5_9t rfl
theorem w6_103t : (Jvm.Cond.fieldLink "DotPressModel" (107 : Nat) "DotPressModel" "rowIs" "[I") ∈ lw_tbl := mT6 (List.mem_of_getElem? (i := 103) rfl)
theorem w6_103 : (Jvm.Cond.fieldLink "DotPressModel" (107 : Nat) "DotPressModel" "rowIs" "[I") ∈ lw_g := lw_in w6_103t rfl
theorem w6_104t : (Jvm.Cond.fieldLink "DotPressModel" (110 : Nat) "DotPressModel" "rowAt" "[I") ∈ lw_tbl := mT6 (List.mem_of_getElem? (i := 104) rfl)
theorem w6_104 : (Jvm.Cond.fieldLink "DotPressModel" (110 : Nat) "DotPressModel" "rowAt" "[I") ∈ lw_g := lw_in w6_104t rfl
theorem w6_105t : (Jvm.Cond.fieldLink "DotPressModel" (113 : Nat) "DotPressModel" "rowLong" "[I") ∈ lw_tbl := mT6 (List.mem_of_getElem? (i := 105) rfl)
theorem w6_105 : (Jvm.Cond.fieldLink "DotPressModel" (113 : Nat) "DotPressModel" "rowLong" "[I") ∈ lw_g := lw_in w6_105t rfl
theorem w6_106t : (Jvm.Cond.fieldLink "DotPressModel" (116 : Nat) "DotPressModel" "rowMany" "[I") ∈ lw_tbl := mT6 (List.mem_of_getElem? (i := 106) rfl)
theorem w6_106 : (Jvm.Cond.fieldLink "DotPressModel" (116 : Nat) "DotPressModel" "rowMany" "[I") ∈ lw_g := lw_in w6_106t rfl
theorem w6_107t : (Jvm.Cond.fieldLink "DotPressModel" (120 : Nat) "DotPressModel" "row" "[I") ∈ lw_tbl := mT6 (List.mem_of_getElem? (i := 107) rfl)
theorem w6_107 : (Jvm.Cond.fieldLink "DotPressModel" (120 : Nat) "DotPressModel" "row" "[I") ∈ lw_g := lw_in w6_107t rfl
theorem w6_108t : (Jvm.Cond.fieldLink "DotPressModel" (123 : Nat) "DotPressModel" "rowPlace" "[I") ∈ lw_tbl := mT6 (List.mem_of_getElem? (i := 108) rfl)
theorem w6_108 : (Jvm.Cond.fieldLink "DotPressModel" (123 : Nat) "DotPressModel" "rowPlace" "[I") ∈ lw_g := lw_in w6_108t rfl
theorem w6_110t : (Jvm.Cond.fieldLink "DotPressModel" (126 : Nat) "DotPressModel" "out" "[I") ∈ lw_tbl := mT6 (List.mem_of_getElem? (i := 110) rfl)
theorem w6_110 : (Jvm.Cond.fieldLink "DotPressModel" (126 : Nat) "DotPressModel" "out" "[I") ∈ lw_g := lw_in w6_110t rfl
theorem w6_113t : (Jvm.Cond.fieldLink "DotPressModel" (129 : Nat) "DotPressModel" "was" "[I") ∈ lw_tbl := mT6 (List.mem_of_getElem? (i := 113) rfl)
theorem w6_113 : (Jvm.Cond.fieldLink "DotPressModel" (129 : Nat) "DotPressModel" "was" "[I") ∈ lw_g := lw_in w6_113t rfl
theorem w6_116t : (Jvm.Cond.fieldLink "DotPressModel" (132 : Nat) "DotPressModel" "can" "[Z") ∈ lw_tbl := mT6 (List.mem_of_getElem? (i := 116) rfl)
theorem w6_116 : (Jvm.Cond.fieldLink "DotPressModel" (132 : Nat) "DotPressModel" "can" "[Z") ∈ lw_g := lw_in w6_116t rfl
theorem w6_117t : (Jvm.Cond.fieldLink "DotPressModel" (136 : Nat) "DotPressModel" "kept" "[I") ∈ lw_tbl := mT6 (List.mem_of_getElem? (i := 117) rfl)
theorem w6_117 : (Jvm.Cond.fieldLink "DotPressModel" (136 : Nat) "DotPressModel" "kept" "[I") ∈ lw_g := lw_in w6_117t rfl
theorem w6_118t : (Jvm.Cond.fieldLink "DotPressModel" (139 : Nat) "DotPressModel" "keptLong" "[I") ∈ lw_tbl := mT6 (List.mem_of_getElem? (i := 118) rfl)
theorem w6_118 : (Jvm.Cond.fieldLink "DotPressModel" (139 : Nat) "DotPressModel" "keptLong" "[I") ∈ lw_g := lw_in w6_118t rfl
theorem w6_121t : (Jvm.Cond.fieldLink "DotPressModel" (142 : Nat) "DotPressModel" "now" "[I") ∈ lw_tbl := mT6 (List.mem_of_getElem? (i := 121) rfl)
theorem w6_121 : (Jvm.Cond.fieldLink "DotPressModel" (142 : Nat) "DotPressModel" "now" "[I") ∈ lw_g := lw_in w6_121t rfl
theorem w6_124t : (Jvm.Cond.fieldLink "DotPressModel" (145 : Nat) "DotPressModel" "signs" "[I") ∈ lw_tbl := mT6 (List.mem_of_getElem? (i := 124) rfl)
theorem w6_124 : (Jvm.Cond.fieldLink "DotPressModel" (145 : Nat) "DotPressModel" "signs" "[I") ∈ lw_g := lw_in w6_124t rfl
theorem w6_126t : (Jvm.Cond.lays "DotPressModel" "DotPressModel" "status" "I") ∈ lw_tbl := mT6 (List.mem_of_getElem? (i := 126) rfl)
theorem w6_126 : (Jvm.Cond.lays "DotPressModel" "DotPressModel" "status" "I") ∈ lw_g := lw_in w6_126t rfl
theorem w6_128t : (Jvm.Cond.lays "DotPressModel" "DotPressModel" "place" "I") ∈ lw_tbl := mT6 (List.mem_of_getElem? (i := 128) rfl)
theorem w6_128 : (Jvm.Cond.lays "DotPressModel" "DotPressModel" "place" "I") ∈ lw_g := lw_in w6_128t rfl
theorem w6_130t : (Jvm.Cond.laysFinal "DotPressModel" "DotPressModel" "tape" "[I") ∈ lw_tbl := mT6 (List.mem_of_getElem? (i := 130) rfl)
theorem w6_130 : (Jvm.Cond.laysFinal "DotPressModel" "DotPressModel" "tape" "[I") ∈ lw_g := lw_in w6_130t rfl
theorem w6_132t : (Jvm.Cond.lays "DotPressModel" "DotPressModel" "taped" "I") ∈ lw_tbl := mT6 (List.mem_of_getElem? (i := 132) rfl)
theorem w6_132 : (Jvm.Cond.lays "DotPressModel" "DotPressModel" "taped" "I") ∈ lw_g := lw_in w6_132t rfl
theorem w6_134t : (Jvm.Cond.lays "DotPressModel" "DotPressModel" "tables" "I") ∈ lw_tbl := mT6 (List.mem_of_getElem? (i := 134) rfl)
theorem w6_134 : (Jvm.Cond.lays "DotPressModel" "DotPressModel" "tables" "I") ∈ lw_g := lw_in w6_134t rfl
theorem w6_136t : (Jvm.Cond.laysFinal "DotPressModel" "DotPressModel" "isThere" "[Z") ∈ lw_tbl := mT6 (List.mem_of_getElem? (i := 136) rfl)
theorem w6_136 : (Jvm.Cond.laysFinal "DotPressModel" "DotPressModel" "isThere" "[Z") ∈ lw_g := lw_in w6_136t rfl
theorem w6_138t : (Jvm.Cond.laysFinal "DotPressModel" "DotPressModel" "kind" "[I") ∈ lw_tbl := mT6 (List.mem_of_getElem? (i := 138) rfl)
theorem w6_138 : (Jvm.Cond.laysFinal "DotPressModel" "DotPressModel" "kind" "[I") ∈ lw_g := lw_in w6_138t rfl
theorem w6_140t : (Jvm.Cond.laysFinal "DotPressModel" "DotPressModel" "dots" "[I") ∈ lw_tbl := mT6 (List.mem_of_getElem? (i := 140) rfl)
theorem w6_140 : (Jvm.Cond.laysFinal "DotPressModel" "DotPressModel" "dots" "[I") ∈ lw_g := lw_in w6_140t rfl
theorem w6_142t : (Jvm.Cond.laysFinal "DotPressModel" "DotPressModel" "base" "[I") ∈ lw_tbl := mT6 (List.mem_of_getElem? (i := 142) rfl)
theorem w6_142 : (Jvm.Cond.laysFinal "DotPressModel" "DotPressModel" "base" "[I") ∈ lw_g := lw_in w6_142t rfl
theorem w6_144t : (Jvm.Cond.laysFinal "DotPressModel" "DotPressModel" "second" "[I") ∈ lw_tbl := mT6 (List.mem_of_getElem? (i := 144) rfl)
theorem w6_144 : (Jvm.Cond.laysFinal "DotPressModel" "DotPressModel" "second" "[I") ∈ lw_g := lw_in w6_144t rfl
theorem w6_146t : (Jvm.Cond.laysFinal "DotPressModel" "DotPressModel" "ruleMany" "[I") ∈ lw_tbl := mT6 (List.mem_of_getElem? (i := 146) rfl)
theorem w6_146 : (Jvm.Cond.laysFinal "DotPressModel" "DotPressModel" "ruleMany" "[I") ∈ lw_g := lw_in w6_146t rfl
theorem w6_148t : (Jvm.Cond.laysFinal "DotPressModel" "DotPressModel" "conditions" "[I") ∈ lw_tbl := mT6 (List.mem_of_getElem? (i := 148) rfl)
theorem w6_148 : (Jvm.Cond.laysFinal "DotPressModel" "DotPressModel" "conditions" "[I") ∈ lw_g := lw_in w6_148t rfl
theorem w6_150t : (Jvm.Cond.laysFinal "DotPressModel" "DotPressModel" "letterMany" "[I") ∈ lw_tbl := mT6 (List.mem_of_getElem? (i := 150) rfl)
theorem w6_150 : (Jvm.Cond.laysFinal "DotPressModel" "DotPressModel" "letterMany" "[I") ∈ lw_g := lw_in w6_150t rfl
theorem w6_152t : (Jvm.Cond.laysFinal "DotPressModel" "DotPressModel" "cellMany" "[I") ∈ lw_tbl := mT6 (List.mem_of_getElem? (i := 152) rfl)
theorem w6_152 : (Jvm.Cond.laysFinal "DotPressModel" "DotPressModel" "cellMany" "[I") ∈ lw_g := lw_in w6_152t rfl
theorem w6_154t : (Jvm.Cond.laysFinal "DotPressModel" "DotPressModel" "letters" "[I") ∈ lw_tbl := mT6 (List.mem_of_getElem? (i := 154) rfl)
theorem w6_154 : (Jvm.Cond.laysFinal "DotPressModel" "DotPressModel" "letters" "[I") ∈ lw_g := lw_in w6_154t rfl
theorem w6_156t : (Jvm.Cond.laysFinal "DotPressModel" "DotPressModel" "cells" "[I") ∈ lw_tbl := mT6 (List.mem_of_getElem? (i := 156) rfl)
theorem w6_156 : (Jvm.Cond.laysFinal "DotPressModel" "DotPressModel" "cells" "[I") ∈ lw_g := lw_in w6_156t rfl
theorem w6_158t : (Jvm.Cond.laysFinal "DotPressModel" "DotPressModel" "indicatorMany" "[I") ∈ lw_tbl := mT6 (List.mem_of_getElem? (i := 158) rfl)
theorem w6_158 : (Jvm.Cond.laysFinal "DotPressModel" "DotPressModel" "indicatorMany" "[I") ∈ lw_g := lw_in w6_158t rfl
theorem w6_160t : (Jvm.Cond.laysFinal "DotPressModel" "DotPressModel" "indicatorCells" "[I") ∈ lw_tbl := mT6 (List.mem_of_getElem? (i := 160) rfl)
theorem w6_160 : (Jvm.Cond.laysFinal "DotPressModel" "DotPressModel" "indicatorCells" "[I") ∈ lw_g := lw_in w6_160t rfl
theorem w6_162t : (Jvm.Cond.lays "DotPressModel" "DotPressModel" "steps" "[I") ∈ lw_tbl := mT6 (List.mem_of_getElem? (i := 162) rfl)
theorem w6_162 : (Jvm.Cond.lays "DotPressModel" "DotPressModel" "steps" "[I") ∈ lw_g := lw_in w6_162t rfl
theorem w6_164t : (Jvm.Cond.lays "DotPressModel" "DotPressModel" "stepMany" "I") ∈ lw_tbl := mT6 (List.mem_of_getElem? (i := 164) rfl)
theorem w6_164 : (Jvm.Cond.lays "DotPressModel" "DotPressModel" "stepMany" "I") ∈ lw_g := lw_in w6_164t rfl
theorem w6_166t : (Jvm.Cond.laysFinal "DotPressModel" "DotPressModel" "word" "[I") ∈ lw_tbl := mT6 (List.mem_of_getElem? (i := 166) rfl)
theorem w6_166 : (Jvm.Cond.laysFinal "DotPressModel" "DotPressModel" "word" "[I") ∈ lw_g := lw_in w6_166t rfl
theorem w6_168t : (Jvm.Cond.laysFinal "DotPressModel" "DotPressModel" "wordPlace" "[I") ∈ lw_tbl := mT6 (List.mem_of_getElem? (i := 168) rfl)
theorem w6_168 : (Jvm.Cond.laysFinal "DotPressModel" "DotPressModel" "wordPlace" "[I") ∈ lw_g := lw_in w6_168t rfl
theorem w6_170t : (Jvm.Cond.laysFinal "DotPressModel" "DotPressModel" "mayBreak" "[Z") ∈ lw_tbl := mT6 (List.mem_of_getElem? (i := 170) rfl)
theorem w6_170 : (Jvm.Cond.laysFinal "DotPressModel" "DotPressModel" "mayBreak" "[Z") ∈ lw_g := lw_in w6_170t rfl
theorem w6_172t : (Jvm.Cond.lays "DotPressModel" "DotPressModel" "wordLong" "I") ∈ lw_tbl := mT6 (List.mem_of_getElem? (i := 172) rfl)
theorem w6_172 : (Jvm.Cond.lays "DotPressModel" "DotPressModel" "wordLong" "I") ∈ lw_g := lw_in w6_172t rfl
theorem w6_174t : (Jvm.Cond.laysFinal "DotPressModel" "DotPressModel" "made" "[I") ∈ lw_tbl := mT6 (List.mem_of_getElem? (i := 174) rfl)
theorem w6_174 : (Jvm.Cond.laysFinal "DotPressModel" "DotPressModel" "made" "[I") ∈ lw_g := lw_in w6_174t rfl
theorem w6_176t : (Jvm.Cond.lays "DotPressModel" "DotPressModel" "madeMany" "I") ∈ lw_tbl := mT6 (List.mem_of_getElem? (i := 176) rfl)
theorem w6_176 : (Jvm.Cond.lays "DotPressModel" "DotPressModel" "madeMany" "I") ∈ lw_g := lw_in w6_176t rfl
theorem w6_178t : (Jvm.Cond.laysFinal "DotPressModel" "DotPressModel" "begins" "[I") ∈ lw_tbl := mT6 (List.mem_of_getElem? (i := 178) rfl)
theorem w6_178 : (Jvm.Cond.laysFinal "DotPressModel" "DotPressModel" "begins" "[I") ∈ lw_g := lw_in w6_178t rfl
theorem w6_180t : (Jvm.Cond.laysFinal "DotPressModel" "DotPressModel" "finds" "[I") ∈ lw_tbl := mT6 (List.mem_of_getElem? (i := 180) rfl)
theorem w6_180 : (Jvm.Cond.laysFinal "DotPressModel" "DotPressModel" "finds" "[I") ∈ lw_g := lw_in w6_180t rfl
theorem w6_182t : (Jvm.Cond.lays "DotPressModel" "DotPressModel" "unknown" "I") ∈ lw_tbl := mT6 (List.mem_of_getElem? (i := 182) rfl)
theorem w6_182 : (Jvm.Cond.lays "DotPressModel" "DotPressModel" "unknown" "I") ∈ lw_g := lw_in w6_182t rfl
theorem w6_184t : (Jvm.Cond.laysFinal "DotPressModel" "DotPressModel" "text" "[I") ∈ lw_tbl := mT6 (List.mem_of_getElem? (i := 184) rfl)
theorem w6_184 : (Jvm.Cond.laysFinal "DotPressModel" "DotPressModel" "text" "[I") ∈ lw_g := lw_in w6_184t rfl
theorem w6_186t : (Jvm.Cond.lays "DotPressModel" "DotPressModel" "textLong" "I") ∈ lw_tbl := mT6 (List.mem_of_getElem? (i := 186) rfl)
theorem w6_186 : (Jvm.Cond.lays "DotPressModel" "DotPressModel" "textLong" "I") ∈ lw_g := lw_in w6_186t rfl
theorem w6_188t : (Jvm.Cond.lays "DotPressModel" "DotPressModel" "width" "I") ∈ lw_tbl := mT6 (List.mem_of_getElem? (i := 188) rfl)
theorem w6_188 : (Jvm.Cond.lays "DotPressModel" "DotPressModel" "width" "I") ∈ lw_g := lw_in w6_188t rfl
theorem w6_190t : (Jvm.Cond.lays "DotPressModel" "DotPressModel" "height" "I") ∈ lw_tbl := mT6 (List.mem_of_getElem? (i := 190) rfl)
theorem w6_190 : (Jvm.Cond.lays "DotPressModel" "DotPressModel" "height" "I") ∈ lw_g := lw_in w6_190t rfl
theorem w6_192t : (Jvm.Cond.lays "DotPressModel" "DotPressModel" "hyphen" "I") ∈ lw_tbl := mT6 (List.mem_of_getElem? (i := 192) rfl)
theorem w6_192 : (Jvm.Cond.lays "DotPressModel" "DotPressModel" "hyphen" "I") ∈ lw_g := lw_in w6_192t rfl
theorem w6_194t : (Jvm.Cond.laysFinal "DotPressModel" "DotPressModel" "long0" "[I") ∈ lw_tbl := mT6 (List.mem_of_getElem? (i := 194) rfl)
theorem w6_194 : (Jvm.Cond.laysFinal "DotPressModel" "DotPressModel" "long0" "[I") ∈ lw_g := lw_in w6_194t rfl
theorem w6_196t : (Jvm.Cond.laysFinal "DotPressModel" "DotPressModel" "lineCells" "[I") ∈ lw_tbl := mT6 (List.mem_of_getElem? (i := 196) rfl)
theorem w6_196 : (Jvm.Cond.laysFinal "DotPressModel" "DotPressModel" "lineCells" "[I") ∈ lw_g := lw_in w6_196t rfl
theorem w6_198t : (Jvm.Cond.lays "DotPressModel" "DotPressModel" "lines" "I") ∈ lw_tbl := mT6 (List.mem_of_getElem? (i := 198) rfl)
theorem w6_198 : (Jvm.Cond.lays "DotPressModel" "DotPressModel" "lines" "I") ∈ lw_g := lw_in w6_198t rfl
theorem w6_200t : (Jvm.Cond.laysFinal "DotPressModel" "DotPressModel" "newLong" "[I") ∈ lw_tbl := mT6 (List.mem_of_getElem? (i := 200) rfl)
theorem w6_200 : (Jvm.Cond.laysFinal "DotPressModel" "DotPressModel" "newLong" "[I") ∈ lw_g := lw_in w6_200t rfl
theorem w6_202t : (Jvm.Cond.laysFinal "DotPressModel" "DotPressModel" "newCells" "[I") ∈ lw_tbl := mT6 (List.mem_of_getElem? (i := 202) rfl)
theorem w6_202 : (Jvm.Cond.laysFinal "DotPressModel" "DotPressModel" "newCells" "[I") ∈ lw_g := lw_in w6_202t rfl
theorem w6_204t : (Jvm.Cond.lays "DotPressModel" "DotPressModel" "newMany" "I") ∈ lw_tbl := mT6 (List.mem_of_getElem? (i := 204) rfl)
theorem w6_204 : (Jvm.Cond.lays "DotPressModel" "DotPressModel" "newMany" "I") ∈ lw_g := lw_in w6_204t rfl
theorem w6_206t : (Jvm.Cond.laysFinal "DotPressModel" "DotPressModel" "head" "[I") ∈ lw_tbl := mT6 (List.mem_of_getElem? (i := 206) rfl)
theorem w6_206 : (Jvm.Cond.laysFinal "DotPressModel" "DotPressModel" "head" "[I") ∈ lw_g := lw_in w6_206t rfl
theorem w6_208t : (Jvm.Cond.lays "DotPressModel" "DotPressModel" "headMany" "I") ∈ lw_tbl := mT6 (List.mem_of_getElem? (i := 208) rfl)
theorem w6_208 : (Jvm.Cond.lays "DotPressModel" "DotPressModel" "headMany" "I") ∈ lw_g := lw_in w6_208t rfl
theorem w6_210t : (Jvm.Cond.lays "DotPressModel" "DotPressModel" "copied" "I") ∈ lw_tbl := mT6 (List.mem_of_getElem? (i := 210) rfl)
theorem w6_210 : (Jvm.Cond.lays "DotPressModel" "DotPressModel" "copied" "I") ∈ lw_g := lw_in w6_210t rfl
theorem w6_212t : (Jvm.Cond.lays "DotPressModel" "DotPressModel" "closed" "I") ∈ lw_tbl := mT6 (List.mem_of_getElem? (i := 212) rfl)
theorem w6_212 : (Jvm.Cond.lays "DotPressModel" "DotPressModel" "closed" "I") ∈ lw_g := lw_in w6_212t rfl
theorem w6_214t : (Jvm.Cond.laysFinal "DotPressModel" "DotPressModel" "rowIs" "[I") ∈ lw_tbl := mT6 (List.mem_of_getElem? (i := 214) rfl)
theorem w6_214 : (Jvm.Cond.laysFinal "DotPressModel" "DotPressModel" "rowIs" "[I") ∈ lw_g := lw_in w6_214t rfl
theorem w6_216t : (Jvm.Cond.laysFinal "DotPressModel" "DotPressModel" "rowAt" "[I") ∈ lw_tbl := mT6 (List.mem_of_getElem? (i := 216) rfl)
theorem w6_216 : (Jvm.Cond.laysFinal "DotPressModel" "DotPressModel" "rowAt" "[I") ∈ lw_g := lw_in w6_216t rfl
theorem w6_218t : (Jvm.Cond.laysFinal "DotPressModel" "DotPressModel" "rowLong" "[I") ∈ lw_tbl := mT6 (List.mem_of_getElem? (i := 218) rfl)
theorem w6_218 : (Jvm.Cond.laysFinal "DotPressModel" "DotPressModel" "rowLong" "[I") ∈ lw_g := lw_in w6_218t rfl
theorem w6_220t : (Jvm.Cond.laysFinal "DotPressModel" "DotPressModel" "rowMany" "[I") ∈ lw_tbl := mT6 (List.mem_of_getElem? (i := 220) rfl)
theorem w6_220 : (Jvm.Cond.laysFinal "DotPressModel" "DotPressModel" "rowMany" "[I") ∈ lw_g := lw_in w6_220t rfl
theorem w6_222t : (Jvm.Cond.laysFinal "DotPressModel" "DotPressModel" "row" "[I") ∈ lw_tbl := mT6 (List.mem_of_getElem? (i := 222) rfl)
theorem w6_222 : (Jvm.Cond.laysFinal "DotPressModel" "DotPressModel" "row" "[I") ∈ lw_g := lw_in w6_222t rfl
theorem w6_224t : (Jvm.Cond.laysFinal "DotPressModel" "DotPressModel" "rowPlace" "[I") ∈ lw_tbl := mT6 (List.mem_of_getElem? (i := 224) rfl)
theorem w6_224 : (Jvm.Cond.laysFinal "DotPressModel" "DotPressModel" "rowPlace" "[I") ∈ lw_g := lw_in w6_224t rfl
theorem w6_226t : (Jvm.Cond.lays "DotPressModel" "DotPressModel" "rowEnd" "I") ∈ lw_tbl := mT6 (List.mem_of_getElem? (i := 226) rfl)
theorem w6_226 : (Jvm.Cond.lays "DotPressModel" "DotPressModel" "rowEnd" "I") ∈ lw_g := lw_in w6_226t rfl
theorem w6_228t : (Jvm.Cond.laysFinal "DotPressModel" "DotPressModel" "out" "[I") ∈ lw_tbl := mT6 (List.mem_of_getElem? (i := 228) rfl)
theorem w6_228 : (Jvm.Cond.laysFinal "DotPressModel" "DotPressModel" "out" "[I") ∈ lw_g := lw_in w6_228t rfl
theorem w6_23t : (Jvm.Cond.code ({ cls := "DotPress", name := "saved", desc := "(II)I" } : Jvm.MethodName) prog_1_method_48_code (10 : Nat) (Option.some Jvm.ClassFile.FieldType.int)) ∈ lw_tbl := mT6 (List.mem_of_getElem? (i := 23) rfl)
theorem w6_23 : (Jvm.Cond.code ({ cls := "DotPress", name := "saved", desc := "(II)I" } : Jvm.MethodName) prog_1_method_48_code (10 : Nat) (Option.some Jvm.ClassFile.FieldType.int)) ∈ lw_g := lw_in w6_23t rfl
theorem w6_230t : (Jvm.Cond.lays "DotPressModel" "DotPressModel" "outs" "I") ∈ lw_tbl := mT6 (List.mem_of_getElem? (i := 230) rfl)
theorem w6_230 : (Jvm.Cond.lays "DotPressModel" "DotPressModel" "outs" "I") ∈ lw_g := lw_in w6_230t rfl
theorem w6_232t : (Jvm.Cond.lays "DotPressModel" "DotPressModel" "wrongAt" "I") ∈ lw_tbl := mT6 (List.mem_of_getElem? (i := 232) rfl)
theorem w6_232 : (Jvm.Cond.lays "DotPressModel" "DotPressModel" "wrongAt" "I") ∈ lw_g := lw_in w6_232t rfl
theorem w6_234t : (Jvm.Cond.laysFinal "DotPressModel" "DotPressModel" "was" "[I") ∈ lw_tbl := mT6 (List.mem_of_getElem? (i := 234) rfl)
theorem w6_234 : (Jvm.Cond.laysFinal "DotPressModel" "DotPressModel" "was" "[I") ∈ lw_g := lw_in w6_234t rfl
theorem w6_236t : (Jvm.Cond.lays "DotPressModel" "DotPressModel" "wasMany" "I") ∈ lw_tbl := mT6 (List.mem_of_getElem? (i := 236) rfl)
theorem w6_236 : (Jvm.Cond.lays "DotPressModel" "DotPressModel" "wasMany" "I") ∈ lw_g := lw_in w6_236t rfl
theorem w6_238t : (Jvm.Cond.lays "DotPressModel" "DotPressModel" "failed" "I") ∈ lw_tbl := mT6 (List.mem_of_getElem? (i := 238) rfl)
theorem w6_238 : (Jvm.Cond.lays "DotPressModel" "DotPressModel" "failed" "I") ∈ lw_g := lw_in w6_238t rfl
theorem w6_27t : (Jvm.Cond.code ({ cls := "DotPress", name := "place", desc := "()I" } : Jvm.MethodName) prog_1_method_49_code (1 : Nat) (Option.some Jvm.ClassFile.FieldType.int)) ∈ lw_tbl := mT6 (List.mem_of_getElem? (i := 27) rfl)
theorem w6_27 : (Jvm.Cond.code ({ cls := "DotPress", name := "place", desc := "()I" } : Jvm.MethodName) prog_1_method_49_code (1 : Nat) (Option.some Jvm.ClassFile.FieldType.int)) ∈ lw_g := lw_in w6_27t rfl
theorem w6_31t : (Jvm.Cond.code ({ cls := "DotPress", name := "finds", desc := "(I)I" } : Jvm.MethodName) prog_1_method_50_code (2 : Nat) (Option.some Jvm.ClassFile.FieldType.int)) ∈ lw_tbl := mT6 (List.mem_of_getElem? (i := 31) rfl)
theorem w6_31 : (Jvm.Cond.code ({ cls := "DotPress", name := "finds", desc := "(I)I" } : Jvm.MethodName) prog_1_method_50_code (2 : Nat) (Option.some Jvm.ClassFile.FieldType.int)) ∈ lw_g := lw_in w6_31t rfl
theorem w6_32t : (Jvm.Cond.methodLink "DotPress" (413 : Nat) ({ cls := "DotPress$Setting", name := "findsOf", desc := "(I)I" } : Jvm.MethodName)) ∈ lw_tbl := mT6 (List.mem_of_getElem? (i := 32) rfl)
theorem w6_32 : (Jvm.Cond.methodLink "DotPress" (413 : Nat) ({ cls := "DotPress$Setting", name := "findsOf", desc := "(I)I" } : Jvm.MethodName)) ∈ lw_g := lw_in w6_32t rfl
theorem w6_33t : (Jvm.Cond.instanceMethod ({ cls := "DotPress$Setting", name := "findsOf", desc := "(I)I" } : Jvm.MethodName)) ∈ lw_tbl := mT6 (List.mem_of_getElem? (i := 33) rfl)
theorem w6_33 : (Jvm.Cond.instanceMethod ({ cls := "DotPress$Setting", name := "findsOf", desc := "(I)I" } : Jvm.MethodName)) ∈ lw_g := lw_in w6_33t rfl
theorem w6_34t : (Jvm.Cond.selects "DotPress$Setting" ({ cls := "DotPress$Setting", name := "findsOf", desc := "(I)I" } : Jvm.MethodName) ({ cls := "DotPress$Setting", name := "findsOf", desc := "(I)I" } : Jvm.MethodName)) ∈ lw_tbl := mT6 (List.mem_of_getElem? (i := 34) rfl)
theorem w6_34 : (Jvm.Cond.selects "DotPress$Setting" ({ cls := "DotPress$Setting", name := "findsOf", desc := "(I)I" } : Jvm.MethodName) ({ cls := "DotPress$Setting", name := "findsOf", desc := "(I)I" } : Jvm.MethodName)) ∈ lw_g := lw_in w6_34t rfl
theorem w6_35t : (Jvm.Cond.code ({ cls := "DotPress$Setting", name := "findsOf", desc := "(I)I" } : Jvm.MethodName) prog_8_method_6_code (2 : Nat) (Option.some Jvm.ClassFile.FieldType.int)) ∈ lw_tbl := mT6 (List.mem_of_getElem? (i := 35) rfl)
theorem w6_35 : (Jvm.Cond.code ({ cls := "DotPress$Setting", name := "findsOf", desc := "(I)I" } : Jvm.MethodName) prog_8_method_6_code (2 : Nat) (Option.some Jvm.ClassFile.FieldType.int)) ∈ lw_g := lw_in w6_35t rfl
theorem w6_39t : (Jvm.Cond.code ({ cls := "DotPress", name := "status", desc := "()I" } : Jvm.MethodName) prog_1_method_51_code (1 : Nat) (Option.some Jvm.ClassFile.FieldType.int)) ∈ lw_tbl := mT6 (List.mem_of_getElem? (i := 39) rfl)
theorem w6_39 : (Jvm.Cond.code ({ cls := "DotPress", name := "status", desc := "()I" } : Jvm.MethodName) prog_1_method_51_code (1 : Nat) (Option.some Jvm.ClassFile.FieldType.int)) ∈ lw_g := lw_in w6_39t rfl
theorem w6_47t : (Jvm.Cond.code ({ cls := "DotPress$Sheet", name := "goOver", desc := "(I)I" } : Jvm.MethodName) prog_9_method_10_code (6 : Nat) (Option.some Jvm.ClassFile.FieldType.int)) ∈ lw_tbl := mT6 (List.mem_of_getElem? (i := 47) rfl)
theorem w6_47 : (Jvm.Cond.code ({ cls := "DotPress$Sheet", name := "goOver", desc := "(I)I" } : Jvm.MethodName) prog_9_method_10_code (6 : Nat) (Option.some Jvm.ClassFile.FieldType.int)) ∈ lw_g := lw_in w6_47t rfl
theorem w6_53t : (Jvm.Cond.code ({ cls := "DotPressModel", name := "<init>", desc := "()V" } : Jvm.MethodName) prog_14_method_1_code (1 : Nat) (Option.none : Option Jvm.ClassFile.FieldType)) ∈ lw_tbl := mT6 (List.mem_of_getElem? (i := 53) rfl)
theorem w6_53 : (Jvm.Cond.code ({ cls := "DotPressModel", name := "<init>", desc := "()V" } : Jvm.MethodName) prog_14_method_1_code (1 : Nat) (Option.none : Option Jvm.ClassFile.FieldType)) ∈ lw_g := lw_in w6_53t rfl
theorem w6_54t : (Jvm.Cond.methodLink "DotPressModel" (3 : Nat) ({ cls := "java/lang/Object", name := "<init>", desc := "()V" } : Jvm.MethodName)) ∈ lw_tbl := mT6 (List.mem_of_getElem? (i := 54) rfl)
theorem w6_54 : (Jvm.Cond.methodLink "DotPressModel" (3 : Nat) ({ cls := "java/lang/Object", name := "<init>", desc := "()V" } : Jvm.MethodName)) ∈ lw_g := lw_in w6_54t rfl
theorem w6_55t : (Jvm.Cond.constant "DotPressModel" (45 : Nat) (48000 : Int32)) ∈ lw_tbl := mT6 (List.mem_of_getElem? (i := 55) rfl)
theorem w6_55 : (Jvm.Cond.constant "DotPressModel" (45 : Nat) (48000 : Int32)) ∈ lw_g := lw_in w6_55t rfl
theorem w6_56t : (Jvm.Cond.constant "DotPressModel" (94 : Nat) (40000 : Int32)) ∈ lw_tbl := mT6 (List.mem_of_getElem? (i := 56) rfl)
theorem w6_56 : (Jvm.Cond.constant "DotPressModel" (94 : Nat) (40000 : Int32)) ∈ lw_g := lw_in w6_56t rfl
theorem w6_57t : (Jvm.Cond.constant "DotPressModel" (119 : Nat) (40200 : Int32)) ∈ lw_tbl := mT6 (List.mem_of_getElem? (i := 57) rfl)
theorem w6_57 : (Jvm.Cond.constant "DotPressModel" (119 : Nat) (40200 : Int32)) ∈ lw_g := lw_in w6_57t rfl
theorem w6_58t : (Jvm.Cond.constant "DotPressModel" (135 : Nat) (40400 : Int32)) ∈ lw_tbl := mT6 (List.mem_of_getElem? (i := 58) rfl)
theorem w6_58 : (Jvm.Cond.constant "DotPressModel" (135 : Nat) (40400 : Int32)) ∈ lw_g := lw_in w6_58t rfl
theorem w6_59t : (Jvm.Cond.fieldLink "DotPressModel" (148 : Nat) "DotPressModel" "status" "I") ∈ lw_tbl := mT6 (List.mem_of_getElem? (i := 59) rfl)
theorem w6_59 : (Jvm.Cond.fieldLink "DotPressModel" (148 : Nat) "DotPressModel" "status" "I") ∈ lw_g := lw_in w6_59t rfl
theorem w6_60t : (Jvm.Cond.fieldLink "DotPressModel" (9 : Nat) "DotPressModel" "place" "I") ∈ lw_tbl := mT6 (List.mem_of_getElem? (i := 60) rfl)
theorem w6_60 : (Jvm.Cond.fieldLink "DotPressModel" (9 : Nat) "DotPressModel" "place" "I") ∈ lw_g := lw_in w6_60t rfl
theorem w6_61t : (Jvm.Cond.fieldLink "DotPressModel" (13 : Nat) "DotPressModel" "tape" "[I") ∈ lw_tbl := mT6 (List.mem_of_getElem? (i := 61) rfl)
theorem w6_61 : (Jvm.Cond.fieldLink "DotPressModel" (13 : Nat) "DotPressModel" "tape" "[I") ∈ lw_g := lw_in w6_61t rfl
theorem w6_64t : (Jvm.Cond.fieldLink "DotPressModel" (17 : Nat) "DotPressModel" "isThere" "[Z") ∈ lw_tbl := mT6 (List.mem_of_getElem? (i := 64) rfl)
theorem w6_64 : (Jvm.Cond.fieldLink "DotPressModel" (17 : Nat) "DotPressModel" "isThere" "[Z") ∈ lw_g := lw_in w6_64t rfl
theorem w6_65t : (Jvm.Cond.fieldLink "DotPressModel" (21 : Nat) "DotPressModel" "kind" "[I") ∈ lw_tbl := mT6 (List.mem_of_getElem? (i := 65) rfl)
theorem w6_65 : (Jvm.Cond.fieldLink "DotPressModel" (21 : Nat) "DotPressModel" "kind" "[I") ∈ lw_g := lw_in w6_65t rfl
theorem w6_66t : (Jvm.Cond.fieldLink "DotPressModel" (24 : Nat) "DotPressModel" "dots" "[I") ∈ lw_tbl := mT6 (List.mem_of_getElem? (i := 66) rfl)
theorem w6_66 : (Jvm.Cond.fieldLink "DotPressModel" (24 : Nat) "DotPressModel" "dots" "[I") ∈ lw_g := lw_in w6_66t rfl
theorem w6_67t : (Jvm.Cond.fieldLink "DotPressModel" (27 : Nat) "DotPressModel" "base" "[I") ∈ lw_tbl := mT6 (List.mem_of_getElem? (i := 67) rfl)
theorem w6_67 : (Jvm.Cond.fieldLink "DotPressModel" (27 : Nat) "DotPressModel" "base" "[I") ∈ lw_g := lw_in w6_67t rfl
theorem w6_68t : (Jvm.Cond.fieldLink "DotPressModel" (30 : Nat) "DotPressModel" "second" "[I") ∈ lw_tbl := mT6 (List.mem_of_getElem? (i := 68) rfl)
theorem w6_68 : (Jvm.Cond.fieldLink "DotPressModel" (30 : Nat) "DotPressModel" "second" "[I") ∈ lw_g := lw_in w6_68t rfl
theorem w6_69t : (Jvm.Cond.fieldLink "DotPressModel" (33 : Nat) "DotPressModel" "ruleMany" "[I") ∈ lw_tbl := mT6 (List.mem_of_getElem? (i := 69) rfl)
theorem w6_69 : (Jvm.Cond.fieldLink "DotPressModel" (33 : Nat) "DotPressModel" "ruleMany" "[I") ∈ lw_g := lw_in w6_69t rfl
theorem w6_70t : (Jvm.Cond.fieldLink "DotPressModel" (36 : Nat) "DotPressModel" "conditions" "[I") ∈ lw_tbl := mT6 (List.mem_of_getElem? (i := 70) rfl)
theorem w6_70 : (Jvm.Cond.fieldLink "DotPressModel" (36 : Nat) "DotPressModel" "conditions" "[I") ∈ lw_g := lw_in w6_70t rfl
theorem w6_71t : (Jvm.Cond.fieldLink "DotPressModel" (39 : Nat) "DotPressModel" "letterMany" "[I") ∈ lw_tbl := mT6 (List.mem_of_getElem? (i := 71) rfl)
theorem w6_71 : (Jvm.Cond.fieldLink "DotPressModel" (39 : Nat) "DotPressModel" "letterMany" "[I") ∈ lw_g := lw_in w6_71t rfl
theorem w6_72t : (Jvm.Cond.fieldLink "DotPressModel" (42 : Nat) "DotPressModel" "cellMany" "[I") ∈ lw_tbl := mT6 (List.mem_of_getElem? (i := 72) rfl)
theorem w6_72 : (Jvm.Cond.fieldLink "DotPressModel" (42 : Nat) "DotPressModel" "cellMany" "[I") ∈ lw_g := lw_in w6_72t rfl
theorem w6_73t : (Jvm.Cond.fieldLink "DotPressModel" (46 : Nat) "DotPressModel" "letters" "[I") ∈ lw_tbl := mT6 (List.mem_of_getElem? (i := 73) rfl)
theorem w6_73 : (Jvm.Cond.fieldLink "DotPressModel" (46 : Nat) "DotPressModel" "letters" "[I") ∈ lw_g := lw_in w6_73t rfl
theorem w6_74t : (Jvm.Cond.fieldLink "DotPressModel" (49 : Nat) "DotPressModel" "cells" "[I") ∈ lw_tbl := mT6 (List.mem_of_getElem? (i := 74) rfl)
theorem w6_74 : (Jvm.Cond.fieldLink "DotPressModel" (49 : Nat) "DotPressModel" "cells" "[I") ∈ lw_g := lw_in w6_74t rfl
theorem w6_75t : (Jvm.Cond.fieldLink "DotPressModel" (52 : Nat) "DotPressModel" "indicatorMany" "[I") ∈ lw_tbl := mT6 (List.mem_of_getElem? (i := 75) rfl)
theorem w6_75 : (Jvm.Cond.fieldLink "DotPressModel" (52 : Nat) "DotPressModel" "indicatorMany" "[I") ∈ lw_g := lw_in w6_75t rfl
theorem w6_76t : (Jvm.Cond.fieldLink "DotPressModel" (55 : Nat) "DotPressModel" "indicatorCells" "[I") ∈ lw_tbl := mT6 (List.mem_of_getElem? (i := 76) rfl)
theorem w6_76 : (Jvm.Cond.fieldLink "DotPressModel" (55 : Nat) "DotPressModel" "indicatorCells" "[I") ∈ lw_g := lw_in w6_76t rfl
theorem w6_77t : (Jvm.Cond.fieldLink "DotPressModel" (58 : Nat) "DotPressModel" "steps" "[I") ∈ lw_tbl := mT6 (List.mem_of_getElem? (i := 77) rfl)
theorem w6_77 : (Jvm.Cond.fieldLink "DotPressModel" (58 : Nat) "DotPressModel" "steps" "[I") ∈ lw_g := lw_in w6_77t rfl
theorem w6_79t : (Jvm.Cond.fieldLink "DotPressModel" (61 : Nat) "DotPressModel" "word" "[I") ∈ lw_tbl := mT6 (List.mem_of_getElem? (i := 79) rfl)
theorem w6_79 : (Jvm.Cond.fieldLink "DotPressModel" (61 : Nat) "DotPressModel" "word" "[I") ∈ lw_g := lw_in w6_79t rfl
theorem w6_80t : (Jvm.Cond.fieldLink "DotPressModel" (64 : Nat) "DotPressModel" "wordPlace" "[I") ∈ lw_tbl := mT6 (List.mem_of_getElem? (i := 80) rfl)
theorem w6_80 : (Jvm.Cond.fieldLink "DotPressModel" (64 : Nat) "DotPressModel" "wordPlace" "[I") ∈ lw_g := lw_in w6_80t rfl
theorem w6_81t : (Jvm.Cond.fieldLink "DotPressModel" (67 : Nat) "DotPressModel" "mayBreak" "[Z") ∈ lw_tbl := mT6 (List.mem_of_getElem? (i := 81) rfl)
theorem w6_81 : (Jvm.Cond.fieldLink "DotPressModel" (67 : Nat) "DotPressModel" "mayBreak" "[Z") ∈ lw_g := lw_in w6_81t rfl
theorem w6_83t : (Jvm.Cond.fieldLink "DotPressModel" (70 : Nat) "DotPressModel" "made" "[I") ∈ lw_tbl := mT6 (List.mem_of_getElem? (i := 83) rfl)
theorem w6_83 : (Jvm.Cond.fieldLink "DotPressModel" (70 : Nat) "DotPressModel" "made" "[I") ∈ lw_g := lw_in w6_83t rfl
theorem w6_85t : (Jvm.Cond.fieldLink "DotPressModel" (73 : Nat) "DotPressModel" "begins" "[I") ∈ lw_tbl := mT6 (List.mem_of_getElem? (i := 85) rfl)
theorem w6_85 : (Jvm.Cond.fieldLink "DotPressModel" (73 : Nat) "DotPressModel" "begins" "[I") ∈ lw_g := lw_in w6_85t rfl
theorem w6_86t : (Jvm.Cond.fieldLink "DotPressModel" (76 : Nat) "DotPressModel" "finds" "[I") ∈ lw_tbl := mT6 (List.mem_of_getElem? (i := 86) rfl)
theorem w6_86 : (Jvm.Cond.fieldLink "DotPressModel" (76 : Nat) "DotPressModel" "finds" "[I") ∈ lw_g := lw_in w6_86t rfl
theorem w6_88t : (Jvm.Cond.fieldLink "DotPressModel" (79 : Nat) "DotPressModel" "text" "[I") ∈ lw_tbl := mT6 (List.mem_of_getElem? (i := 88) rfl)
theorem w6_88 : (Jvm.Cond.fieldLink "DotPressModel" (79 : Nat) "DotPressModel" "text" "[I") ∈ lw_g := lw_in w6_88t rfl
theorem w6_90t : (Jvm.Cond.fieldLink "DotPressModel" (82 : Nat) "DotPressModel" "width" "I") ∈ lw_tbl := mT6 (List.mem_of_getElem? (i := 90) rfl)
theorem w6_90 : (Jvm.Cond.fieldLink "DotPressModel" (82 : Nat) "DotPressModel" "width" "I") ∈ lw_g := lw_in w6_90t rfl
theorem w6_91t : (Jvm.Cond.fieldLink "DotPressModel" (85 : Nat) "DotPressModel" "height" "I") ∈ lw_tbl := mT6 (List.mem_of_getElem? (i := 91) rfl)
theorem w6_91 : (Jvm.Cond.fieldLink "DotPressModel" (85 : Nat) "DotPressModel" "height" "I") ∈ lw_g := lw_in w6_91t rfl
theorem w6_92t : (Jvm.Cond.fieldLink "DotPressModel" (88 : Nat) "DotPressModel" "hyphen" "I") ∈ lw_tbl := mT6 (List.mem_of_getElem? (i := 92) rfl)
theorem w6_92 : (Jvm.Cond.fieldLink "DotPressModel" (88 : Nat) "DotPressModel" "hyphen" "I") ∈ lw_g := lw_in w6_92t rfl
theorem w6_93t : (Jvm.Cond.fieldLink "DotPressModel" (91 : Nat) "DotPressModel" "long0" "[I") ∈ lw_tbl := mT6 (List.mem_of_getElem? (i := 93) rfl)
theorem w6_93 : (Jvm.Cond.fieldLink "DotPressModel" (91 : Nat) "DotPressModel" "long0" "[I") ∈ lw_g := lw_in w6_93t rfl
theorem w6_94t : (Jvm.Cond.fieldLink "DotPressModel" (95 : Nat) "DotPressModel" "lineCells" "[I") ∈ lw_tbl := mT6 (List.mem_of_getElem? (i := 94) rfl)
theorem w6_94 : (Jvm.Cond.fieldLink "DotPressModel" (95 : Nat) "DotPressModel" "lineCells" "[I") ∈ lw_g := lw_in w6_94t rfl
theorem w6_96t : (Jvm.Cond.fieldLink "DotPressModel" (98 : Nat) "DotPressModel" "newLong" "[I") ∈ lw_tbl := mT6 (List.mem_of_getElem? (i := 96) rfl)
theorem w6_96 : (Jvm.Cond.fieldLink "DotPressModel" (98 : Nat) "DotPressModel" "newLong" "[I") ∈ lw_g := lw_in w6_96t rfl
theorem w6_97t : (Jvm.Cond.fieldLink "DotPressModel" (101 : Nat) "DotPressModel" "newCells" "[I") ∈ lw_tbl := mT6 (List.mem_of_getElem? (i := 97) rfl)
theorem w6_97 : (Jvm.Cond.fieldLink "DotPressModel" (101 : Nat) "DotPressModel" "newCells" "[I") ∈ lw_g := lw_in w6_97t rfl
theorem w6_99t : (Jvm.Cond.fieldLink "DotPressModel" (104 : Nat) "DotPressModel" "head" "[I") ∈ lw_tbl := mT6 (List.mem_of_getElem? (i := 99) rfl)
theorem w6_99 : (Jvm.Cond.fieldLink "DotPressModel" (104 : Nat) "DotPressModel" "head" "[I") ∈ lw_g := lw_in w6_99t rfl
theorem w7_0t : (Jvm.Cond.laysFinal "DotPressModel" "DotPressModel" "can" "[Z") ∈ lw_tbl := mT7 (List.mem_of_getElem? (i := 0) rfl)
theorem w7_0 : (Jvm.Cond.laysFinal "DotPressModel" "DotPressModel" "can" "[Z") ∈ lw_g := lw_in w7_0t rfl
theorem w7_10t : (Jvm.Cond.laysFinal "DotPressModel" "DotPressModel" "now" "[I") ∈ lw_tbl := mT7 (List.mem_of_getElem? (i := 10) rfl)
theorem w7_10 : (Jvm.Cond.laysFinal "DotPressModel" "DotPressModel" "now" "[I") ∈ lw_g := lw_in w7_10t rfl
theorem w7_12t : (Jvm.Cond.lays "DotPressModel" "DotPressModel" "nowLong" "I") ∈ lw_tbl := mT7 (List.mem_of_getElem? (i := 12) rfl)
theorem w7_12 : (Jvm.Cond.lays "DotPressModel" "DotPressModel" "nowLong" "I") ∈ lw_g := lw_in w7_12t rfl
theorem w7_14t : (Jvm.Cond.lays "DotPressModel" "DotPressModel" "wanted" "I") ∈ lw_tbl := mT7 (List.mem_of_getElem? (i := 14) rfl)
theorem w7_14 : (Jvm.Cond.lays "DotPressModel" "DotPressModel" "wanted" "I") ∈ lw_g := lw_in w7_14t rfl
theorem w7_16t : (Jvm.Cond.laysFinal "DotPressModel" "DotPressModel" "signs" "[I") ∈ lw_tbl := mT7 (List.mem_of_getElem? (i := 16) rfl)
theorem w7_16 : (Jvm.Cond.laysFinal "DotPressModel" "DotPressModel" "signs" "[I") ∈ lw_g := lw_in w7_16t rfl
theorem w7_18t : (Jvm.Cond.lays "DotPressModel" "DotPressModel" "signMany" "I") ∈ lw_tbl := mT7 (List.mem_of_getElem? (i := 18) rfl)
theorem w7_18 : (Jvm.Cond.lays "DotPressModel" "DotPressModel" "signMany" "I") ∈ lw_g := lw_in w7_18t rfl
theorem w7_2t : (Jvm.Cond.laysFinal "DotPressModel" "DotPressModel" "kept" "[I") ∈ lw_tbl := mT7 (List.mem_of_getElem? (i := 2) rfl)
theorem w7_2 : (Jvm.Cond.laysFinal "DotPressModel" "DotPressModel" "kept" "[I") ∈ lw_g := lw_in w7_2t rfl
theorem w7_28t : (Jvm.Cond.code ({ cls := "DotPressModel", name := "bad", desc := "(I)I" } : Jvm.MethodName) prog_14_method_3_code (2 : Nat) (Option.some Jvm.ClassFile.FieldType.int)) ∈ lw_tbl := mT7 (List.mem_of_getElem? (i := 28) rfl)
theorem w7_28 : (Jvm.Cond.code ({ cls := "DotPressModel", name := "bad", desc := "(I)I" } : Jvm.MethodName) prog_14_method_3_code (2 : Nat) (Option.some Jvm.ClassFile.FieldType.int)) ∈ lw_g := lw_in w7_28t rfl
theorem w7_32t : (Jvm.Cond.code ({ cls := "DotPressModel", name := "fine", desc := "(I)I" } : Jvm.MethodName) prog_14_method_2_code (2 : Nat) (Option.some Jvm.ClassFile.FieldType.int)) ∈ lw_tbl := mT7 (List.mem_of_getElem? (i := 32) rfl)
theorem w7_32 : (Jvm.Cond.code ({ cls := "DotPressModel", name := "fine", desc := "(I)I" } : Jvm.MethodName) prog_14_method_2_code (2 : Nat) (Option.some Jvm.ClassFile.FieldType.int)) ∈ lw_g := lw_in w7_32t rfl
theorem w7_4t : (Jvm.Cond.laysFinal "DotPressModel" "DotPressModel" "keptLong" "[I") ∈ lw_tbl := mT7 (List.mem_of_getElem? (i := 4) rfl)
theorem w7_4 : (Jvm.Cond.laysFinal "DotPressModel" "DotPressModel" "keptLong" "[I") ∈ lw_g := lw_in w7_4t rfl
theorem w7_6t : (Jvm.Cond.lays "DotPressModel" "DotPressModel" "keptMany" "I") ∈ lw_tbl := mT7 (List.mem_of_getElem? (i := 6) rfl)
theorem w7_6 : (Jvm.Cond.lays "DotPressModel" "DotPressModel" "keptMany" "I") ∈ lw_g := lw_in w7_6t rfl
theorem w7_8t : (Jvm.Cond.lays "DotPressModel" "DotPressModel" "more" "I") ∈ lw_tbl := mT7 (List.mem_of_getElem? (i := 8) rfl)
theorem w7_8 : (Jvm.Cond.lays "DotPressModel" "DotPressModel" "more" "I") ∈ lw_g := lw_in w7_8t rfl
theorem wp_0 : Cond.selects "DotPress" ⟨"DotPress", "refuse", "(I)I"⟩ ⟨"DotPress", "refuse", "(I)I"⟩ ∈ lw_g := lw_in (List.mem_append_left _ (List.mem_map.mpr ⟨(⟨"DotPress", "refuse", "(I)I"⟩, _), List.mem_of_getElem? (i := 0) rfl, rfl⟩)) rfl
theorem wp_2 : Cond.selects "DotPress" ⟨"DotPress", "done", "(I)I"⟩ ⟨"DotPress", "done", "(I)I"⟩ ∈ lw_g := lw_in (List.mem_append_left _ (List.mem_map.mpr ⟨(⟨"DotPress", "done", "(I)I"⟩, _), List.mem_of_getElem? (i := 2) rfl, rfl⟩)) rfl
theorem ckw_0 : ∀ k, k < 3 → u_lay RJx4a65c TJx4a65c k ∈ lw_g := fun k hk => match k, hk with
  | 0, _ => w1_87
  | 1, _ => w1_83
  | 2, _ => w1_85
  | n + 3, h => absurd h (by omega)
theorem ck_0 : Ck 0 RJx4a65c TJx4a65c 3 tyJx4a65c := ⟨rfl, fun w hw => by obtain ⟨k, hk, e⟩ := List.mem_map.mp hw; rw [← e]; exact ckw_0 k (List.mem_range.mp hk), tyJx4a65c_ok, nmJx4a65c⟩
theorem ckw_1 : ∀ k, k < 4 → u_lay RX0 TX0 k ∈ lw_g := fun k hk => match k, hk with
  | 0, _ => w3_48
  | 1, _ => w3_50
  | 2, _ => w3_52
  | 3, _ => w3_54
  | n + 4, h => absurd h (by omega)
theorem ck_1 : Ck 1 RX0 TX0 4 tyX0 := ⟨rfl, fun w hw => by obtain ⟨k, hk, e⟩ := List.mem_map.mp hw; rw [← e]; exact ckw_1 k (List.mem_range.mp hk), tyX0_ok, nmX0⟩
theorem ckw_2 : ∀ k, k < 3 → u_lay RX1 TX1 k ∈ lw_g := fun k hk => match k, hk with
  | 0, _ => w1_50
  | 1, _ => w1_52
  | 2, _ => w1_54
  | n + 3, h => absurd h (by omega)
theorem ck_2 : Ck 2 RX1 TX1 3 tyX1 := ⟨rfl, fun w hw => by obtain ⟨k, hk, e⟩ := List.mem_map.mp hw; rw [← e]; exact ckw_2 k (List.mem_range.mp hk), tyX1_ok, nmX1⟩
theorem ckw_3 : ∀ k, k < 3 → u_lay RX2 TX2 k ∈ lw_g := fun k hk => match k, hk with
  | 0, _ => w4_57
  | 1, _ => w4_59
  | 2, _ => w4_61
  | n + 3, h => absurd h (by omega)
theorem ck_3 : Ck 3 RX2 TX2 3 tyX2 := ⟨rfl, fun w hw => by obtain ⟨k, hk, e⟩ := List.mem_map.mp hw; rw [← e]; exact ckw_3 k (List.mem_range.mp hk), tyX2_ok, nmX2⟩
theorem ckw_4 : ∀ k, k < 8 → u_lay RX3 TX3 k ∈ lw_g := fun k hk => match k, hk with
  | 0, _ => w1_203
  | 1, _ => w1_205
  | 2, _ => w1_207
  | 3, _ => w1_209
  | 4, _ => w1_211
  | 5, _ => w1_213
  | 6, _ => w1_215
  | 7, _ => w1_217
  | n + 8, h => absurd h (by omega)
theorem ck_4 : Ck 4 RX3 TX3 8 tyX3 := ⟨rfl, fun w hw => by obtain ⟨k, hk, e⟩ := List.mem_map.mp hw; rw [← e]; exact ckw_4 k (List.mem_range.mp hk), tyX3_ok, nmX3⟩
theorem ckw_5 : ∀ k, k < 11 → u_lay RX4 TX4 k ∈ lw_g := fun k hk => match k, hk with
  | 0, _ => w2_2
  | 1, _ => w2_4
  | 2, _ => w2_6
  | 3, _ => w2_8
  | 4, _ => w2_10
  | 5, _ => w2_12
  | 6, _ => w2_14
  | 7, _ => w2_16
  | 8, _ => w2_18
  | 9, _ => w2_20
  | 10, _ => w2_22
  | n + 11, h => absurd h (by omega)
theorem ck_5 : Ck 5 RX4 TX4 11 tyX4 := ⟨rfl, fun w hw => by obtain ⟨k, hk, e⟩ := List.mem_map.mp hw; rw [← e]; exact ckw_5 k (List.mem_range.mp hk), tyX4_ok, nmX4⟩
theorem ckw_6 : ∀ k, k < 4 → u_lay RX5 TX5 k ∈ lw_g := fun k hk => match k, hk with
  | 0, _ => w3_151
  | 1, _ => w3_153
  | 2, _ => w3_155
  | 3, _ => w3_157
  | n + 4, h => absurd h (by omega)
theorem ck_6 : Ck 6 RX5 TX5 4 tyX5 := ⟨rfl, fun w hw => by obtain ⟨k, hk, e⟩ := List.mem_map.mp hw; rw [← e]; exact ckw_6 k (List.mem_range.mp hk), tyX5_ok, nmX5⟩
theorem ckw_7 : ∀ k, k < 12 → u_lay RX6 TX6 k ∈ lw_g := fun k hk => match k, hk with
  | 0, _ => w1_154
  | 1, _ => w1_156
  | 2, _ => w1_158
  | 3, _ => w1_160
  | 4, _ => w1_162
  | 5, _ => w1_164
  | 6, _ => w1_166
  | 7, _ => w1_168
  | 8, _ => w1_170
  | 9, _ => w1_172
  | 10, _ => w1_174
  | 11, _ => w1_176
  | n + 12, h => absurd h (by omega)
theorem ck_7 : Ck 7 RX6 TX6 12 tyX6 := ⟨rfl, fun w hw => by obtain ⟨k, hk, e⟩ := List.mem_map.mp hw; rw [← e]; exact ckw_7 k (List.mem_range.mp hk), tyX6_ok, nmX6⟩
theorem ckw_8 : ∀ k, k < 3 → u_lay RX7 TX7 k ∈ lw_g := fun k hk => match k, hk with
  | 0, _ => w2_37
  | 1, _ => w2_39
  | 2, _ => w2_41
  | n + 3, h => absurd h (by omega)
theorem ck_8 : Ck 8 RX7 TX7 3 tyX7 := ⟨rfl, fun w hw => by obtain ⟨k, hk, e⟩ := List.mem_map.mp hw; rw [← e]; exact ckw_8 k (List.mem_range.mp hk), tyX7_ok, nmX7⟩
theorem ckw_9 : ∀ k, k < 8 → u_lay RX8 TX8 k ∈ lw_g := fun k hk => match k, hk with
  | 0, _ => w1_112
  | 1, _ => w1_114
  | 2, _ => w1_116
  | 3, _ => w1_118
  | 4, _ => w1_120
  | 5, _ => w1_122
  | 6, _ => w1_124
  | 7, _ => w1_126
  | n + 8, h => absurd h (by omega)
theorem ck_9 : Ck 9 RX8 TX8 8 tyX8 := ⟨rfl, fun w hw => by obtain ⟨k, hk, e⟩ := List.mem_map.mp hw; rw [← e]; exact ckw_9 k (List.mem_range.mp hk), tyX8_ok, nmX8⟩
theorem ckw_10 : ∀ k, k < 8 → u_lay RX9 TX9 k ∈ lw_g := fun k hk => match k, hk with
  | 0, _ => w2_200
  | 1, _ => w2_202
  | 2, _ => w2_204
  | 3, _ => w2_206
  | 4, _ => w2_208
  | 5, _ => w2_210
  | 6, _ => w2_212
  | 7, _ => w2_214
  | n + 8, h => absurd h (by omega)
theorem ck_10 : Ck 10 RX9 TX9 8 tyX9 := ⟨rfl, fun w hw => by obtain ⟨k, hk, e⟩ := List.mem_map.mp hw; rw [← e]; exact ckw_10 k (List.mem_range.mp hk), tyX9_ok, nmX9⟩
theorem ckw_11 : ∀ k, k < 2 → u_lay RX10 TX10 k ∈ lw_g := fun k hk => match k, hk with
  | 0, _ => w1_92
  | 1, _ => w1_94
  | n + 2, h => absurd h (by omega)
theorem ck_11 : Ck 11 RX10 TX10 2 tyX10 := ⟨rfl, fun w hw => by obtain ⟨k, hk, e⟩ := List.mem_map.mp hw; rw [← e]; exact ckw_11 k (List.mem_range.mp hk), tyX10_ok, nmX10⟩
theorem ckw_12 : ∀ k, k < 19 → u_lay RX11 TX11 k ∈ lw_g := fun k hk => match k, hk with
  | 0, _ => w2_63
  | 1, _ => w2_65
  | 2, _ => w2_67
  | 3, _ => w2_69
  | 4, _ => w2_71
  | 5, _ => w2_73
  | 6, _ => w2_75
  | 7, _ => w2_77
  | 8, _ => w2_79
  | 9, _ => w2_81
  | 10, _ => w2_83
  | 11, _ => w2_85
  | 12, _ => w2_87
  | 13, _ => w2_89
  | 14, _ => w2_91
  | 15, _ => w2_93
  | 16, _ => w2_95
  | 17, _ => w2_97
  | 18, _ => w2_99
  | n + 19, h => absurd h (by omega)
theorem ck_12 : Ck 12 RX11 TX11 19 tyX11 := ⟨rfl, fun w hw => by obtain ⟨k, hk, e⟩ := List.mem_map.mp hw; rw [← e]; exact ckw_12 k (List.mem_range.mp hk), tyX11_ok, nmX11⟩
theorem ckw_13 : ∀ k, k < 67 → u_lay RX12 TX12 k ∈ lw_g := fun k hk => match k, hk with
  | 0, _ => w6_126
  | 1, _ => w6_128
  | 2, _ => w6_130
  | 3, _ => w6_132
  | 4, _ => w6_134
  | 5, _ => w6_136
  | 6, _ => w6_138
  | 7, _ => w6_140
  | 8, _ => w6_142
  | 9, _ => w6_144
  | 10, _ => w6_146
  | 11, _ => w6_148
  | 12, _ => w6_150
  | 13, _ => w6_152
  | 14, _ => w6_154
  | 15, _ => w6_156
  | 16, _ => w6_158
  | 17, _ => w6_160
  | 18, _ => w6_162
  | 19, _ => w6_164
  | 20, _ => w6_166
  | 21, _ => w6_168
  | 22, _ => w6_170
  | 23, _ => w6_172
  | 24, _ => w6_174
  | 25, _ => w6_176
  | 26, _ => w6_178
  | 27, _ => w6_180
  | 28, _ => w6_182
  | 29, _ => w6_184
  | 30, _ => w6_186
  | 31, _ => w6_188
  | 32, _ => w6_190
  | 33, _ => w6_192
  | 34, _ => w6_194
  | 35, _ => w6_196
  | 36, _ => w6_198
  | 37, _ => w6_200
  | 38, _ => w6_202
  | 39, _ => w6_204
  | 40, _ => w6_206
  | 41, _ => w6_208
  | 42, _ => w6_210
  | 43, _ => w6_212
  | 44, _ => w6_214
  | 45, _ => w6_216
  | 46, _ => w6_218
  | 47, _ => w6_220
  | 48, _ => w6_222
  | 49, _ => w6_224
  | 50, _ => w6_226
  | 51, _ => w6_228
  | 52, _ => w6_230
  | 53, _ => w6_232
  | 54, _ => w6_234
  | 55, _ => w6_236
  | 56, _ => w6_238
  | 57, _ => w7_0
  | 58, _ => w7_2
  | 59, _ => w7_4
  | 60, _ => w7_6
  | 61, _ => w7_8
  | 62, _ => w7_10
  | 63, _ => w7_12
  | 64, _ => w7_14
  | 65, _ => w7_16
  | 66, _ => w7_18
  | n + 67, h => absurd h (by omega)
theorem ck_13 : Ck 13 RX12 TX12 67 tyX12 := ⟨rfl, fun w hw => by obtain ⟨k, hk, e⟩ := List.mem_map.mp hw; rw [← e]; exact ckw_13 k (List.mem_range.mp hk), tyX12_ok, nmX12⟩
theorem kI_Jx4a65c_1 : Wi RJx4a65c 1 yJxc12de_init_da8c8 cJxc12de_init_da8c8 1 0 := ⟨⟨w1_69, w1_5, w1_71, (by decide +kernel)⟩, rfl, w1_70⟩
theorem kI_Jxc12de_1 : Wi RJxc12de 1 yJxa1e45_init_da8c8 cJxa1e45_init_da8c8 1 0 := ⟨⟨w1_72, w1_4, w1_74, (by decide +kernel)⟩, rfl, w1_73⟩
theorem kI_X10_11 : Wi RX10 11 yJx4a65c_init_da8c8 cJx4a65c_init_da8c8 1 0 := ⟨⟨w1_66, w1_6, w1_68, (by decide +kernel)⟩, rfl, w1_67⟩
theorem kI_X11_11 : Wi RX11 11 yX1_init cX1_init 2 1 := ⟨⟨w1_34, w1_2, w1_36, (by decide +kernel)⟩, rfl, w1_35⟩
theorem kI_X11_57 : Wi RX11 57 yX4_init cX4_init 2 1 := ⟨⟨w1_222, w1_10, w1_224, (by decide +kernel)⟩, rfl, w1_223⟩
theorem kI_X3_11 : Wi RX3 11 yJx4a65c_init_da8c8 cJx4a65c_init_da8c8 1 0 := ⟨⟨w1_186, w1_6, w1_68, (by decide +kernel)⟩, rfl, w1_67⟩
theorem kI_X3_23 : Wi RX3 23 yX1_init cX1_init 2 1 := ⟨⟨w1_188, w1_2, w1_36, (by decide +kernel)⟩, rfl, w1_35⟩
theorem kI_X4_28 : Wi RX4 28 yX1_init cX1_init 2 1 := ⟨⟨w1_228, w1_2, w1_36, (by decide +kernel)⟩, rfl, w1_35⟩
theorem kN_X11_29 : Wn RX11 29 yX10_init "DotPress" cX10_init 1 0 := ⟨⟨w1_60t, w1_3, w1_62, (by decide +kernel)⟩, rfl, w1_61⟩
theorem kN_X11_36 : Wn RX11 36 yX8_init "DotPress" cX8_init 1 0 := ⟨⟨w1_99t, w1_7, w1_101, (by decide +kernel)⟩, rfl, w1_100⟩
theorem kN_X11_43 : Wn RX11 43 yX6_init "DotPress" cX6_init 1 0 := ⟨⟨w1_132t, w1_8, w1_134, (by decide +kernel)⟩, rfl, w1_133⟩
theorem kN_X11_50 : Wn RX11 50 yX3_init "DotPress" cX3_init 1 0 := ⟨⟨w1_181t, w1_9, w1_183, (by decide +kernel)⟩, rfl, w1_182⟩
theorem kN_X11_66 : Wn RX11 66 yX7_init "DotPress" cX7_init 1 0 := ⟨⟨w2_27t, w1_11, w2_29, (by decide +kernel)⟩, rfl, w2_28⟩
theorem kV_X10_21 : Wv RX10 21 yJx4a65c_size_8abf5 cJx4a65c_size_8abf5 1 (some .int) 0 := ⟨⟨w2_158, w1_6, w2_161, (by decide +kernel)⟩, w2_159, w2_160⟩
theorem kV_X10_35 : Wv RX10 35 yX10_alive cX10_alive 3 (some (.object "DotPress$Table")) 1 := ⟨⟨w3_233, w1_3, w3_79, (by decide +kernel)⟩, w3_77, w3_78⟩
theorem kV_X10_59 : Wv RX10 59 yJx4a65c_isEmpty_aae02 cJx4a65c_isEmpty_aae02 1 (some .boolean) 0 := ⟨⟨w3_195, w1_6, w3_198, (by decide +kernel)⟩, w3_196, w3_197⟩
theorem kV_X11_102 : Wv RX11 102 yX11_refuse cX11_refuse 2 (some .int) 1 := ⟨⟨w2_106, w1_1, w2_109, (by decide +kernel)⟩, w2_108, wp_0⟩
theorem kV_X11_109 : Wv RX11 109 yX11_done cX11_done 2 (some .int) 1 := ⟨⟨w2_134, w1_1, w2_137, (by decide +kernel)⟩, w2_136, wp_2⟩
theorem kV_X11_115 : Wv RX11 115 yX1_keep cX1_keep 2 none 1 := ⟨⟨w2_142, w1_2, w2_145, (by decide +kernel)⟩, w2_143, w2_144⟩
theorem kV_X11_131 : Wv RX11 131 yX10_alive cX10_alive 3 (some (.object "DotPress$Table")) 1 := ⟨⟨w3_76, w1_3, w3_79, (by decide +kernel)⟩, w3_77, w3_78⟩
theorem kV_X11_218 : Wv RX11 218 yX10_takeBack cX10_takeBack 2 (some .boolean) 0 := ⟨⟨w3_191, w1_3, w3_194, (by decide +kernel)⟩, w3_192, w3_193⟩
theorem kV_X11_231 : Wv RX11 231 yX10_whole cX10_whole 3 (some (.object "DotPress$Table")) 1 := ⟨⟨w3_229, w1_3, w3_232, (by decide +kernel)⟩, w3_230, w3_231⟩
theorem kV_X11_288 : Wv RX11 288 yX7_present cX7_present 3 (some (.object "DotPress$Line")) 1 := ⟨⟨w4_190, w1_11, w4_193, (by decide +kernel)⟩, w4_191, w4_192⟩
theorem kV_X11_292 : Wv RX11 292 yX7_whyNone cX7_whyNone 2 (some .int) 1 := ⟨⟨w4_194, w1_11, w4_197, (by decide +kernel)⟩, w4_195, w4_196⟩
theorem kV_X11_308 : Wv RX11 308 yX7_at cX7_at 2 (some (.object "DotPress$Line")) 1 := ⟨⟨w4_224, w1_11, w4_75, (by decide +kernel)⟩, w4_73, w4_74⟩
theorem kV_X11_364 : Wv RX11 364 yX4_byteOf cX4_byteOf 4 (some .int) 2 := ⟨⟨w5_174, w1_10, w5_177, (by decide +kernel)⟩, w5_175, w5_176⟩
theorem kV_X11_413 : Wv RX11 413 yX6_findsOf cX6_findsOf 2 (some .int) 1 := ⟨⟨w6_32, w1_8, w6_35, (by decide +kernel)⟩, w6_33, w6_34⟩
theorem kV_X7_24 : Wv RX7 24 yX7_at cX7_at 2 (some (.object "DotPress$Line")) 1 := ⟨⟨w4_72, w1_11, w4_75, (by decide +kernel)⟩, w4_73, w4_74⟩
end
section
set_option maxHeartbeats 4000000 in
set_option maxRecDepth 100000 in
theorem c_refuse {l : Launch} {G : GT} {L : List Nat} {E : Nat → va_E} {h0 : Nat} {f : Nat → Value} (x : Int32) (hL : h0 ∈ L) (hE : E h0 = ob 12 19 f) : Mq l G yX11_refuse cX11_refuse 2 (some .int) 0 [.ref h0, .int x] L E 0 0 (fun v L2 E2 => v = some (.int (-1)) ∧ L2 = L ∧ E2 = va_up E h0 (ob 12 19 (va_up (va_up f 17 (.int x)) 18 (.int (-1))))) := by
  refine Mq.mk (by decide) (Nat.le_of_ble_eq_true rfl) ?_
  intro p e s m args below meth c A C
  refine q_aload_n (j := 0) C dX11_refuse_0 rfl ?_
  refine q_iload_n (j := 1) C dX11_refuse_1 rfl ?_
  refine q_put (k := 17) C ck_12 dX11_refuse_2 w2_61 (by decide) rfl hL hE rfl rfl ?_
  refine q_aload_n (j := 0) C dX11_refuse_5 rfl ?_
  refine q_iconst (v := (-1)) C dX11_refuse_6 (by decide) ?_
  refine q_put (k := 18) C ck_12 dX11_refuse_7 w2_62 (by decide) rfl hL (va_up_self _ _ _) rfl rfl ?_
  refine q_iconst (v := (-1)) C dX11_refuse_10 (by decide) ?_
  exact q_iret C dX11_refuse_11 rfl (Nat.le_of_ble_eq_true rfl) (Nat.le_of_ble_eq_true rfl) ⟨rfl, rfl, bx_uu _ _ _ _⟩
set_option maxHeartbeats 4000000 in
set_option maxRecDepth 100000 in
theorem c_done {l : Launch} {G : GT} {L : List Nat} {E : Nat → va_E} {h0 : Nat} {f : Nat → Value} (x : Int32) (hL : h0 ∈ L) (hE : E h0 = ob 12 19 f) : Mq l G yX11_done cX11_done 2 (some .int) 0 [.ref h0, .int x] L E 0 0 (fun v L2 E2 => v = some (.int x) ∧ L2 = L ∧ E2 = va_up E h0 (ob 12 19 (va_up (va_up f 17 (.int 0)) 18 (.int (-1))))) := by
  refine Mq.mk (by decide) (Nat.le_of_ble_eq_true rfl) ?_
  intro p e s m args below meth c A C
  refine q_aload_n (j := 0) C dX11_done_0 rfl ?_
  refine q_iconst (v := 0) C dX11_done_1 (by decide) ?_
  refine q_put (k := 17) C ck_12 dX11_done_2 w2_61 (by decide) rfl hL hE rfl rfl ?_
  refine q_aload_n (j := 0) C dX11_done_5 rfl ?_
  refine q_iconst (v := (-1)) C dX11_done_6 (by decide) ?_
  refine q_put (k := 18) C ck_12 dX11_done_7 w2_62 (by decide) rfl hL (va_up_self _ _ _) rfl rfl ?_
  refine q_iload_n (j := 1) C dX11_done_10 rfl ?_
  exact q_iret C dX11_done_11 rfl (Nat.le_of_ble_eq_true rfl) (Nat.le_of_ble_eq_true rfl) ⟨rfl, rfl, bx_uu _ _ _ _⟩
set_option maxHeartbeats 4000000 in
set_option maxRecDepth 100000 in
theorem c_bad {l : Launch} {G : GT} {L : List Nat} {E : Nat → va_E} {h0 : Nat} {f : Nat → Value} (x : Int32) (hL : h0 ∈ L) (hE : E h0 = ob 13 67 f) : Mq l G yX12_bad cX12_bad 2 (some .int) 0 [.ref h0, .int x] L E 0 0 (fun v L2 E2 => v = some (.int (-1)) ∧ L2 = L ∧ E2 = va_up E h0 (ob 13 67 (va_up (va_up f 0 (.int x)) 1 (.int (-1))))) := by
  refine Mq.mk (by decide) (Nat.le_of_ble_eq_true rfl) ?_
  intro p e s m args below meth c A C
  refine q_aload_n (j := 0) C dX12_bad_0 rfl ?_
  refine q_iload_n (j := 1) C dX12_bad_1 rfl ?_
  refine q_put (k := 0) C ck_13 dX12_bad_2 w6_59 (by decide) rfl hL hE rfl rfl ?_
  refine q_aload_n (j := 0) C dX12_bad_5 rfl ?_
  refine q_iconst (v := (-1)) C dX12_bad_6 (by decide) ?_
  refine q_put (k := 1) C ck_13 dX12_bad_7 w6_60 (by decide) rfl hL (va_up_self _ _ _) rfl rfl ?_
  refine q_iconst (v := (-1)) C dX12_bad_10 (by decide) ?_
  exact q_iret C dX12_bad_11 rfl (Nat.le_of_ble_eq_true rfl) (Nat.le_of_ble_eq_true rfl) ⟨rfl, rfl, bx_uu _ _ _ _⟩
set_option maxHeartbeats 4000000 in
set_option maxRecDepth 100000 in
theorem c_fine {l : Launch} {G : GT} {L : List Nat} {E : Nat → va_E} {h0 : Nat} {f : Nat → Value} (x : Int32) (hL : h0 ∈ L) (hE : E h0 = ob 13 67 f) : Mq l G yX12_fine cX12_fine 2 (some .int) 0 [.ref h0, .int x] L E 0 0 (fun v L2 E2 => v = some (.int x) ∧ L2 = L ∧ E2 = va_up E h0 (ob 13 67 (va_up (va_up f 0 (.int 0)) 1 (.int (-1))))) := by
  refine Mq.mk (by decide) (Nat.le_of_ble_eq_true rfl) ?_
  intro p e s m args below meth c A C
  refine q_aload_n (j := 0) C dX12_fine_0 rfl ?_
  refine q_iconst (v := 0) C dX12_fine_1 (by decide) ?_
  refine q_put (k := 0) C ck_13 dX12_fine_2 w6_59 (by decide) rfl hL hE rfl rfl ?_
  refine q_aload_n (j := 0) C dX12_fine_5 rfl ?_
  refine q_iconst (v := (-1)) C dX12_fine_6 (by decide) ?_
  refine q_put (k := 1) C ck_13 dX12_fine_7 w6_60 (by decide) rfl hL (va_up_self _ _ _) rfl rfl ?_
  refine q_iload_n (j := 1) C dX12_fine_10 rfl ?_
  exact q_iret C dX12_fine_11 rfl (Nat.le_of_ble_eq_true rfl) (Nat.le_of_ble_eq_true rfl) ⟨rfl, rfl, bx_uu _ _ _ _⟩
set_option maxHeartbeats 4000000 in
set_option maxRecDepth 100000 in
theorem c_AColl_init {l : Launch} {G : GT} {L : List Nat} {E : Nat → va_E} {h0 : Nat} {f : Nat → Value}  (hL : h0 ∈ L) (hE : E h0 = ob 0 3 f) : Mq l G yJxa1e45_init_da8c8 cJxa1e45_init_da8c8 1 none 1 [.ref h0] L E 0 0 (fun v L2 E2 => v = none ∧ (∀ a ∈ L, a ∈ L2) ∧ (∀ a ∈ L, a ≠ h0 → E2 a = E a) ∧ E2 h0 = ob 0 3 f) := by
  refine Mq.mk (by decide) (Nat.le_of_ble_eq_true rfl) ?_
  intro p e s m args below meth c A C
  refine q_aload_n (j := 0) C dJxa1e45_init_da8c8_0 rfl ?_
  refine q_objInit C dJxa1e45_init_da8c8_1 w1_75 w1_30 w1_31 ⟨Nat.le_of_ble_eq_true rfl, Nat.le_of_ble_eq_true rfl⟩ (Nat.le_of_ble_eq_true rfl) ?_
  exact q_vret C dJxa1e45_init_da8c8_4 rfl (Nat.le_of_ble_eq_true rfl) (Nat.le_of_ble_eq_true rfl) ⟨rfl, (fun aa haa => haa), (fun aa haa naa => rfl), hE⟩
set_option maxHeartbeats 4000000 in
set_option maxRecDepth 100000 in
theorem c_AList_init {l : Launch} {G : GT} {L : List Nat} {E : Nat → va_E} {h0 : Nat} {f : Nat → Value}  (hL : h0 ∈ L) (hE : E h0 = ob 0 3 f) : Mq l G yJxc12de_init_da8c8 cJxc12de_init_da8c8 1 none 2 [.ref h0] L E 0 0 (fun v L2 E2 => v = none ∧ (∀ a ∈ L, a ∈ L2) ∧ (∀ a ∈ L, a ≠ h0 → E2 a = E a) ∧ E2 h0 = ob 0 3 (va_up f 0 (.int 0))) := by
  refine Mq.mk (by decide) (Nat.le_of_ble_eq_true rfl) ?_
  intro p e s m args below meth c A C
  refine q_aload_n (j := 0) C dJxc12de_init_da8c8_0 rfl ?_
  refine q_callI (As := []) (rest := []) C (c_AColl_init hL hE) dJxc12de_init_da8c8_1 kI_Jxc12de_1 rfl rfl (Nat.le_of_ble_eq_true rfl) ⟨Nat.le_of_ble_eq_true rfl, Nat.le_of_ble_eq_true rfl⟩ ⟨Nat.le_of_ble_eq_true rfl, Nat.le_of_ble_eq_true rfl⟩ (fun vh1 Lh1 Eh1 h1 => ?_)
  obtain ⟨rfl, h1a, h1b, h1c⟩ := h1
  refine q_st (st2 := []) rfl ?_
  refine q_aload_n (j := 0) C dJxc12de_init_da8c8_4 rfl ?_
  refine q_iconst (v := 0) C dJxc12de_init_da8c8_5 (by decide) ?_
  refine q_put (k := 0) C ck_0 dJxc12de_init_da8c8_6 w1_80 (by decide) rfl (h1a _ hL) h1c rfl rfl ?_
  exact q_vret C dJxc12de_init_da8c8_9 rfl (Nat.le_of_ble_eq_true rfl) (Nat.le_of_ble_eq_true rfl) ⟨rfl, (fun aa haa => (h1a _ haa)), (fun aa haa naa => ((va_up_ne _ _ naa).trans ((h1b _ haa naa).trans rfl))), (va_up_self _ _ _)⟩
set_option maxHeartbeats 4000000 in
set_option maxRecDepth 100000 in
theorem c_ArrayList_init {l : Launch} {G : GT} {L : List Nat} {E : Nat → va_E} {h0 : Nat} {f : Nat → Value}  (hL : h0 ∈ L) (hE : E h0 = ob 0 3 f) : Mq l G yJx4a65c_init_da8c8 cJx4a65c_init_da8c8 1 none 3 [.ref h0] L E 0 0 (fun v L2 E2 => v = none ∧ (∀ a ∈ L, a ∈ L2) ∧ (∀ a ∈ L, a ≠ h0 → E2 a = E a) ∧ E2 h0 = ob 0 3 (va_up (va_up f 0 (.int 0)) 1 (.ref (g0 G)))) := by
  refine Mq.mk (by decide) (Nat.le_of_ble_eq_true rfl) ?_
  intro p e s m args below meth c A C
  refine q_aload_n (j := 0) C dJx4a65c_init_da8c8_0 rfl ?_
  refine q_callI (As := []) (rest := []) C (c_AList_init hL hE) dJx4a65c_init_da8c8_1 kI_Jx4a65c_1 rfl rfl (Nat.le_of_ble_eq_true rfl) ⟨Nat.le_of_ble_eq_true rfl, Nat.le_of_ble_eq_true rfl⟩ ⟨Nat.le_of_ble_eq_true rfl, Nat.le_of_ble_eq_true rfl⟩ (fun vh1 Lh1 Eh1 h1 => ?_)
  obtain ⟨rfl, h1a, h1b, h1c⟩ := h1
  refine q_st (st2 := []) rfl ?_
  refine q_aload_n (j := 0) C dJx4a65c_init_da8c8_4 rfl ?_
  refine q_gets C dJx4a65c_init_da8c8_5 w1_76 ?_
  refine q_put (k := 1) C ck_0 dJx4a65c_init_da8c8_8 w1_78 (by decide) rfl (h1a _ hL) h1c rfl rfl ?_
  exact q_vret C dJx4a65c_init_da8c8_11 rfl (Nat.le_of_ble_eq_true rfl) (Nat.le_of_ble_eq_true rfl) ⟨rfl, (fun aa haa => (h1a _ haa)), (fun aa haa naa => ((va_up_ne _ _ naa).trans ((h1b _ haa naa).trans rfl))), (va_up_self _ _ _)⟩
set_option maxHeartbeats 4000000 in
set_option maxRecDepth 100000 in
theorem c_Ints_init {l : Launch} {G : GT} {L : List Nat} {E : Nat → va_E} {h0 : Nat} {f : Nat → Value} (lim : Int32) (hL : h0 ∈ L) (hE : E h0 = ob 2 3 f) : Mq l G yX1_init cX1_init 2 none 1 [.ref h0, .int lim] L E 1 16 (fun v L2 E2 => v = none ∧ (∀ a ∈ L, a ∈ L2) ∧ (∀ a ∈ L, a ≠ h0 → E2 a = E a) ∧ ∃ (q : Nat) (g : Nat → Value), q ∉ L ∧ q ∈ L2 ∧ E2 h0 = ob 2 3 g ∧ g 0 = .int lim ∧ g 1 = .ref q ∧ g 2 = .int 0 ∧ E2 q = aI G 16 (fun _ => 0)) := by
  refine Mq.mk (by decide) (Nat.le_of_ble_eq_true rfl) ?_
  intro p e s m args below meth c A C
  refine q_aload_n (j := 0) C dX1_init_0 rfl ?_
  refine q_objInit C dX1_init_1 w1_37 w1_30 w1_31 ⟨Nat.le_of_ble_eq_true rfl, Nat.le_of_ble_eq_true rfl⟩ (Nat.le_of_ble_eq_true rfl) ?_
  refine q_aload_n (j := 0) C dX1_init_4 rfl ?_
  refine q_iconst (v := 0) C dX1_init_5 (by decide) ?_
  refine q_put (k := 2) C ck_2 dX1_init_6 w1_43 (by decide) rfl hL hE rfl rfl ?_
  refine q_aload_n (j := 0) C dX1_init_9 rfl ?_
  refine q_iload_n (j := 1) C dX1_init_10 rfl ?_
  refine q_putF (k := 0) C ck_2 dX1_init_11 w1_38 (by decide) rfl rfl rfl hL (va_up_self _ _ _) rfl rfl ?_
  refine q_aload_n (j := 0) C dX1_init_14 rfl ?_
  refine q_bipush (v := 16) C dX1_init_15 (by decide) ?_
  refine q_newaI (N := 16) C dX1_init_17 w1_57 (by decide) (by decide) (by decide) ⟨Nat.le_of_ble_eq_true rfl, Nat.le_of_ble_eq_true rfl⟩ (fun q1 nq1 => ?_)
  have ne_h0_q1 : h0 ≠ q1 := (ne_in hL nq1)
  refine q_put (k := 1) C ck_2 dX1_init_19 w1_39 (by decide) rfl (List.mem_append_left _ hL) ((va_up_ne _ _ ne_h0_q1).trans (va_up_self _ _ _)) rfl rfl ?_
  exact q_vret C dX1_init_22 rfl (Nat.le_of_ble_eq_true rfl) (Nat.le_of_ble_eq_true rfl) ⟨rfl, (fun aa haa => (List.mem_append_left _ haa)), (fun aa haa naa => ((va_up_ne _ _ naa).trans ((va_up_ne _ _ (ne_in haa nq1)).trans ((va_up_ne _ _ naa).trans ((va_up_ne _ _ naa).trans rfl))))), ⟨q1, _, nq1, (List.mem_append_right _ (List.mem_singleton.mpr rfl)), (va_up_self _ _ _), rfl, rfl, rfl, ((va_up_ne _ _ (Ne.symm ne_h0_q1)).trans (va_up_self _ _ _))⟩⟩
set_option maxHeartbeats 4000000 in
set_option maxRecDepth 100000 in
theorem c_Tables_init {l : Launch} {G : GT} {L : List Nat} {E : Nat → va_E} {h0 : Nat} {f : Nat → Value}  (hL : h0 ∈ L) (hE : E h0 = ob 11 2 f) : Mq l G yX10_init cX10_init 1 none 4 [.ref h0] L E 2 6 (fun v L2 E2 => v = none ∧ (∀ a ∈ L, a ∈ L2) ∧ (∀ a ∈ L, a ≠ h0 → E2 a = E a) ∧ ∃ (md ch : Nat) (g gm gc : Nat → Value), md ∉ L ∧ ch ∉ L ∧ md ≠ ch ∧ md ∈ L2 ∧ ch ∈ L2 ∧ E2 h0 = ob 11 2 g ∧ g 0 = .ref md ∧ g 1 = .ref ch ∧ E2 md = ob 0 3 gm ∧ gm 1 = .ref (g0 G) ∧ gm 2 = .int 0 ∧ E2 ch = ob 0 3 gc ∧ gc 1 = .ref (g0 G) ∧ gc 2 = .int 0) := by
  refine Mq.mk (by decide) (Nat.le_of_ble_eq_true rfl) ?_
  intro p e s m args below meth c A C
  refine q_aload_n (j := 0) C dX10_init_0 rfl ?_
  refine q_objInit C dX10_init_1 w1_63 w1_30 w1_31 ⟨Nat.le_of_ble_eq_true rfl, Nat.le_of_ble_eq_true rfl⟩ (Nat.le_of_ble_eq_true rfl) ?_
  refine q_aload_n (j := 0) C dX10_init_4 rfl ?_
  refine q_new C ck_0 dX10_init_5 w1_64 w1_65 w1_6 ⟨Nat.le_of_ble_eq_true rfl, Nat.le_of_ble_eq_true rfl⟩ (fun q1 nq1 => ?_)
  have ne_h0_q1 : h0 ≠ q1 := (ne_in hL nq1)
  refine q_dup C dX10_init_8 rfl ?_
  refine q_callI (As := []) (rest := [.ref q1, .ref h0]) C (c_ArrayList_init (List.mem_append_right _ (List.mem_singleton.mpr rfl)) (va_up_self _ _ _)) dX10_init_9 kI_X10_11 rfl rfl (Nat.le_of_ble_eq_true rfl) ⟨Nat.le_of_ble_eq_true rfl, Nat.le_of_ble_eq_true rfl⟩ ⟨Nat.le_of_ble_eq_true rfl, Nat.le_of_ble_eq_true rfl⟩ (fun vh1 Lh1 Eh1 h1 => ?_)
  obtain ⟨rfl, h1a, h1b, h1c⟩ := h1
  have et1 := (h1b _ (List.mem_append_left _ hL) ne_h0_q1).trans ((va_up_ne _ _ ne_h0_q1).trans hE)
  have lt1 := h1a _ (List.mem_append_left _ hL)
  refine q_st (st2 := [.ref q1, .ref h0]) rfl ?_
  refine q_putF (k := 0) C ck_11 dX10_init_12 w1_90 (by decide) rfl rfl rfl lt1 et1 rfl rfl ?_
  refine q_aload_n (j := 0) C dX10_init_15 rfl ?_
  refine q_new C ck_0 dX10_init_16 w1_64 w1_65 w1_6 ⟨Nat.le_of_ble_eq_true rfl, Nat.le_of_ble_eq_true rfl⟩ (fun q2 nq2 => ?_)
  have ne_h0_q2 : h0 ≠ q2 := (ne_in lt1 nq2)
  have ne_q1_q2 : q1 ≠ q2 := (ne_in (h1a _ (List.mem_append_right _ (List.mem_singleton.mpr rfl))) nq2)
  refine q_dup C dX10_init_19 rfl ?_
  refine q_callI (As := []) (rest := [.ref q2, .ref h0]) C (c_ArrayList_init (List.mem_append_right _ (List.mem_singleton.mpr rfl)) (va_up_self _ _ _)) dX10_init_20 kI_X10_11 rfl rfl (Nat.le_of_ble_eq_true rfl) ⟨Nat.le_of_ble_eq_true rfl, Nat.le_of_ble_eq_true rfl⟩ ⟨Nat.le_of_ble_eq_true rfl, Nat.le_of_ble_eq_true rfl⟩ (fun vh2 Lh2 Eh2 h2 => ?_)
  obtain ⟨rfl, h2a, h2b, h2c⟩ := h2
  have et2 := (h2b _ (List.mem_append_left _ lt1) ne_h0_q2).trans ((va_up_ne _ _ ne_h0_q2).trans (va_up_self _ _ _))
  have lt2 := h2a _ (List.mem_append_left _ lt1)
  have et3 := (h2b _ (List.mem_append_left _ (h1a _ (List.mem_append_right _ (List.mem_singleton.mpr rfl)))) ne_q1_q2).trans ((va_up_ne _ _ ne_q1_q2).trans ((va_up_ne _ _ (Ne.symm ne_h0_q1)).trans h1c))
  have lt3 := h2a _ (List.mem_append_left _ (h1a _ (List.mem_append_right _ (List.mem_singleton.mpr rfl))))
  refine q_st (st2 := [.ref q2, .ref h0]) rfl ?_
  refine q_putF (k := 1) C ck_11 dX10_init_23 w1_91 (by decide) rfl rfl rfl lt2 et2 rfl rfl ?_
  exact q_vret C dX10_init_26 rfl (Nat.le_of_ble_eq_true rfl) (Nat.le_of_ble_eq_true rfl) ⟨rfl, (fun aa haa => (h2a _ (List.mem_append_left _ (h1a _ (List.mem_append_left _ haa))))), (fun aa haa naa => ((va_up_ne _ _ naa).trans ((h2b _ (List.mem_append_left _ (h1a _ (List.mem_append_left _ haa))) (ne_in (h1a _ (List.mem_append_left _ haa)) nq2)).trans ((va_up_ne _ _ (ne_in (h1a _ (List.mem_append_left _ haa)) nq2)).trans ((va_up_ne _ _ naa).trans ((h1b _ (List.mem_append_left _ haa) (ne_in haa nq1)).trans ((va_up_ne _ _ (ne_in haa nq1)).trans rfl))))))), ⟨q1, q2, _, _, _, (fun z => nq1 z), (fun z => nq2 (h1a _ (List.mem_append_left _ z))), ne_q1_q2, lt3, (h2a _ (List.mem_append_right _ (List.mem_singleton.mpr rfl))), (va_up_self _ _ _), rfl, rfl, ((va_up_ne _ _ (Ne.symm ne_h0_q1)).trans et3), rfl, rfl, ((va_up_ne _ _ (Ne.symm ne_h0_q2)).trans h2c), rfl, rfl⟩⟩
set_option maxHeartbeats 4000000 in
set_option maxRecDepth 100000 in
theorem c_Setting_init {l : Launch} {G : GT} {L : List Nat} {E : Nat → va_E} {h0 : Nat} {f : Nat → Value}  (hL : h0 ∈ L) (hE : E h0 = ob 7 12 f) : Mq l G yX6_init cX6_init 1 none 1 [.ref h0] L E 6 2205 (fun v L2 E2 => v = none ∧ (∀ a ∈ L, a ∈ L2) ∧ (∀ a ∈ L, a ≠ h0 → E2 a = E a) ∧ ∃ (fi : Nat) (g : Nat → Value), fi ∉ L ∧ fi ∈ L2 ∧ E2 h0 = ob 7 12 g ∧ g 8 = .ref fi ∧ E2 fi = aI G 5 (fun _ => 0)) := by
  refine Mq.mk (by decide) (Nat.le_of_ble_eq_true rfl) ?_
  intro p e s m args below meth c A C
  refine q_aload_n (j := 0) C dX6_init_0 rfl ?_
  refine q_objInit C dX6_init_1 w1_135 w1_30 w1_31 ⟨Nat.le_of_ble_eq_true rfl, Nat.le_of_ble_eq_true rfl⟩ (Nat.le_of_ble_eq_true rfl) ?_
  refine q_aload_n (j := 0) C dX6_init_4 rfl ?_
  refine q_sipush (v := 500) C dX6_init_5 (by decide) ?_
  refine q_newaI (N := 500) C dX6_init_8 w1_57 (by decide) (by decide) (by decide) ⟨Nat.le_of_ble_eq_true rfl, Nat.le_of_ble_eq_true rfl⟩ (fun q1 nq1 => ?_)
  have ne_h0_q1 : h0 ≠ q1 := (ne_in hL nq1)
  refine q_putF (k := 0) C ck_7 dX6_init_10 w1_136 (by decide) rfl rfl rfl (List.mem_append_left _ hL) ((va_up_ne _ _ ne_h0_q1).trans hE) rfl rfl ?_
  refine q_aload_n (j := 0) C dX6_init_13 rfl ?_
  refine q_sipush (v := 500) C dX6_init_14 (by decide) ?_
  refine q_newaI (N := 500) C dX6_init_17 w1_57 (by decide) (by decide) (by decide) ⟨Nat.le_of_ble_eq_true rfl, Nat.le_of_ble_eq_true rfl⟩ (fun q2 nq2 => ?_)
  have ne_h0_q2 : h0 ≠ q2 := (ne_in (List.mem_append_left _ hL) nq2)
  have ne_q1_q2 : q1 ≠ q2 := (ne_in (List.mem_append_right _ (List.mem_singleton.mpr rfl)) nq2)
  refine q_putF (k := 1) C ck_7 dX6_init_19 w1_137 (by decide) rfl rfl rfl (List.mem_append_left _ (List.mem_append_left _ hL)) ((va_up_ne _ _ ne_h0_q2).trans (va_up_self _ _ _)) rfl rfl ?_
  refine q_aload_n (j := 0) C dX6_init_22 rfl ?_
  refine q_sipush (v := 500) C dX6_init_23 (by decide) ?_
  refine q_newaZ (N := 500) C dX6_init_26 w1_129 (by decide) (by decide) (by decide) ⟨Nat.le_of_ble_eq_true rfl, Nat.le_of_ble_eq_true rfl⟩ (fun q3 nq3 => ?_)
  have ne_h0_q3 : h0 ≠ q3 := (ne_in (List.mem_append_left _ (List.mem_append_left _ hL)) nq3)
  have ne_q1_q3 : q1 ≠ q3 := (ne_in (List.mem_append_left _ (List.mem_append_right _ (List.mem_singleton.mpr rfl))) nq3)
  have ne_q2_q3 : q2 ≠ q3 := (ne_in (List.mem_append_right _ (List.mem_singleton.mpr rfl)) nq3)
  refine q_putF (k := 2) C ck_7 dX6_init_28 w1_138 (by decide) rfl rfl rfl (List.mem_append_left _ (List.mem_append_left _ (List.mem_append_left _ hL))) ((va_up_ne _ _ ne_h0_q3).trans (va_up_self _ _ _)) rfl rfl ?_
  refine q_aload_n (j := 0) C dX6_init_31 rfl ?_
  refine q_sipush (v := 500) C dX6_init_32 (by decide) ?_
  refine q_newaI (N := 500) C dX6_init_35 w1_57 (by decide) (by decide) (by decide) ⟨Nat.le_of_ble_eq_true rfl, Nat.le_of_ble_eq_true rfl⟩ (fun q4 nq4 => ?_)
  have ne_h0_q4 : h0 ≠ q4 := (ne_in (List.mem_append_left _ (List.mem_append_left _ (List.mem_append_left _ hL))) nq4)
  have ne_q1_q4 : q1 ≠ q4 := (ne_in (List.mem_append_left _ (List.mem_append_left _ (List.mem_append_right _ (List.mem_singleton.mpr rfl)))) nq4)
  have ne_q2_q4 : q2 ≠ q4 := (ne_in (List.mem_append_left _ (List.mem_append_right _ (List.mem_singleton.mpr rfl))) nq4)
  have ne_q3_q4 : q3 ≠ q4 := (ne_in (List.mem_append_right _ (List.mem_singleton.mpr rfl)) nq4)
  refine q_putF (k := 3) C ck_7 dX6_init_37 w1_139 (by decide) rfl rfl rfl (List.mem_append_left _ (List.mem_append_left _ (List.mem_append_left _ (List.mem_append_left _ hL)))) ((va_up_ne _ _ ne_h0_q4).trans (va_up_self _ _ _)) rfl rfl ?_
  refine q_aload_n (j := 0) C dX6_init_40 rfl ?_
  refine q_iconst (v := 0) C dX6_init_41 (by decide) ?_
  refine q_put (k := 4) C ck_7 dX6_init_42 w1_140 (by decide) rfl (List.mem_append_left _ (List.mem_append_left _ (List.mem_append_left _ (List.mem_append_left _ hL)))) (va_up_self _ _ _) rfl rfl ?_
  refine q_aload_n (j := 0) C dX6_init_45 rfl ?_
  refine q_iconst (v := 0) C dX6_init_46 (by decide) ?_
  refine q_put (k := 5) C ck_7 dX6_init_47 w1_143 (by decide) rfl (List.mem_append_left _ (List.mem_append_left _ (List.mem_append_left _ (List.mem_append_left _ hL)))) (va_up_self _ _ _) (by decide) rfl ?_
  refine q_aload_n (j := 0) C dX6_init_50 rfl ?_
  refine q_sipush (v := 200) C dX6_init_51 (by decide) ?_
  refine q_newaI (N := 200) C dX6_init_54 w1_57 (by decide) (by decide) (by decide) ⟨Nat.le_of_ble_eq_true rfl, Nat.le_of_ble_eq_true rfl⟩ (fun q5 nq5 => ?_)
  have ne_h0_q5 : h0 ≠ q5 := (ne_in (List.mem_append_left _ (List.mem_append_left _ (List.mem_append_left _ (List.mem_append_left _ hL)))) nq5)
  have ne_q1_q5 : q1 ≠ q5 := (ne_in (List.mem_append_left _ (List.mem_append_left _ (List.mem_append_left _ (List.mem_append_right _ (List.mem_singleton.mpr rfl))))) nq5)
  have ne_q2_q5 : q2 ≠ q5 := (ne_in (List.mem_append_left _ (List.mem_append_left _ (List.mem_append_right _ (List.mem_singleton.mpr rfl)))) nq5)
  have ne_q3_q5 : q3 ≠ q5 := (ne_in (List.mem_append_left _ (List.mem_append_right _ (List.mem_singleton.mpr rfl))) nq5)
  have ne_q4_q5 : q4 ≠ q5 := (ne_in (List.mem_append_right _ (List.mem_singleton.mpr rfl)) nq5)
  refine q_putF (k := 6) C ck_7 dX6_init_56 w1_144 (by decide) rfl rfl rfl (List.mem_append_left _ (List.mem_append_left _ (List.mem_append_left _ (List.mem_append_left _ (List.mem_append_left _ hL))))) ((va_up_ne _ _ ne_h0_q5).trans (va_up_self _ _ _)) rfl rfl ?_
  refine q_aload_n (j := 0) C dX6_init_59 rfl ?_
  refine q_iconst (v := 0) C dX6_init_60 (by decide) ?_
  refine q_put (k := 7) C ck_7 dX6_init_61 w1_147 (by decide) rfl (List.mem_append_left _ (List.mem_append_left _ (List.mem_append_left _ (List.mem_append_left _ (List.mem_append_left _ hL))))) (va_up_self _ _ _) rfl rfl ?_
  refine q_aload_n (j := 0) C dX6_init_64 rfl ?_
  refine q_iconst (v := 5) C dX6_init_65 (by decide) ?_
  refine q_newaI (N := 5) C dX6_init_66 w1_57 (by decide) (by decide) (by decide) ⟨Nat.le_of_ble_eq_true rfl, Nat.le_of_ble_eq_true rfl⟩ (fun q6 nq6 => ?_)
  have ne_h0_q6 : h0 ≠ q6 := (ne_in (List.mem_append_left _ (List.mem_append_left _ (List.mem_append_left _ (List.mem_append_left _ (List.mem_append_left _ hL))))) nq6)
  have ne_q1_q6 : q1 ≠ q6 := (ne_in (List.mem_append_left _ (List.mem_append_left _ (List.mem_append_left _ (List.mem_append_left _ (List.mem_append_right _ (List.mem_singleton.mpr rfl)))))) nq6)
  have ne_q2_q6 : q2 ≠ q6 := (ne_in (List.mem_append_left _ (List.mem_append_left _ (List.mem_append_left _ (List.mem_append_right _ (List.mem_singleton.mpr rfl))))) nq6)
  have ne_q3_q6 : q3 ≠ q6 := (ne_in (List.mem_append_left _ (List.mem_append_left _ (List.mem_append_right _ (List.mem_singleton.mpr rfl)))) nq6)
  have ne_q4_q6 : q4 ≠ q6 := (ne_in (List.mem_append_left _ (List.mem_append_right _ (List.mem_singleton.mpr rfl))) nq6)
  have ne_q5_q6 : q5 ≠ q6 := (ne_in (List.mem_append_right _ (List.mem_singleton.mpr rfl)) nq6)
  refine q_putF (k := 8) C ck_7 dX6_init_68 w1_150 (by decide) rfl rfl rfl (List.mem_append_left _ (List.mem_append_left _ (List.mem_append_left _ (List.mem_append_left _ (List.mem_append_left _ (List.mem_append_left _ hL)))))) ((va_up_ne _ _ ne_h0_q6).trans (va_up_self _ _ _)) rfl rfl ?_
  refine q_aload_n (j := 0) C dX6_init_71 rfl ?_
  refine q_iconst (v := 0) C dX6_init_72 (by decide) ?_
  refine q_put (k := 9) C ck_7 dX6_init_73 w1_151 (by decide) rfl (List.mem_append_left _ (List.mem_append_left _ (List.mem_append_left _ (List.mem_append_left _ (List.mem_append_left _ (List.mem_append_left _ hL)))))) (va_up_self _ _ _) rfl rfl ?_
  refine q_aload_n (j := 0) C dX6_init_76 rfl ?_
  refine q_iconst (v := 0) C dX6_init_77 (by decide) ?_
  refine q_put (k := 10) C ck_7 dX6_init_78 w1_152 (by decide) rfl (List.mem_append_left _ (List.mem_append_left _ (List.mem_append_left _ (List.mem_append_left _ (List.mem_append_left _ (List.mem_append_left _ hL)))))) (va_up_self _ _ _) rfl rfl ?_
  refine q_aload_n (j := 0) C dX6_init_81 rfl ?_
  refine q_iconst (v := 0) C dX6_init_82 (by decide) ?_
  refine q_put (k := 11) C ck_7 dX6_init_83 w1_153 (by decide) rfl (List.mem_append_left _ (List.mem_append_left _ (List.mem_append_left _ (List.mem_append_left _ (List.mem_append_left _ (List.mem_append_left _ hL)))))) (va_up_self _ _ _) rfl rfl ?_
  exact q_vret C dX6_init_86 rfl (Nat.le_of_ble_eq_true rfl) (Nat.le_of_ble_eq_true rfl) ⟨rfl, (fun aa haa => (List.mem_append_left _ (List.mem_append_left _ (List.mem_append_left _ (List.mem_append_left _ (List.mem_append_left _ (List.mem_append_left _ haa))))))), (fun aa haa naa => ((va_up_ne _ _ naa).trans ((va_up_ne _ _ naa).trans ((va_up_ne _ _ naa).trans ((va_up_ne _ _ naa).trans ((va_up_ne _ _ (ne_in (List.mem_append_left _ (List.mem_append_left _ (List.mem_append_left _ (List.mem_append_left _ (List.mem_append_left _ haa))))) nq6)).trans ((va_up_ne _ _ naa).trans ((va_up_ne _ _ naa).trans ((va_up_ne _ _ (ne_in (List.mem_append_left _ (List.mem_append_left _ (List.mem_append_left _ (List.mem_append_left _ haa)))) nq5)).trans ((va_up_ne _ _ naa).trans ((va_up_ne _ _ naa).trans ((va_up_ne _ _ naa).trans ((va_up_ne _ _ (ne_in (List.mem_append_left _ (List.mem_append_left _ (List.mem_append_left _ haa))) nq4)).trans ((va_up_ne _ _ naa).trans ((va_up_ne _ _ (ne_in (List.mem_append_left _ (List.mem_append_left _ haa)) nq3)).trans ((va_up_ne _ _ naa).trans ((va_up_ne _ _ (ne_in (List.mem_append_left _ haa) nq2)).trans ((va_up_ne _ _ naa).trans ((va_up_ne _ _ (ne_in haa nq1)).trans rfl))))))))))))))))))), ⟨q6, _, (fun z => nq6 (List.mem_append_left _ (List.mem_append_left _ (List.mem_append_left _ (List.mem_append_left _ (List.mem_append_left _ z)))))), (List.mem_append_right _ (List.mem_singleton.mpr rfl)), (va_up_self _ _ _), rfl, ((va_up_ne _ _ (Ne.symm ne_h0_q6)).trans ((va_up_ne _ _ (Ne.symm ne_h0_q6)).trans ((va_up_ne _ _ (Ne.symm ne_h0_q6)).trans ((va_up_ne _ _ (Ne.symm ne_h0_q6)).trans (va_up_self _ _ _)))))⟩⟩
set_option maxHeartbeats 4000000 in
set_option maxRecDepth 100000 in
theorem c_Source_init {l : Launch} {G : GT} {L : List Nat} {E : Nat → va_E} {h0 : Nat} {f : Nat → Value}  (hL : h0 ∈ L) (hE : E h0 = ob 9 8 f) : Mq l G yX8_init cX8_init 1 none 1 [.ref h0] L E 3 258 (fun v L2 E2 => v = none ∧ (∀ a ∈ L, a ∈ L2) ∧ (∀ a ∈ L, a ≠ h0 → E2 a = E a) ∧ ∃ (g : Nat → Value), E2 h0 = ob 9 8 g) := by
  refine Mq.mk (by decide) (Nat.le_of_ble_eq_true rfl) ?_
  intro p e s m args below meth c A C
  refine q_aload_n (j := 0) C dX8_init_0 rfl ?_
  refine q_objInit C dX8_init_1 w1_102 w1_30 w1_31 ⟨Nat.le_of_ble_eq_true rfl, Nat.le_of_ble_eq_true rfl⟩ (Nat.le_of_ble_eq_true rfl) ?_
  refine q_aload_n (j := 0) C dX8_init_4 rfl ?_
  refine q_iconst (v := 0) C dX8_init_5 (by decide) ?_
  refine q_put (k := 0) C ck_9 dX8_init_6 w1_103 (by decide) rfl hL hE rfl rfl ?_
  refine q_aload_n (j := 0) C dX8_init_9 rfl ?_
  refine q_iconst (v := 0) C dX8_init_10 (by decide) ?_
  refine q_put (k := 1) C ck_9 dX8_init_11 w1_104 (by decide) rfl hL (va_up_self _ _ _) (by decide) rfl ?_
  refine q_aload_n (j := 0) C dX8_init_14 rfl ?_
  refine q_iconst (v := 0) C dX8_init_15 (by decide) ?_
  refine q_put (k := 2) C ck_9 dX8_init_16 w1_105 (by decide) rfl hL (va_up_self _ _ _) (by decide) rfl ?_
  refine q_aload_n (j := 0) C dX8_init_19 rfl ?_
  refine q_bipush (v := 126) C dX8_init_20 (by decide) ?_
  refine q_newaZ (N := 126) C dX8_init_22 w1_129 (by decide) (by decide) (by decide) ⟨Nat.le_of_ble_eq_true rfl, Nat.le_of_ble_eq_true rfl⟩ (fun q1 nq1 => ?_)
  have ne_h0_q1 : h0 ≠ q1 := (ne_in hL nq1)
  refine q_putF (k := 3) C ck_9 dX8_init_24 w1_107 (by decide) rfl rfl rfl (List.mem_append_left _ hL) ((va_up_ne _ _ ne_h0_q1).trans (va_up_self _ _ _)) rfl rfl ?_
  refine q_aload_n (j := 0) C dX8_init_27 rfl ?_
  refine q_bipush (v := 126) C dX8_init_28 (by decide) ?_
  refine q_newaI (N := 126) C dX8_init_30 w1_57 (by decide) (by decide) (by decide) ⟨Nat.le_of_ble_eq_true rfl, Nat.le_of_ble_eq_true rfl⟩ (fun q2 nq2 => ?_)
  have ne_h0_q2 : h0 ≠ q2 := (ne_in (List.mem_append_left _ hL) nq2)
  have ne_q1_q2 : q1 ≠ q2 := (ne_in (List.mem_append_right _ (List.mem_singleton.mpr rfl)) nq2)
  refine q_putF (k := 4) C ck_9 dX8_init_32 w1_108 (by decide) rfl rfl rfl (List.mem_append_left _ (List.mem_append_left _ hL)) ((va_up_ne _ _ ne_h0_q2).trans (va_up_self _ _ _)) rfl rfl ?_
  refine q_aload_n (j := 0) C dX8_init_35 rfl ?_
  refine q_iconst (v := 0) C dX8_init_36 (by decide) ?_
  refine q_put (k := 5) C ck_9 dX8_init_37 w1_109 (by decide) rfl (List.mem_append_left _ (List.mem_append_left _ hL)) (va_up_self _ _ _) rfl rfl ?_
  refine q_aload_n (j := 0) C dX8_init_40 rfl ?_
  refine q_bipush (v := 6) C dX8_init_41 (by decide) ?_
  refine q_newaI (N := 6) C dX8_init_43 w1_57 (by decide) (by decide) (by decide) ⟨Nat.le_of_ble_eq_true rfl, Nat.le_of_ble_eq_true rfl⟩ (fun q3 nq3 => ?_)
  have ne_h0_q3 : h0 ≠ q3 := (ne_in (List.mem_append_left _ (List.mem_append_left _ hL)) nq3)
  have ne_q1_q3 : q1 ≠ q3 := (ne_in (List.mem_append_left _ (List.mem_append_right _ (List.mem_singleton.mpr rfl))) nq3)
  have ne_q2_q3 : q2 ≠ q3 := (ne_in (List.mem_append_right _ (List.mem_singleton.mpr rfl)) nq3)
  refine q_putF (k := 6) C ck_9 dX8_init_45 w1_110 (by decide) rfl rfl rfl (List.mem_append_left _ (List.mem_append_left _ (List.mem_append_left _ hL))) ((va_up_ne _ _ ne_h0_q3).trans (va_up_self _ _ _)) rfl rfl ?_
  refine q_aload_n (j := 0) C dX8_init_48 rfl ?_
  refine q_iconst (v := 0) C dX8_init_49 (by decide) ?_
  refine q_put (k := 7) C ck_9 dX8_init_50 w1_111 (by decide) rfl (List.mem_append_left _ (List.mem_append_left _ (List.mem_append_left _ hL))) (va_up_self _ _ _) rfl rfl ?_
  exact q_vret C dX8_init_53 rfl (Nat.le_of_ble_eq_true rfl) (Nat.le_of_ble_eq_true rfl) ⟨rfl, (fun aa haa => (List.mem_append_left _ (List.mem_append_left _ (List.mem_append_left _ haa)))), (fun aa haa naa => ((va_up_ne _ _ naa).trans ((va_up_ne _ _ naa).trans ((va_up_ne _ _ (ne_in (List.mem_append_left _ (List.mem_append_left _ haa)) nq3)).trans ((va_up_ne _ _ naa).trans ((va_up_ne _ _ naa).trans ((va_up_ne _ _ (ne_in (List.mem_append_left _ haa) nq2)).trans ((va_up_ne _ _ naa).trans ((va_up_ne _ _ (ne_in haa nq1)).trans ((va_up_ne _ _ naa).trans ((va_up_ne _ _ naa).trans ((va_up_ne _ _ naa).trans rfl)))))))))))), ⟨_, (va_up_self _ _ _)⟩⟩
set_option maxHeartbeats 4000000 in
set_option maxRecDepth 100000 in
theorem c_Reader_init {l : Launch} {G : GT} {L : List Nat} {E : Nat → va_E} {h0 : Nat} {f : Nat → Value}  (hL : h0 ∈ L) (hE : E h0 = ob 4 8 f) : Mq l G yX3_init cX3_init 1 none 4 [.ref h0] L E 12 101 (fun v L2 E2 => v = none ∧ (∀ a ∈ L, a ∈ L2) ∧ (∀ a ∈ L, a ≠ h0 → E2 a = E a) ∧ ∃ (g : Nat → Value), E2 h0 = ob 4 8 g) := by
  refine Mq.mk (by decide) (Nat.le_of_ble_eq_true rfl) ?_
  intro p e s m args below meth c A C
  refine q_aload_n (j := 0) C dX3_init_0 rfl ?_
  refine q_objInit C dX3_init_1 w1_184 w1_30 w1_31 ⟨Nat.le_of_ble_eq_true rfl, Nat.le_of_ble_eq_true rfl⟩ (Nat.le_of_ble_eq_true rfl) ?_
  refine q_aload_n (j := 0) C dX3_init_4 rfl ?_
  refine q_new C ck_0 dX3_init_5 w1_185 w1_65 w1_6 ⟨Nat.le_of_ble_eq_true rfl, Nat.le_of_ble_eq_true rfl⟩ (fun q1 nq1 => ?_)
  have ne_h0_q1 : h0 ≠ q1 := (ne_in hL nq1)
  refine q_dup C dX3_init_8 rfl ?_
  refine q_callI (As := []) (rest := [.ref q1, .ref h0]) C (c_ArrayList_init (List.mem_append_right _ (List.mem_singleton.mpr rfl)) (va_up_self _ _ _)) dX3_init_9 kI_X3_11 rfl rfl (Nat.le_of_ble_eq_true rfl) ⟨Nat.le_of_ble_eq_true rfl, Nat.le_of_ble_eq_true rfl⟩ ⟨Nat.le_of_ble_eq_true rfl, Nat.le_of_ble_eq_true rfl⟩ (fun vh1 Lh1 Eh1 h1 => ?_)
  obtain ⟨rfl, h1a, h1b, h1c⟩ := h1
  have et1 := (h1b _ (List.mem_append_left _ hL) ne_h0_q1).trans ((va_up_ne _ _ ne_h0_q1).trans hE)
  have lt1 := h1a _ (List.mem_append_left _ hL)
  refine q_st (st2 := [.ref q1, .ref h0]) rfl ?_
  refine q_putF (k := 0) C ck_4 dX3_init_12 w1_190 (by decide) rfl rfl rfl lt1 et1 rfl rfl ?_
  refine q_aload_n (j := 0) C dX3_init_15 rfl ?_
  refine q_new C ck_0 dX3_init_16 w1_185 w1_65 w1_6 ⟨Nat.le_of_ble_eq_true rfl, Nat.le_of_ble_eq_true rfl⟩ (fun q2 nq2 => ?_)
  have ne_h0_q2 : h0 ≠ q2 := (ne_in lt1 nq2)
  have ne_q1_q2 : q1 ≠ q2 := (ne_in (h1a _ (List.mem_append_right _ (List.mem_singleton.mpr rfl))) nq2)
  refine q_dup C dX3_init_19 rfl ?_
  refine q_callI (As := []) (rest := [.ref q2, .ref h0]) C (c_ArrayList_init (List.mem_append_right _ (List.mem_singleton.mpr rfl)) (va_up_self _ _ _)) dX3_init_20 kI_X3_11 rfl rfl (Nat.le_of_ble_eq_true rfl) ⟨Nat.le_of_ble_eq_true rfl, Nat.le_of_ble_eq_true rfl⟩ ⟨Nat.le_of_ble_eq_true rfl, Nat.le_of_ble_eq_true rfl⟩ (fun vh2 Lh2 Eh2 h2 => ?_)
  obtain ⟨rfl, h2a, h2b, h2c⟩ := h2
  have et2 := (h2b _ (List.mem_append_left _ lt1) ne_h0_q2).trans ((va_up_ne _ _ ne_h0_q2).trans (va_up_self _ _ _))
  have lt2 := h2a _ (List.mem_append_left _ lt1)
  have et3 := (h2b _ (List.mem_append_left _ (h1a _ (List.mem_append_right _ (List.mem_singleton.mpr rfl)))) ne_q1_q2).trans ((va_up_ne _ _ ne_q1_q2).trans ((va_up_ne _ _ (Ne.symm ne_h0_q1)).trans h1c))
  have lt3 := h2a _ (List.mem_append_left _ (h1a _ (List.mem_append_right _ (List.mem_singleton.mpr rfl))))
  refine q_st (st2 := [.ref q2, .ref h0]) rfl ?_
  refine q_putF (k := 1) C ck_4 dX3_init_23 w1_193 (by decide) rfl rfl rfl lt2 et2 rfl rfl ?_
  refine q_aload_n (j := 0) C dX3_init_26 rfl ?_
  refine q_new C ck_2 dX3_init_27 w1_187 w1_33 w1_2 ⟨Nat.le_of_ble_eq_true rfl, Nat.le_of_ble_eq_true rfl⟩ (fun q3 nq3 => ?_)
  have ne_h0_q3 : h0 ≠ q3 := (ne_in lt2 nq3)
  have ne_q1_q3 : q1 ≠ q3 := (ne_in lt3 nq3)
  have ne_q2_q3 : q2 ≠ q3 := (ne_in (h2a _ (List.mem_append_right _ (List.mem_singleton.mpr rfl))) nq3)
  refine q_dup C dX3_init_30 rfl ?_
  refine q_sipush (v := 6003) C dX3_init_31 (by decide) ?_
  refine q_callI (As := [.int 6003]) (rest := [.ref q3, .ref h0]) C (c_Ints_init 6003 (List.mem_append_right _ (List.mem_singleton.mpr rfl)) (va_up_self _ _ _)) dX3_init_34 kI_X3_23 rfl rfl (Nat.le_of_ble_eq_true rfl) ⟨Nat.le_of_ble_eq_true rfl, Nat.le_of_ble_eq_true rfl⟩ ⟨Nat.le_of_ble_eq_true rfl, Nat.le_of_ble_eq_true rfl⟩ (fun vh3 Lh3 Eh3 h3 => ?_)
  obtain ⟨rfl, h3a, h3b, r1, gr1, nr1, lr1, h3c, h30, h31, h32, h3d⟩ := h3
  have et4 := (h3b _ (List.mem_append_left _ lt2) ne_h0_q3).trans ((va_up_ne _ _ ne_h0_q3).trans (va_up_self _ _ _))
  have lt4 := h3a _ (List.mem_append_left _ lt2)
  have et5 := (h3b _ (List.mem_append_left _ lt3) ne_q1_q3).trans ((va_up_ne _ _ ne_q1_q3).trans ((va_up_ne _ _ (Ne.symm ne_h0_q1)).trans et3))
  have lt5 := h3a _ (List.mem_append_left _ lt3)
  have et6 := (h3b _ (List.mem_append_left _ (h2a _ (List.mem_append_right _ (List.mem_singleton.mpr rfl)))) ne_q2_q3).trans ((va_up_ne _ _ ne_q2_q3).trans ((va_up_ne _ _ (Ne.symm ne_h0_q2)).trans h2c))
  have lt6 := h3a _ (List.mem_append_left _ (h2a _ (List.mem_append_right _ (List.mem_singleton.mpr rfl))))
  refine q_st (st2 := [.ref q3, .ref h0]) rfl ?_
  refine q_putF (k := 2) C ck_4 dX3_init_37 w1_196 (by decide) rfl rfl rfl lt4 et4 rfl rfl ?_
  refine q_aload_n (j := 0) C dX3_init_40 rfl ?_
  refine q_new C ck_2 dX3_init_41 w1_187 w1_33 w1_2 ⟨Nat.le_of_ble_eq_true rfl, Nat.le_of_ble_eq_true rfl⟩ (fun q4 nq4 => ?_)
  have ne_h0_q4 : h0 ≠ q4 := (ne_in lt4 nq4)
  have ne_q1_q4 : q1 ≠ q4 := (ne_in lt5 nq4)
  have ne_q2_q4 : q2 ≠ q4 := (ne_in lt6 nq4)
  have ne_q3_q4 : q3 ≠ q4 := (ne_in (h3a _ (List.mem_append_right _ (List.mem_singleton.mpr rfl))) nq4)
  have ne_r1_q4 : r1 ≠ q4 := (ne_in lr1 nq4)
  refine q_dup C dX3_init_44 rfl ?_
  refine q_sipush (v := 6003) C dX3_init_45 (by decide) ?_
  refine q_callI (As := [.int 6003]) (rest := [.ref q4, .ref h0]) C (c_Ints_init 6003 (List.mem_append_right _ (List.mem_singleton.mpr rfl)) (va_up_self _ _ _)) dX3_init_48 kI_X3_23 rfl rfl (Nat.le_of_ble_eq_true rfl) ⟨Nat.le_of_ble_eq_true rfl, Nat.le_of_ble_eq_true rfl⟩ ⟨Nat.le_of_ble_eq_true rfl, Nat.le_of_ble_eq_true rfl⟩ (fun vh4 Lh4 Eh4 h4 => ?_)
  obtain ⟨rfl, h4a, h4b, r2, gr2, nr2, lr2, h4c, h40, h41, h42, h4d⟩ := h4
  have et7 := (h4b _ (List.mem_append_left _ lt4) ne_h0_q4).trans ((va_up_ne _ _ ne_h0_q4).trans (va_up_self _ _ _))
  have lt7 := h4a _ (List.mem_append_left _ lt4)
  have et8 := (h4b _ (List.mem_append_left _ lt5) ne_q1_q4).trans ((va_up_ne _ _ ne_q1_q4).trans ((va_up_ne _ _ (Ne.symm ne_h0_q1)).trans et5))
  have lt8 := h4a _ (List.mem_append_left _ lt5)
  have et9 := (h4b _ (List.mem_append_left _ lt6) ne_q2_q4).trans ((va_up_ne _ _ ne_q2_q4).trans ((va_up_ne _ _ (Ne.symm ne_h0_q2)).trans et6))
  have lt9 := h4a _ (List.mem_append_left _ lt6)
  have et10 := (h4b _ (List.mem_append_left _ (h3a _ (List.mem_append_right _ (List.mem_singleton.mpr rfl)))) ne_q3_q4).trans ((va_up_ne _ _ ne_q3_q4).trans ((va_up_ne _ _ (Ne.symm ne_h0_q3)).trans h3c))
  have lt10 := h4a _ (List.mem_append_left _ (h3a _ (List.mem_append_right _ (List.mem_singleton.mpr rfl))))
  have et11 := (h4b _ (List.mem_append_left _ lr1) ne_r1_q4).trans ((va_up_ne _ _ ne_r1_q4).trans ((va_up_ne _ _ (Ne.symm (ne_in (List.mem_append_left _ lt2) nr1))).trans h3d))
  have lt11 := h4a _ (List.mem_append_left _ lr1)
  refine q_st (st2 := [.ref q4, .ref h0]) rfl ?_
  refine q_putF (k := 3) C ck_4 dX3_init_51 w1_197 (by decide) rfl rfl rfl lt7 et7 rfl rfl ?_
  refine q_aload_n (j := 0) C dX3_init_54 rfl ?_
  refine q_new C ck_2 dX3_init_55 w1_187 w1_33 w1_2 ⟨Nat.le_of_ble_eq_true rfl, Nat.le_of_ble_eq_true rfl⟩ (fun q5 nq5 => ?_)
  have ne_h0_q5 : h0 ≠ q5 := (ne_in lt7 nq5)
  have ne_q1_q5 : q1 ≠ q5 := (ne_in lt8 nq5)
  have ne_q2_q5 : q2 ≠ q5 := (ne_in lt9 nq5)
  have ne_q3_q5 : q3 ≠ q5 := (ne_in lt10 nq5)
  have ne_r1_q5 : r1 ≠ q5 := (ne_in lt11 nq5)
  have ne_q4_q5 : q4 ≠ q5 := (ne_in (h4a _ (List.mem_append_right _ (List.mem_singleton.mpr rfl))) nq5)
  have ne_r2_q5 : r2 ≠ q5 := (ne_in lr2 nq5)
  refine q_dup C dX3_init_58 rfl ?_
  refine q_ldc (v := 40200) C dX3_init_59 w1_189 ?_
  refine q_callI (As := [.int 40200]) (rest := [.ref q5, .ref h0]) C (c_Ints_init 40200 (List.mem_append_right _ (List.mem_singleton.mpr rfl)) (va_up_self _ _ _)) dX3_init_61 kI_X3_23 rfl rfl (Nat.le_of_ble_eq_true rfl) ⟨Nat.le_of_ble_eq_true rfl, Nat.le_of_ble_eq_true rfl⟩ ⟨Nat.le_of_ble_eq_true rfl, Nat.le_of_ble_eq_true rfl⟩ (fun vh5 Lh5 Eh5 h5 => ?_)
  obtain ⟨rfl, h5a, h5b, r3, gr3, nr3, lr3, h5c, h50, h51, h52, h5d⟩ := h5
  have et12 := (h5b _ (List.mem_append_left _ lt7) ne_h0_q5).trans ((va_up_ne _ _ ne_h0_q5).trans (va_up_self _ _ _))
  have lt12 := h5a _ (List.mem_append_left _ lt7)
  have et13 := (h5b _ (List.mem_append_left _ lt8) ne_q1_q5).trans ((va_up_ne _ _ ne_q1_q5).trans ((va_up_ne _ _ (Ne.symm ne_h0_q1)).trans et8))
  have lt13 := h5a _ (List.mem_append_left _ lt8)
  have et14 := (h5b _ (List.mem_append_left _ lt9) ne_q2_q5).trans ((va_up_ne _ _ ne_q2_q5).trans ((va_up_ne _ _ (Ne.symm ne_h0_q2)).trans et9))
  have lt14 := h5a _ (List.mem_append_left _ lt9)
  have et15 := (h5b _ (List.mem_append_left _ lt10) ne_q3_q5).trans ((va_up_ne _ _ ne_q3_q5).trans ((va_up_ne _ _ (Ne.symm ne_h0_q3)).trans et10))
  have lt15 := h5a _ (List.mem_append_left _ lt10)
  have et16 := (h5b _ (List.mem_append_left _ lt11) ne_r1_q5).trans ((va_up_ne _ _ ne_r1_q5).trans ((va_up_ne _ _ (Ne.symm (ne_in (List.mem_append_left _ lt2) nr1))).trans et11))
  have lt16 := h5a _ (List.mem_append_left _ lt11)
  have et17 := (h5b _ (List.mem_append_left _ (h4a _ (List.mem_append_right _ (List.mem_singleton.mpr rfl)))) ne_q4_q5).trans ((va_up_ne _ _ ne_q4_q5).trans ((va_up_ne _ _ (Ne.symm ne_h0_q4)).trans h4c))
  have lt17 := h5a _ (List.mem_append_left _ (h4a _ (List.mem_append_right _ (List.mem_singleton.mpr rfl))))
  have et18 := (h5b _ (List.mem_append_left _ lr2) ne_r2_q5).trans ((va_up_ne _ _ ne_r2_q5).trans ((va_up_ne _ _ (Ne.symm (ne_in (List.mem_append_left _ lt4) nr2))).trans h4d))
  have lt18 := h5a _ (List.mem_append_left _ lr2)
  refine q_st (st2 := [.ref q5, .ref h0]) rfl ?_
  refine q_putF (k := 4) C ck_4 dX3_init_64 w1_198 (by decide) rfl rfl rfl lt12 et12 rfl rfl ?_
  refine q_aload_n (j := 0) C dX3_init_67 rfl ?_
  refine q_new C ck_2 dX3_init_68 w1_187 w1_33 w1_2 ⟨Nat.le_of_ble_eq_true rfl, Nat.le_of_ble_eq_true rfl⟩ (fun q6 nq6 => ?_)
  have ne_h0_q6 : h0 ≠ q6 := (ne_in lt12 nq6)
  have ne_q1_q6 : q1 ≠ q6 := (ne_in lt13 nq6)
  have ne_q2_q6 : q2 ≠ q6 := (ne_in lt14 nq6)
  have ne_q3_q6 : q3 ≠ q6 := (ne_in lt15 nq6)
  have ne_r1_q6 : r1 ≠ q6 := (ne_in lt16 nq6)
  have ne_q4_q6 : q4 ≠ q6 := (ne_in lt17 nq6)
  have ne_r2_q6 : r2 ≠ q6 := (ne_in lt18 nq6)
  have ne_q5_q6 : q5 ≠ q6 := (ne_in (h5a _ (List.mem_append_right _ (List.mem_singleton.mpr rfl))) nq6)
  have ne_r3_q6 : r3 ≠ q6 := (ne_in lr3 nq6)
  refine q_dup C dX3_init_71 rfl ?_
  refine q_ldc (v := 40200) C dX3_init_72 w1_189 ?_
  refine q_callI (As := [.int 40200]) (rest := [.ref q6, .ref h0]) C (c_Ints_init 40200 (List.mem_append_right _ (List.mem_singleton.mpr rfl)) (va_up_self _ _ _)) dX3_init_74 kI_X3_23 rfl rfl (Nat.le_of_ble_eq_true rfl) ⟨Nat.le_of_ble_eq_true rfl, Nat.le_of_ble_eq_true rfl⟩ ⟨Nat.le_of_ble_eq_true rfl, Nat.le_of_ble_eq_true rfl⟩ (fun vh6 Lh6 Eh6 h6 => ?_)
  obtain ⟨rfl, h6a, h6b, r4, gr4, nr4, lr4, h6c, h60, h61, h62, h6d⟩ := h6
  have et19 := (h6b _ (List.mem_append_left _ lt12) ne_h0_q6).trans ((va_up_ne _ _ ne_h0_q6).trans (va_up_self _ _ _))
  have lt19 := h6a _ (List.mem_append_left _ lt12)
  have et20 := (h6b _ (List.mem_append_left _ lt13) ne_q1_q6).trans ((va_up_ne _ _ ne_q1_q6).trans ((va_up_ne _ _ (Ne.symm ne_h0_q1)).trans et13))
  have lt20 := h6a _ (List.mem_append_left _ lt13)
  have et21 := (h6b _ (List.mem_append_left _ lt14) ne_q2_q6).trans ((va_up_ne _ _ ne_q2_q6).trans ((va_up_ne _ _ (Ne.symm ne_h0_q2)).trans et14))
  have lt21 := h6a _ (List.mem_append_left _ lt14)
  have et22 := (h6b _ (List.mem_append_left _ lt15) ne_q3_q6).trans ((va_up_ne _ _ ne_q3_q6).trans ((va_up_ne _ _ (Ne.symm ne_h0_q3)).trans et15))
  have lt22 := h6a _ (List.mem_append_left _ lt15)
  have et23 := (h6b _ (List.mem_append_left _ lt16) ne_r1_q6).trans ((va_up_ne _ _ ne_r1_q6).trans ((va_up_ne _ _ (Ne.symm (ne_in (List.mem_append_left _ lt2) nr1))).trans et16))
  have lt23 := h6a _ (List.mem_append_left _ lt16)
  have et24 := (h6b _ (List.mem_append_left _ lt17) ne_q4_q6).trans ((va_up_ne _ _ ne_q4_q6).trans ((va_up_ne _ _ (Ne.symm ne_h0_q4)).trans et17))
  have lt24 := h6a _ (List.mem_append_left _ lt17)
  have et25 := (h6b _ (List.mem_append_left _ lt18) ne_r2_q6).trans ((va_up_ne _ _ ne_r2_q6).trans ((va_up_ne _ _ (Ne.symm (ne_in (List.mem_append_left _ lt4) nr2))).trans et18))
  have lt25 := h6a _ (List.mem_append_left _ lt18)
  have et26 := (h6b _ (List.mem_append_left _ (h5a _ (List.mem_append_right _ (List.mem_singleton.mpr rfl)))) ne_q5_q6).trans ((va_up_ne _ _ ne_q5_q6).trans ((va_up_ne _ _ (Ne.symm ne_h0_q5)).trans h5c))
  have lt26 := h6a _ (List.mem_append_left _ (h5a _ (List.mem_append_right _ (List.mem_singleton.mpr rfl))))
  have et27 := (h6b _ (List.mem_append_left _ lr3) ne_r3_q6).trans ((va_up_ne _ _ ne_r3_q6).trans ((va_up_ne _ _ (Ne.symm (ne_in (List.mem_append_left _ lt7) nr3))).trans h5d))
  have lt27 := h6a _ (List.mem_append_left _ lr3)
  refine q_st (st2 := [.ref q6, .ref h0]) rfl ?_
  refine q_putF (k := 5) C ck_4 dX3_init_77 w1_199 (by decide) rfl rfl rfl lt19 et19 rfl rfl ?_
  refine q_aload_n (j := 0) C dX3_init_80 rfl ?_
  refine q_new C ck_2 dX3_init_81 w1_187 w1_33 w1_2 ⟨Nat.le_of_ble_eq_true rfl, Nat.le_of_ble_eq_true rfl⟩ (fun q7 nq7 => ?_)
  have ne_h0_q7 : h0 ≠ q7 := (ne_in lt19 nq7)
  have ne_q1_q7 : q1 ≠ q7 := (ne_in lt20 nq7)
  have ne_q2_q7 : q2 ≠ q7 := (ne_in lt21 nq7)
  have ne_q3_q7 : q3 ≠ q7 := (ne_in lt22 nq7)
  have ne_r1_q7 : r1 ≠ q7 := (ne_in lt23 nq7)
  have ne_q4_q7 : q4 ≠ q7 := (ne_in lt24 nq7)
  have ne_r2_q7 : r2 ≠ q7 := (ne_in lt25 nq7)
  have ne_q5_q7 : q5 ≠ q7 := (ne_in lt26 nq7)
  have ne_r3_q7 : r3 ≠ q7 := (ne_in lt27 nq7)
  have ne_q6_q7 : q6 ≠ q7 := (ne_in (h6a _ (List.mem_append_right _ (List.mem_singleton.mpr rfl))) nq7)
  have ne_r4_q7 : r4 ≠ q7 := (ne_in lr4 nq7)
  refine q_dup C dX3_init_84 rfl ?_
  refine q_sipush (v := 4001) C dX3_init_85 (by decide) ?_
  refine q_callI (As := [.int 4001]) (rest := [.ref q7, .ref h0]) C (c_Ints_init 4001 (List.mem_append_right _ (List.mem_singleton.mpr rfl)) (va_up_self _ _ _)) dX3_init_88 kI_X3_23 rfl rfl (Nat.le_of_ble_eq_true rfl) ⟨Nat.le_of_ble_eq_true rfl, Nat.le_of_ble_eq_true rfl⟩ ⟨Nat.le_of_ble_eq_true rfl, Nat.le_of_ble_eq_true rfl⟩ (fun vh7 Lh7 Eh7 h7 => ?_)
  obtain ⟨rfl, h7a, h7b, r5, gr5, nr5, lr5, h7c, h70, h71, h72, h7d⟩ := h7
  have et28 := (h7b _ (List.mem_append_left _ lt19) ne_h0_q7).trans ((va_up_ne _ _ ne_h0_q7).trans (va_up_self _ _ _))
  have lt28 := h7a _ (List.mem_append_left _ lt19)
  have et29 := (h7b _ (List.mem_append_left _ lt20) ne_q1_q7).trans ((va_up_ne _ _ ne_q1_q7).trans ((va_up_ne _ _ (Ne.symm ne_h0_q1)).trans et20))
  have lt29 := h7a _ (List.mem_append_left _ lt20)
  have et30 := (h7b _ (List.mem_append_left _ lt21) ne_q2_q7).trans ((va_up_ne _ _ ne_q2_q7).trans ((va_up_ne _ _ (Ne.symm ne_h0_q2)).trans et21))
  have lt30 := h7a _ (List.mem_append_left _ lt21)
  have et31 := (h7b _ (List.mem_append_left _ lt22) ne_q3_q7).trans ((va_up_ne _ _ ne_q3_q7).trans ((va_up_ne _ _ (Ne.symm ne_h0_q3)).trans et22))
  have lt31 := h7a _ (List.mem_append_left _ lt22)
  have et32 := (h7b _ (List.mem_append_left _ lt23) ne_r1_q7).trans ((va_up_ne _ _ ne_r1_q7).trans ((va_up_ne _ _ (Ne.symm (ne_in (List.mem_append_left _ lt2) nr1))).trans et23))
  have lt32 := h7a _ (List.mem_append_left _ lt23)
  have et33 := (h7b _ (List.mem_append_left _ lt24) ne_q4_q7).trans ((va_up_ne _ _ ne_q4_q7).trans ((va_up_ne _ _ (Ne.symm ne_h0_q4)).trans et24))
  have lt33 := h7a _ (List.mem_append_left _ lt24)
  have et34 := (h7b _ (List.mem_append_left _ lt25) ne_r2_q7).trans ((va_up_ne _ _ ne_r2_q7).trans ((va_up_ne _ _ (Ne.symm (ne_in (List.mem_append_left _ lt4) nr2))).trans et25))
  have lt34 := h7a _ (List.mem_append_left _ lt25)
  have et35 := (h7b _ (List.mem_append_left _ lt26) ne_q5_q7).trans ((va_up_ne _ _ ne_q5_q7).trans ((va_up_ne _ _ (Ne.symm ne_h0_q5)).trans et26))
  have lt35 := h7a _ (List.mem_append_left _ lt26)
  have et36 := (h7b _ (List.mem_append_left _ lt27) ne_r3_q7).trans ((va_up_ne _ _ ne_r3_q7).trans ((va_up_ne _ _ (Ne.symm (ne_in (List.mem_append_left _ lt7) nr3))).trans et27))
  have lt36 := h7a _ (List.mem_append_left _ lt27)
  have et37 := (h7b _ (List.mem_append_left _ (h6a _ (List.mem_append_right _ (List.mem_singleton.mpr rfl)))) ne_q6_q7).trans ((va_up_ne _ _ ne_q6_q7).trans ((va_up_ne _ _ (Ne.symm ne_h0_q6)).trans h6c))
  have lt37 := h7a _ (List.mem_append_left _ (h6a _ (List.mem_append_right _ (List.mem_singleton.mpr rfl))))
  have et38 := (h7b _ (List.mem_append_left _ lr4) ne_r4_q7).trans ((va_up_ne _ _ ne_r4_q7).trans ((va_up_ne _ _ (Ne.symm (ne_in (List.mem_append_left _ lt12) nr4))).trans h6d))
  have lt38 := h7a _ (List.mem_append_left _ lr4)
  refine q_st (st2 := [.ref q7, .ref h0]) rfl ?_
  refine q_putF (k := 6) C ck_4 dX3_init_91 w1_200 (by decide) rfl rfl rfl lt28 et28 rfl rfl ?_
  refine q_aload_n (j := 0) C dX3_init_94 rfl ?_
  refine q_iconst (v := 0) C dX3_init_95 (by decide) ?_
  refine q_put (k := 7) C ck_4 dX3_init_96 w1_202 (by decide) rfl lt28 (va_up_self _ _ _) rfl rfl ?_
  exact q_vret C dX3_init_99 rfl (Nat.le_of_ble_eq_true rfl) (Nat.le_of_ble_eq_true rfl) ⟨rfl, (fun aa haa => (h7a _ (List.mem_append_left _ (h6a _ (List.mem_append_left _ (h5a _ (List.mem_append_left _ (h4a _ (List.mem_append_left _ (h3a _ (List.mem_append_left _ (h2a _ (List.mem_append_left _ (h1a _ (List.mem_append_left _ haa))))))))))))))), (fun aa haa naa => ((va_up_ne _ _ naa).trans ((va_up_ne _ _ naa).trans ((h7b _ (List.mem_append_left _ (h6a _ (List.mem_append_left _ (h5a _ (List.mem_append_left _ (h4a _ (List.mem_append_left _ (h3a _ (List.mem_append_left _ (h2a _ (List.mem_append_left _ (h1a _ (List.mem_append_left _ haa))))))))))))) (ne_in (h6a _ (List.mem_append_left _ (h5a _ (List.mem_append_left _ (h4a _ (List.mem_append_left _ (h3a _ (List.mem_append_left _ (h2a _ (List.mem_append_left _ (h1a _ (List.mem_append_left _ haa)))))))))))) nq7)).trans ((va_up_ne _ _ (ne_in (h6a _ (List.mem_append_left _ (h5a _ (List.mem_append_left _ (h4a _ (List.mem_append_left _ (h3a _ (List.mem_append_left _ (h2a _ (List.mem_append_left _ (h1a _ (List.mem_append_left _ haa)))))))))))) nq7)).trans ((va_up_ne _ _ naa).trans ((h6b _ (List.mem_append_left _ (h5a _ (List.mem_append_left _ (h4a _ (List.mem_append_left _ (h3a _ (List.mem_append_left _ (h2a _ (List.mem_append_left _ (h1a _ (List.mem_append_left _ haa))))))))))) (ne_in (h5a _ (List.mem_append_left _ (h4a _ (List.mem_append_left _ (h3a _ (List.mem_append_left _ (h2a _ (List.mem_append_left _ (h1a _ (List.mem_append_left _ haa)))))))))) nq6)).trans ((va_up_ne _ _ (ne_in (h5a _ (List.mem_append_left _ (h4a _ (List.mem_append_left _ (h3a _ (List.mem_append_left _ (h2a _ (List.mem_append_left _ (h1a _ (List.mem_append_left _ haa)))))))))) nq6)).trans ((va_up_ne _ _ naa).trans ((h5b _ (List.mem_append_left _ (h4a _ (List.mem_append_left _ (h3a _ (List.mem_append_left _ (h2a _ (List.mem_append_left _ (h1a _ (List.mem_append_left _ haa))))))))) (ne_in (h4a _ (List.mem_append_left _ (h3a _ (List.mem_append_left _ (h2a _ (List.mem_append_left _ (h1a _ (List.mem_append_left _ haa)))))))) nq5)).trans ((va_up_ne _ _ (ne_in (h4a _ (List.mem_append_left _ (h3a _ (List.mem_append_left _ (h2a _ (List.mem_append_left _ (h1a _ (List.mem_append_left _ haa)))))))) nq5)).trans ((va_up_ne _ _ naa).trans ((h4b _ (List.mem_append_left _ (h3a _ (List.mem_append_left _ (h2a _ (List.mem_append_left _ (h1a _ (List.mem_append_left _ haa))))))) (ne_in (h3a _ (List.mem_append_left _ (h2a _ (List.mem_append_left _ (h1a _ (List.mem_append_left _ haa)))))) nq4)).trans ((va_up_ne _ _ (ne_in (h3a _ (List.mem_append_left _ (h2a _ (List.mem_append_left _ (h1a _ (List.mem_append_left _ haa)))))) nq4)).trans ((va_up_ne _ _ naa).trans ((h3b _ (List.mem_append_left _ (h2a _ (List.mem_append_left _ (h1a _ (List.mem_append_left _ haa))))) (ne_in (h2a _ (List.mem_append_left _ (h1a _ (List.mem_append_left _ haa)))) nq3)).trans ((va_up_ne _ _ (ne_in (h2a _ (List.mem_append_left _ (h1a _ (List.mem_append_left _ haa)))) nq3)).trans ((va_up_ne _ _ naa).trans ((h2b _ (List.mem_append_left _ (h1a _ (List.mem_append_left _ haa))) (ne_in (h1a _ (List.mem_append_left _ haa)) nq2)).trans ((va_up_ne _ _ (ne_in (h1a _ (List.mem_append_left _ haa)) nq2)).trans ((va_up_ne _ _ naa).trans ((h1b _ (List.mem_append_left _ haa) (ne_in haa nq1)).trans ((va_up_ne _ _ (ne_in haa nq1)).trans rfl))))))))))))))))))))))), ⟨_, (va_up_self _ _ _)⟩⟩
set_option maxHeartbeats 4000000 in
set_option maxRecDepth 100000 in
theorem c_Readings_init {l : Launch} {G : GT} {L : List Nat} {E : Nat → va_E} {h0 : Nat} {f : Nat → Value} {rd : Nat} (hL : h0 ∈ L) (hE : E h0 = ob 5 11 f) : Mq l G yX4_init cX4_init 2 none 2 [.ref h0, .ref rd] L E 7 775 (fun v L2 E2 => v = none ∧ (∀ a ∈ L, a ∈ L2) ∧ (∀ a ∈ L, a ≠ h0 → E2 a = E a) ∧ ∃ (g : Nat → Value), E2 h0 = ob 5 11 g ∧ g 5 = .int 0 ∧ g 6 = .int 0) := by
  refine Mq.mk (by decide) (Nat.le_of_ble_eq_true rfl) ?_
  intro p e s m args below meth c A C
  refine q_aload_n (j := 0) C dX4_init_0 rfl ?_
  refine q_objInit C dX4_init_1 w1_225 w1_30 w1_31 ⟨Nat.le_of_ble_eq_true rfl, Nat.le_of_ble_eq_true rfl⟩ (Nat.le_of_ble_eq_true rfl) ?_
  refine q_aload_n (j := 0) C dX4_init_4 rfl ?_
  refine q_sipush (v := 404) C dX4_init_5 (by decide) ?_
  refine q_newaZ (N := 404) C dX4_init_8 w1_129 (by decide) (by decide) (by decide) ⟨Nat.le_of_ble_eq_true rfl, Nat.le_of_ble_eq_true rfl⟩ (fun q1 nq1 => ?_)
  have ne_h0_q1 : h0 ≠ q1 := (ne_in hL nq1)
  refine q_putF (k := 0) C ck_5 dX4_init_10 w1_229 (by decide) rfl rfl rfl (List.mem_append_left _ hL) ((va_up_ne _ _ ne_h0_q1).trans hE) rfl rfl ?_
  refine q_aload_n (j := 0) C dX4_init_13 rfl ?_
  refine q_bipush (v := 101) C dX4_init_14 (by decide) ?_
  refine q_newaI (N := 101) C dX4_init_16 w1_57 (by decide) (by decide) (by decide) ⟨Nat.le_of_ble_eq_true rfl, Nat.le_of_ble_eq_true rfl⟩ (fun q2 nq2 => ?_)
  have ne_h0_q2 : h0 ≠ q2 := (ne_in (List.mem_append_left _ hL) nq2)
  have ne_q1_q2 : q1 ≠ q2 := (ne_in (List.mem_append_right _ (List.mem_singleton.mpr rfl)) nq2)
  refine q_putF (k := 1) C ck_5 dX4_init_18 w1_230 (by decide) rfl rfl rfl (List.mem_append_left _ (List.mem_append_left _ hL)) ((va_up_ne _ _ ne_h0_q2).trans (va_up_self _ _ _)) rfl rfl ?_
  refine q_aload_n (j := 0) C dX4_init_21 rfl ?_
  refine q_bipush (v := 101) C dX4_init_22 (by decide) ?_
  refine q_newaI (N := 101) C dX4_init_24 w1_57 (by decide) (by decide) (by decide) ⟨Nat.le_of_ble_eq_true rfl, Nat.le_of_ble_eq_true rfl⟩ (fun q3 nq3 => ?_)
  have ne_h0_q3 : h0 ≠ q3 := (ne_in (List.mem_append_left _ (List.mem_append_left _ hL)) nq3)
  have ne_q1_q3 : q1 ≠ q3 := (ne_in (List.mem_append_left _ (List.mem_append_right _ (List.mem_singleton.mpr rfl))) nq3)
  have ne_q2_q3 : q2 ≠ q3 := (ne_in (List.mem_append_right _ (List.mem_singleton.mpr rfl)) nq3)
  refine q_putF (k := 2) C ck_5 dX4_init_26 w1_231 (by decide) rfl rfl rfl (List.mem_append_left _ (List.mem_append_left _ (List.mem_append_left _ hL))) ((va_up_ne _ _ ne_h0_q3).trans (va_up_self _ _ _)) rfl rfl ?_
  refine q_aload_n (j := 0) C dX4_init_29 rfl ?_
  refine q_bipush (v := 50) C dX4_init_30 (by decide) ?_
  refine q_newaI (N := 50) C dX4_init_32 w1_57 (by decide) (by decide) (by decide) ⟨Nat.le_of_ble_eq_true rfl, Nat.le_of_ble_eq_true rfl⟩ (fun q4 nq4 => ?_)
  have ne_h0_q4 : h0 ≠ q4 := (ne_in (List.mem_append_left _ (List.mem_append_left _ (List.mem_append_left _ hL))) nq4)
  have ne_q1_q4 : q1 ≠ q4 := (ne_in (List.mem_append_left _ (List.mem_append_left _ (List.mem_append_right _ (List.mem_singleton.mpr rfl)))) nq4)
  have ne_q2_q4 : q2 ≠ q4 := (ne_in (List.mem_append_left _ (List.mem_append_right _ (List.mem_singleton.mpr rfl))) nq4)
  have ne_q3_q4 : q3 ≠ q4 := (ne_in (List.mem_append_right _ (List.mem_singleton.mpr rfl)) nq4)
  refine q_putF (k := 3) C ck_5 dX4_init_34 w1_232 (by decide) rfl rfl rfl (List.mem_append_left _ (List.mem_append_left _ (List.mem_append_left _ (List.mem_append_left _ hL)))) ((va_up_ne _ _ ne_h0_q4).trans (va_up_self _ _ _)) rfl rfl ?_
  refine q_aload_n (j := 0) C dX4_init_37 rfl ?_
  refine q_new C ck_2 dX4_init_38 w1_226 w1_33 w1_2 ⟨Nat.le_of_ble_eq_true rfl, Nat.le_of_ble_eq_true rfl⟩ (fun q5 nq5 => ?_)
  have ne_h0_q5 : h0 ≠ q5 := (ne_in (List.mem_append_left _ (List.mem_append_left _ (List.mem_append_left _ (List.mem_append_left _ hL)))) nq5)
  have ne_q1_q5 : q1 ≠ q5 := (ne_in (List.mem_append_left _ (List.mem_append_left _ (List.mem_append_left _ (List.mem_append_right _ (List.mem_singleton.mpr rfl))))) nq5)
  have ne_q2_q5 : q2 ≠ q5 := (ne_in (List.mem_append_left _ (List.mem_append_left _ (List.mem_append_right _ (List.mem_singleton.mpr rfl)))) nq5)
  have ne_q3_q5 : q3 ≠ q5 := (ne_in (List.mem_append_left _ (List.mem_append_right _ (List.mem_singleton.mpr rfl))) nq5)
  have ne_q4_q5 : q4 ≠ q5 := (ne_in (List.mem_append_right _ (List.mem_singleton.mpr rfl)) nq5)
  refine q_dup C dX4_init_41 rfl ?_
  refine q_ldc (v := 40000) C dX4_init_42 w1_227 ?_
  refine q_callI (As := [.int 40000]) (rest := [.ref q5, .ref h0]) C (c_Ints_init 40000 (List.mem_append_right _ (List.mem_singleton.mpr rfl)) (va_up_self _ _ _)) dX4_init_44 kI_X4_28 rfl rfl (Nat.le_of_ble_eq_true rfl) ⟨Nat.le_of_ble_eq_true rfl, Nat.le_of_ble_eq_true rfl⟩ ⟨Nat.le_of_ble_eq_true rfl, Nat.le_of_ble_eq_true rfl⟩ (fun vh1 Lh1 Eh1 h1 => ?_)
  obtain ⟨rfl, h1a, h1b, r1, gr1, nr1, lr1, h1c, h10, h11, h12, h1d⟩ := h1
  have et1 := (h1b _ (List.mem_append_left _ (List.mem_append_left _ (List.mem_append_left _ (List.mem_append_left _ (List.mem_append_left _ hL))))) ne_h0_q5).trans ((va_up_ne _ _ ne_h0_q5).trans (va_up_self _ _ _))
  have lt1 := h1a _ (List.mem_append_left _ (List.mem_append_left _ (List.mem_append_left _ (List.mem_append_left _ (List.mem_append_left _ hL)))))
  have et2 := (h1b _ (List.mem_append_left _ (List.mem_append_left _ (List.mem_append_left _ (List.mem_append_left _ (List.mem_append_right _ (List.mem_singleton.mpr rfl)))))) ne_q1_q5).trans ((va_up_ne _ _ ne_q1_q5).trans ((va_up_ne _ _ (Ne.symm ne_h0_q1)).trans ((va_up_ne _ _ ne_q1_q4).trans ((va_up_ne _ _ (Ne.symm ne_h0_q1)).trans ((va_up_ne _ _ ne_q1_q3).trans ((va_up_ne _ _ (Ne.symm ne_h0_q1)).trans ((va_up_ne _ _ ne_q1_q2).trans ((va_up_ne _ _ (Ne.symm ne_h0_q1)).trans (va_up_self _ _ _)))))))))
  have lt2 := h1a _ (List.mem_append_left _ (List.mem_append_left _ (List.mem_append_left _ (List.mem_append_left _ (List.mem_append_right _ (List.mem_singleton.mpr rfl))))))
  have et3 := (h1b _ (List.mem_append_left _ (List.mem_append_left _ (List.mem_append_left _ (List.mem_append_right _ (List.mem_singleton.mpr rfl))))) ne_q2_q5).trans ((va_up_ne _ _ ne_q2_q5).trans ((va_up_ne _ _ (Ne.symm ne_h0_q2)).trans ((va_up_ne _ _ ne_q2_q4).trans ((va_up_ne _ _ (Ne.symm ne_h0_q2)).trans ((va_up_ne _ _ ne_q2_q3).trans ((va_up_ne _ _ (Ne.symm ne_h0_q2)).trans (va_up_self _ _ _)))))))
  have lt3 := h1a _ (List.mem_append_left _ (List.mem_append_left _ (List.mem_append_left _ (List.mem_append_right _ (List.mem_singleton.mpr rfl)))))
  have et4 := (h1b _ (List.mem_append_left _ (List.mem_append_left _ (List.mem_append_right _ (List.mem_singleton.mpr rfl)))) ne_q3_q5).trans ((va_up_ne _ _ ne_q3_q5).trans ((va_up_ne _ _ (Ne.symm ne_h0_q3)).trans ((va_up_ne _ _ ne_q3_q4).trans ((va_up_ne _ _ (Ne.symm ne_h0_q3)).trans (va_up_self _ _ _)))))
  have lt4 := h1a _ (List.mem_append_left _ (List.mem_append_left _ (List.mem_append_right _ (List.mem_singleton.mpr rfl))))
  have et5 := (h1b _ (List.mem_append_left _ (List.mem_append_right _ (List.mem_singleton.mpr rfl))) ne_q4_q5).trans ((va_up_ne _ _ ne_q4_q5).trans ((va_up_ne _ _ (Ne.symm ne_h0_q4)).trans (va_up_self _ _ _)))
  have lt5 := h1a _ (List.mem_append_left _ (List.mem_append_right _ (List.mem_singleton.mpr rfl)))
  refine q_st (st2 := [.ref q5, .ref h0]) rfl ?_
  refine q_putF (k := 4) C ck_5 dX4_init_47 w1_233 (by decide) rfl rfl rfl lt1 et1 rfl rfl ?_
  refine q_aload_n (j := 0) C dX4_init_50 rfl ?_
  refine q_iconst (v := 0) C dX4_init_51 (by decide) ?_
  refine q_put (k := 5) C ck_5 dX4_init_52 w1_234 (by decide) rfl lt1 (va_up_self _ _ _) rfl rfl ?_
  refine q_aload_n (j := 0) C dX4_init_55 rfl ?_
  refine q_iconst (v := 0) C dX4_init_56 (by decide) ?_
  refine q_put (k := 6) C ck_5 dX4_init_57 w1_236 (by decide) rfl lt1 (va_up_self _ _ _) (by decide) rfl ?_
  refine q_aload_n (j := 0) C dX4_init_60 rfl ?_
  refine q_bipush (v := 100) C dX4_init_61 (by decide) ?_
  refine q_newaI (N := 100) C dX4_init_63 w1_57 (by decide) (by decide) (by decide) ⟨Nat.le_of_ble_eq_true rfl, Nat.le_of_ble_eq_true rfl⟩ (fun q6 nq6 => ?_)
  have ne_h0_q6 : h0 ≠ q6 := (ne_in lt1 nq6)
  have ne_q1_q6 : q1 ≠ q6 := (ne_in lt2 nq6)
  have ne_q2_q6 : q2 ≠ q6 := (ne_in lt3 nq6)
  have ne_q3_q6 : q3 ≠ q6 := (ne_in lt4 nq6)
  have ne_q4_q6 : q4 ≠ q6 := (ne_in lt5 nq6)
  have ne_q5_q6 : q5 ≠ q6 := (ne_in (h1a _ (List.mem_append_right _ (List.mem_singleton.mpr rfl))) nq6)
  have ne_r1_q6 : r1 ≠ q6 := (ne_in lr1 nq6)
  refine q_putF (k := 8) C ck_5 dX4_init_65 w1_239 (by decide) rfl rfl rfl (List.mem_append_left _ lt1) ((va_up_ne _ _ ne_h0_q6).trans (va_up_self _ _ _)) rfl rfl ?_
  refine q_aload_n (j := 0) C dX4_init_68 rfl ?_
  refine q_iconst (v := 0) C dX4_init_69 (by decide) ?_
  refine q_put (k := 9) C ck_5 dX4_init_70 w2_0 (by decide) rfl (List.mem_append_left _ lt1) (va_up_self _ _ _) rfl rfl ?_
  refine q_aload_n (j := 0) C dX4_init_73 rfl ?_
  refine q_iconst (v := 0) C dX4_init_74 (by decide) ?_
  refine q_put (k := 10) C ck_5 dX4_init_75 w2_1 (by decide) rfl (List.mem_append_left _ lt1) (va_up_self _ _ _) rfl rfl ?_
  refine q_aload_n (j := 0) C dX4_init_78 rfl ?_
  refine q_aload_n (j := 1) C dX4_init_79 rfl ?_
  refine q_putF (k := 7) C ck_5 dX4_init_80 w1_238 (by decide) rfl rfl rfl (List.mem_append_left _ lt1) (va_up_self _ _ _) rfl rfl ?_
  exact q_vret C dX4_init_83 rfl (Nat.le_of_ble_eq_true rfl) (Nat.le_of_ble_eq_true rfl) ⟨rfl, (fun aa haa => (List.mem_append_left _ (h1a _ (List.mem_append_left _ (List.mem_append_left _ (List.mem_append_left _ (List.mem_append_left _ (List.mem_append_left _ haa)))))))), (fun aa haa naa => ((va_up_ne _ _ naa).trans ((va_up_ne _ _ naa).trans ((va_up_ne _ _ naa).trans ((va_up_ne _ _ naa).trans ((va_up_ne _ _ (ne_in (h1a _ (List.mem_append_left _ (List.mem_append_left _ (List.mem_append_left _ (List.mem_append_left _ (List.mem_append_left _ haa)))))) nq6)).trans ((va_up_ne _ _ naa).trans ((va_up_ne _ _ naa).trans ((va_up_ne _ _ naa).trans ((h1b _ (List.mem_append_left _ (List.mem_append_left _ (List.mem_append_left _ (List.mem_append_left _ (List.mem_append_left _ haa))))) (ne_in (List.mem_append_left _ (List.mem_append_left _ (List.mem_append_left _ (List.mem_append_left _ haa)))) nq5)).trans ((va_up_ne _ _ (ne_in (List.mem_append_left _ (List.mem_append_left _ (List.mem_append_left _ (List.mem_append_left _ haa)))) nq5)).trans ((va_up_ne _ _ naa).trans ((va_up_ne _ _ (ne_in (List.mem_append_left _ (List.mem_append_left _ (List.mem_append_left _ haa))) nq4)).trans ((va_up_ne _ _ naa).trans ((va_up_ne _ _ (ne_in (List.mem_append_left _ (List.mem_append_left _ haa)) nq3)).trans ((va_up_ne _ _ naa).trans ((va_up_ne _ _ (ne_in (List.mem_append_left _ haa) nq2)).trans ((va_up_ne _ _ naa).trans ((va_up_ne _ _ (ne_in haa nq1)).trans rfl))))))))))))))))))), ⟨_, (va_up_self _ _ _), rfl, rfl⟩⟩
set_option maxHeartbeats 4000000 in
set_option maxRecDepth 100000 in
theorem c_Sheet_init {l : Launch} {G : GT} {L : List Nat} {E : Nat → va_E} {h0 : Nat} {f : Nat → Value}  (hL : h0 ∈ L) (hE : E h0 = ob 8 3 f) : Mq l G yX7_init cX7_init 1 none 1 [.ref h0] L E 1 200 (fun v L2 E2 => v = none ∧ (∀ a ∈ L, a ∈ L2) ∧ (∀ a ∈ L, a ≠ h0 → E2 a = E a) ∧ ∃ (g : Nat → Value), E2 h0 = ob 8 3 g ∧ g 1 = .int 0) := by
  refine Mq.mk (by decide) (Nat.le_of_ble_eq_true rfl) ?_
  intro p e s m args below meth c A C
  refine q_aload_n (j := 0) C dX7_init_0 rfl ?_
  refine q_objInit C dX7_init_1 w2_30 w1_30 w1_31 ⟨Nat.le_of_ble_eq_true rfl, Nat.le_of_ble_eq_true rfl⟩ (Nat.le_of_ble_eq_true rfl) ?_
  refine q_aload_n (j := 0) C dX7_init_4 rfl ?_
  refine q_sipush (v := 200) C dX7_init_5 (by decide) ?_
  refine q_newqL (N := 200) C dX7_init_8 w2_31 w2_32t (by decide) (by decide) (by decide) ⟨Nat.le_of_ble_eq_true rfl, Nat.le_of_ble_eq_true rfl⟩ (fun q1 nq1 => ?_)
  have ne_h0_q1 : h0 ≠ q1 := (ne_in hL nq1)
  refine q_putF (k := 0) C ck_8 dX7_init_11 w2_33 (by decide) rfl rfl rfl (List.mem_append_left _ hL) ((va_up_ne _ _ ne_h0_q1).trans hE) rfl rfl ?_
  refine q_aload_n (j := 0) C dX7_init_14 rfl ?_
  refine q_iconst (v := 0) C dX7_init_15 (by decide) ?_
  refine q_put (k := 1) C ck_8 dX7_init_16 w2_34 (by decide) rfl (List.mem_append_left _ hL) (va_up_self _ _ _) rfl rfl ?_
  refine q_aload_n (j := 0) C dX7_init_19 rfl ?_
  refine q_iconst (v := 0) C dX7_init_20 (by decide) ?_
  refine q_put (k := 2) C ck_8 dX7_init_21 w2_36 (by decide) rfl (List.mem_append_left _ hL) (va_up_self _ _ _) rfl rfl ?_
  exact q_vret C dX7_init_24 rfl (Nat.le_of_ble_eq_true rfl) (Nat.le_of_ble_eq_true rfl) ⟨rfl, (fun aa haa => (List.mem_append_left _ haa)), (fun aa haa naa => ((va_up_ne _ _ naa).trans ((va_up_ne _ _ naa).trans ((va_up_ne _ _ naa).trans ((va_up_ne _ _ (ne_in haa nq1)).trans rfl))))), ⟨_, (va_up_self _ _ _), rfl⟩⟩
def XF (G : GT) (L : List Nat) (E : Nat → va_E) (h0 : Nat) : Prop := ∃ (tp qt wr br hd tb md ch wd fi fo sh : Nat) (f ft fw fb fh fT fm fc fd ff fs : Nat → Value),
  h0 ∈ L ∧ E h0 = ob 12 19 f ∧ f 0 = .ref tp ∧ f 1 = .ref wr ∧ f 2 = .ref br ∧ f 3 = .ref hd ∧ f 4 = .ref tb ∧ f 6 = .ref wd ∧ f 8 = .ref fo ∧ f 9 = .ref sh ∧
  f 11 = .int 32 ∧ f 12 = .int 25 ∧ f 13 = .int 36 ∧ f 14 = .int 0 ∧ f 15 = .int 0 ∧ f 16 = .int 0 ∧ f 17 = .int 0 ∧ f 18 = .int (-1) ∧
  tp ∈ L ∧ E tp = ob 2 3 ft ∧ ft 0 = .int 3000 ∧ ft 1 = .ref qt ∧ ft 2 = .int 0 ∧ qt ∈ L ∧ E qt = aI G 16 (fun _ => 0) ∧
  wr ∈ L ∧ E wr = ob 2 3 fw ∧ fw 2 = .int 0 ∧ br ∈ L ∧ E br = ob 2 3 fb ∧ fb 2 = .int 0 ∧ hd ∈ L ∧ E hd = ob 2 3 fh ∧ fh 2 = .int 0 ∧
  tb ∈ L ∧ E tb = ob 11 2 fT ∧ fT 0 = .ref md ∧ fT 1 = .ref ch ∧ md ∈ L ∧ E md = ob 0 3 fm ∧ fm 1 = .ref (g0 G) ∧ fm 2 = .int 0 ∧ ch ∈ L ∧ E ch = ob 0 3 fc ∧ fc 1 = .ref (g0 G) ∧ fc 2 = .int 0 ∧
  wd ∈ L ∧ E wd = ob 7 12 fd ∧ fd 8 = .ref fi ∧ fi ∈ L ∧ E fi = aI G 5 (fun _ => 0) ∧
  fo ∈ L ∧ E fo = ob 5 11 ff ∧ ff 5 = .int 0 ∧ ff 6 = .int 0 ∧ sh ∈ L ∧ E sh = ob 8 3 fs ∧ fs 1 = .int 0 ∧ md ≠ ch ∧ tp ≠ wr
set_option maxHeartbeats 4000000 in
set_option maxRecDepth 100000 in
theorem c_DotPress_init {l : Launch} {G : GT} {L : List Nat} {E : Nat → va_E} {h0 : Nat} {f : Nat → Value} (hL : h0 ∈ L) (hE : E h0 = ob 12 19 f) : Mq l G yX11_init cX11_init 1 none 5 [.ref h0] L E 47 3868 (fun v L2 E2 => v = none ∧ XF G L2 E2 h0) := by
  refine Mq.mk (by decide) (Nat.le_of_ble_eq_true rfl) ?_
  intro p e s m args below meth c A C
  refine q_aload_n (j := 0) C dX11_init_0 rfl ?_
  refine q_objInit C dX11_init_1 w1_29 w1_30 w1_31 ⟨Nat.le_of_ble_eq_true rfl, Nat.le_of_ble_eq_true rfl⟩ (Nat.le_of_ble_eq_true rfl) ?_
  refine q_aload_n (j := 0) C dX11_init_4 rfl ?_
  refine q_new C ck_2 dX11_init_5 w1_32 w1_33 w1_2 ⟨Nat.le_of_ble_eq_true rfl, Nat.le_of_ble_eq_true rfl⟩ (fun q1 nq1 => ?_)
  have ne_h0_q1 : h0 ≠ q1 := (ne_in hL nq1)
  refine q_dup C dX11_init_8 rfl ?_
  refine q_sipush (v := 3000) C dX11_init_9 (by decide) ?_
  refine q_callI (As := [.int 3000]) (rest := [.ref q1, .ref h0]) C (c_Ints_init 3000 (List.mem_append_right _ (List.mem_singleton.mpr rfl)) (va_up_self _ _ _)) dX11_init_12 kI_X11_11 rfl rfl (Nat.le_of_ble_eq_true rfl) ⟨Nat.le_of_ble_eq_true rfl, Nat.le_of_ble_eq_true rfl⟩ ⟨Nat.le_of_ble_eq_true rfl, Nat.le_of_ble_eq_true rfl⟩ (fun vh1 Lh1 Eh1 h1 => ?_)
  obtain ⟨rfl, h1a, h1b, r1, gr1, nr1, lr1, h1c, h10, h11, h12, h1d⟩ := h1
  have et1 := (h1b _ (List.mem_append_left _ hL) ne_h0_q1).trans ((va_up_ne _ _ ne_h0_q1).trans hE)
  have lt1 := h1a _ (List.mem_append_left _ hL)
  refine q_st (st2 := [.ref q1, .ref h0]) rfl ?_
  refine q_putF (k := 0) C ck_12 dX11_init_15 w2_44 (by decide) rfl rfl rfl lt1 et1 rfl rfl ?_
  refine q_aload_n (j := 0) C dX11_init_18 rfl ?_
  refine q_new C ck_2 dX11_init_19 w1_32 w1_33 w1_2 ⟨Nat.le_of_ble_eq_true rfl, Nat.le_of_ble_eq_true rfl⟩ (fun q2 nq2 => ?_)
  have ne_h0_q2 : h0 ≠ q2 := (ne_in lt1 nq2)
  have ne_q1_q2 : q1 ≠ q2 := (ne_in (h1a _ (List.mem_append_right _ (List.mem_singleton.mpr rfl))) nq2)
  have ne_r1_q2 : r1 ≠ q2 := (ne_in lr1 nq2)
  refine q_dup C dX11_init_22 rfl ?_
  refine q_sipush (v := 500) C dX11_init_23 (by decide) ?_
  refine q_callI (As := [.int 500]) (rest := [.ref q2, .ref h0]) C (c_Ints_init 500 (List.mem_append_right _ (List.mem_singleton.mpr rfl)) (va_up_self _ _ _)) dX11_init_26 kI_X11_11 rfl rfl (Nat.le_of_ble_eq_true rfl) ⟨Nat.le_of_ble_eq_true rfl, Nat.le_of_ble_eq_true rfl⟩ ⟨Nat.le_of_ble_eq_true rfl, Nat.le_of_ble_eq_true rfl⟩ (fun vh2 Lh2 Eh2 h2 => ?_)
  obtain ⟨rfl, h2a, h2b, r2, gr2, nr2, lr2, h2c, h20, h21, h22, h2d⟩ := h2
  have et2 := (h2b _ (List.mem_append_left _ lt1) ne_h0_q2).trans ((va_up_ne _ _ ne_h0_q2).trans (va_up_self _ _ _))
  have lt2 := h2a _ (List.mem_append_left _ lt1)
  have et3 := (h2b _ (List.mem_append_left _ (h1a _ (List.mem_append_right _ (List.mem_singleton.mpr rfl)))) ne_q1_q2).trans ((va_up_ne _ _ ne_q1_q2).trans ((va_up_ne _ _ (Ne.symm ne_h0_q1)).trans h1c))
  have lt3 := h2a _ (List.mem_append_left _ (h1a _ (List.mem_append_right _ (List.mem_singleton.mpr rfl))))
  have et4 := (h2b _ (List.mem_append_left _ lr1) ne_r1_q2).trans ((va_up_ne _ _ ne_r1_q2).trans ((va_up_ne _ _ (Ne.symm (ne_in (List.mem_append_left _ hL) nr1))).trans h1d))
  have lt4 := h2a _ (List.mem_append_left _ lr1)
  refine q_st (st2 := [.ref q2, .ref h0]) rfl ?_
  refine q_putF (k := 1) C ck_12 dX11_init_29 w2_45 (by decide) rfl rfl rfl lt2 et2 rfl rfl ?_
  refine q_aload_n (j := 0) C dX11_init_32 rfl ?_
  refine q_new C ck_2 dX11_init_33 w1_32 w1_33 w1_2 ⟨Nat.le_of_ble_eq_true rfl, Nat.le_of_ble_eq_true rfl⟩ (fun q3 nq3 => ?_)
  have ne_h0_q3 : h0 ≠ q3 := (ne_in lt2 nq3)
  have ne_q1_q3 : q1 ≠ q3 := (ne_in lt3 nq3)
  have ne_r1_q3 : r1 ≠ q3 := (ne_in lt4 nq3)
  have ne_q2_q3 : q2 ≠ q3 := (ne_in (h2a _ (List.mem_append_right _ (List.mem_singleton.mpr rfl))) nq3)
  have ne_r2_q3 : r2 ≠ q3 := (ne_in lr2 nq3)
  refine q_dup C dX11_init_36 rfl ?_
  refine q_sipush (v := 4000) C dX11_init_37 (by decide) ?_
  refine q_callI (As := [.int 4000]) (rest := [.ref q3, .ref h0]) C (c_Ints_init 4000 (List.mem_append_right _ (List.mem_singleton.mpr rfl)) (va_up_self _ _ _)) dX11_init_40 kI_X11_11 rfl rfl (Nat.le_of_ble_eq_true rfl) ⟨Nat.le_of_ble_eq_true rfl, Nat.le_of_ble_eq_true rfl⟩ ⟨Nat.le_of_ble_eq_true rfl, Nat.le_of_ble_eq_true rfl⟩ (fun vh3 Lh3 Eh3 h3 => ?_)
  obtain ⟨rfl, h3a, h3b, r3, gr3, nr3, lr3, h3c, h30, h31, h32, h3d⟩ := h3
  have et5 := (h3b _ (List.mem_append_left _ lt2) ne_h0_q3).trans ((va_up_ne _ _ ne_h0_q3).trans (va_up_self _ _ _))
  have lt5 := h3a _ (List.mem_append_left _ lt2)
  have et6 := (h3b _ (List.mem_append_left _ lt3) ne_q1_q3).trans ((va_up_ne _ _ ne_q1_q3).trans ((va_up_ne _ _ (Ne.symm ne_h0_q1)).trans et3))
  have lt6 := h3a _ (List.mem_append_left _ lt3)
  have et7 := (h3b _ (List.mem_append_left _ lt4) ne_r1_q3).trans ((va_up_ne _ _ ne_r1_q3).trans ((va_up_ne _ _ (Ne.symm (ne_in (List.mem_append_left _ hL) nr1))).trans et4))
  have lt7 := h3a _ (List.mem_append_left _ lt4)
  have et8 := (h3b _ (List.mem_append_left _ (h2a _ (List.mem_append_right _ (List.mem_singleton.mpr rfl)))) ne_q2_q3).trans ((va_up_ne _ _ ne_q2_q3).trans ((va_up_ne _ _ (Ne.symm ne_h0_q2)).trans h2c))
  have lt8 := h3a _ (List.mem_append_left _ (h2a _ (List.mem_append_right _ (List.mem_singleton.mpr rfl))))
  have et9 := (h3b _ (List.mem_append_left _ lr2) ne_r2_q3).trans ((va_up_ne _ _ ne_r2_q3).trans ((va_up_ne _ _ (Ne.symm (ne_in (List.mem_append_left _ lt1) nr2))).trans h2d))
  have lt9 := h3a _ (List.mem_append_left _ lr2)
  refine q_st (st2 := [.ref q3, .ref h0]) rfl ?_
  refine q_putF (k := 2) C ck_12 dX11_init_43 w2_46 (by decide) rfl rfl rfl lt5 et5 rfl rfl ?_
  refine q_aload_n (j := 0) C dX11_init_46 rfl ?_
  refine q_new C ck_2 dX11_init_47 w1_32 w1_33 w1_2 ⟨Nat.le_of_ble_eq_true rfl, Nat.le_of_ble_eq_true rfl⟩ (fun q4 nq4 => ?_)
  have ne_h0_q4 : h0 ≠ q4 := (ne_in lt5 nq4)
  have ne_q1_q4 : q1 ≠ q4 := (ne_in lt6 nq4)
  have ne_r1_q4 : r1 ≠ q4 := (ne_in lt7 nq4)
  have ne_q2_q4 : q2 ≠ q4 := (ne_in lt8 nq4)
  have ne_r2_q4 : r2 ≠ q4 := (ne_in lt9 nq4)
  have ne_q3_q4 : q3 ≠ q4 := (ne_in (h3a _ (List.mem_append_right _ (List.mem_singleton.mpr rfl))) nq4)
  have ne_r3_q4 : r3 ≠ q4 := (ne_in lr3 nq4)
  refine q_dup C dX11_init_50 rfl ?_
  refine q_sipush (v := 200) C dX11_init_51 (by decide) ?_
  refine q_callI (As := [.int 200]) (rest := [.ref q4, .ref h0]) C (c_Ints_init 200 (List.mem_append_right _ (List.mem_singleton.mpr rfl)) (va_up_self _ _ _)) dX11_init_54 kI_X11_11 rfl rfl (Nat.le_of_ble_eq_true rfl) ⟨Nat.le_of_ble_eq_true rfl, Nat.le_of_ble_eq_true rfl⟩ ⟨Nat.le_of_ble_eq_true rfl, Nat.le_of_ble_eq_true rfl⟩ (fun vh4 Lh4 Eh4 h4 => ?_)
  obtain ⟨rfl, h4a, h4b, r4, gr4, nr4, lr4, h4c, h40, h41, h42, h4d⟩ := h4
  have et10 := (h4b _ (List.mem_append_left _ lt5) ne_h0_q4).trans ((va_up_ne _ _ ne_h0_q4).trans (va_up_self _ _ _))
  have lt10 := h4a _ (List.mem_append_left _ lt5)
  have et11 := (h4b _ (List.mem_append_left _ lt6) ne_q1_q4).trans ((va_up_ne _ _ ne_q1_q4).trans ((va_up_ne _ _ (Ne.symm ne_h0_q1)).trans et6))
  have lt11 := h4a _ (List.mem_append_left _ lt6)
  have et12 := (h4b _ (List.mem_append_left _ lt7) ne_r1_q4).trans ((va_up_ne _ _ ne_r1_q4).trans ((va_up_ne _ _ (Ne.symm (ne_in (List.mem_append_left _ hL) nr1))).trans et7))
  have lt12 := h4a _ (List.mem_append_left _ lt7)
  have et13 := (h4b _ (List.mem_append_left _ lt8) ne_q2_q4).trans ((va_up_ne _ _ ne_q2_q4).trans ((va_up_ne _ _ (Ne.symm ne_h0_q2)).trans et8))
  have lt13 := h4a _ (List.mem_append_left _ lt8)
  have et14 := (h4b _ (List.mem_append_left _ lt9) ne_r2_q4).trans ((va_up_ne _ _ ne_r2_q4).trans ((va_up_ne _ _ (Ne.symm (ne_in (List.mem_append_left _ lt1) nr2))).trans et9))
  have lt14 := h4a _ (List.mem_append_left _ lt9)
  have et15 := (h4b _ (List.mem_append_left _ (h3a _ (List.mem_append_right _ (List.mem_singleton.mpr rfl)))) ne_q3_q4).trans ((va_up_ne _ _ ne_q3_q4).trans ((va_up_ne _ _ (Ne.symm ne_h0_q3)).trans h3c))
  have lt15 := h4a _ (List.mem_append_left _ (h3a _ (List.mem_append_right _ (List.mem_singleton.mpr rfl))))
  have et16 := (h4b _ (List.mem_append_left _ lr3) ne_r3_q4).trans ((va_up_ne _ _ ne_r3_q4).trans ((va_up_ne _ _ (Ne.symm (ne_in (List.mem_append_left _ lt2) nr3))).trans h3d))
  have lt16 := h4a _ (List.mem_append_left _ lr3)
  refine q_st (st2 := [.ref q4, .ref h0]) rfl ?_
  refine q_putF (k := 3) C ck_12 dX11_init_57 w2_47 (by decide) rfl rfl rfl lt10 et10 rfl rfl ?_
  refine q_aload_n (j := 0) C dX11_init_60 rfl ?_
  refine q_new C ck_11 dX11_init_61 w1_58 w1_59 w1_3 ⟨Nat.le_of_ble_eq_true rfl, Nat.le_of_ble_eq_true rfl⟩ (fun q5 nq5 => ?_)
  have ne_h0_q5 : h0 ≠ q5 := (ne_in lt10 nq5)
  have ne_q1_q5 : q1 ≠ q5 := (ne_in lt11 nq5)
  have ne_r1_q5 : r1 ≠ q5 := (ne_in lt12 nq5)
  have ne_q2_q5 : q2 ≠ q5 := (ne_in lt13 nq5)
  have ne_r2_q5 : r2 ≠ q5 := (ne_in lt14 nq5)
  have ne_q3_q5 : q3 ≠ q5 := (ne_in lt15 nq5)
  have ne_r3_q5 : r3 ≠ q5 := (ne_in lt16 nq5)
  have ne_q4_q5 : q4 ≠ q5 := (ne_in (h4a _ (List.mem_append_right _ (List.mem_singleton.mpr rfl))) nq5)
  have ne_r4_q5 : r4 ≠ q5 := (ne_in lr4 nq5)
  refine q_dup C dX11_init_64 rfl ?_
  refine q_callIN (As := []) (rest := [.ref q5, .ref h0]) C (c_Tables_init (List.mem_append_right _ (List.mem_singleton.mpr rfl)) (va_up_self _ _ _)) dX11_init_65 kN_X11_29 rfl rfl (Nat.le_of_ble_eq_true rfl) ⟨Nat.le_of_ble_eq_true rfl, Nat.le_of_ble_eq_true rfl⟩ ⟨Nat.le_of_ble_eq_true rfl, Nat.le_of_ble_eq_true rfl⟩ (fun vh5 Lh5 Eh5 h5 => ?_)
  obtain ⟨rfl, h5a, h5b, mdh5, chh5, gh5, gmh5, gch5, nmh5, nch5, nmch5, lmh5, lch5, h5c, h50, h51, h5d, h5d1, h5d2, h5e, h5e1, h5e2⟩ := h5
  have et17 := (h5b _ (List.mem_append_left _ lt10) ne_h0_q5).trans ((va_up_ne _ _ ne_h0_q5).trans (va_up_self _ _ _))
  have lt17 := h5a _ (List.mem_append_left _ lt10)
  have et18 := (h5b _ (List.mem_append_left _ lt11) ne_q1_q5).trans ((va_up_ne _ _ ne_q1_q5).trans ((va_up_ne _ _ (Ne.symm ne_h0_q1)).trans et11))
  have lt18 := h5a _ (List.mem_append_left _ lt11)
  have et19 := (h5b _ (List.mem_append_left _ lt12) ne_r1_q5).trans ((va_up_ne _ _ ne_r1_q5).trans ((va_up_ne _ _ (Ne.symm (ne_in (List.mem_append_left _ hL) nr1))).trans et12))
  have lt19 := h5a _ (List.mem_append_left _ lt12)
  have et20 := (h5b _ (List.mem_append_left _ lt13) ne_q2_q5).trans ((va_up_ne _ _ ne_q2_q5).trans ((va_up_ne _ _ (Ne.symm ne_h0_q2)).trans et13))
  have lt20 := h5a _ (List.mem_append_left _ lt13)
  have et21 := (h5b _ (List.mem_append_left _ lt14) ne_r2_q5).trans ((va_up_ne _ _ ne_r2_q5).trans ((va_up_ne _ _ (Ne.symm (ne_in (List.mem_append_left _ lt1) nr2))).trans et14))
  have lt21 := h5a _ (List.mem_append_left _ lt14)
  have et22 := (h5b _ (List.mem_append_left _ lt15) ne_q3_q5).trans ((va_up_ne _ _ ne_q3_q5).trans ((va_up_ne _ _ (Ne.symm ne_h0_q3)).trans et15))
  have lt22 := h5a _ (List.mem_append_left _ lt15)
  have et23 := (h5b _ (List.mem_append_left _ lt16) ne_r3_q5).trans ((va_up_ne _ _ ne_r3_q5).trans ((va_up_ne _ _ (Ne.symm (ne_in (List.mem_append_left _ lt2) nr3))).trans et16))
  have lt23 := h5a _ (List.mem_append_left _ lt16)
  have et24 := (h5b _ (List.mem_append_left _ (h4a _ (List.mem_append_right _ (List.mem_singleton.mpr rfl)))) ne_q4_q5).trans ((va_up_ne _ _ ne_q4_q5).trans ((va_up_ne _ _ (Ne.symm ne_h0_q4)).trans h4c))
  have lt24 := h5a _ (List.mem_append_left _ (h4a _ (List.mem_append_right _ (List.mem_singleton.mpr rfl))))
  have et25 := (h5b _ (List.mem_append_left _ lr4) ne_r4_q5).trans ((va_up_ne _ _ ne_r4_q5).trans ((va_up_ne _ _ (Ne.symm (ne_in (List.mem_append_left _ lt5) nr4))).trans h4d))
  have lt25 := h5a _ (List.mem_append_left _ lr4)
  refine q_st (st2 := [.ref q5, .ref h0]) rfl ?_
  refine q_putF (k := 4) C ck_12 dX11_init_68 w2_48 (by decide) rfl rfl rfl lt17 et17 rfl rfl ?_
  refine q_aload_n (j := 0) C dX11_init_71 rfl ?_
  refine q_new C ck_9 dX11_init_72 w1_97 w1_98 w1_7 ⟨Nat.le_of_ble_eq_true rfl, Nat.le_of_ble_eq_true rfl⟩ (fun q6 nq6 => ?_)
  have ne_h0_q6 : h0 ≠ q6 := (ne_in lt17 nq6)
  have ne_q1_q6 : q1 ≠ q6 := (ne_in lt18 nq6)
  have ne_r1_q6 : r1 ≠ q6 := (ne_in lt19 nq6)
  have ne_q2_q6 : q2 ≠ q6 := (ne_in lt20 nq6)
  have ne_r2_q6 : r2 ≠ q6 := (ne_in lt21 nq6)
  have ne_q3_q6 : q3 ≠ q6 := (ne_in lt22 nq6)
  have ne_r3_q6 : r3 ≠ q6 := (ne_in lt23 nq6)
  have ne_q4_q6 : q4 ≠ q6 := (ne_in lt24 nq6)
  have ne_r4_q6 : r4 ≠ q6 := (ne_in lt25 nq6)
  have ne_q5_q6 : q5 ≠ q6 := (ne_in (h5a _ (List.mem_append_right _ (List.mem_singleton.mpr rfl))) nq6)
  have ne_mdh5_q6 : mdh5 ≠ q6 := (ne_in lmh5 nq6)
  have ne_chh5_q6 : chh5 ≠ q6 := (ne_in lch5 nq6)
  refine q_dup C dX11_init_75 rfl ?_
  refine q_callIN (As := []) (rest := [.ref q6, .ref h0]) C (c_Source_init (List.mem_append_right _ (List.mem_singleton.mpr rfl)) (va_up_self _ _ _)) dX11_init_76 kN_X11_36 rfl rfl (Nat.le_of_ble_eq_true rfl) ⟨Nat.le_of_ble_eq_true rfl, Nat.le_of_ble_eq_true rfl⟩ ⟨Nat.le_of_ble_eq_true rfl, Nat.le_of_ble_eq_true rfl⟩ (fun vh6 Lh6 Eh6 h6 => ?_)
  obtain ⟨rfl, h6a, h6b, gh6, h6c⟩ := h6
  have et26 := (h6b _ (List.mem_append_left _ lt17) ne_h0_q6).trans ((va_up_ne _ _ ne_h0_q6).trans (va_up_self _ _ _))
  have lt26 := h6a _ (List.mem_append_left _ lt17)
  have et27 := (h6b _ (List.mem_append_left _ lt18) ne_q1_q6).trans ((va_up_ne _ _ ne_q1_q6).trans ((va_up_ne _ _ (Ne.symm ne_h0_q1)).trans et18))
  have lt27 := h6a _ (List.mem_append_left _ lt18)
  have et28 := (h6b _ (List.mem_append_left _ lt19) ne_r1_q6).trans ((va_up_ne _ _ ne_r1_q6).trans ((va_up_ne _ _ (Ne.symm (ne_in (List.mem_append_left _ hL) nr1))).trans et19))
  have lt28 := h6a _ (List.mem_append_left _ lt19)
  have et29 := (h6b _ (List.mem_append_left _ lt20) ne_q2_q6).trans ((va_up_ne _ _ ne_q2_q6).trans ((va_up_ne _ _ (Ne.symm ne_h0_q2)).trans et20))
  have lt29 := h6a _ (List.mem_append_left _ lt20)
  have et30 := (h6b _ (List.mem_append_left _ lt21) ne_r2_q6).trans ((va_up_ne _ _ ne_r2_q6).trans ((va_up_ne _ _ (Ne.symm (ne_in (List.mem_append_left _ lt1) nr2))).trans et21))
  have lt30 := h6a _ (List.mem_append_left _ lt21)
  have et31 := (h6b _ (List.mem_append_left _ lt22) ne_q3_q6).trans ((va_up_ne _ _ ne_q3_q6).trans ((va_up_ne _ _ (Ne.symm ne_h0_q3)).trans et22))
  have lt31 := h6a _ (List.mem_append_left _ lt22)
  have et32 := (h6b _ (List.mem_append_left _ lt23) ne_r3_q6).trans ((va_up_ne _ _ ne_r3_q6).trans ((va_up_ne _ _ (Ne.symm (ne_in (List.mem_append_left _ lt2) nr3))).trans et23))
  have lt32 := h6a _ (List.mem_append_left _ lt23)
  have et33 := (h6b _ (List.mem_append_left _ lt24) ne_q4_q6).trans ((va_up_ne _ _ ne_q4_q6).trans ((va_up_ne _ _ (Ne.symm ne_h0_q4)).trans et24))
  have lt33 := h6a _ (List.mem_append_left _ lt24)
  have et34 := (h6b _ (List.mem_append_left _ lt25) ne_r4_q6).trans ((va_up_ne _ _ ne_r4_q6).trans ((va_up_ne _ _ (Ne.symm (ne_in (List.mem_append_left _ lt5) nr4))).trans et25))
  have lt34 := h6a _ (List.mem_append_left _ lt25)
  have et35 := (h6b _ (List.mem_append_left _ (h5a _ (List.mem_append_right _ (List.mem_singleton.mpr rfl)))) ne_q5_q6).trans ((va_up_ne _ _ ne_q5_q6).trans ((va_up_ne _ _ (Ne.symm ne_h0_q5)).trans h5c))
  have lt35 := h6a _ (List.mem_append_left _ (h5a _ (List.mem_append_right _ (List.mem_singleton.mpr rfl))))
  have et36 := (h6b _ (List.mem_append_left _ lmh5) ne_mdh5_q6).trans ((va_up_ne _ _ ne_mdh5_q6).trans ((va_up_ne _ _ (Ne.symm (ne_in (List.mem_append_left _ lt10) nmh5))).trans h5d))
  have lt36 := h6a _ (List.mem_append_left _ lmh5)
  have et37 := (h6b _ (List.mem_append_left _ lch5) ne_chh5_q6).trans ((va_up_ne _ _ ne_chh5_q6).trans ((va_up_ne _ _ (Ne.symm (ne_in (List.mem_append_left _ lt10) nch5))).trans h5e))
  have lt37 := h6a _ (List.mem_append_left _ lch5)
  refine q_st (st2 := [.ref q6, .ref h0]) rfl ?_
  refine q_putF (k := 5) C ck_12 dX11_init_79 w2_49 (by decide) rfl rfl rfl lt26 et26 rfl rfl ?_
  refine q_aload_n (j := 0) C dX11_init_82 rfl ?_
  refine q_new C ck_7 dX11_init_83 w1_130 w1_131 w1_8 ⟨Nat.le_of_ble_eq_true rfl, Nat.le_of_ble_eq_true rfl⟩ (fun q7 nq7 => ?_)
  have ne_h0_q7 : h0 ≠ q7 := (ne_in lt26 nq7)
  have ne_q1_q7 : q1 ≠ q7 := (ne_in lt27 nq7)
  have ne_r1_q7 : r1 ≠ q7 := (ne_in lt28 nq7)
  have ne_q2_q7 : q2 ≠ q7 := (ne_in lt29 nq7)
  have ne_r2_q7 : r2 ≠ q7 := (ne_in lt30 nq7)
  have ne_q3_q7 : q3 ≠ q7 := (ne_in lt31 nq7)
  have ne_r3_q7 : r3 ≠ q7 := (ne_in lt32 nq7)
  have ne_q4_q7 : q4 ≠ q7 := (ne_in lt33 nq7)
  have ne_r4_q7 : r4 ≠ q7 := (ne_in lt34 nq7)
  have ne_q5_q7 : q5 ≠ q7 := (ne_in lt35 nq7)
  have ne_mdh5_q7 : mdh5 ≠ q7 := (ne_in lt36 nq7)
  have ne_chh5_q7 : chh5 ≠ q7 := (ne_in lt37 nq7)
  have ne_q6_q7 : q6 ≠ q7 := (ne_in (h6a _ (List.mem_append_right _ (List.mem_singleton.mpr rfl))) nq7)
  refine q_dup C dX11_init_86 rfl ?_
  refine q_callIN (As := []) (rest := [.ref q7, .ref h0]) C (c_Setting_init (List.mem_append_right _ (List.mem_singleton.mpr rfl)) (va_up_self _ _ _)) dX11_init_87 kN_X11_43 rfl rfl (Nat.le_of_ble_eq_true rfl) ⟨Nat.le_of_ble_eq_true rfl, Nat.le_of_ble_eq_true rfl⟩ ⟨Nat.le_of_ble_eq_true rfl, Nat.le_of_ble_eq_true rfl⟩ (fun vh7 Lh7 Eh7 h7 => ?_)
  obtain ⟨rfl, h7a, h7b, fih7, gh7, nfh7, lfh7, h7c, h78, h7d⟩ := h7
  have et38 := (h7b _ (List.mem_append_left _ lt26) ne_h0_q7).trans ((va_up_ne _ _ ne_h0_q7).trans (va_up_self _ _ _))
  have lt38 := h7a _ (List.mem_append_left _ lt26)
  have et39 := (h7b _ (List.mem_append_left _ lt27) ne_q1_q7).trans ((va_up_ne _ _ ne_q1_q7).trans ((va_up_ne _ _ (Ne.symm ne_h0_q1)).trans et27))
  have lt39 := h7a _ (List.mem_append_left _ lt27)
  have et40 := (h7b _ (List.mem_append_left _ lt28) ne_r1_q7).trans ((va_up_ne _ _ ne_r1_q7).trans ((va_up_ne _ _ (Ne.symm (ne_in (List.mem_append_left _ hL) nr1))).trans et28))
  have lt40 := h7a _ (List.mem_append_left _ lt28)
  have et41 := (h7b _ (List.mem_append_left _ lt29) ne_q2_q7).trans ((va_up_ne _ _ ne_q2_q7).trans ((va_up_ne _ _ (Ne.symm ne_h0_q2)).trans et29))
  have lt41 := h7a _ (List.mem_append_left _ lt29)
  have et42 := (h7b _ (List.mem_append_left _ lt30) ne_r2_q7).trans ((va_up_ne _ _ ne_r2_q7).trans ((va_up_ne _ _ (Ne.symm (ne_in (List.mem_append_left _ lt1) nr2))).trans et30))
  have lt42 := h7a _ (List.mem_append_left _ lt30)
  have et43 := (h7b _ (List.mem_append_left _ lt31) ne_q3_q7).trans ((va_up_ne _ _ ne_q3_q7).trans ((va_up_ne _ _ (Ne.symm ne_h0_q3)).trans et31))
  have lt43 := h7a _ (List.mem_append_left _ lt31)
  have et44 := (h7b _ (List.mem_append_left _ lt32) ne_r3_q7).trans ((va_up_ne _ _ ne_r3_q7).trans ((va_up_ne _ _ (Ne.symm (ne_in (List.mem_append_left _ lt2) nr3))).trans et32))
  have lt44 := h7a _ (List.mem_append_left _ lt32)
  have et45 := (h7b _ (List.mem_append_left _ lt33) ne_q4_q7).trans ((va_up_ne _ _ ne_q4_q7).trans ((va_up_ne _ _ (Ne.symm ne_h0_q4)).trans et33))
  have lt45 := h7a _ (List.mem_append_left _ lt33)
  have et46 := (h7b _ (List.mem_append_left _ lt34) ne_r4_q7).trans ((va_up_ne _ _ ne_r4_q7).trans ((va_up_ne _ _ (Ne.symm (ne_in (List.mem_append_left _ lt5) nr4))).trans et34))
  have lt46 := h7a _ (List.mem_append_left _ lt34)
  have et47 := (h7b _ (List.mem_append_left _ lt35) ne_q5_q7).trans ((va_up_ne _ _ ne_q5_q7).trans ((va_up_ne _ _ (Ne.symm ne_h0_q5)).trans et35))
  have lt47 := h7a _ (List.mem_append_left _ lt35)
  have et48 := (h7b _ (List.mem_append_left _ lt36) ne_mdh5_q7).trans ((va_up_ne _ _ ne_mdh5_q7).trans ((va_up_ne _ _ (Ne.symm (ne_in (List.mem_append_left _ lt10) nmh5))).trans et36))
  have lt48 := h7a _ (List.mem_append_left _ lt36)
  have et49 := (h7b _ (List.mem_append_left _ lt37) ne_chh5_q7).trans ((va_up_ne _ _ ne_chh5_q7).trans ((va_up_ne _ _ (Ne.symm (ne_in (List.mem_append_left _ lt10) nch5))).trans et37))
  have lt49 := h7a _ (List.mem_append_left _ lt37)
  have et50 := (h7b _ (List.mem_append_left _ (h6a _ (List.mem_append_right _ (List.mem_singleton.mpr rfl)))) ne_q6_q7).trans ((va_up_ne _ _ ne_q6_q7).trans ((va_up_ne _ _ (Ne.symm ne_h0_q6)).trans h6c))
  have lt50 := h7a _ (List.mem_append_left _ (h6a _ (List.mem_append_right _ (List.mem_singleton.mpr rfl))))
  refine q_st (st2 := [.ref q7, .ref h0]) rfl ?_
  refine q_putF (k := 6) C ck_12 dX11_init_90 w2_50 (by decide) rfl rfl rfl lt38 et38 rfl rfl ?_
  refine q_aload_n (j := 0) C dX11_init_93 rfl ?_
  refine q_new C ck_4 dX11_init_94 w1_179 w1_180 w1_9 ⟨Nat.le_of_ble_eq_true rfl, Nat.le_of_ble_eq_true rfl⟩ (fun q8 nq8 => ?_)
  have ne_h0_q8 : h0 ≠ q8 := (ne_in lt38 nq8)
  have ne_q1_q8 : q1 ≠ q8 := (ne_in lt39 nq8)
  have ne_r1_q8 : r1 ≠ q8 := (ne_in lt40 nq8)
  have ne_q2_q8 : q2 ≠ q8 := (ne_in lt41 nq8)
  have ne_r2_q8 : r2 ≠ q8 := (ne_in lt42 nq8)
  have ne_q3_q8 : q3 ≠ q8 := (ne_in lt43 nq8)
  have ne_r3_q8 : r3 ≠ q8 := (ne_in lt44 nq8)
  have ne_q4_q8 : q4 ≠ q8 := (ne_in lt45 nq8)
  have ne_r4_q8 : r4 ≠ q8 := (ne_in lt46 nq8)
  have ne_q5_q8 : q5 ≠ q8 := (ne_in lt47 nq8)
  have ne_mdh5_q8 : mdh5 ≠ q8 := (ne_in lt48 nq8)
  have ne_chh5_q8 : chh5 ≠ q8 := (ne_in lt49 nq8)
  have ne_q6_q8 : q6 ≠ q8 := (ne_in lt50 nq8)
  have ne_q7_q8 : q7 ≠ q8 := (ne_in (h7a _ (List.mem_append_right _ (List.mem_singleton.mpr rfl))) nq8)
  have ne_fih7_q8 : fih7 ≠ q8 := (ne_in lfh7 nq8)
  refine q_dup C dX11_init_97 rfl ?_
  refine q_callIN (As := []) (rest := [.ref q8, .ref h0]) C (c_Reader_init (List.mem_append_right _ (List.mem_singleton.mpr rfl)) (va_up_self _ _ _)) dX11_init_98 kN_X11_50 rfl rfl (Nat.le_of_ble_eq_true rfl) ⟨Nat.le_of_ble_eq_true rfl, Nat.le_of_ble_eq_true rfl⟩ ⟨Nat.le_of_ble_eq_true rfl, Nat.le_of_ble_eq_true rfl⟩ (fun vh8 Lh8 Eh8 h8 => ?_)
  obtain ⟨rfl, h8a, h8b, gh8, h8c⟩ := h8
  have et51 := (h8b _ (List.mem_append_left _ lt38) ne_h0_q8).trans ((va_up_ne _ _ ne_h0_q8).trans (va_up_self _ _ _))
  have lt51 := h8a _ (List.mem_append_left _ lt38)
  have et52 := (h8b _ (List.mem_append_left _ lt39) ne_q1_q8).trans ((va_up_ne _ _ ne_q1_q8).trans ((va_up_ne _ _ (Ne.symm ne_h0_q1)).trans et39))
  have lt52 := h8a _ (List.mem_append_left _ lt39)
  have et53 := (h8b _ (List.mem_append_left _ lt40) ne_r1_q8).trans ((va_up_ne _ _ ne_r1_q8).trans ((va_up_ne _ _ (Ne.symm (ne_in (List.mem_append_left _ hL) nr1))).trans et40))
  have lt53 := h8a _ (List.mem_append_left _ lt40)
  have et54 := (h8b _ (List.mem_append_left _ lt41) ne_q2_q8).trans ((va_up_ne _ _ ne_q2_q8).trans ((va_up_ne _ _ (Ne.symm ne_h0_q2)).trans et41))
  have lt54 := h8a _ (List.mem_append_left _ lt41)
  have et55 := (h8b _ (List.mem_append_left _ lt42) ne_r2_q8).trans ((va_up_ne _ _ ne_r2_q8).trans ((va_up_ne _ _ (Ne.symm (ne_in (List.mem_append_left _ lt1) nr2))).trans et42))
  have lt55 := h8a _ (List.mem_append_left _ lt42)
  have et56 := (h8b _ (List.mem_append_left _ lt43) ne_q3_q8).trans ((va_up_ne _ _ ne_q3_q8).trans ((va_up_ne _ _ (Ne.symm ne_h0_q3)).trans et43))
  have lt56 := h8a _ (List.mem_append_left _ lt43)
  have et57 := (h8b _ (List.mem_append_left _ lt44) ne_r3_q8).trans ((va_up_ne _ _ ne_r3_q8).trans ((va_up_ne _ _ (Ne.symm (ne_in (List.mem_append_left _ lt2) nr3))).trans et44))
  have lt57 := h8a _ (List.mem_append_left _ lt44)
  have et58 := (h8b _ (List.mem_append_left _ lt45) ne_q4_q8).trans ((va_up_ne _ _ ne_q4_q8).trans ((va_up_ne _ _ (Ne.symm ne_h0_q4)).trans et45))
  have lt58 := h8a _ (List.mem_append_left _ lt45)
  have et59 := (h8b _ (List.mem_append_left _ lt46) ne_r4_q8).trans ((va_up_ne _ _ ne_r4_q8).trans ((va_up_ne _ _ (Ne.symm (ne_in (List.mem_append_left _ lt5) nr4))).trans et46))
  have lt59 := h8a _ (List.mem_append_left _ lt46)
  have et60 := (h8b _ (List.mem_append_left _ lt47) ne_q5_q8).trans ((va_up_ne _ _ ne_q5_q8).trans ((va_up_ne _ _ (Ne.symm ne_h0_q5)).trans et47))
  have lt60 := h8a _ (List.mem_append_left _ lt47)
  have et61 := (h8b _ (List.mem_append_left _ lt48) ne_mdh5_q8).trans ((va_up_ne _ _ ne_mdh5_q8).trans ((va_up_ne _ _ (Ne.symm (ne_in (List.mem_append_left _ lt10) nmh5))).trans et48))
  have lt61 := h8a _ (List.mem_append_left _ lt48)
  have et62 := (h8b _ (List.mem_append_left _ lt49) ne_chh5_q8).trans ((va_up_ne _ _ ne_chh5_q8).trans ((va_up_ne _ _ (Ne.symm (ne_in (List.mem_append_left _ lt10) nch5))).trans et49))
  have lt62 := h8a _ (List.mem_append_left _ lt49)
  have et63 := (h8b _ (List.mem_append_left _ lt50) ne_q6_q8).trans ((va_up_ne _ _ ne_q6_q8).trans ((va_up_ne _ _ (Ne.symm ne_h0_q6)).trans et50))
  have lt63 := h8a _ (List.mem_append_left _ lt50)
  have et64 := (h8b _ (List.mem_append_left _ (h7a _ (List.mem_append_right _ (List.mem_singleton.mpr rfl)))) ne_q7_q8).trans ((va_up_ne _ _ ne_q7_q8).trans ((va_up_ne _ _ (Ne.symm ne_h0_q7)).trans h7c))
  have lt64 := h8a _ (List.mem_append_left _ (h7a _ (List.mem_append_right _ (List.mem_singleton.mpr rfl))))
  have et65 := (h8b _ (List.mem_append_left _ lfh7) ne_fih7_q8).trans ((va_up_ne _ _ ne_fih7_q8).trans ((va_up_ne _ _ (Ne.symm (ne_in (List.mem_append_left _ lt26) nfh7))).trans h7d))
  have lt65 := h8a _ (List.mem_append_left _ lfh7)
  refine q_st (st2 := [.ref q8, .ref h0]) rfl ?_
  refine q_putF (k := 7) C ck_12 dX11_init_101 w2_51 (by decide) rfl rfl rfl lt51 et51 rfl rfl ?_
  refine q_aload_n (j := 0) C dX11_init_104 rfl ?_
  refine q_new C ck_5 dX11_init_105 w1_220 w1_221 w1_10 ⟨Nat.le_of_ble_eq_true rfl, Nat.le_of_ble_eq_true rfl⟩ (fun q9 nq9 => ?_)
  have ne_h0_q9 : h0 ≠ q9 := (ne_in lt51 nq9)
  have ne_q1_q9 : q1 ≠ q9 := (ne_in lt52 nq9)
  have ne_r1_q9 : r1 ≠ q9 := (ne_in lt53 nq9)
  have ne_q2_q9 : q2 ≠ q9 := (ne_in lt54 nq9)
  have ne_r2_q9 : r2 ≠ q9 := (ne_in lt55 nq9)
  have ne_q3_q9 : q3 ≠ q9 := (ne_in lt56 nq9)
  have ne_r3_q9 : r3 ≠ q9 := (ne_in lt57 nq9)
  have ne_q4_q9 : q4 ≠ q9 := (ne_in lt58 nq9)
  have ne_r4_q9 : r4 ≠ q9 := (ne_in lt59 nq9)
  have ne_q5_q9 : q5 ≠ q9 := (ne_in lt60 nq9)
  have ne_mdh5_q9 : mdh5 ≠ q9 := (ne_in lt61 nq9)
  have ne_chh5_q9 : chh5 ≠ q9 := (ne_in lt62 nq9)
  have ne_q6_q9 : q6 ≠ q9 := (ne_in lt63 nq9)
  have ne_q7_q9 : q7 ≠ q9 := (ne_in lt64 nq9)
  have ne_fih7_q9 : fih7 ≠ q9 := (ne_in lt65 nq9)
  have ne_q8_q9 : q8 ≠ q9 := (ne_in (h8a _ (List.mem_append_right _ (List.mem_singleton.mpr rfl))) nq9)
  refine q_dup C dX11_init_108 rfl ?_
  refine q_aload_n (j := 0) C dX11_init_109 rfl ?_
  refine q_get (k := 7) (v := .ref q8) C ck_12 dX11_init_110 w2_51 (by decide) (List.mem_append_left _ lt51) ((va_up_ne _ _ ne_h0_q9).trans (va_up_self _ _ _)) rfl ?_
  refine q_callI (As := [.ref q8]) (rest := [.ref q9, .ref h0]) C (c_Readings_init (List.mem_append_right _ (List.mem_singleton.mpr rfl)) (va_up_self _ _ _)) dX11_init_113 kI_X11_57 rfl rfl (Nat.le_of_ble_eq_true rfl) ⟨Nat.le_of_ble_eq_true rfl, Nat.le_of_ble_eq_true rfl⟩ ⟨Nat.le_of_ble_eq_true rfl, Nat.le_of_ble_eq_true rfl⟩ (fun vh9 Lh9 Eh9 h9 => ?_)
  obtain ⟨rfl, h9a, h9b, gh9, h9c, h95, h96⟩ := h9
  have et66 := (h9b _ (List.mem_append_left _ lt51) ne_h0_q9).trans ((va_up_ne _ _ ne_h0_q9).trans (va_up_self _ _ _))
  have lt66 := h9a _ (List.mem_append_left _ lt51)
  have et67 := (h9b _ (List.mem_append_left _ lt52) ne_q1_q9).trans ((va_up_ne _ _ ne_q1_q9).trans ((va_up_ne _ _ (Ne.symm ne_h0_q1)).trans et52))
  have lt67 := h9a _ (List.mem_append_left _ lt52)
  have et68 := (h9b _ (List.mem_append_left _ lt53) ne_r1_q9).trans ((va_up_ne _ _ ne_r1_q9).trans ((va_up_ne _ _ (Ne.symm (ne_in (List.mem_append_left _ hL) nr1))).trans et53))
  have lt68 := h9a _ (List.mem_append_left _ lt53)
  have et69 := (h9b _ (List.mem_append_left _ lt54) ne_q2_q9).trans ((va_up_ne _ _ ne_q2_q9).trans ((va_up_ne _ _ (Ne.symm ne_h0_q2)).trans et54))
  have lt69 := h9a _ (List.mem_append_left _ lt54)
  have et70 := (h9b _ (List.mem_append_left _ lt55) ne_r2_q9).trans ((va_up_ne _ _ ne_r2_q9).trans ((va_up_ne _ _ (Ne.symm (ne_in (List.mem_append_left _ lt1) nr2))).trans et55))
  have lt70 := h9a _ (List.mem_append_left _ lt55)
  have et71 := (h9b _ (List.mem_append_left _ lt56) ne_q3_q9).trans ((va_up_ne _ _ ne_q3_q9).trans ((va_up_ne _ _ (Ne.symm ne_h0_q3)).trans et56))
  have lt71 := h9a _ (List.mem_append_left _ lt56)
  have et72 := (h9b _ (List.mem_append_left _ lt57) ne_r3_q9).trans ((va_up_ne _ _ ne_r3_q9).trans ((va_up_ne _ _ (Ne.symm (ne_in (List.mem_append_left _ lt2) nr3))).trans et57))
  have lt72 := h9a _ (List.mem_append_left _ lt57)
  have et73 := (h9b _ (List.mem_append_left _ lt58) ne_q4_q9).trans ((va_up_ne _ _ ne_q4_q9).trans ((va_up_ne _ _ (Ne.symm ne_h0_q4)).trans et58))
  have lt73 := h9a _ (List.mem_append_left _ lt58)
  have et74 := (h9b _ (List.mem_append_left _ lt59) ne_r4_q9).trans ((va_up_ne _ _ ne_r4_q9).trans ((va_up_ne _ _ (Ne.symm (ne_in (List.mem_append_left _ lt5) nr4))).trans et59))
  have lt74 := h9a _ (List.mem_append_left _ lt59)
  have et75 := (h9b _ (List.mem_append_left _ lt60) ne_q5_q9).trans ((va_up_ne _ _ ne_q5_q9).trans ((va_up_ne _ _ (Ne.symm ne_h0_q5)).trans et60))
  have lt75 := h9a _ (List.mem_append_left _ lt60)
  have et76 := (h9b _ (List.mem_append_left _ lt61) ne_mdh5_q9).trans ((va_up_ne _ _ ne_mdh5_q9).trans ((va_up_ne _ _ (Ne.symm (ne_in (List.mem_append_left _ lt10) nmh5))).trans et61))
  have lt76 := h9a _ (List.mem_append_left _ lt61)
  have et77 := (h9b _ (List.mem_append_left _ lt62) ne_chh5_q9).trans ((va_up_ne _ _ ne_chh5_q9).trans ((va_up_ne _ _ (Ne.symm (ne_in (List.mem_append_left _ lt10) nch5))).trans et62))
  have lt77 := h9a _ (List.mem_append_left _ lt62)
  have et78 := (h9b _ (List.mem_append_left _ lt63) ne_q6_q9).trans ((va_up_ne _ _ ne_q6_q9).trans ((va_up_ne _ _ (Ne.symm ne_h0_q6)).trans et63))
  have lt78 := h9a _ (List.mem_append_left _ lt63)
  have et79 := (h9b _ (List.mem_append_left _ lt64) ne_q7_q9).trans ((va_up_ne _ _ ne_q7_q9).trans ((va_up_ne _ _ (Ne.symm ne_h0_q7)).trans et64))
  have lt79 := h9a _ (List.mem_append_left _ lt64)
  have et80 := (h9b _ (List.mem_append_left _ lt65) ne_fih7_q9).trans ((va_up_ne _ _ ne_fih7_q9).trans ((va_up_ne _ _ (Ne.symm (ne_in (List.mem_append_left _ lt26) nfh7))).trans et65))
  have lt80 := h9a _ (List.mem_append_left _ lt65)
  have et81 := (h9b _ (List.mem_append_left _ (h8a _ (List.mem_append_right _ (List.mem_singleton.mpr rfl)))) ne_q8_q9).trans ((va_up_ne _ _ ne_q8_q9).trans ((va_up_ne _ _ (Ne.symm ne_h0_q8)).trans h8c))
  have lt81 := h9a _ (List.mem_append_left _ (h8a _ (List.mem_append_right _ (List.mem_singleton.mpr rfl))))
  refine q_st (st2 := [.ref q9, .ref h0]) rfl ?_
  refine q_putF (k := 8) C ck_12 dX11_init_116 w2_52 (by decide) rfl rfl rfl lt66 et66 rfl rfl ?_
  refine q_aload_n (j := 0) C dX11_init_119 rfl ?_
  refine q_new C ck_8 dX11_init_120 w2_25 w2_26 w1_11 ⟨Nat.le_of_ble_eq_true rfl, Nat.le_of_ble_eq_true rfl⟩ (fun q10 nq10 => ?_)
  have ne_h0_q10 : h0 ≠ q10 := (ne_in lt66 nq10)
  have ne_q1_q10 : q1 ≠ q10 := (ne_in lt67 nq10)
  have ne_r1_q10 : r1 ≠ q10 := (ne_in lt68 nq10)
  have ne_q2_q10 : q2 ≠ q10 := (ne_in lt69 nq10)
  have ne_r2_q10 : r2 ≠ q10 := (ne_in lt70 nq10)
  have ne_q3_q10 : q3 ≠ q10 := (ne_in lt71 nq10)
  have ne_r3_q10 : r3 ≠ q10 := (ne_in lt72 nq10)
  have ne_q4_q10 : q4 ≠ q10 := (ne_in lt73 nq10)
  have ne_r4_q10 : r4 ≠ q10 := (ne_in lt74 nq10)
  have ne_q5_q10 : q5 ≠ q10 := (ne_in lt75 nq10)
  have ne_mdh5_q10 : mdh5 ≠ q10 := (ne_in lt76 nq10)
  have ne_chh5_q10 : chh5 ≠ q10 := (ne_in lt77 nq10)
  have ne_q6_q10 : q6 ≠ q10 := (ne_in lt78 nq10)
  have ne_q7_q10 : q7 ≠ q10 := (ne_in lt79 nq10)
  have ne_fih7_q10 : fih7 ≠ q10 := (ne_in lt80 nq10)
  have ne_q8_q10 : q8 ≠ q10 := (ne_in lt81 nq10)
  have ne_q9_q10 : q9 ≠ q10 := (ne_in (h9a _ (List.mem_append_right _ (List.mem_singleton.mpr rfl))) nq10)
  refine q_dup C dX11_init_123 rfl ?_
  refine q_callIN (As := []) (rest := [.ref q10, .ref h0]) C (c_Sheet_init (List.mem_append_right _ (List.mem_singleton.mpr rfl)) (va_up_self _ _ _)) dX11_init_124 kN_X11_66 rfl rfl (Nat.le_of_ble_eq_true rfl) ⟨Nat.le_of_ble_eq_true rfl, Nat.le_of_ble_eq_true rfl⟩ ⟨Nat.le_of_ble_eq_true rfl, Nat.le_of_ble_eq_true rfl⟩ (fun vh10 Lh10 Eh10 h10 => ?_)
  obtain ⟨rfl, h10a, h10b, gh10, h10c, h101⟩ := h10
  have et82 := (h10b _ (List.mem_append_left _ lt66) ne_h0_q10).trans ((va_up_ne _ _ ne_h0_q10).trans (va_up_self _ _ _))
  have lt82 := h10a _ (List.mem_append_left _ lt66)
  have et83 := (h10b _ (List.mem_append_left _ lt67) ne_q1_q10).trans ((va_up_ne _ _ ne_q1_q10).trans ((va_up_ne _ _ (Ne.symm ne_h0_q1)).trans et67))
  have lt83 := h10a _ (List.mem_append_left _ lt67)
  have et84 := (h10b _ (List.mem_append_left _ lt68) ne_r1_q10).trans ((va_up_ne _ _ ne_r1_q10).trans ((va_up_ne _ _ (Ne.symm (ne_in (List.mem_append_left _ hL) nr1))).trans et68))
  have lt84 := h10a _ (List.mem_append_left _ lt68)
  have et85 := (h10b _ (List.mem_append_left _ lt69) ne_q2_q10).trans ((va_up_ne _ _ ne_q2_q10).trans ((va_up_ne _ _ (Ne.symm ne_h0_q2)).trans et69))
  have lt85 := h10a _ (List.mem_append_left _ lt69)
  have et86 := (h10b _ (List.mem_append_left _ lt70) ne_r2_q10).trans ((va_up_ne _ _ ne_r2_q10).trans ((va_up_ne _ _ (Ne.symm (ne_in (List.mem_append_left _ lt1) nr2))).trans et70))
  have lt86 := h10a _ (List.mem_append_left _ lt70)
  have et87 := (h10b _ (List.mem_append_left _ lt71) ne_q3_q10).trans ((va_up_ne _ _ ne_q3_q10).trans ((va_up_ne _ _ (Ne.symm ne_h0_q3)).trans et71))
  have lt87 := h10a _ (List.mem_append_left _ lt71)
  have et88 := (h10b _ (List.mem_append_left _ lt72) ne_r3_q10).trans ((va_up_ne _ _ ne_r3_q10).trans ((va_up_ne _ _ (Ne.symm (ne_in (List.mem_append_left _ lt2) nr3))).trans et72))
  have lt88 := h10a _ (List.mem_append_left _ lt72)
  have et89 := (h10b _ (List.mem_append_left _ lt73) ne_q4_q10).trans ((va_up_ne _ _ ne_q4_q10).trans ((va_up_ne _ _ (Ne.symm ne_h0_q4)).trans et73))
  have lt89 := h10a _ (List.mem_append_left _ lt73)
  have et90 := (h10b _ (List.mem_append_left _ lt74) ne_r4_q10).trans ((va_up_ne _ _ ne_r4_q10).trans ((va_up_ne _ _ (Ne.symm (ne_in (List.mem_append_left _ lt5) nr4))).trans et74))
  have lt90 := h10a _ (List.mem_append_left _ lt74)
  have et91 := (h10b _ (List.mem_append_left _ lt75) ne_q5_q10).trans ((va_up_ne _ _ ne_q5_q10).trans ((va_up_ne _ _ (Ne.symm ne_h0_q5)).trans et75))
  have lt91 := h10a _ (List.mem_append_left _ lt75)
  have et92 := (h10b _ (List.mem_append_left _ lt76) ne_mdh5_q10).trans ((va_up_ne _ _ ne_mdh5_q10).trans ((va_up_ne _ _ (Ne.symm (ne_in (List.mem_append_left _ lt10) nmh5))).trans et76))
  have lt92 := h10a _ (List.mem_append_left _ lt76)
  have et93 := (h10b _ (List.mem_append_left _ lt77) ne_chh5_q10).trans ((va_up_ne _ _ ne_chh5_q10).trans ((va_up_ne _ _ (Ne.symm (ne_in (List.mem_append_left _ lt10) nch5))).trans et77))
  have lt93 := h10a _ (List.mem_append_left _ lt77)
  have et94 := (h10b _ (List.mem_append_left _ lt78) ne_q6_q10).trans ((va_up_ne _ _ ne_q6_q10).trans ((va_up_ne _ _ (Ne.symm ne_h0_q6)).trans et78))
  have lt94 := h10a _ (List.mem_append_left _ lt78)
  have et95 := (h10b _ (List.mem_append_left _ lt79) ne_q7_q10).trans ((va_up_ne _ _ ne_q7_q10).trans ((va_up_ne _ _ (Ne.symm ne_h0_q7)).trans et79))
  have lt95 := h10a _ (List.mem_append_left _ lt79)
  have et96 := (h10b _ (List.mem_append_left _ lt80) ne_fih7_q10).trans ((va_up_ne _ _ ne_fih7_q10).trans ((va_up_ne _ _ (Ne.symm (ne_in (List.mem_append_left _ lt26) nfh7))).trans et80))
  have lt96 := h10a _ (List.mem_append_left _ lt80)
  have et97 := (h10b _ (List.mem_append_left _ lt81) ne_q8_q10).trans ((va_up_ne _ _ ne_q8_q10).trans ((va_up_ne _ _ (Ne.symm ne_h0_q8)).trans et81))
  have lt97 := h10a _ (List.mem_append_left _ lt81)
  have et98 := (h10b _ (List.mem_append_left _ (h9a _ (List.mem_append_right _ (List.mem_singleton.mpr rfl)))) ne_q9_q10).trans ((va_up_ne _ _ ne_q9_q10).trans ((va_up_ne _ _ (Ne.symm ne_h0_q9)).trans h9c))
  have lt98 := h10a _ (List.mem_append_left _ (h9a _ (List.mem_append_right _ (List.mem_singleton.mpr rfl))))
  refine q_st (st2 := [.ref q10, .ref h0]) rfl ?_
  refine q_put (k := 9) C ck_12 dX11_init_127 w2_53 (by decide) rfl lt82 et82 rfl rfl ?_
  refine q_aload_n (j := 0) C dX11_init_130 rfl ?_
  refine q_new C ck_8 dX11_init_131 w2_25 w2_26 w1_11 ⟨Nat.le_of_ble_eq_true rfl, Nat.le_of_ble_eq_true rfl⟩ (fun q11 nq11 => ?_)
  have ne_h0_q11 : h0 ≠ q11 := (ne_in lt82 nq11)
  have ne_q1_q11 : q1 ≠ q11 := (ne_in lt83 nq11)
  have ne_r1_q11 : r1 ≠ q11 := (ne_in lt84 nq11)
  have ne_q2_q11 : q2 ≠ q11 := (ne_in lt85 nq11)
  have ne_r2_q11 : r2 ≠ q11 := (ne_in lt86 nq11)
  have ne_q3_q11 : q3 ≠ q11 := (ne_in lt87 nq11)
  have ne_r3_q11 : r3 ≠ q11 := (ne_in lt88 nq11)
  have ne_q4_q11 : q4 ≠ q11 := (ne_in lt89 nq11)
  have ne_r4_q11 : r4 ≠ q11 := (ne_in lt90 nq11)
  have ne_q5_q11 : q5 ≠ q11 := (ne_in lt91 nq11)
  have ne_mdh5_q11 : mdh5 ≠ q11 := (ne_in lt92 nq11)
  have ne_chh5_q11 : chh5 ≠ q11 := (ne_in lt93 nq11)
  have ne_q6_q11 : q6 ≠ q11 := (ne_in lt94 nq11)
  have ne_q7_q11 : q7 ≠ q11 := (ne_in lt95 nq11)
  have ne_fih7_q11 : fih7 ≠ q11 := (ne_in lt96 nq11)
  have ne_q8_q11 : q8 ≠ q11 := (ne_in lt97 nq11)
  have ne_q9_q11 : q9 ≠ q11 := (ne_in lt98 nq11)
  have ne_q10_q11 : q10 ≠ q11 := (ne_in (h10a _ (List.mem_append_right _ (List.mem_singleton.mpr rfl))) nq11)
  refine q_dup C dX11_init_134 rfl ?_
  refine q_callIN (As := []) (rest := [.ref q11, .ref h0]) C (c_Sheet_init (List.mem_append_right _ (List.mem_singleton.mpr rfl)) (va_up_self _ _ _)) dX11_init_135 kN_X11_66 rfl rfl (Nat.le_of_ble_eq_true rfl) ⟨Nat.le_of_ble_eq_true rfl, Nat.le_of_ble_eq_true rfl⟩ ⟨Nat.le_of_ble_eq_true rfl, Nat.le_of_ble_eq_true rfl⟩ (fun vh11 Lh11 Eh11 h11 => ?_)
  obtain ⟨rfl, h11a, h11b, gh11, h11c, h111⟩ := h11
  have et99 := (h11b _ (List.mem_append_left _ lt82) ne_h0_q11).trans ((va_up_ne _ _ ne_h0_q11).trans (va_up_self _ _ _))
  have lt99 := h11a _ (List.mem_append_left _ lt82)
  have et100 := (h11b _ (List.mem_append_left _ lt83) ne_q1_q11).trans ((va_up_ne _ _ ne_q1_q11).trans ((va_up_ne _ _ (Ne.symm ne_h0_q1)).trans et83))
  have lt100 := h11a _ (List.mem_append_left _ lt83)
  have et101 := (h11b _ (List.mem_append_left _ lt84) ne_r1_q11).trans ((va_up_ne _ _ ne_r1_q11).trans ((va_up_ne _ _ (Ne.symm (ne_in (List.mem_append_left _ hL) nr1))).trans et84))
  have lt101 := h11a _ (List.mem_append_left _ lt84)
  have et102 := (h11b _ (List.mem_append_left _ lt85) ne_q2_q11).trans ((va_up_ne _ _ ne_q2_q11).trans ((va_up_ne _ _ (Ne.symm ne_h0_q2)).trans et85))
  have lt102 := h11a _ (List.mem_append_left _ lt85)
  have et103 := (h11b _ (List.mem_append_left _ lt86) ne_r2_q11).trans ((va_up_ne _ _ ne_r2_q11).trans ((va_up_ne _ _ (Ne.symm (ne_in (List.mem_append_left _ lt1) nr2))).trans et86))
  have lt103 := h11a _ (List.mem_append_left _ lt86)
  have et104 := (h11b _ (List.mem_append_left _ lt87) ne_q3_q11).trans ((va_up_ne _ _ ne_q3_q11).trans ((va_up_ne _ _ (Ne.symm ne_h0_q3)).trans et87))
  have lt104 := h11a _ (List.mem_append_left _ lt87)
  have et105 := (h11b _ (List.mem_append_left _ lt88) ne_r3_q11).trans ((va_up_ne _ _ ne_r3_q11).trans ((va_up_ne _ _ (Ne.symm (ne_in (List.mem_append_left _ lt2) nr3))).trans et88))
  have lt105 := h11a _ (List.mem_append_left _ lt88)
  have et106 := (h11b _ (List.mem_append_left _ lt89) ne_q4_q11).trans ((va_up_ne _ _ ne_q4_q11).trans ((va_up_ne _ _ (Ne.symm ne_h0_q4)).trans et89))
  have lt106 := h11a _ (List.mem_append_left _ lt89)
  have et107 := (h11b _ (List.mem_append_left _ lt90) ne_r4_q11).trans ((va_up_ne _ _ ne_r4_q11).trans ((va_up_ne _ _ (Ne.symm (ne_in (List.mem_append_left _ lt5) nr4))).trans et90))
  have lt107 := h11a _ (List.mem_append_left _ lt90)
  have et108 := (h11b _ (List.mem_append_left _ lt91) ne_q5_q11).trans ((va_up_ne _ _ ne_q5_q11).trans ((va_up_ne _ _ (Ne.symm ne_h0_q5)).trans et91))
  have lt108 := h11a _ (List.mem_append_left _ lt91)
  have et109 := (h11b _ (List.mem_append_left _ lt92) ne_mdh5_q11).trans ((va_up_ne _ _ ne_mdh5_q11).trans ((va_up_ne _ _ (Ne.symm (ne_in (List.mem_append_left _ lt10) nmh5))).trans et92))
  have lt109 := h11a _ (List.mem_append_left _ lt92)
  have et110 := (h11b _ (List.mem_append_left _ lt93) ne_chh5_q11).trans ((va_up_ne _ _ ne_chh5_q11).trans ((va_up_ne _ _ (Ne.symm (ne_in (List.mem_append_left _ lt10) nch5))).trans et93))
  have lt110 := h11a _ (List.mem_append_left _ lt93)
  have et111 := (h11b _ (List.mem_append_left _ lt94) ne_q6_q11).trans ((va_up_ne _ _ ne_q6_q11).trans ((va_up_ne _ _ (Ne.symm ne_h0_q6)).trans et94))
  have lt111 := h11a _ (List.mem_append_left _ lt94)
  have et112 := (h11b _ (List.mem_append_left _ lt95) ne_q7_q11).trans ((va_up_ne _ _ ne_q7_q11).trans ((va_up_ne _ _ (Ne.symm ne_h0_q7)).trans et95))
  have lt112 := h11a _ (List.mem_append_left _ lt95)
  have et113 := (h11b _ (List.mem_append_left _ lt96) ne_fih7_q11).trans ((va_up_ne _ _ ne_fih7_q11).trans ((va_up_ne _ _ (Ne.symm (ne_in (List.mem_append_left _ lt26) nfh7))).trans et96))
  have lt113 := h11a _ (List.mem_append_left _ lt96)
  have et114 := (h11b _ (List.mem_append_left _ lt97) ne_q8_q11).trans ((va_up_ne _ _ ne_q8_q11).trans ((va_up_ne _ _ (Ne.symm ne_h0_q8)).trans et97))
  have lt114 := h11a _ (List.mem_append_left _ lt97)
  have et115 := (h11b _ (List.mem_append_left _ lt98) ne_q9_q11).trans ((va_up_ne _ _ ne_q9_q11).trans ((va_up_ne _ _ (Ne.symm ne_h0_q9)).trans et98))
  have lt115 := h11a _ (List.mem_append_left _ lt98)
  have et116 := (h11b _ (List.mem_append_left _ (h10a _ (List.mem_append_right _ (List.mem_singleton.mpr rfl)))) ne_q10_q11).trans ((va_up_ne _ _ ne_q10_q11).trans ((va_up_ne _ _ (Ne.symm ne_h0_q10)).trans h10c))
  have lt116 := h11a _ (List.mem_append_left _ (h10a _ (List.mem_append_right _ (List.mem_singleton.mpr rfl))))
  refine q_st (st2 := [.ref q11, .ref h0]) rfl ?_
  refine q_put (k := 10) C ck_12 dX11_init_138 w2_54 (by decide) rfl lt99 et99 rfl rfl ?_
  refine q_aload_n (j := 0) C dX11_init_141 rfl ?_
  refine q_bipush (v := 32) C dX11_init_142 (by decide) ?_
  refine q_put (k := 11) C ck_12 dX11_init_144 w2_55 (by decide) rfl lt99 (va_up_self _ _ _) rfl rfl ?_
  refine q_aload_n (j := 0) C dX11_init_147 rfl ?_
  refine q_bipush (v := 25) C dX11_init_148 (by decide) ?_
  refine q_put (k := 12) C ck_12 dX11_init_150 w2_56 (by decide) rfl lt99 (va_up_self _ _ _) rfl rfl ?_
  refine q_aload_n (j := 0) C dX11_init_153 rfl ?_
  refine q_bipush (v := 36) C dX11_init_154 (by decide) ?_
  refine q_put (k := 13) C ck_12 dX11_init_156 w2_57 (by decide) rfl lt99 (va_up_self _ _ _) rfl rfl ?_
  refine q_aload_n (j := 0) C dX11_init_159 rfl ?_
  refine q_iconst (v := 0) C dX11_init_160 (by decide) ?_
  refine q_put (k := 14) C ck_12 dX11_init_161 w2_58 (by decide) rfl lt99 (va_up_self _ _ _) rfl rfl ?_
  refine q_aload_n (j := 0) C dX11_init_164 rfl ?_
  refine q_iconst (v := 0) C dX11_init_165 (by decide) ?_
  refine q_put (k := 15) C ck_12 dX11_init_166 w2_59 (by decide) rfl lt99 (va_up_self _ _ _) rfl rfl ?_
  refine q_aload_n (j := 0) C dX11_init_169 rfl ?_
  refine q_iconst (v := 0) C dX11_init_170 (by decide) ?_
  refine q_put (k := 16) C ck_12 dX11_init_171 w2_60 (by decide) rfl lt99 (va_up_self _ _ _) rfl rfl ?_
  refine q_aload_n (j := 0) C dX11_init_174 rfl ?_
  refine q_iconst (v := 0) C dX11_init_175 (by decide) ?_
  refine q_put (k := 17) C ck_12 dX11_init_176 w2_61 (by decide) rfl lt99 (va_up_self _ _ _) rfl rfl ?_
  refine q_aload_n (j := 0) C dX11_init_179 rfl ?_
  refine q_iconst (v := (-1)) C dX11_init_180 (by decide) ?_
  refine q_put (k := 18) C ck_12 dX11_init_181 w2_62 (by decide) rfl lt99 (va_up_self _ _ _) rfl rfl ?_
  exact q_vret C dX11_init_184 rfl (Nat.le_of_ble_eq_true rfl) (Nat.le_of_ble_eq_true rfl) ⟨rfl, q1, r1, q2, q3, q4, q5, mdh5, chh5, q7, fih7, q9, q10, _, _, _, _, _, _, _, _, _, _, _, lt99, (va_up_self _ _ _), rfl, rfl, rfl, rfl, rfl, rfl, rfl, rfl, rfl, rfl, rfl, rfl, rfl, rfl, rfl, rfl, lt100, ((va_up_ne _ _ (Ne.symm ne_h0_q1)).trans ((va_up_ne _ _ (Ne.symm ne_h0_q1)).trans ((va_up_ne _ _ (Ne.symm ne_h0_q1)).trans ((va_up_ne _ _ (Ne.symm ne_h0_q1)).trans ((va_up_ne _ _ (Ne.symm ne_h0_q1)).trans ((va_up_ne _ _ (Ne.symm ne_h0_q1)).trans ((va_up_ne _ _ (Ne.symm ne_h0_q1)).trans ((va_up_ne _ _ (Ne.symm ne_h0_q1)).trans ((va_up_ne _ _ (Ne.symm ne_h0_q1)).trans et100))))))))), h10, h11, h12, lt101, ((va_up_ne _ _ (Ne.symm (ne_in (List.mem_append_left _ hL) nr1))).trans ((va_up_ne _ _ (Ne.symm (ne_in (List.mem_append_left _ hL) nr1))).trans ((va_up_ne _ _ (Ne.symm (ne_in (List.mem_append_left _ hL) nr1))).trans ((va_up_ne _ _ (Ne.symm (ne_in (List.mem_append_left _ hL) nr1))).trans ((va_up_ne _ _ (Ne.symm (ne_in (List.mem_append_left _ hL) nr1))).trans ((va_up_ne _ _ (Ne.symm (ne_in (List.mem_append_left _ hL) nr1))).trans ((va_up_ne _ _ (Ne.symm (ne_in (List.mem_append_left _ hL) nr1))).trans ((va_up_ne _ _ (Ne.symm (ne_in (List.mem_append_left _ hL) nr1))).trans ((va_up_ne _ _ (Ne.symm (ne_in (List.mem_append_left _ hL) nr1))).trans et101))))))))), lt102, ((va_up_ne _ _ (Ne.symm ne_h0_q2)).trans ((va_up_ne _ _ (Ne.symm ne_h0_q2)).trans ((va_up_ne _ _ (Ne.symm ne_h0_q2)).trans ((va_up_ne _ _ (Ne.symm ne_h0_q2)).trans ((va_up_ne _ _ (Ne.symm ne_h0_q2)).trans ((va_up_ne _ _ (Ne.symm ne_h0_q2)).trans ((va_up_ne _ _ (Ne.symm ne_h0_q2)).trans ((va_up_ne _ _ (Ne.symm ne_h0_q2)).trans ((va_up_ne _ _ (Ne.symm ne_h0_q2)).trans et102))))))))), h22, lt104, ((va_up_ne _ _ (Ne.symm ne_h0_q3)).trans ((va_up_ne _ _ (Ne.symm ne_h0_q3)).trans ((va_up_ne _ _ (Ne.symm ne_h0_q3)).trans ((va_up_ne _ _ (Ne.symm ne_h0_q3)).trans ((va_up_ne _ _ (Ne.symm ne_h0_q3)).trans ((va_up_ne _ _ (Ne.symm ne_h0_q3)).trans ((va_up_ne _ _ (Ne.symm ne_h0_q3)).trans ((va_up_ne _ _ (Ne.symm ne_h0_q3)).trans ((va_up_ne _ _ (Ne.symm ne_h0_q3)).trans et104))))))))), h32, lt106, ((va_up_ne _ _ (Ne.symm ne_h0_q4)).trans ((va_up_ne _ _ (Ne.symm ne_h0_q4)).trans ((va_up_ne _ _ (Ne.symm ne_h0_q4)).trans ((va_up_ne _ _ (Ne.symm ne_h0_q4)).trans ((va_up_ne _ _ (Ne.symm ne_h0_q4)).trans ((va_up_ne _ _ (Ne.symm ne_h0_q4)).trans ((va_up_ne _ _ (Ne.symm ne_h0_q4)).trans ((va_up_ne _ _ (Ne.symm ne_h0_q4)).trans ((va_up_ne _ _ (Ne.symm ne_h0_q4)).trans et106))))))))), h42, lt108, ((va_up_ne _ _ (Ne.symm ne_h0_q5)).trans ((va_up_ne _ _ (Ne.symm ne_h0_q5)).trans ((va_up_ne _ _ (Ne.symm ne_h0_q5)).trans ((va_up_ne _ _ (Ne.symm ne_h0_q5)).trans ((va_up_ne _ _ (Ne.symm ne_h0_q5)).trans ((va_up_ne _ _ (Ne.symm ne_h0_q5)).trans ((va_up_ne _ _ (Ne.symm ne_h0_q5)).trans ((va_up_ne _ _ (Ne.symm ne_h0_q5)).trans ((va_up_ne _ _ (Ne.symm ne_h0_q5)).trans et108))))))))), h50, h51, lt109, ((va_up_ne _ _ (Ne.symm (ne_in (List.mem_append_left _ lt10) nmh5))).trans ((va_up_ne _ _ (Ne.symm (ne_in (List.mem_append_left _ lt10) nmh5))).trans ((va_up_ne _ _ (Ne.symm (ne_in (List.mem_append_left _ lt10) nmh5))).trans ((va_up_ne _ _ (Ne.symm (ne_in (List.mem_append_left _ lt10) nmh5))).trans ((va_up_ne _ _ (Ne.symm (ne_in (List.mem_append_left _ lt10) nmh5))).trans ((va_up_ne _ _ (Ne.symm (ne_in (List.mem_append_left _ lt10) nmh5))).trans ((va_up_ne _ _ (Ne.symm (ne_in (List.mem_append_left _ lt10) nmh5))).trans ((va_up_ne _ _ (Ne.symm (ne_in (List.mem_append_left _ lt10) nmh5))).trans ((va_up_ne _ _ (Ne.symm (ne_in (List.mem_append_left _ lt10) nmh5))).trans et109))))))))), h5d1, h5d2, lt110, ((va_up_ne _ _ (Ne.symm (ne_in (List.mem_append_left _ lt10) nch5))).trans ((va_up_ne _ _ (Ne.symm (ne_in (List.mem_append_left _ lt10) nch5))).trans ((va_up_ne _ _ (Ne.symm (ne_in (List.mem_append_left _ lt10) nch5))).trans ((va_up_ne _ _ (Ne.symm (ne_in (List.mem_append_left _ lt10) nch5))).trans ((va_up_ne _ _ (Ne.symm (ne_in (List.mem_append_left _ lt10) nch5))).trans ((va_up_ne _ _ (Ne.symm (ne_in (List.mem_append_left _ lt10) nch5))).trans ((va_up_ne _ _ (Ne.symm (ne_in (List.mem_append_left _ lt10) nch5))).trans ((va_up_ne _ _ (Ne.symm (ne_in (List.mem_append_left _ lt10) nch5))).trans ((va_up_ne _ _ (Ne.symm (ne_in (List.mem_append_left _ lt10) nch5))).trans et110))))))))), h5e1, h5e2, lt112, ((va_up_ne _ _ (Ne.symm ne_h0_q7)).trans ((va_up_ne _ _ (Ne.symm ne_h0_q7)).trans ((va_up_ne _ _ (Ne.symm ne_h0_q7)).trans ((va_up_ne _ _ (Ne.symm ne_h0_q7)).trans ((va_up_ne _ _ (Ne.symm ne_h0_q7)).trans ((va_up_ne _ _ (Ne.symm ne_h0_q7)).trans ((va_up_ne _ _ (Ne.symm ne_h0_q7)).trans ((va_up_ne _ _ (Ne.symm ne_h0_q7)).trans ((va_up_ne _ _ (Ne.symm ne_h0_q7)).trans et112))))))))), h78, lt113, ((va_up_ne _ _ (Ne.symm (ne_in (List.mem_append_left _ lt26) nfh7))).trans ((va_up_ne _ _ (Ne.symm (ne_in (List.mem_append_left _ lt26) nfh7))).trans ((va_up_ne _ _ (Ne.symm (ne_in (List.mem_append_left _ lt26) nfh7))).trans ((va_up_ne _ _ (Ne.symm (ne_in (List.mem_append_left _ lt26) nfh7))).trans ((va_up_ne _ _ (Ne.symm (ne_in (List.mem_append_left _ lt26) nfh7))).trans ((va_up_ne _ _ (Ne.symm (ne_in (List.mem_append_left _ lt26) nfh7))).trans ((va_up_ne _ _ (Ne.symm (ne_in (List.mem_append_left _ lt26) nfh7))).trans ((va_up_ne _ _ (Ne.symm (ne_in (List.mem_append_left _ lt26) nfh7))).trans ((va_up_ne _ _ (Ne.symm (ne_in (List.mem_append_left _ lt26) nfh7))).trans et113))))))))), lt115, ((va_up_ne _ _ (Ne.symm ne_h0_q9)).trans ((va_up_ne _ _ (Ne.symm ne_h0_q9)).trans ((va_up_ne _ _ (Ne.symm ne_h0_q9)).trans ((va_up_ne _ _ (Ne.symm ne_h0_q9)).trans ((va_up_ne _ _ (Ne.symm ne_h0_q9)).trans ((va_up_ne _ _ (Ne.symm ne_h0_q9)).trans ((va_up_ne _ _ (Ne.symm ne_h0_q9)).trans ((va_up_ne _ _ (Ne.symm ne_h0_q9)).trans ((va_up_ne _ _ (Ne.symm ne_h0_q9)).trans et115))))))))), h95, h96, lt116, ((va_up_ne _ _ (Ne.symm ne_h0_q10)).trans ((va_up_ne _ _ (Ne.symm ne_h0_q10)).trans ((va_up_ne _ _ (Ne.symm ne_h0_q10)).trans ((va_up_ne _ _ (Ne.symm ne_h0_q10)).trans ((va_up_ne _ _ (Ne.symm ne_h0_q10)).trans ((va_up_ne _ _ (Ne.symm ne_h0_q10)).trans ((va_up_ne _ _ (Ne.symm ne_h0_q10)).trans ((va_up_ne _ _ (Ne.symm ne_h0_q10)).trans ((va_up_ne _ _ (Ne.symm ne_h0_q10)).trans et116))))))))), h101, nmch5, ne_q1_q2⟩
end
section
def MF (G : GT) (L : List Nat) (E : Nat → va_E) (h0 : Nat) : Prop := ∃ (a2 a5 a6 a7 a8 a9 a10 a16 a18 a27 : Nat) (f : Nat → Value), h0 ∈ L ∧ E h0 = ob 13 67 f ∧ f 0 = .int 0 ∧ f 1 = .int (-1) ∧ f 3 = .int 0 ∧ f 4 = .int 0 ∧ f 19 = .int 0 ∧ f 23 = .int 0 ∧ f 30 = .int 0 ∧ f 31 = .int 32 ∧ f 32 = .int 25 ∧ f 33 = .int 36 ∧ f 36 = .int 0 ∧ f 41 = .int 0 ∧ f 42 = .int 0 ∧ f 43 = .int 0 ∧ f 50 = .int 0 ∧ f 52 = .int 0 ∧ f 56 = .int 0 ∧ f 60 = .int 0 ∧ f 61 = .int 0 ∧ f 2 = .ref a2 ∧ a2 ∈ L ∧ E a2 = aI G 3000 (fun _ => 0) ∧ f 5 = .ref a5 ∧ a5 ∈ L ∧ E a5 = aZ G 30 (fun _ => 0) ∧ f 6 = .ref a6 ∧ a6 ∈ L ∧ E a6 = aI G 30 (fun _ => 0) ∧ f 7 = .ref a7 ∧ a7 ∈ L ∧ E a7 = aI G 30 (fun _ => 0) ∧ f 8 = .ref a8 ∧ a8 ∈ L ∧ E a8 = aI G 30 (fun _ => 0) ∧ f 9 = .ref a9 ∧ a9 ∈ L ∧ E a9 = aI G 30 (fun _ => 0) ∧ f 10 = .ref a10 ∧ a10 ∈ L ∧ E a10 = aI G 30 (fun _ => 0) ∧ f 16 = .ref a16 ∧ a16 ∈ L ∧ E a16 = aI G 120 (fun _ => 0) ∧ f 18 = .ref a18 ∧ a18 ∈ L ∧ E a18 = aI G 64 (fun _ => 0) ∧ f 27 = .ref a27 ∧ a27 ∈ L ∧ E a27 = aI G 5 (fun _ => 0) ∧ h0 ≠ a2 ∧ h0 ≠ a5 ∧ h0 ≠ a6 ∧ h0 ≠ a7 ∧ h0 ≠ a8 ∧ h0 ≠ a9 ∧ h0 ≠ a10 ∧ h0 ≠ a16 ∧ h0 ≠ a18 ∧ h0 ≠ a27
set_option maxHeartbeats 4000000 in
set_option maxRecDepth 100000 in
theorem c_Model_init {l : Launch} {G : GT} {L : List Nat} {E : Nat → va_E} {h0 : Nat} {f : Nat → Value} (hL : h0 ∈ L) (hE : E h0 = ob 13 67 f) (hf0 : f 0 = .int 0) (hf1 : f 1 = .int 0) (hf3 : f 3 = .int 0) (hf4 : f 4 = .int 0) (hf19 : f 19 = .int 0) (hf23 : f 23 = .int 0) (hf30 : f 30 = .int 0) (hf31 : f 31 = .int 0) (hf32 : f 32 = .int 0) (hf33 : f 33 = .int 0) (hf36 : f 36 = .int 0) (hf41 : f 41 = .int 0) (hf42 : f 42 = .int 0) (hf43 : f 43 = .int 0) (hf50 : f 50 = .int 0) (hf52 : f 52 = .int 0) (hf56 : f 56 = .int 0) (hf60 : f 60 = .int 0) (hf61 : f 61 = .int 0) : Mq l G yX12_init cX12_init 1 none 1 [.ref h0] L E 40 349703 (fun v L2 E2 => v = none ∧ MF G L2 E2 h0) := by
  refine Mq.mk (by decide) (Nat.le_of_ble_eq_true rfl) ?_
  intro p e s m args below meth c A C
  refine q_aload_n (j := 0) C dX12_init_0 rfl ?_
  refine q_objInit C dX12_init_1 w6_54 w1_30 w1_31 ⟨Nat.le_of_ble_eq_true rfl, Nat.le_of_ble_eq_true rfl⟩ (Nat.le_of_ble_eq_true rfl) ?_
  refine q_aload_n (j := 0) C dX12_init_4 rfl ?_
  refine q_iconst (v := (-1)) C dX12_init_5 (by decide) ?_
  refine q_put (k := 1) C ck_13 dX12_init_6 w6_60 (by decide) rfl hL hE rfl rfl ?_
  refine q_aload_n (j := 0) C dX12_init_9 rfl ?_
  refine q_sipush (v := 3000) C dX12_init_10 (by decide) ?_
  refine q_newaI (N := 3000) C dX12_init_13 w1_57 (by decide) (by decide) (by decide) ⟨Nat.le_of_ble_eq_true rfl, Nat.le_of_ble_eq_true rfl⟩ (fun q1 nq1 => ?_)
  have ne_h0_q1 : h0 ≠ q1 := (ne_in hL nq1)
  refine q_putF (k := 2) C ck_13 dX12_init_15 w6_61 (by decide) rfl rfl rfl (List.mem_append_left _ hL) ((va_up_ne _ _ ne_h0_q1).trans (va_up_self _ _ _)) rfl rfl ?_
  refine q_aload_n (j := 0) C dX12_init_18 rfl ?_
  refine q_bipush (v := 30) C dX12_init_19 (by decide) ?_
  refine q_newaZ (N := 30) C dX12_init_21 w1_129 (by decide) (by decide) (by decide) ⟨Nat.le_of_ble_eq_true rfl, Nat.le_of_ble_eq_true rfl⟩ (fun q2 nq2 => ?_)
  have ne_h0_q2 : h0 ≠ q2 := (ne_in (List.mem_append_left _ hL) nq2)
  have ne_q1_q2 : q1 ≠ q2 := (ne_in (List.mem_append_right _ (List.mem_singleton.mpr rfl)) nq2)
  refine q_putF (k := 5) C ck_13 dX12_init_23 w6_64 (by decide) rfl rfl rfl (List.mem_append_left _ (List.mem_append_left _ hL)) ((va_up_ne _ _ ne_h0_q2).trans (va_up_self _ _ _)) rfl rfl ?_
  refine q_aload_n (j := 0) C dX12_init_26 rfl ?_
  refine q_bipush (v := 30) C dX12_init_27 (by decide) ?_
  refine q_newaI (N := 30) C dX12_init_29 w1_57 (by decide) (by decide) (by decide) ⟨Nat.le_of_ble_eq_true rfl, Nat.le_of_ble_eq_true rfl⟩ (fun q3 nq3 => ?_)
  have ne_h0_q3 : h0 ≠ q3 := (ne_in (List.mem_append_left _ (List.mem_append_left _ hL)) nq3)
  have ne_q1_q3 : q1 ≠ q3 := (ne_in (List.mem_append_left _ (List.mem_append_right _ (List.mem_singleton.mpr rfl))) nq3)
  have ne_q2_q3 : q2 ≠ q3 := (ne_in (List.mem_append_right _ (List.mem_singleton.mpr rfl)) nq3)
  refine q_putF (k := 6) C ck_13 dX12_init_31 w6_65 (by decide) rfl rfl rfl (List.mem_append_left _ (List.mem_append_left _ (List.mem_append_left _ hL))) ((va_up_ne _ _ ne_h0_q3).trans (va_up_self _ _ _)) rfl rfl ?_
  refine q_cut (fun Lk1 Ek1 hLk1 hEk1 => ?_)
  have ek1h0 := (congrFun hEk1 h0).trans (va_up_self _ _ _)
  have lk1h0 : h0 ∈ Lk1 := hLk1 ▸ (List.mem_append_left _ (List.mem_append_left _ (List.mem_append_left _ hL)))
  have ek1q1 := (congrFun hEk1 q1).trans ((va_up_ne _ _ (Ne.symm ne_h0_q1)).trans ((va_up_ne _ _ ne_q1_q3).trans ((va_up_ne _ _ (Ne.symm ne_h0_q1)).trans ((va_up_ne _ _ ne_q1_q2).trans ((va_up_ne _ _ (Ne.symm ne_h0_q1)).trans (va_up_self _ _ _))))))
  have lk1q1 : q1 ∈ Lk1 := hLk1 ▸ (List.mem_append_left _ (List.mem_append_left _ (List.mem_append_right _ (List.mem_singleton.mpr rfl))))
  have ek1q2 := (congrFun hEk1 q2).trans ((va_up_ne _ _ (Ne.symm ne_h0_q2)).trans ((va_up_ne _ _ ne_q2_q3).trans ((va_up_ne _ _ (Ne.symm ne_h0_q2)).trans (va_up_self _ _ _))))
  have lk1q2 : q2 ∈ Lk1 := hLk1 ▸ (List.mem_append_left _ (List.mem_append_right _ (List.mem_singleton.mpr rfl)))
  have ek1q3 := (congrFun hEk1 q3).trans ((va_up_ne _ _ (Ne.symm ne_h0_q3)).trans (va_up_self _ _ _))
  have lk1q3 : q3 ∈ Lk1 := hLk1 ▸ (List.mem_append_right _ (List.mem_singleton.mpr rfl))
  clear hEk1 hLk1
  refine q_aload_n (j := 0) C dX12_init_34 rfl ?_
  refine q_bipush (v := 30) C dX12_init_35 (by decide) ?_
  refine q_newaI (N := 30) C dX12_init_37 w1_57 (by decide) (by decide) (by decide) ⟨Nat.le_of_ble_eq_true rfl, Nat.le_of_ble_eq_true rfl⟩ (fun q4 nq4 => ?_)
  have ne_h0_q4 : h0 ≠ q4 := (ne_in lk1h0 nq4)
  have ne_q1_q4 : q1 ≠ q4 := (ne_in lk1q1 nq4)
  have ne_q2_q4 : q2 ≠ q4 := (ne_in lk1q2 nq4)
  have ne_q3_q4 : q3 ≠ q4 := (ne_in lk1q3 nq4)
  refine q_putF (k := 7) C ck_13 dX12_init_39 w6_66 (by decide) rfl rfl rfl (List.mem_append_left _ lk1h0) ((va_up_ne _ _ ne_h0_q4).trans ek1h0) rfl rfl ?_
  refine q_aload_n (j := 0) C dX12_init_42 rfl ?_
  refine q_bipush (v := 30) C dX12_init_43 (by decide) ?_
  refine q_newaI (N := 30) C dX12_init_45 w1_57 (by decide) (by decide) (by decide) ⟨Nat.le_of_ble_eq_true rfl, Nat.le_of_ble_eq_true rfl⟩ (fun q5 nq5 => ?_)
  have ne_h0_q5 : h0 ≠ q5 := (ne_in (List.mem_append_left _ lk1h0) nq5)
  have ne_q1_q5 : q1 ≠ q5 := (ne_in (List.mem_append_left _ lk1q1) nq5)
  have ne_q2_q5 : q2 ≠ q5 := (ne_in (List.mem_append_left _ lk1q2) nq5)
  have ne_q3_q5 : q3 ≠ q5 := (ne_in (List.mem_append_left _ lk1q3) nq5)
  have ne_q4_q5 : q4 ≠ q5 := (ne_in (List.mem_append_right _ (List.mem_singleton.mpr rfl)) nq5)
  refine q_putF (k := 8) C ck_13 dX12_init_47 w6_67 (by decide) rfl rfl rfl (List.mem_append_left _ (List.mem_append_left _ lk1h0)) ((va_up_ne _ _ ne_h0_q5).trans (va_up_self _ _ _)) rfl rfl ?_
  refine q_aload_n (j := 0) C dX12_init_50 rfl ?_
  refine q_bipush (v := 30) C dX12_init_51 (by decide) ?_
  refine q_newaI (N := 30) C dX12_init_53 w1_57 (by decide) (by decide) (by decide) ⟨Nat.le_of_ble_eq_true rfl, Nat.le_of_ble_eq_true rfl⟩ (fun q6 nq6 => ?_)
  have ne_h0_q6 : h0 ≠ q6 := (ne_in (List.mem_append_left _ (List.mem_append_left _ lk1h0)) nq6)
  have ne_q1_q6 : q1 ≠ q6 := (ne_in (List.mem_append_left _ (List.mem_append_left _ lk1q1)) nq6)
  have ne_q2_q6 : q2 ≠ q6 := (ne_in (List.mem_append_left _ (List.mem_append_left _ lk1q2)) nq6)
  have ne_q3_q6 : q3 ≠ q6 := (ne_in (List.mem_append_left _ (List.mem_append_left _ lk1q3)) nq6)
  have ne_q4_q6 : q4 ≠ q6 := (ne_in (List.mem_append_left _ (List.mem_append_right _ (List.mem_singleton.mpr rfl))) nq6)
  have ne_q5_q6 : q5 ≠ q6 := (ne_in (List.mem_append_right _ (List.mem_singleton.mpr rfl)) nq6)
  refine q_putF (k := 9) C ck_13 dX12_init_55 w6_68 (by decide) rfl rfl rfl (List.mem_append_left _ (List.mem_append_left _ (List.mem_append_left _ lk1h0))) ((va_up_ne _ _ ne_h0_q6).trans (va_up_self _ _ _)) rfl rfl ?_
  refine q_cut (fun Lk2 Ek2 hLk2 hEk2 => ?_)
  have ek2h0 := (congrFun hEk2 h0).trans (va_up_self _ _ _)
  have lk2h0 : h0 ∈ Lk2 := hLk2 ▸ (List.mem_append_left _ (List.mem_append_left _ (List.mem_append_left _ lk1h0)))
  have ek2q1 := (congrFun hEk2 q1).trans ((va_up_ne _ _ (Ne.symm ne_h0_q1)).trans ((va_up_ne _ _ ne_q1_q6).trans ((va_up_ne _ _ (Ne.symm ne_h0_q1)).trans ((va_up_ne _ _ ne_q1_q5).trans ((va_up_ne _ _ (Ne.symm ne_h0_q1)).trans ((va_up_ne _ _ ne_q1_q4).trans ek1q1))))))
  have lk2q1 : q1 ∈ Lk2 := hLk2 ▸ (List.mem_append_left _ (List.mem_append_left _ (List.mem_append_left _ lk1q1)))
  have ek2q2 := (congrFun hEk2 q2).trans ((va_up_ne _ _ (Ne.symm ne_h0_q2)).trans ((va_up_ne _ _ ne_q2_q6).trans ((va_up_ne _ _ (Ne.symm ne_h0_q2)).trans ((va_up_ne _ _ ne_q2_q5).trans ((va_up_ne _ _ (Ne.symm ne_h0_q2)).trans ((va_up_ne _ _ ne_q2_q4).trans ek1q2))))))
  have lk2q2 : q2 ∈ Lk2 := hLk2 ▸ (List.mem_append_left _ (List.mem_append_left _ (List.mem_append_left _ lk1q2)))
  have ek2q3 := (congrFun hEk2 q3).trans ((va_up_ne _ _ (Ne.symm ne_h0_q3)).trans ((va_up_ne _ _ ne_q3_q6).trans ((va_up_ne _ _ (Ne.symm ne_h0_q3)).trans ((va_up_ne _ _ ne_q3_q5).trans ((va_up_ne _ _ (Ne.symm ne_h0_q3)).trans ((va_up_ne _ _ ne_q3_q4).trans ek1q3))))))
  have lk2q3 : q3 ∈ Lk2 := hLk2 ▸ (List.mem_append_left _ (List.mem_append_left _ (List.mem_append_left _ lk1q3)))
  have ek2q4 := (congrFun hEk2 q4).trans ((va_up_ne _ _ (Ne.symm ne_h0_q4)).trans ((va_up_ne _ _ ne_q4_q6).trans ((va_up_ne _ _ (Ne.symm ne_h0_q4)).trans ((va_up_ne _ _ ne_q4_q5).trans ((va_up_ne _ _ (Ne.symm ne_h0_q4)).trans (va_up_self _ _ _))))))
  have lk2q4 : q4 ∈ Lk2 := hLk2 ▸ (List.mem_append_left _ (List.mem_append_left _ (List.mem_append_right _ (List.mem_singleton.mpr rfl))))
  have ek2q5 := (congrFun hEk2 q5).trans ((va_up_ne _ _ (Ne.symm ne_h0_q5)).trans ((va_up_ne _ _ ne_q5_q6).trans ((va_up_ne _ _ (Ne.symm ne_h0_q5)).trans (va_up_self _ _ _))))
  have lk2q5 : q5 ∈ Lk2 := hLk2 ▸ (List.mem_append_left _ (List.mem_append_right _ (List.mem_singleton.mpr rfl)))
  have ek2q6 := (congrFun hEk2 q6).trans ((va_up_ne _ _ (Ne.symm ne_h0_q6)).trans (va_up_self _ _ _))
  have lk2q6 : q6 ∈ Lk2 := hLk2 ▸ (List.mem_append_right _ (List.mem_singleton.mpr rfl))
  clear hEk2 hLk2
  refine q_aload_n (j := 0) C dX12_init_58 rfl ?_
  refine q_bipush (v := 30) C dX12_init_59 (by decide) ?_
  refine q_newaI (N := 30) C dX12_init_61 w1_57 (by decide) (by decide) (by decide) ⟨Nat.le_of_ble_eq_true rfl, Nat.le_of_ble_eq_true rfl⟩ (fun q7 nq7 => ?_)
  have ne_h0_q7 : h0 ≠ q7 := (ne_in lk2h0 nq7)
  have ne_q1_q7 : q1 ≠ q7 := (ne_in lk2q1 nq7)
  have ne_q2_q7 : q2 ≠ q7 := (ne_in lk2q2 nq7)
  have ne_q3_q7 : q3 ≠ q7 := (ne_in lk2q3 nq7)
  have ne_q4_q7 : q4 ≠ q7 := (ne_in lk2q4 nq7)
  have ne_q5_q7 : q5 ≠ q7 := (ne_in lk2q5 nq7)
  have ne_q6_q7 : q6 ≠ q7 := (ne_in lk2q6 nq7)
  refine q_putF (k := 10) C ck_13 dX12_init_63 w6_69 (by decide) rfl rfl rfl (List.mem_append_left _ lk2h0) ((va_up_ne _ _ ne_h0_q7).trans ek2h0) rfl rfl ?_
  refine q_aload_n (j := 0) C dX12_init_66 rfl ?_
  refine q_sipush (v := 6000) C dX12_init_67 (by decide) ?_
  refine q_newaI (N := 6000) C dX12_init_70 w1_57 (by decide) (by decide) (by decide) ⟨Nat.le_of_ble_eq_true rfl, Nat.le_of_ble_eq_true rfl⟩ (fun q8 nq8 => ?_)
  have ne_h0_q8 : h0 ≠ q8 := (ne_in (List.mem_append_left _ lk2h0) nq8)
  have ne_q1_q8 : q1 ≠ q8 := (ne_in (List.mem_append_left _ lk2q1) nq8)
  have ne_q2_q8 : q2 ≠ q8 := (ne_in (List.mem_append_left _ lk2q2) nq8)
  have ne_q3_q8 : q3 ≠ q8 := (ne_in (List.mem_append_left _ lk2q3) nq8)
  have ne_q4_q8 : q4 ≠ q8 := (ne_in (List.mem_append_left _ lk2q4) nq8)
  have ne_q5_q8 : q5 ≠ q8 := (ne_in (List.mem_append_left _ lk2q5) nq8)
  have ne_q6_q8 : q6 ≠ q8 := (ne_in (List.mem_append_left _ lk2q6) nq8)
  have ne_q7_q8 : q7 ≠ q8 := (ne_in (List.mem_append_right _ (List.mem_singleton.mpr rfl)) nq8)
  refine q_putF (k := 11) C ck_13 dX12_init_72 w6_70 (by decide) rfl rfl rfl (List.mem_append_left _ (List.mem_append_left _ lk2h0)) ((va_up_ne _ _ ne_h0_q8).trans (va_up_self _ _ _)) rfl rfl ?_
  refine q_aload_n (j := 0) C dX12_init_75 rfl ?_
  refine q_sipush (v := 6000) C dX12_init_76 (by decide) ?_
  refine q_newaI (N := 6000) C dX12_init_79 w1_57 (by decide) (by decide) (by decide) ⟨Nat.le_of_ble_eq_true rfl, Nat.le_of_ble_eq_true rfl⟩ (fun q9 nq9 => ?_)
  have ne_h0_q9 : h0 ≠ q9 := (ne_in (List.mem_append_left _ (List.mem_append_left _ lk2h0)) nq9)
  have ne_q1_q9 : q1 ≠ q9 := (ne_in (List.mem_append_left _ (List.mem_append_left _ lk2q1)) nq9)
  have ne_q2_q9 : q2 ≠ q9 := (ne_in (List.mem_append_left _ (List.mem_append_left _ lk2q2)) nq9)
  have ne_q3_q9 : q3 ≠ q9 := (ne_in (List.mem_append_left _ (List.mem_append_left _ lk2q3)) nq9)
  have ne_q4_q9 : q4 ≠ q9 := (ne_in (List.mem_append_left _ (List.mem_append_left _ lk2q4)) nq9)
  have ne_q5_q9 : q5 ≠ q9 := (ne_in (List.mem_append_left _ (List.mem_append_left _ lk2q5)) nq9)
  have ne_q6_q9 : q6 ≠ q9 := (ne_in (List.mem_append_left _ (List.mem_append_left _ lk2q6)) nq9)
  have ne_q7_q9 : q7 ≠ q9 := (ne_in (List.mem_append_left _ (List.mem_append_right _ (List.mem_singleton.mpr rfl))) nq9)
  refine q_putF (k := 12) C ck_13 dX12_init_81 w6_71 (by decide) rfl rfl rfl (List.mem_append_left _ (List.mem_append_left _ (List.mem_append_left _ lk2h0))) ((va_up_ne _ _ ne_h0_q9).trans (va_up_self _ _ _)) rfl rfl ?_
  refine q_cut (fun Lk3 Ek3 hLk3 hEk3 => ?_)
  have ek3h0 := (congrFun hEk3 h0).trans (va_up_self _ _ _)
  have lk3h0 : h0 ∈ Lk3 := hLk3 ▸ (List.mem_append_left _ (List.mem_append_left _ (List.mem_append_left _ lk2h0)))
  have ek3q1 := (congrFun hEk3 q1).trans ((va_up_ne _ _ (Ne.symm ne_h0_q1)).trans ((va_up_ne _ _ ne_q1_q9).trans ((va_up_ne _ _ (Ne.symm ne_h0_q1)).trans ((va_up_ne _ _ ne_q1_q8).trans ((va_up_ne _ _ (Ne.symm ne_h0_q1)).trans ((va_up_ne _ _ ne_q1_q7).trans ek2q1))))))
  have lk3q1 : q1 ∈ Lk3 := hLk3 ▸ (List.mem_append_left _ (List.mem_append_left _ (List.mem_append_left _ lk2q1)))
  have ek3q2 := (congrFun hEk3 q2).trans ((va_up_ne _ _ (Ne.symm ne_h0_q2)).trans ((va_up_ne _ _ ne_q2_q9).trans ((va_up_ne _ _ (Ne.symm ne_h0_q2)).trans ((va_up_ne _ _ ne_q2_q8).trans ((va_up_ne _ _ (Ne.symm ne_h0_q2)).trans ((va_up_ne _ _ ne_q2_q7).trans ek2q2))))))
  have lk3q2 : q2 ∈ Lk3 := hLk3 ▸ (List.mem_append_left _ (List.mem_append_left _ (List.mem_append_left _ lk2q2)))
  have ek3q3 := (congrFun hEk3 q3).trans ((va_up_ne _ _ (Ne.symm ne_h0_q3)).trans ((va_up_ne _ _ ne_q3_q9).trans ((va_up_ne _ _ (Ne.symm ne_h0_q3)).trans ((va_up_ne _ _ ne_q3_q8).trans ((va_up_ne _ _ (Ne.symm ne_h0_q3)).trans ((va_up_ne _ _ ne_q3_q7).trans ek2q3))))))
  have lk3q3 : q3 ∈ Lk3 := hLk3 ▸ (List.mem_append_left _ (List.mem_append_left _ (List.mem_append_left _ lk2q3)))
  have ek3q4 := (congrFun hEk3 q4).trans ((va_up_ne _ _ (Ne.symm ne_h0_q4)).trans ((va_up_ne _ _ ne_q4_q9).trans ((va_up_ne _ _ (Ne.symm ne_h0_q4)).trans ((va_up_ne _ _ ne_q4_q8).trans ((va_up_ne _ _ (Ne.symm ne_h0_q4)).trans ((va_up_ne _ _ ne_q4_q7).trans ek2q4))))))
  have lk3q4 : q4 ∈ Lk3 := hLk3 ▸ (List.mem_append_left _ (List.mem_append_left _ (List.mem_append_left _ lk2q4)))
  have ek3q5 := (congrFun hEk3 q5).trans ((va_up_ne _ _ (Ne.symm ne_h0_q5)).trans ((va_up_ne _ _ ne_q5_q9).trans ((va_up_ne _ _ (Ne.symm ne_h0_q5)).trans ((va_up_ne _ _ ne_q5_q8).trans ((va_up_ne _ _ (Ne.symm ne_h0_q5)).trans ((va_up_ne _ _ ne_q5_q7).trans ek2q5))))))
  have lk3q5 : q5 ∈ Lk3 := hLk3 ▸ (List.mem_append_left _ (List.mem_append_left _ (List.mem_append_left _ lk2q5)))
  have ek3q6 := (congrFun hEk3 q6).trans ((va_up_ne _ _ (Ne.symm ne_h0_q6)).trans ((va_up_ne _ _ ne_q6_q9).trans ((va_up_ne _ _ (Ne.symm ne_h0_q6)).trans ((va_up_ne _ _ ne_q6_q8).trans ((va_up_ne _ _ (Ne.symm ne_h0_q6)).trans ((va_up_ne _ _ ne_q6_q7).trans ek2q6))))))
  have lk3q6 : q6 ∈ Lk3 := hLk3 ▸ (List.mem_append_left _ (List.mem_append_left _ (List.mem_append_left _ lk2q6)))
  have ek3q7 := (congrFun hEk3 q7).trans ((va_up_ne _ _ (Ne.symm ne_h0_q7)).trans ((va_up_ne _ _ ne_q7_q9).trans ((va_up_ne _ _ (Ne.symm ne_h0_q7)).trans ((va_up_ne _ _ ne_q7_q8).trans ((va_up_ne _ _ (Ne.symm ne_h0_q7)).trans (va_up_self _ _ _))))))
  have lk3q7 : q7 ∈ Lk3 := hLk3 ▸ (List.mem_append_left _ (List.mem_append_left _ (List.mem_append_right _ (List.mem_singleton.mpr rfl))))
  clear hEk3 hLk3
  refine q_aload_n (j := 0) C dX12_init_84 rfl ?_
  refine q_sipush (v := 6000) C dX12_init_85 (by decide) ?_
  refine q_newaI (N := 6000) C dX12_init_88 w1_57 (by decide) (by decide) (by decide) ⟨Nat.le_of_ble_eq_true rfl, Nat.le_of_ble_eq_true rfl⟩ (fun q10 nq10 => ?_)
  have ne_h0_q10 : h0 ≠ q10 := (ne_in lk3h0 nq10)
  have ne_q1_q10 : q1 ≠ q10 := (ne_in lk3q1 nq10)
  have ne_q2_q10 : q2 ≠ q10 := (ne_in lk3q2 nq10)
  have ne_q3_q10 : q3 ≠ q10 := (ne_in lk3q3 nq10)
  have ne_q4_q10 : q4 ≠ q10 := (ne_in lk3q4 nq10)
  have ne_q5_q10 : q5 ≠ q10 := (ne_in lk3q5 nq10)
  have ne_q6_q10 : q6 ≠ q10 := (ne_in lk3q6 nq10)
  have ne_q7_q10 : q7 ≠ q10 := (ne_in lk3q7 nq10)
  refine q_putF (k := 13) C ck_13 dX12_init_90 w6_72 (by decide) rfl rfl rfl (List.mem_append_left _ lk3h0) ((va_up_ne _ _ ne_h0_q10).trans ek3h0) rfl rfl ?_
  refine q_aload_n (j := 0) C dX12_init_93 rfl ?_
  refine q_ldc (v := 48000) C dX12_init_94 w6_55 ?_
  refine q_newaI (N := 48000) C dX12_init_96 w1_57 (by decide) (by decide) (by decide) ⟨Nat.le_of_ble_eq_true rfl, Nat.le_of_ble_eq_true rfl⟩ (fun q11 nq11 => ?_)
  have ne_h0_q11 : h0 ≠ q11 := (ne_in (List.mem_append_left _ lk3h0) nq11)
  have ne_q1_q11 : q1 ≠ q11 := (ne_in (List.mem_append_left _ lk3q1) nq11)
  have ne_q2_q11 : q2 ≠ q11 := (ne_in (List.mem_append_left _ lk3q2) nq11)
  have ne_q3_q11 : q3 ≠ q11 := (ne_in (List.mem_append_left _ lk3q3) nq11)
  have ne_q4_q11 : q4 ≠ q11 := (ne_in (List.mem_append_left _ lk3q4) nq11)
  have ne_q5_q11 : q5 ≠ q11 := (ne_in (List.mem_append_left _ lk3q5) nq11)
  have ne_q6_q11 : q6 ≠ q11 := (ne_in (List.mem_append_left _ lk3q6) nq11)
  have ne_q7_q11 : q7 ≠ q11 := (ne_in (List.mem_append_left _ lk3q7) nq11)
  refine q_putF (k := 14) C ck_13 dX12_init_98 w6_73 (by decide) rfl rfl rfl (List.mem_append_left _ (List.mem_append_left _ lk3h0)) ((va_up_ne _ _ ne_h0_q11).trans (va_up_self _ _ _)) rfl rfl ?_
  refine q_aload_n (j := 0) C dX12_init_101 rfl ?_
  refine q_sipush (v := 24000) C dX12_init_102 (by decide) ?_
  refine q_newaI (N := 24000) C dX12_init_105 w1_57 (by decide) (by decide) (by decide) ⟨Nat.le_of_ble_eq_true rfl, Nat.le_of_ble_eq_true rfl⟩ (fun q12 nq12 => ?_)
  have ne_h0_q12 : h0 ≠ q12 := (ne_in (List.mem_append_left _ (List.mem_append_left _ lk3h0)) nq12)
  have ne_q1_q12 : q1 ≠ q12 := (ne_in (List.mem_append_left _ (List.mem_append_left _ lk3q1)) nq12)
  have ne_q2_q12 : q2 ≠ q12 := (ne_in (List.mem_append_left _ (List.mem_append_left _ lk3q2)) nq12)
  have ne_q3_q12 : q3 ≠ q12 := (ne_in (List.mem_append_left _ (List.mem_append_left _ lk3q3)) nq12)
  have ne_q4_q12 : q4 ≠ q12 := (ne_in (List.mem_append_left _ (List.mem_append_left _ lk3q4)) nq12)
  have ne_q5_q12 : q5 ≠ q12 := (ne_in (List.mem_append_left _ (List.mem_append_left _ lk3q5)) nq12)
  have ne_q6_q12 : q6 ≠ q12 := (ne_in (List.mem_append_left _ (List.mem_append_left _ lk3q6)) nq12)
  have ne_q7_q12 : q7 ≠ q12 := (ne_in (List.mem_append_left _ (List.mem_append_left _ lk3q7)) nq12)
  refine q_putF (k := 15) C ck_13 dX12_init_107 w6_74 (by decide) rfl rfl rfl (List.mem_append_left _ (List.mem_append_left _ (List.mem_append_left _ lk3h0))) ((va_up_ne _ _ ne_h0_q12).trans (va_up_self _ _ _)) rfl rfl ?_
  refine q_cut (fun Lk4 Ek4 hLk4 hEk4 => ?_)
  have ek4h0 := (congrFun hEk4 h0).trans (va_up_self _ _ _)
  have lk4h0 : h0 ∈ Lk4 := hLk4 ▸ (List.mem_append_left _ (List.mem_append_left _ (List.mem_append_left _ lk3h0)))
  have ek4q1 := (congrFun hEk4 q1).trans ((va_up_ne _ _ (Ne.symm ne_h0_q1)).trans ((va_up_ne _ _ ne_q1_q12).trans ((va_up_ne _ _ (Ne.symm ne_h0_q1)).trans ((va_up_ne _ _ ne_q1_q11).trans ((va_up_ne _ _ (Ne.symm ne_h0_q1)).trans ((va_up_ne _ _ ne_q1_q10).trans ek3q1))))))
  have lk4q1 : q1 ∈ Lk4 := hLk4 ▸ (List.mem_append_left _ (List.mem_append_left _ (List.mem_append_left _ lk3q1)))
  have ek4q2 := (congrFun hEk4 q2).trans ((va_up_ne _ _ (Ne.symm ne_h0_q2)).trans ((va_up_ne _ _ ne_q2_q12).trans ((va_up_ne _ _ (Ne.symm ne_h0_q2)).trans ((va_up_ne _ _ ne_q2_q11).trans ((va_up_ne _ _ (Ne.symm ne_h0_q2)).trans ((va_up_ne _ _ ne_q2_q10).trans ek3q2))))))
  have lk4q2 : q2 ∈ Lk4 := hLk4 ▸ (List.mem_append_left _ (List.mem_append_left _ (List.mem_append_left _ lk3q2)))
  have ek4q3 := (congrFun hEk4 q3).trans ((va_up_ne _ _ (Ne.symm ne_h0_q3)).trans ((va_up_ne _ _ ne_q3_q12).trans ((va_up_ne _ _ (Ne.symm ne_h0_q3)).trans ((va_up_ne _ _ ne_q3_q11).trans ((va_up_ne _ _ (Ne.symm ne_h0_q3)).trans ((va_up_ne _ _ ne_q3_q10).trans ek3q3))))))
  have lk4q3 : q3 ∈ Lk4 := hLk4 ▸ (List.mem_append_left _ (List.mem_append_left _ (List.mem_append_left _ lk3q3)))
  have ek4q4 := (congrFun hEk4 q4).trans ((va_up_ne _ _ (Ne.symm ne_h0_q4)).trans ((va_up_ne _ _ ne_q4_q12).trans ((va_up_ne _ _ (Ne.symm ne_h0_q4)).trans ((va_up_ne _ _ ne_q4_q11).trans ((va_up_ne _ _ (Ne.symm ne_h0_q4)).trans ((va_up_ne _ _ ne_q4_q10).trans ek3q4))))))
  have lk4q4 : q4 ∈ Lk4 := hLk4 ▸ (List.mem_append_left _ (List.mem_append_left _ (List.mem_append_left _ lk3q4)))
  have ek4q5 := (congrFun hEk4 q5).trans ((va_up_ne _ _ (Ne.symm ne_h0_q5)).trans ((va_up_ne _ _ ne_q5_q12).trans ((va_up_ne _ _ (Ne.symm ne_h0_q5)).trans ((va_up_ne _ _ ne_q5_q11).trans ((va_up_ne _ _ (Ne.symm ne_h0_q5)).trans ((va_up_ne _ _ ne_q5_q10).trans ek3q5))))))
  have lk4q5 : q5 ∈ Lk4 := hLk4 ▸ (List.mem_append_left _ (List.mem_append_left _ (List.mem_append_left _ lk3q5)))
  have ek4q6 := (congrFun hEk4 q6).trans ((va_up_ne _ _ (Ne.symm ne_h0_q6)).trans ((va_up_ne _ _ ne_q6_q12).trans ((va_up_ne _ _ (Ne.symm ne_h0_q6)).trans ((va_up_ne _ _ ne_q6_q11).trans ((va_up_ne _ _ (Ne.symm ne_h0_q6)).trans ((va_up_ne _ _ ne_q6_q10).trans ek3q6))))))
  have lk4q6 : q6 ∈ Lk4 := hLk4 ▸ (List.mem_append_left _ (List.mem_append_left _ (List.mem_append_left _ lk3q6)))
  have ek4q7 := (congrFun hEk4 q7).trans ((va_up_ne _ _ (Ne.symm ne_h0_q7)).trans ((va_up_ne _ _ ne_q7_q12).trans ((va_up_ne _ _ (Ne.symm ne_h0_q7)).trans ((va_up_ne _ _ ne_q7_q11).trans ((va_up_ne _ _ (Ne.symm ne_h0_q7)).trans ((va_up_ne _ _ ne_q7_q10).trans ek3q7))))))
  have lk4q7 : q7 ∈ Lk4 := hLk4 ▸ (List.mem_append_left _ (List.mem_append_left _ (List.mem_append_left _ lk3q7)))
  clear hEk4 hLk4
  refine q_aload_n (j := 0) C dX12_init_110 rfl ?_
  refine q_bipush (v := 120) C dX12_init_111 (by decide) ?_
  refine q_newaI (N := 120) C dX12_init_113 w1_57 (by decide) (by decide) (by decide) ⟨Nat.le_of_ble_eq_true rfl, Nat.le_of_ble_eq_true rfl⟩ (fun q13 nq13 => ?_)
  have ne_h0_q13 : h0 ≠ q13 := (ne_in lk4h0 nq13)
  have ne_q1_q13 : q1 ≠ q13 := (ne_in lk4q1 nq13)
  have ne_q2_q13 : q2 ≠ q13 := (ne_in lk4q2 nq13)
  have ne_q3_q13 : q3 ≠ q13 := (ne_in lk4q3 nq13)
  have ne_q4_q13 : q4 ≠ q13 := (ne_in lk4q4 nq13)
  have ne_q5_q13 : q5 ≠ q13 := (ne_in lk4q5 nq13)
  have ne_q6_q13 : q6 ≠ q13 := (ne_in lk4q6 nq13)
  have ne_q7_q13 : q7 ≠ q13 := (ne_in lk4q7 nq13)
  refine q_putF (k := 16) C ck_13 dX12_init_115 w6_75 (by decide) rfl rfl rfl (List.mem_append_left _ lk4h0) ((va_up_ne _ _ ne_h0_q13).trans ek4h0) rfl rfl ?_
  refine q_aload_n (j := 0) C dX12_init_118 rfl ?_
  refine q_sipush (v := 480) C dX12_init_119 (by decide) ?_
  refine q_newaI (N := 480) C dX12_init_122 w1_57 (by decide) (by decide) (by decide) ⟨Nat.le_of_ble_eq_true rfl, Nat.le_of_ble_eq_true rfl⟩ (fun q14 nq14 => ?_)
  have ne_h0_q14 : h0 ≠ q14 := (ne_in (List.mem_append_left _ lk4h0) nq14)
  have ne_q1_q14 : q1 ≠ q14 := (ne_in (List.mem_append_left _ lk4q1) nq14)
  have ne_q2_q14 : q2 ≠ q14 := (ne_in (List.mem_append_left _ lk4q2) nq14)
  have ne_q3_q14 : q3 ≠ q14 := (ne_in (List.mem_append_left _ lk4q3) nq14)
  have ne_q4_q14 : q4 ≠ q14 := (ne_in (List.mem_append_left _ lk4q4) nq14)
  have ne_q5_q14 : q5 ≠ q14 := (ne_in (List.mem_append_left _ lk4q5) nq14)
  have ne_q6_q14 : q6 ≠ q14 := (ne_in (List.mem_append_left _ lk4q6) nq14)
  have ne_q7_q14 : q7 ≠ q14 := (ne_in (List.mem_append_left _ lk4q7) nq14)
  have ne_q13_q14 : q13 ≠ q14 := (ne_in (List.mem_append_right _ (List.mem_singleton.mpr rfl)) nq14)
  refine q_putF (k := 17) C ck_13 dX12_init_124 w6_76 (by decide) rfl rfl rfl (List.mem_append_left _ (List.mem_append_left _ lk4h0)) ((va_up_ne _ _ ne_h0_q14).trans (va_up_self _ _ _)) rfl rfl ?_
  refine q_aload_n (j := 0) C dX12_init_127 rfl ?_
  refine q_bipush (v := 64) C dX12_init_128 (by decide) ?_
  refine q_newaI (N := 64) C dX12_init_130 w1_57 (by decide) (by decide) (by decide) ⟨Nat.le_of_ble_eq_true rfl, Nat.le_of_ble_eq_true rfl⟩ (fun q15 nq15 => ?_)
  have ne_h0_q15 : h0 ≠ q15 := (ne_in (List.mem_append_left _ (List.mem_append_left _ lk4h0)) nq15)
  have ne_q1_q15 : q1 ≠ q15 := (ne_in (List.mem_append_left _ (List.mem_append_left _ lk4q1)) nq15)
  have ne_q2_q15 : q2 ≠ q15 := (ne_in (List.mem_append_left _ (List.mem_append_left _ lk4q2)) nq15)
  have ne_q3_q15 : q3 ≠ q15 := (ne_in (List.mem_append_left _ (List.mem_append_left _ lk4q3)) nq15)
  have ne_q4_q15 : q4 ≠ q15 := (ne_in (List.mem_append_left _ (List.mem_append_left _ lk4q4)) nq15)
  have ne_q5_q15 : q5 ≠ q15 := (ne_in (List.mem_append_left _ (List.mem_append_left _ lk4q5)) nq15)
  have ne_q6_q15 : q6 ≠ q15 := (ne_in (List.mem_append_left _ (List.mem_append_left _ lk4q6)) nq15)
  have ne_q7_q15 : q7 ≠ q15 := (ne_in (List.mem_append_left _ (List.mem_append_left _ lk4q7)) nq15)
  have ne_q13_q15 : q13 ≠ q15 := (ne_in (List.mem_append_left _ (List.mem_append_right _ (List.mem_singleton.mpr rfl))) nq15)
  refine q_put (k := 18) C ck_13 dX12_init_132 w6_77 (by decide) rfl (List.mem_append_left _ (List.mem_append_left _ (List.mem_append_left _ lk4h0))) ((va_up_ne _ _ ne_h0_q15).trans (va_up_self _ _ _)) rfl rfl ?_
  refine q_cut (fun Lk5 Ek5 hLk5 hEk5 => ?_)
  have ek5h0 := (congrFun hEk5 h0).trans (va_up_self _ _ _)
  have lk5h0 : h0 ∈ Lk5 := hLk5 ▸ (List.mem_append_left _ (List.mem_append_left _ (List.mem_append_left _ lk4h0)))
  have ek5q1 := (congrFun hEk5 q1).trans ((va_up_ne _ _ (Ne.symm ne_h0_q1)).trans ((va_up_ne _ _ ne_q1_q15).trans ((va_up_ne _ _ (Ne.symm ne_h0_q1)).trans ((va_up_ne _ _ ne_q1_q14).trans ((va_up_ne _ _ (Ne.symm ne_h0_q1)).trans ((va_up_ne _ _ ne_q1_q13).trans ek4q1))))))
  have lk5q1 : q1 ∈ Lk5 := hLk5 ▸ (List.mem_append_left _ (List.mem_append_left _ (List.mem_append_left _ lk4q1)))
  have ek5q2 := (congrFun hEk5 q2).trans ((va_up_ne _ _ (Ne.symm ne_h0_q2)).trans ((va_up_ne _ _ ne_q2_q15).trans ((va_up_ne _ _ (Ne.symm ne_h0_q2)).trans ((va_up_ne _ _ ne_q2_q14).trans ((va_up_ne _ _ (Ne.symm ne_h0_q2)).trans ((va_up_ne _ _ ne_q2_q13).trans ek4q2))))))
  have lk5q2 : q2 ∈ Lk5 := hLk5 ▸ (List.mem_append_left _ (List.mem_append_left _ (List.mem_append_left _ lk4q2)))
  have ek5q3 := (congrFun hEk5 q3).trans ((va_up_ne _ _ (Ne.symm ne_h0_q3)).trans ((va_up_ne _ _ ne_q3_q15).trans ((va_up_ne _ _ (Ne.symm ne_h0_q3)).trans ((va_up_ne _ _ ne_q3_q14).trans ((va_up_ne _ _ (Ne.symm ne_h0_q3)).trans ((va_up_ne _ _ ne_q3_q13).trans ek4q3))))))
  have lk5q3 : q3 ∈ Lk5 := hLk5 ▸ (List.mem_append_left _ (List.mem_append_left _ (List.mem_append_left _ lk4q3)))
  have ek5q4 := (congrFun hEk5 q4).trans ((va_up_ne _ _ (Ne.symm ne_h0_q4)).trans ((va_up_ne _ _ ne_q4_q15).trans ((va_up_ne _ _ (Ne.symm ne_h0_q4)).trans ((va_up_ne _ _ ne_q4_q14).trans ((va_up_ne _ _ (Ne.symm ne_h0_q4)).trans ((va_up_ne _ _ ne_q4_q13).trans ek4q4))))))
  have lk5q4 : q4 ∈ Lk5 := hLk5 ▸ (List.mem_append_left _ (List.mem_append_left _ (List.mem_append_left _ lk4q4)))
  have ek5q5 := (congrFun hEk5 q5).trans ((va_up_ne _ _ (Ne.symm ne_h0_q5)).trans ((va_up_ne _ _ ne_q5_q15).trans ((va_up_ne _ _ (Ne.symm ne_h0_q5)).trans ((va_up_ne _ _ ne_q5_q14).trans ((va_up_ne _ _ (Ne.symm ne_h0_q5)).trans ((va_up_ne _ _ ne_q5_q13).trans ek4q5))))))
  have lk5q5 : q5 ∈ Lk5 := hLk5 ▸ (List.mem_append_left _ (List.mem_append_left _ (List.mem_append_left _ lk4q5)))
  have ek5q6 := (congrFun hEk5 q6).trans ((va_up_ne _ _ (Ne.symm ne_h0_q6)).trans ((va_up_ne _ _ ne_q6_q15).trans ((va_up_ne _ _ (Ne.symm ne_h0_q6)).trans ((va_up_ne _ _ ne_q6_q14).trans ((va_up_ne _ _ (Ne.symm ne_h0_q6)).trans ((va_up_ne _ _ ne_q6_q13).trans ek4q6))))))
  have lk5q6 : q6 ∈ Lk5 := hLk5 ▸ (List.mem_append_left _ (List.mem_append_left _ (List.mem_append_left _ lk4q6)))
  have ek5q7 := (congrFun hEk5 q7).trans ((va_up_ne _ _ (Ne.symm ne_h0_q7)).trans ((va_up_ne _ _ ne_q7_q15).trans ((va_up_ne _ _ (Ne.symm ne_h0_q7)).trans ((va_up_ne _ _ ne_q7_q14).trans ((va_up_ne _ _ (Ne.symm ne_h0_q7)).trans ((va_up_ne _ _ ne_q7_q13).trans ek4q7))))))
  have lk5q7 : q7 ∈ Lk5 := hLk5 ▸ (List.mem_append_left _ (List.mem_append_left _ (List.mem_append_left _ lk4q7)))
  have ek5q13 := (congrFun hEk5 q13).trans ((va_up_ne _ _ (Ne.symm ne_h0_q13)).trans ((va_up_ne _ _ ne_q13_q15).trans ((va_up_ne _ _ (Ne.symm ne_h0_q13)).trans ((va_up_ne _ _ ne_q13_q14).trans ((va_up_ne _ _ (Ne.symm ne_h0_q13)).trans (va_up_self _ _ _))))))
  have lk5q13 : q13 ∈ Lk5 := hLk5 ▸ (List.mem_append_left _ (List.mem_append_left _ (List.mem_append_right _ (List.mem_singleton.mpr rfl))))
  have ek5q15 := (congrFun hEk5 q15).trans ((va_up_ne _ _ (Ne.symm ne_h0_q15)).trans (va_up_self _ _ _))
  have lk5q15 : q15 ∈ Lk5 := hLk5 ▸ (List.mem_append_right _ (List.mem_singleton.mpr rfl))
  clear hEk5 hLk5
  refine q_aload_n (j := 0) C dX12_init_135 rfl ?_
  refine q_sipush (v := 512) C dX12_init_136 (by decide) ?_
  refine q_newaI (N := 512) C dX12_init_139 w1_57 (by decide) (by decide) (by decide) ⟨Nat.le_of_ble_eq_true rfl, Nat.le_of_ble_eq_true rfl⟩ (fun q16 nq16 => ?_)
  have ne_h0_q16 : h0 ≠ q16 := (ne_in lk5h0 nq16)
  have ne_q1_q16 : q1 ≠ q16 := (ne_in lk5q1 nq16)
  have ne_q2_q16 : q2 ≠ q16 := (ne_in lk5q2 nq16)
  have ne_q3_q16 : q3 ≠ q16 := (ne_in lk5q3 nq16)
  have ne_q4_q16 : q4 ≠ q16 := (ne_in lk5q4 nq16)
  have ne_q5_q16 : q5 ≠ q16 := (ne_in lk5q5 nq16)
  have ne_q6_q16 : q6 ≠ q16 := (ne_in lk5q6 nq16)
  have ne_q7_q16 : q7 ≠ q16 := (ne_in lk5q7 nq16)
  have ne_q13_q16 : q13 ≠ q16 := (ne_in lk5q13 nq16)
  have ne_q15_q16 : q15 ≠ q16 := (ne_in lk5q15 nq16)
  refine q_putF (k := 20) C ck_13 dX12_init_141 w6_79 (by decide) rfl rfl rfl (List.mem_append_left _ lk5h0) ((va_up_ne _ _ ne_h0_q16).trans ek5h0) rfl rfl ?_
  refine q_aload_n (j := 0) C dX12_init_144 rfl ?_
  refine q_sipush (v := 512) C dX12_init_145 (by decide) ?_
  refine q_newaI (N := 512) C dX12_init_148 w1_57 (by decide) (by decide) (by decide) ⟨Nat.le_of_ble_eq_true rfl, Nat.le_of_ble_eq_true rfl⟩ (fun q17 nq17 => ?_)
  have ne_h0_q17 : h0 ≠ q17 := (ne_in (List.mem_append_left _ lk5h0) nq17)
  have ne_q1_q17 : q1 ≠ q17 := (ne_in (List.mem_append_left _ lk5q1) nq17)
  have ne_q2_q17 : q2 ≠ q17 := (ne_in (List.mem_append_left _ lk5q2) nq17)
  have ne_q3_q17 : q3 ≠ q17 := (ne_in (List.mem_append_left _ lk5q3) nq17)
  have ne_q4_q17 : q4 ≠ q17 := (ne_in (List.mem_append_left _ lk5q4) nq17)
  have ne_q5_q17 : q5 ≠ q17 := (ne_in (List.mem_append_left _ lk5q5) nq17)
  have ne_q6_q17 : q6 ≠ q17 := (ne_in (List.mem_append_left _ lk5q6) nq17)
  have ne_q7_q17 : q7 ≠ q17 := (ne_in (List.mem_append_left _ lk5q7) nq17)
  have ne_q13_q17 : q13 ≠ q17 := (ne_in (List.mem_append_left _ lk5q13) nq17)
  have ne_q15_q17 : q15 ≠ q17 := (ne_in (List.mem_append_left _ lk5q15) nq17)
  refine q_putF (k := 21) C ck_13 dX12_init_150 w6_80 (by decide) rfl rfl rfl (List.mem_append_left _ (List.mem_append_left _ lk5h0)) ((va_up_ne _ _ ne_h0_q17).trans (va_up_self _ _ _)) rfl rfl ?_
  refine q_aload_n (j := 0) C dX12_init_153 rfl ?_
  refine q_sipush (v := 513) C dX12_init_154 (by decide) ?_
  refine q_newaZ (N := 513) C dX12_init_157 w1_129 (by decide) (by decide) (by decide) ⟨Nat.le_of_ble_eq_true rfl, Nat.le_of_ble_eq_true rfl⟩ (fun q18 nq18 => ?_)
  have ne_h0_q18 : h0 ≠ q18 := (ne_in (List.mem_append_left _ (List.mem_append_left _ lk5h0)) nq18)
  have ne_q1_q18 : q1 ≠ q18 := (ne_in (List.mem_append_left _ (List.mem_append_left _ lk5q1)) nq18)
  have ne_q2_q18 : q2 ≠ q18 := (ne_in (List.mem_append_left _ (List.mem_append_left _ lk5q2)) nq18)
  have ne_q3_q18 : q3 ≠ q18 := (ne_in (List.mem_append_left _ (List.mem_append_left _ lk5q3)) nq18)
  have ne_q4_q18 : q4 ≠ q18 := (ne_in (List.mem_append_left _ (List.mem_append_left _ lk5q4)) nq18)
  have ne_q5_q18 : q5 ≠ q18 := (ne_in (List.mem_append_left _ (List.mem_append_left _ lk5q5)) nq18)
  have ne_q6_q18 : q6 ≠ q18 := (ne_in (List.mem_append_left _ (List.mem_append_left _ lk5q6)) nq18)
  have ne_q7_q18 : q7 ≠ q18 := (ne_in (List.mem_append_left _ (List.mem_append_left _ lk5q7)) nq18)
  have ne_q13_q18 : q13 ≠ q18 := (ne_in (List.mem_append_left _ (List.mem_append_left _ lk5q13)) nq18)
  have ne_q15_q18 : q15 ≠ q18 := (ne_in (List.mem_append_left _ (List.mem_append_left _ lk5q15)) nq18)
  refine q_putF (k := 22) C ck_13 dX12_init_159 w6_81 (by decide) rfl rfl rfl (List.mem_append_left _ (List.mem_append_left _ (List.mem_append_left _ lk5h0))) ((va_up_ne _ _ ne_h0_q18).trans (va_up_self _ _ _)) rfl rfl ?_
  refine q_cut (fun Lk6 Ek6 hLk6 hEk6 => ?_)
  have ek6h0 := (congrFun hEk6 h0).trans (va_up_self _ _ _)
  have lk6h0 : h0 ∈ Lk6 := hLk6 ▸ (List.mem_append_left _ (List.mem_append_left _ (List.mem_append_left _ lk5h0)))
  have ek6q1 := (congrFun hEk6 q1).trans ((va_up_ne _ _ (Ne.symm ne_h0_q1)).trans ((va_up_ne _ _ ne_q1_q18).trans ((va_up_ne _ _ (Ne.symm ne_h0_q1)).trans ((va_up_ne _ _ ne_q1_q17).trans ((va_up_ne _ _ (Ne.symm ne_h0_q1)).trans ((va_up_ne _ _ ne_q1_q16).trans ek5q1))))))
  have lk6q1 : q1 ∈ Lk6 := hLk6 ▸ (List.mem_append_left _ (List.mem_append_left _ (List.mem_append_left _ lk5q1)))
  have ek6q2 := (congrFun hEk6 q2).trans ((va_up_ne _ _ (Ne.symm ne_h0_q2)).trans ((va_up_ne _ _ ne_q2_q18).trans ((va_up_ne _ _ (Ne.symm ne_h0_q2)).trans ((va_up_ne _ _ ne_q2_q17).trans ((va_up_ne _ _ (Ne.symm ne_h0_q2)).trans ((va_up_ne _ _ ne_q2_q16).trans ek5q2))))))
  have lk6q2 : q2 ∈ Lk6 := hLk6 ▸ (List.mem_append_left _ (List.mem_append_left _ (List.mem_append_left _ lk5q2)))
  have ek6q3 := (congrFun hEk6 q3).trans ((va_up_ne _ _ (Ne.symm ne_h0_q3)).trans ((va_up_ne _ _ ne_q3_q18).trans ((va_up_ne _ _ (Ne.symm ne_h0_q3)).trans ((va_up_ne _ _ ne_q3_q17).trans ((va_up_ne _ _ (Ne.symm ne_h0_q3)).trans ((va_up_ne _ _ ne_q3_q16).trans ek5q3))))))
  have lk6q3 : q3 ∈ Lk6 := hLk6 ▸ (List.mem_append_left _ (List.mem_append_left _ (List.mem_append_left _ lk5q3)))
  have ek6q4 := (congrFun hEk6 q4).trans ((va_up_ne _ _ (Ne.symm ne_h0_q4)).trans ((va_up_ne _ _ ne_q4_q18).trans ((va_up_ne _ _ (Ne.symm ne_h0_q4)).trans ((va_up_ne _ _ ne_q4_q17).trans ((va_up_ne _ _ (Ne.symm ne_h0_q4)).trans ((va_up_ne _ _ ne_q4_q16).trans ek5q4))))))
  have lk6q4 : q4 ∈ Lk6 := hLk6 ▸ (List.mem_append_left _ (List.mem_append_left _ (List.mem_append_left _ lk5q4)))
  have ek6q5 := (congrFun hEk6 q5).trans ((va_up_ne _ _ (Ne.symm ne_h0_q5)).trans ((va_up_ne _ _ ne_q5_q18).trans ((va_up_ne _ _ (Ne.symm ne_h0_q5)).trans ((va_up_ne _ _ ne_q5_q17).trans ((va_up_ne _ _ (Ne.symm ne_h0_q5)).trans ((va_up_ne _ _ ne_q5_q16).trans ek5q5))))))
  have lk6q5 : q5 ∈ Lk6 := hLk6 ▸ (List.mem_append_left _ (List.mem_append_left _ (List.mem_append_left _ lk5q5)))
  have ek6q6 := (congrFun hEk6 q6).trans ((va_up_ne _ _ (Ne.symm ne_h0_q6)).trans ((va_up_ne _ _ ne_q6_q18).trans ((va_up_ne _ _ (Ne.symm ne_h0_q6)).trans ((va_up_ne _ _ ne_q6_q17).trans ((va_up_ne _ _ (Ne.symm ne_h0_q6)).trans ((va_up_ne _ _ ne_q6_q16).trans ek5q6))))))
  have lk6q6 : q6 ∈ Lk6 := hLk6 ▸ (List.mem_append_left _ (List.mem_append_left _ (List.mem_append_left _ lk5q6)))
  have ek6q7 := (congrFun hEk6 q7).trans ((va_up_ne _ _ (Ne.symm ne_h0_q7)).trans ((va_up_ne _ _ ne_q7_q18).trans ((va_up_ne _ _ (Ne.symm ne_h0_q7)).trans ((va_up_ne _ _ ne_q7_q17).trans ((va_up_ne _ _ (Ne.symm ne_h0_q7)).trans ((va_up_ne _ _ ne_q7_q16).trans ek5q7))))))
  have lk6q7 : q7 ∈ Lk6 := hLk6 ▸ (List.mem_append_left _ (List.mem_append_left _ (List.mem_append_left _ lk5q7)))
  have ek6q13 := (congrFun hEk6 q13).trans ((va_up_ne _ _ (Ne.symm ne_h0_q13)).trans ((va_up_ne _ _ ne_q13_q18).trans ((va_up_ne _ _ (Ne.symm ne_h0_q13)).trans ((va_up_ne _ _ ne_q13_q17).trans ((va_up_ne _ _ (Ne.symm ne_h0_q13)).trans ((va_up_ne _ _ ne_q13_q16).trans ek5q13))))))
  have lk6q13 : q13 ∈ Lk6 := hLk6 ▸ (List.mem_append_left _ (List.mem_append_left _ (List.mem_append_left _ lk5q13)))
  have ek6q15 := (congrFun hEk6 q15).trans ((va_up_ne _ _ (Ne.symm ne_h0_q15)).trans ((va_up_ne _ _ ne_q15_q18).trans ((va_up_ne _ _ (Ne.symm ne_h0_q15)).trans ((va_up_ne _ _ ne_q15_q17).trans ((va_up_ne _ _ (Ne.symm ne_h0_q15)).trans ((va_up_ne _ _ ne_q15_q16).trans ek5q15))))))
  have lk6q15 : q15 ∈ Lk6 := hLk6 ▸ (List.mem_append_left _ (List.mem_append_left _ (List.mem_append_left _ lk5q15)))
  clear hEk6 hLk6
  refine q_aload_n (j := 0) C dX12_init_162 rfl ?_
  refine q_sipush (v := 6144) C dX12_init_163 (by decide) ?_
  refine q_newaI (N := 6144) C dX12_init_166 w1_57 (by decide) (by decide) (by decide) ⟨Nat.le_of_ble_eq_true rfl, Nat.le_of_ble_eq_true rfl⟩ (fun q19 nq19 => ?_)
  have ne_h0_q19 : h0 ≠ q19 := (ne_in lk6h0 nq19)
  have ne_q1_q19 : q1 ≠ q19 := (ne_in lk6q1 nq19)
  have ne_q2_q19 : q2 ≠ q19 := (ne_in lk6q2 nq19)
  have ne_q3_q19 : q3 ≠ q19 := (ne_in lk6q3 nq19)
  have ne_q4_q19 : q4 ≠ q19 := (ne_in lk6q4 nq19)
  have ne_q5_q19 : q5 ≠ q19 := (ne_in lk6q5 nq19)
  have ne_q6_q19 : q6 ≠ q19 := (ne_in lk6q6 nq19)
  have ne_q7_q19 : q7 ≠ q19 := (ne_in lk6q7 nq19)
  have ne_q13_q19 : q13 ≠ q19 := (ne_in lk6q13 nq19)
  have ne_q15_q19 : q15 ≠ q19 := (ne_in lk6q15 nq19)
  refine q_putF (k := 24) C ck_13 dX12_init_168 w6_83 (by decide) rfl rfl rfl (List.mem_append_left _ lk6h0) ((va_up_ne _ _ ne_h0_q19).trans ek6h0) rfl rfl ?_
  refine q_aload_n (j := 0) C dX12_init_171 rfl ?_
  refine q_sipush (v := 513) C dX12_init_172 (by decide) ?_
  refine q_newaI (N := 513) C dX12_init_175 w1_57 (by decide) (by decide) (by decide) ⟨Nat.le_of_ble_eq_true rfl, Nat.le_of_ble_eq_true rfl⟩ (fun q20 nq20 => ?_)
  have ne_h0_q20 : h0 ≠ q20 := (ne_in (List.mem_append_left _ lk6h0) nq20)
  have ne_q1_q20 : q1 ≠ q20 := (ne_in (List.mem_append_left _ lk6q1) nq20)
  have ne_q2_q20 : q2 ≠ q20 := (ne_in (List.mem_append_left _ lk6q2) nq20)
  have ne_q3_q20 : q3 ≠ q20 := (ne_in (List.mem_append_left _ lk6q3) nq20)
  have ne_q4_q20 : q4 ≠ q20 := (ne_in (List.mem_append_left _ lk6q4) nq20)
  have ne_q5_q20 : q5 ≠ q20 := (ne_in (List.mem_append_left _ lk6q5) nq20)
  have ne_q6_q20 : q6 ≠ q20 := (ne_in (List.mem_append_left _ lk6q6) nq20)
  have ne_q7_q20 : q7 ≠ q20 := (ne_in (List.mem_append_left _ lk6q7) nq20)
  have ne_q13_q20 : q13 ≠ q20 := (ne_in (List.mem_append_left _ lk6q13) nq20)
  have ne_q15_q20 : q15 ≠ q20 := (ne_in (List.mem_append_left _ lk6q15) nq20)
  refine q_putF (k := 26) C ck_13 dX12_init_177 w6_85 (by decide) rfl rfl rfl (List.mem_append_left _ (List.mem_append_left _ lk6h0)) ((va_up_ne _ _ ne_h0_q20).trans (va_up_self _ _ _)) rfl rfl ?_
  refine q_aload_n (j := 0) C dX12_init_180 rfl ?_
  refine q_iconst (v := 5) C dX12_init_181 (by decide) ?_
  refine q_newaI (N := 5) C dX12_init_182 w1_57 (by decide) (by decide) (by decide) ⟨Nat.le_of_ble_eq_true rfl, Nat.le_of_ble_eq_true rfl⟩ (fun q21 nq21 => ?_)
  have ne_h0_q21 : h0 ≠ q21 := (ne_in (List.mem_append_left _ (List.mem_append_left _ lk6h0)) nq21)
  have ne_q1_q21 : q1 ≠ q21 := (ne_in (List.mem_append_left _ (List.mem_append_left _ lk6q1)) nq21)
  have ne_q2_q21 : q2 ≠ q21 := (ne_in (List.mem_append_left _ (List.mem_append_left _ lk6q2)) nq21)
  have ne_q3_q21 : q3 ≠ q21 := (ne_in (List.mem_append_left _ (List.mem_append_left _ lk6q3)) nq21)
  have ne_q4_q21 : q4 ≠ q21 := (ne_in (List.mem_append_left _ (List.mem_append_left _ lk6q4)) nq21)
  have ne_q5_q21 : q5 ≠ q21 := (ne_in (List.mem_append_left _ (List.mem_append_left _ lk6q5)) nq21)
  have ne_q6_q21 : q6 ≠ q21 := (ne_in (List.mem_append_left _ (List.mem_append_left _ lk6q6)) nq21)
  have ne_q7_q21 : q7 ≠ q21 := (ne_in (List.mem_append_left _ (List.mem_append_left _ lk6q7)) nq21)
  have ne_q13_q21 : q13 ≠ q21 := (ne_in (List.mem_append_left _ (List.mem_append_left _ lk6q13)) nq21)
  have ne_q15_q21 : q15 ≠ q21 := (ne_in (List.mem_append_left _ (List.mem_append_left _ lk6q15)) nq21)
  refine q_putF (k := 27) C ck_13 dX12_init_184 w6_86 (by decide) rfl rfl rfl (List.mem_append_left _ (List.mem_append_left _ (List.mem_append_left _ lk6h0))) ((va_up_ne _ _ ne_h0_q21).trans (va_up_self _ _ _)) rfl rfl ?_
  refine q_cut (fun Lk7 Ek7 hLk7 hEk7 => ?_)
  have ek7h0 := (congrFun hEk7 h0).trans (va_up_self _ _ _)
  have lk7h0 : h0 ∈ Lk7 := hLk7 ▸ (List.mem_append_left _ (List.mem_append_left _ (List.mem_append_left _ lk6h0)))
  have ek7q1 := (congrFun hEk7 q1).trans ((va_up_ne _ _ (Ne.symm ne_h0_q1)).trans ((va_up_ne _ _ ne_q1_q21).trans ((va_up_ne _ _ (Ne.symm ne_h0_q1)).trans ((va_up_ne _ _ ne_q1_q20).trans ((va_up_ne _ _ (Ne.symm ne_h0_q1)).trans ((va_up_ne _ _ ne_q1_q19).trans ek6q1))))))
  have lk7q1 : q1 ∈ Lk7 := hLk7 ▸ (List.mem_append_left _ (List.mem_append_left _ (List.mem_append_left _ lk6q1)))
  have ek7q2 := (congrFun hEk7 q2).trans ((va_up_ne _ _ (Ne.symm ne_h0_q2)).trans ((va_up_ne _ _ ne_q2_q21).trans ((va_up_ne _ _ (Ne.symm ne_h0_q2)).trans ((va_up_ne _ _ ne_q2_q20).trans ((va_up_ne _ _ (Ne.symm ne_h0_q2)).trans ((va_up_ne _ _ ne_q2_q19).trans ek6q2))))))
  have lk7q2 : q2 ∈ Lk7 := hLk7 ▸ (List.mem_append_left _ (List.mem_append_left _ (List.mem_append_left _ lk6q2)))
  have ek7q3 := (congrFun hEk7 q3).trans ((va_up_ne _ _ (Ne.symm ne_h0_q3)).trans ((va_up_ne _ _ ne_q3_q21).trans ((va_up_ne _ _ (Ne.symm ne_h0_q3)).trans ((va_up_ne _ _ ne_q3_q20).trans ((va_up_ne _ _ (Ne.symm ne_h0_q3)).trans ((va_up_ne _ _ ne_q3_q19).trans ek6q3))))))
  have lk7q3 : q3 ∈ Lk7 := hLk7 ▸ (List.mem_append_left _ (List.mem_append_left _ (List.mem_append_left _ lk6q3)))
  have ek7q4 := (congrFun hEk7 q4).trans ((va_up_ne _ _ (Ne.symm ne_h0_q4)).trans ((va_up_ne _ _ ne_q4_q21).trans ((va_up_ne _ _ (Ne.symm ne_h0_q4)).trans ((va_up_ne _ _ ne_q4_q20).trans ((va_up_ne _ _ (Ne.symm ne_h0_q4)).trans ((va_up_ne _ _ ne_q4_q19).trans ek6q4))))))
  have lk7q4 : q4 ∈ Lk7 := hLk7 ▸ (List.mem_append_left _ (List.mem_append_left _ (List.mem_append_left _ lk6q4)))
  have ek7q5 := (congrFun hEk7 q5).trans ((va_up_ne _ _ (Ne.symm ne_h0_q5)).trans ((va_up_ne _ _ ne_q5_q21).trans ((va_up_ne _ _ (Ne.symm ne_h0_q5)).trans ((va_up_ne _ _ ne_q5_q20).trans ((va_up_ne _ _ (Ne.symm ne_h0_q5)).trans ((va_up_ne _ _ ne_q5_q19).trans ek6q5))))))
  have lk7q5 : q5 ∈ Lk7 := hLk7 ▸ (List.mem_append_left _ (List.mem_append_left _ (List.mem_append_left _ lk6q5)))
  have ek7q6 := (congrFun hEk7 q6).trans ((va_up_ne _ _ (Ne.symm ne_h0_q6)).trans ((va_up_ne _ _ ne_q6_q21).trans ((va_up_ne _ _ (Ne.symm ne_h0_q6)).trans ((va_up_ne _ _ ne_q6_q20).trans ((va_up_ne _ _ (Ne.symm ne_h0_q6)).trans ((va_up_ne _ _ ne_q6_q19).trans ek6q6))))))
  have lk7q6 : q6 ∈ Lk7 := hLk7 ▸ (List.mem_append_left _ (List.mem_append_left _ (List.mem_append_left _ lk6q6)))
  have ek7q7 := (congrFun hEk7 q7).trans ((va_up_ne _ _ (Ne.symm ne_h0_q7)).trans ((va_up_ne _ _ ne_q7_q21).trans ((va_up_ne _ _ (Ne.symm ne_h0_q7)).trans ((va_up_ne _ _ ne_q7_q20).trans ((va_up_ne _ _ (Ne.symm ne_h0_q7)).trans ((va_up_ne _ _ ne_q7_q19).trans ek6q7))))))
  have lk7q7 : q7 ∈ Lk7 := hLk7 ▸ (List.mem_append_left _ (List.mem_append_left _ (List.mem_append_left _ lk6q7)))
  have ek7q13 := (congrFun hEk7 q13).trans ((va_up_ne _ _ (Ne.symm ne_h0_q13)).trans ((va_up_ne _ _ ne_q13_q21).trans ((va_up_ne _ _ (Ne.symm ne_h0_q13)).trans ((va_up_ne _ _ ne_q13_q20).trans ((va_up_ne _ _ (Ne.symm ne_h0_q13)).trans ((va_up_ne _ _ ne_q13_q19).trans ek6q13))))))
  have lk7q13 : q13 ∈ Lk7 := hLk7 ▸ (List.mem_append_left _ (List.mem_append_left _ (List.mem_append_left _ lk6q13)))
  have ek7q15 := (congrFun hEk7 q15).trans ((va_up_ne _ _ (Ne.symm ne_h0_q15)).trans ((va_up_ne _ _ ne_q15_q21).trans ((va_up_ne _ _ (Ne.symm ne_h0_q15)).trans ((va_up_ne _ _ ne_q15_q20).trans ((va_up_ne _ _ (Ne.symm ne_h0_q15)).trans ((va_up_ne _ _ ne_q15_q19).trans ek6q15))))))
  have lk7q15 : q15 ∈ Lk7 := hLk7 ▸ (List.mem_append_left _ (List.mem_append_left _ (List.mem_append_left _ lk6q15)))
  have ek7q21 := (congrFun hEk7 q21).trans ((va_up_ne _ _ (Ne.symm ne_h0_q21)).trans (va_up_self _ _ _))
  have lk7q21 : q21 ∈ Lk7 := hLk7 ▸ (List.mem_append_right _ (List.mem_singleton.mpr rfl))
  clear hEk7 hLk7
  refine q_aload_n (j := 0) C dX12_init_187 rfl ?_
  refine q_sipush (v := 500) C dX12_init_188 (by decide) ?_
  refine q_newaI (N := 500) C dX12_init_191 w1_57 (by decide) (by decide) (by decide) ⟨Nat.le_of_ble_eq_true rfl, Nat.le_of_ble_eq_true rfl⟩ (fun q22 nq22 => ?_)
  have ne_h0_q22 : h0 ≠ q22 := (ne_in lk7h0 nq22)
  have ne_q1_q22 : q1 ≠ q22 := (ne_in lk7q1 nq22)
  have ne_q2_q22 : q2 ≠ q22 := (ne_in lk7q2 nq22)
  have ne_q3_q22 : q3 ≠ q22 := (ne_in lk7q3 nq22)
  have ne_q4_q22 : q4 ≠ q22 := (ne_in lk7q4 nq22)
  have ne_q5_q22 : q5 ≠ q22 := (ne_in lk7q5 nq22)
  have ne_q6_q22 : q6 ≠ q22 := (ne_in lk7q6 nq22)
  have ne_q7_q22 : q7 ≠ q22 := (ne_in lk7q7 nq22)
  have ne_q13_q22 : q13 ≠ q22 := (ne_in lk7q13 nq22)
  have ne_q15_q22 : q15 ≠ q22 := (ne_in lk7q15 nq22)
  have ne_q21_q22 : q21 ≠ q22 := (ne_in lk7q21 nq22)
  refine q_putF (k := 29) C ck_13 dX12_init_193 w6_88 (by decide) rfl rfl rfl (List.mem_append_left _ lk7h0) ((va_up_ne _ _ ne_h0_q22).trans ek7h0) rfl rfl ?_
  refine q_aload_n (j := 0) C dX12_init_196 rfl ?_
  refine q_bipush (v := 32) C dX12_init_197 (by decide) ?_
  refine q_put (k := 31) C ck_13 dX12_init_199 w6_90 (by decide) rfl (List.mem_append_left _ lk7h0) (va_up_self _ _ _) rfl rfl ?_
  refine q_aload_n (j := 0) C dX12_init_202 rfl ?_
  refine q_bipush (v := 25) C dX12_init_203 (by decide) ?_
  refine q_put (k := 32) C ck_13 dX12_init_205 w6_91 (by decide) rfl (List.mem_append_left _ lk7h0) (va_up_self _ _ _) rfl rfl ?_
  refine q_aload_n (j := 0) C dX12_init_208 rfl ?_
  refine q_bipush (v := 36) C dX12_init_209 (by decide) ?_
  refine q_put (k := 33) C ck_13 dX12_init_211 w6_92 (by decide) rfl (List.mem_append_left _ lk7h0) (va_up_self _ _ _) rfl rfl ?_
  refine q_aload_n (j := 0) C dX12_init_214 rfl ?_
  refine q_sipush (v := 200) C dX12_init_215 (by decide) ?_
  refine q_newaI (N := 200) C dX12_init_218 w1_57 (by decide) (by decide) (by decide) ⟨Nat.le_of_ble_eq_true rfl, Nat.le_of_ble_eq_true rfl⟩ (fun q23 nq23 => ?_)
  have ne_h0_q23 : h0 ≠ q23 := (ne_in (List.mem_append_left _ lk7h0) nq23)
  have ne_q1_q23 : q1 ≠ q23 := (ne_in (List.mem_append_left _ lk7q1) nq23)
  have ne_q2_q23 : q2 ≠ q23 := (ne_in (List.mem_append_left _ lk7q2) nq23)
  have ne_q3_q23 : q3 ≠ q23 := (ne_in (List.mem_append_left _ lk7q3) nq23)
  have ne_q4_q23 : q4 ≠ q23 := (ne_in (List.mem_append_left _ lk7q4) nq23)
  have ne_q5_q23 : q5 ≠ q23 := (ne_in (List.mem_append_left _ lk7q5) nq23)
  have ne_q6_q23 : q6 ≠ q23 := (ne_in (List.mem_append_left _ lk7q6) nq23)
  have ne_q7_q23 : q7 ≠ q23 := (ne_in (List.mem_append_left _ lk7q7) nq23)
  have ne_q13_q23 : q13 ≠ q23 := (ne_in (List.mem_append_left _ lk7q13) nq23)
  have ne_q15_q23 : q15 ≠ q23 := (ne_in (List.mem_append_left _ lk7q15) nq23)
  have ne_q21_q23 : q21 ≠ q23 := (ne_in (List.mem_append_left _ lk7q21) nq23)
  refine q_putF (k := 34) C ck_13 dX12_init_220 w6_93 (by decide) rfl rfl rfl (List.mem_append_left _ (List.mem_append_left _ lk7h0)) ((va_up_ne _ _ ne_h0_q23).trans (va_up_self _ _ _)) rfl rfl ?_
  refine q_cut (fun Lk8 Ek8 hLk8 hEk8 => ?_)
  have ek8h0 := (congrFun hEk8 h0).trans (va_up_self _ _ _)
  have lk8h0 : h0 ∈ Lk8 := hLk8 ▸ (List.mem_append_left _ (List.mem_append_left _ lk7h0))
  have ek8q1 := (congrFun hEk8 q1).trans ((va_up_ne _ _ (Ne.symm ne_h0_q1)).trans ((va_up_ne _ _ ne_q1_q23).trans ((va_up_ne _ _ (Ne.symm ne_h0_q1)).trans ((va_up_ne _ _ (Ne.symm ne_h0_q1)).trans ((va_up_ne _ _ (Ne.symm ne_h0_q1)).trans ((va_up_ne _ _ (Ne.symm ne_h0_q1)).trans ((va_up_ne _ _ ne_q1_q22).trans ek7q1)))))))
  have lk8q1 : q1 ∈ Lk8 := hLk8 ▸ (List.mem_append_left _ (List.mem_append_left _ lk7q1))
  have ek8q2 := (congrFun hEk8 q2).trans ((va_up_ne _ _ (Ne.symm ne_h0_q2)).trans ((va_up_ne _ _ ne_q2_q23).trans ((va_up_ne _ _ (Ne.symm ne_h0_q2)).trans ((va_up_ne _ _ (Ne.symm ne_h0_q2)).trans ((va_up_ne _ _ (Ne.symm ne_h0_q2)).trans ((va_up_ne _ _ (Ne.symm ne_h0_q2)).trans ((va_up_ne _ _ ne_q2_q22).trans ek7q2)))))))
  have lk8q2 : q2 ∈ Lk8 := hLk8 ▸ (List.mem_append_left _ (List.mem_append_left _ lk7q2))
  have ek8q3 := (congrFun hEk8 q3).trans ((va_up_ne _ _ (Ne.symm ne_h0_q3)).trans ((va_up_ne _ _ ne_q3_q23).trans ((va_up_ne _ _ (Ne.symm ne_h0_q3)).trans ((va_up_ne _ _ (Ne.symm ne_h0_q3)).trans ((va_up_ne _ _ (Ne.symm ne_h0_q3)).trans ((va_up_ne _ _ (Ne.symm ne_h0_q3)).trans ((va_up_ne _ _ ne_q3_q22).trans ek7q3)))))))
  have lk8q3 : q3 ∈ Lk8 := hLk8 ▸ (List.mem_append_left _ (List.mem_append_left _ lk7q3))
  have ek8q4 := (congrFun hEk8 q4).trans ((va_up_ne _ _ (Ne.symm ne_h0_q4)).trans ((va_up_ne _ _ ne_q4_q23).trans ((va_up_ne _ _ (Ne.symm ne_h0_q4)).trans ((va_up_ne _ _ (Ne.symm ne_h0_q4)).trans ((va_up_ne _ _ (Ne.symm ne_h0_q4)).trans ((va_up_ne _ _ (Ne.symm ne_h0_q4)).trans ((va_up_ne _ _ ne_q4_q22).trans ek7q4)))))))
  have lk8q4 : q4 ∈ Lk8 := hLk8 ▸ (List.mem_append_left _ (List.mem_append_left _ lk7q4))
  have ek8q5 := (congrFun hEk8 q5).trans ((va_up_ne _ _ (Ne.symm ne_h0_q5)).trans ((va_up_ne _ _ ne_q5_q23).trans ((va_up_ne _ _ (Ne.symm ne_h0_q5)).trans ((va_up_ne _ _ (Ne.symm ne_h0_q5)).trans ((va_up_ne _ _ (Ne.symm ne_h0_q5)).trans ((va_up_ne _ _ (Ne.symm ne_h0_q5)).trans ((va_up_ne _ _ ne_q5_q22).trans ek7q5)))))))
  have lk8q5 : q5 ∈ Lk8 := hLk8 ▸ (List.mem_append_left _ (List.mem_append_left _ lk7q5))
  have ek8q6 := (congrFun hEk8 q6).trans ((va_up_ne _ _ (Ne.symm ne_h0_q6)).trans ((va_up_ne _ _ ne_q6_q23).trans ((va_up_ne _ _ (Ne.symm ne_h0_q6)).trans ((va_up_ne _ _ (Ne.symm ne_h0_q6)).trans ((va_up_ne _ _ (Ne.symm ne_h0_q6)).trans ((va_up_ne _ _ (Ne.symm ne_h0_q6)).trans ((va_up_ne _ _ ne_q6_q22).trans ek7q6)))))))
  have lk8q6 : q6 ∈ Lk8 := hLk8 ▸ (List.mem_append_left _ (List.mem_append_left _ lk7q6))
  have ek8q7 := (congrFun hEk8 q7).trans ((va_up_ne _ _ (Ne.symm ne_h0_q7)).trans ((va_up_ne _ _ ne_q7_q23).trans ((va_up_ne _ _ (Ne.symm ne_h0_q7)).trans ((va_up_ne _ _ (Ne.symm ne_h0_q7)).trans ((va_up_ne _ _ (Ne.symm ne_h0_q7)).trans ((va_up_ne _ _ (Ne.symm ne_h0_q7)).trans ((va_up_ne _ _ ne_q7_q22).trans ek7q7)))))))
  have lk8q7 : q7 ∈ Lk8 := hLk8 ▸ (List.mem_append_left _ (List.mem_append_left _ lk7q7))
  have ek8q13 := (congrFun hEk8 q13).trans ((va_up_ne _ _ (Ne.symm ne_h0_q13)).trans ((va_up_ne _ _ ne_q13_q23).trans ((va_up_ne _ _ (Ne.symm ne_h0_q13)).trans ((va_up_ne _ _ (Ne.symm ne_h0_q13)).trans ((va_up_ne _ _ (Ne.symm ne_h0_q13)).trans ((va_up_ne _ _ (Ne.symm ne_h0_q13)).trans ((va_up_ne _ _ ne_q13_q22).trans ek7q13)))))))
  have lk8q13 : q13 ∈ Lk8 := hLk8 ▸ (List.mem_append_left _ (List.mem_append_left _ lk7q13))
  have ek8q15 := (congrFun hEk8 q15).trans ((va_up_ne _ _ (Ne.symm ne_h0_q15)).trans ((va_up_ne _ _ ne_q15_q23).trans ((va_up_ne _ _ (Ne.symm ne_h0_q15)).trans ((va_up_ne _ _ (Ne.symm ne_h0_q15)).trans ((va_up_ne _ _ (Ne.symm ne_h0_q15)).trans ((va_up_ne _ _ (Ne.symm ne_h0_q15)).trans ((va_up_ne _ _ ne_q15_q22).trans ek7q15)))))))
  have lk8q15 : q15 ∈ Lk8 := hLk8 ▸ (List.mem_append_left _ (List.mem_append_left _ lk7q15))
  have ek8q21 := (congrFun hEk8 q21).trans ((va_up_ne _ _ (Ne.symm ne_h0_q21)).trans ((va_up_ne _ _ ne_q21_q23).trans ((va_up_ne _ _ (Ne.symm ne_h0_q21)).trans ((va_up_ne _ _ (Ne.symm ne_h0_q21)).trans ((va_up_ne _ _ (Ne.symm ne_h0_q21)).trans ((va_up_ne _ _ (Ne.symm ne_h0_q21)).trans ((va_up_ne _ _ ne_q21_q22).trans ek7q21)))))))
  have lk8q21 : q21 ∈ Lk8 := hLk8 ▸ (List.mem_append_left _ (List.mem_append_left _ lk7q21))
  clear hEk8 hLk8
  refine q_aload_n (j := 0) C dX12_init_223 rfl ?_
  refine q_ldc (v := 40000) C dX12_init_224 w6_56 ?_
  refine q_newaI (N := 40000) C dX12_init_226 w1_57 (by decide) (by decide) (by decide) ⟨Nat.le_of_ble_eq_true rfl, Nat.le_of_ble_eq_true rfl⟩ (fun q24 nq24 => ?_)
  have ne_h0_q24 : h0 ≠ q24 := (ne_in lk8h0 nq24)
  have ne_q1_q24 : q1 ≠ q24 := (ne_in lk8q1 nq24)
  have ne_q2_q24 : q2 ≠ q24 := (ne_in lk8q2 nq24)
  have ne_q3_q24 : q3 ≠ q24 := (ne_in lk8q3 nq24)
  have ne_q4_q24 : q4 ≠ q24 := (ne_in lk8q4 nq24)
  have ne_q5_q24 : q5 ≠ q24 := (ne_in lk8q5 nq24)
  have ne_q6_q24 : q6 ≠ q24 := (ne_in lk8q6 nq24)
  have ne_q7_q24 : q7 ≠ q24 := (ne_in lk8q7 nq24)
  have ne_q13_q24 : q13 ≠ q24 := (ne_in lk8q13 nq24)
  have ne_q15_q24 : q15 ≠ q24 := (ne_in lk8q15 nq24)
  have ne_q21_q24 : q21 ≠ q24 := (ne_in lk8q21 nq24)
  refine q_putF (k := 35) C ck_13 dX12_init_228 w6_94 (by decide) rfl rfl rfl (List.mem_append_left _ lk8h0) ((va_up_ne _ _ ne_h0_q24).trans ek8h0) rfl rfl ?_
  refine q_aload_n (j := 0) C dX12_init_231 rfl ?_
  refine q_sipush (v := 200) C dX12_init_232 (by decide) ?_
  refine q_newaI (N := 200) C dX12_init_235 w1_57 (by decide) (by decide) (by decide) ⟨Nat.le_of_ble_eq_true rfl, Nat.le_of_ble_eq_true rfl⟩ (fun q25 nq25 => ?_)
  have ne_h0_q25 : h0 ≠ q25 := (ne_in (List.mem_append_left _ lk8h0) nq25)
  have ne_q1_q25 : q1 ≠ q25 := (ne_in (List.mem_append_left _ lk8q1) nq25)
  have ne_q2_q25 : q2 ≠ q25 := (ne_in (List.mem_append_left _ lk8q2) nq25)
  have ne_q3_q25 : q3 ≠ q25 := (ne_in (List.mem_append_left _ lk8q3) nq25)
  have ne_q4_q25 : q4 ≠ q25 := (ne_in (List.mem_append_left _ lk8q4) nq25)
  have ne_q5_q25 : q5 ≠ q25 := (ne_in (List.mem_append_left _ lk8q5) nq25)
  have ne_q6_q25 : q6 ≠ q25 := (ne_in (List.mem_append_left _ lk8q6) nq25)
  have ne_q7_q25 : q7 ≠ q25 := (ne_in (List.mem_append_left _ lk8q7) nq25)
  have ne_q13_q25 : q13 ≠ q25 := (ne_in (List.mem_append_left _ lk8q13) nq25)
  have ne_q15_q25 : q15 ≠ q25 := (ne_in (List.mem_append_left _ lk8q15) nq25)
  have ne_q21_q25 : q21 ≠ q25 := (ne_in (List.mem_append_left _ lk8q21) nq25)
  refine q_putF (k := 37) C ck_13 dX12_init_237 w6_96 (by decide) rfl rfl rfl (List.mem_append_left _ (List.mem_append_left _ lk8h0)) ((va_up_ne _ _ ne_h0_q25).trans (va_up_self _ _ _)) rfl rfl ?_
  refine q_aload_n (j := 0) C dX12_init_240 rfl ?_
  refine q_ldc (v := 40000) C dX12_init_241 w6_56 ?_
  refine q_newaI (N := 40000) C dX12_init_243 w1_57 (by decide) (by decide) (by decide) ⟨Nat.le_of_ble_eq_true rfl, Nat.le_of_ble_eq_true rfl⟩ (fun q26 nq26 => ?_)
  have ne_h0_q26 : h0 ≠ q26 := (ne_in (List.mem_append_left _ (List.mem_append_left _ lk8h0)) nq26)
  have ne_q1_q26 : q1 ≠ q26 := (ne_in (List.mem_append_left _ (List.mem_append_left _ lk8q1)) nq26)
  have ne_q2_q26 : q2 ≠ q26 := (ne_in (List.mem_append_left _ (List.mem_append_left _ lk8q2)) nq26)
  have ne_q3_q26 : q3 ≠ q26 := (ne_in (List.mem_append_left _ (List.mem_append_left _ lk8q3)) nq26)
  have ne_q4_q26 : q4 ≠ q26 := (ne_in (List.mem_append_left _ (List.mem_append_left _ lk8q4)) nq26)
  have ne_q5_q26 : q5 ≠ q26 := (ne_in (List.mem_append_left _ (List.mem_append_left _ lk8q5)) nq26)
  have ne_q6_q26 : q6 ≠ q26 := (ne_in (List.mem_append_left _ (List.mem_append_left _ lk8q6)) nq26)
  have ne_q7_q26 : q7 ≠ q26 := (ne_in (List.mem_append_left _ (List.mem_append_left _ lk8q7)) nq26)
  have ne_q13_q26 : q13 ≠ q26 := (ne_in (List.mem_append_left _ (List.mem_append_left _ lk8q13)) nq26)
  have ne_q15_q26 : q15 ≠ q26 := (ne_in (List.mem_append_left _ (List.mem_append_left _ lk8q15)) nq26)
  have ne_q21_q26 : q21 ≠ q26 := (ne_in (List.mem_append_left _ (List.mem_append_left _ lk8q21)) nq26)
  refine q_putF (k := 38) C ck_13 dX12_init_245 w6_97 (by decide) rfl rfl rfl (List.mem_append_left _ (List.mem_append_left _ (List.mem_append_left _ lk8h0))) ((va_up_ne _ _ ne_h0_q26).trans (va_up_self _ _ _)) rfl rfl ?_
  refine q_cut (fun Lk9 Ek9 hLk9 hEk9 => ?_)
  have ek9h0 := (congrFun hEk9 h0).trans (va_up_self _ _ _)
  have lk9h0 : h0 ∈ Lk9 := hLk9 ▸ (List.mem_append_left _ (List.mem_append_left _ (List.mem_append_left _ lk8h0)))
  have ek9q1 := (congrFun hEk9 q1).trans ((va_up_ne _ _ (Ne.symm ne_h0_q1)).trans ((va_up_ne _ _ ne_q1_q26).trans ((va_up_ne _ _ (Ne.symm ne_h0_q1)).trans ((va_up_ne _ _ ne_q1_q25).trans ((va_up_ne _ _ (Ne.symm ne_h0_q1)).trans ((va_up_ne _ _ ne_q1_q24).trans ek8q1))))))
  have lk9q1 : q1 ∈ Lk9 := hLk9 ▸ (List.mem_append_left _ (List.mem_append_left _ (List.mem_append_left _ lk8q1)))
  have ek9q2 := (congrFun hEk9 q2).trans ((va_up_ne _ _ (Ne.symm ne_h0_q2)).trans ((va_up_ne _ _ ne_q2_q26).trans ((va_up_ne _ _ (Ne.symm ne_h0_q2)).trans ((va_up_ne _ _ ne_q2_q25).trans ((va_up_ne _ _ (Ne.symm ne_h0_q2)).trans ((va_up_ne _ _ ne_q2_q24).trans ek8q2))))))
  have lk9q2 : q2 ∈ Lk9 := hLk9 ▸ (List.mem_append_left _ (List.mem_append_left _ (List.mem_append_left _ lk8q2)))
  have ek9q3 := (congrFun hEk9 q3).trans ((va_up_ne _ _ (Ne.symm ne_h0_q3)).trans ((va_up_ne _ _ ne_q3_q26).trans ((va_up_ne _ _ (Ne.symm ne_h0_q3)).trans ((va_up_ne _ _ ne_q3_q25).trans ((va_up_ne _ _ (Ne.symm ne_h0_q3)).trans ((va_up_ne _ _ ne_q3_q24).trans ek8q3))))))
  have lk9q3 : q3 ∈ Lk9 := hLk9 ▸ (List.mem_append_left _ (List.mem_append_left _ (List.mem_append_left _ lk8q3)))
  have ek9q4 := (congrFun hEk9 q4).trans ((va_up_ne _ _ (Ne.symm ne_h0_q4)).trans ((va_up_ne _ _ ne_q4_q26).trans ((va_up_ne _ _ (Ne.symm ne_h0_q4)).trans ((va_up_ne _ _ ne_q4_q25).trans ((va_up_ne _ _ (Ne.symm ne_h0_q4)).trans ((va_up_ne _ _ ne_q4_q24).trans ek8q4))))))
  have lk9q4 : q4 ∈ Lk9 := hLk9 ▸ (List.mem_append_left _ (List.mem_append_left _ (List.mem_append_left _ lk8q4)))
  have ek9q5 := (congrFun hEk9 q5).trans ((va_up_ne _ _ (Ne.symm ne_h0_q5)).trans ((va_up_ne _ _ ne_q5_q26).trans ((va_up_ne _ _ (Ne.symm ne_h0_q5)).trans ((va_up_ne _ _ ne_q5_q25).trans ((va_up_ne _ _ (Ne.symm ne_h0_q5)).trans ((va_up_ne _ _ ne_q5_q24).trans ek8q5))))))
  have lk9q5 : q5 ∈ Lk9 := hLk9 ▸ (List.mem_append_left _ (List.mem_append_left _ (List.mem_append_left _ lk8q5)))
  have ek9q6 := (congrFun hEk9 q6).trans ((va_up_ne _ _ (Ne.symm ne_h0_q6)).trans ((va_up_ne _ _ ne_q6_q26).trans ((va_up_ne _ _ (Ne.symm ne_h0_q6)).trans ((va_up_ne _ _ ne_q6_q25).trans ((va_up_ne _ _ (Ne.symm ne_h0_q6)).trans ((va_up_ne _ _ ne_q6_q24).trans ek8q6))))))
  have lk9q6 : q6 ∈ Lk9 := hLk9 ▸ (List.mem_append_left _ (List.mem_append_left _ (List.mem_append_left _ lk8q6)))
  have ek9q7 := (congrFun hEk9 q7).trans ((va_up_ne _ _ (Ne.symm ne_h0_q7)).trans ((va_up_ne _ _ ne_q7_q26).trans ((va_up_ne _ _ (Ne.symm ne_h0_q7)).trans ((va_up_ne _ _ ne_q7_q25).trans ((va_up_ne _ _ (Ne.symm ne_h0_q7)).trans ((va_up_ne _ _ ne_q7_q24).trans ek8q7))))))
  have lk9q7 : q7 ∈ Lk9 := hLk9 ▸ (List.mem_append_left _ (List.mem_append_left _ (List.mem_append_left _ lk8q7)))
  have ek9q13 := (congrFun hEk9 q13).trans ((va_up_ne _ _ (Ne.symm ne_h0_q13)).trans ((va_up_ne _ _ ne_q13_q26).trans ((va_up_ne _ _ (Ne.symm ne_h0_q13)).trans ((va_up_ne _ _ ne_q13_q25).trans ((va_up_ne _ _ (Ne.symm ne_h0_q13)).trans ((va_up_ne _ _ ne_q13_q24).trans ek8q13))))))
  have lk9q13 : q13 ∈ Lk9 := hLk9 ▸ (List.mem_append_left _ (List.mem_append_left _ (List.mem_append_left _ lk8q13)))
  have ek9q15 := (congrFun hEk9 q15).trans ((va_up_ne _ _ (Ne.symm ne_h0_q15)).trans ((va_up_ne _ _ ne_q15_q26).trans ((va_up_ne _ _ (Ne.symm ne_h0_q15)).trans ((va_up_ne _ _ ne_q15_q25).trans ((va_up_ne _ _ (Ne.symm ne_h0_q15)).trans ((va_up_ne _ _ ne_q15_q24).trans ek8q15))))))
  have lk9q15 : q15 ∈ Lk9 := hLk9 ▸ (List.mem_append_left _ (List.mem_append_left _ (List.mem_append_left _ lk8q15)))
  have ek9q21 := (congrFun hEk9 q21).trans ((va_up_ne _ _ (Ne.symm ne_h0_q21)).trans ((va_up_ne _ _ ne_q21_q26).trans ((va_up_ne _ _ (Ne.symm ne_h0_q21)).trans ((va_up_ne _ _ ne_q21_q25).trans ((va_up_ne _ _ (Ne.symm ne_h0_q21)).trans ((va_up_ne _ _ ne_q21_q24).trans ek8q21))))))
  have lk9q21 : q21 ∈ Lk9 := hLk9 ▸ (List.mem_append_left _ (List.mem_append_left _ (List.mem_append_left _ lk8q21)))
  clear hEk9 hLk9
  refine q_aload_n (j := 0) C dX12_init_248 rfl ?_
  refine q_sipush (v := 200) C dX12_init_249 (by decide) ?_
  refine q_newaI (N := 200) C dX12_init_252 w1_57 (by decide) (by decide) (by decide) ⟨Nat.le_of_ble_eq_true rfl, Nat.le_of_ble_eq_true rfl⟩ (fun q27 nq27 => ?_)
  have ne_h0_q27 : h0 ≠ q27 := (ne_in lk9h0 nq27)
  have ne_q1_q27 : q1 ≠ q27 := (ne_in lk9q1 nq27)
  have ne_q2_q27 : q2 ≠ q27 := (ne_in lk9q2 nq27)
  have ne_q3_q27 : q3 ≠ q27 := (ne_in lk9q3 nq27)
  have ne_q4_q27 : q4 ≠ q27 := (ne_in lk9q4 nq27)
  have ne_q5_q27 : q5 ≠ q27 := (ne_in lk9q5 nq27)
  have ne_q6_q27 : q6 ≠ q27 := (ne_in lk9q6 nq27)
  have ne_q7_q27 : q7 ≠ q27 := (ne_in lk9q7 nq27)
  have ne_q13_q27 : q13 ≠ q27 := (ne_in lk9q13 nq27)
  have ne_q15_q27 : q15 ≠ q27 := (ne_in lk9q15 nq27)
  have ne_q21_q27 : q21 ≠ q27 := (ne_in lk9q21 nq27)
  refine q_putF (k := 40) C ck_13 dX12_init_254 w6_99 (by decide) rfl rfl rfl (List.mem_append_left _ lk9h0) ((va_up_ne _ _ ne_h0_q27).trans ek9h0) rfl rfl ?_
  refine q_aload_n (j := 0) C dX12_init_257 rfl ?_
  refine q_sipush (v := 12016) C dX12_init_258 (by decide) ?_
  refine q_newaI (N := 12016) C dX12_init_261 w1_57 (by decide) (by decide) (by decide) ⟨Nat.le_of_ble_eq_true rfl, Nat.le_of_ble_eq_true rfl⟩ (fun q28 nq28 => ?_)
  have ne_h0_q28 : h0 ≠ q28 := (ne_in (List.mem_append_left _ lk9h0) nq28)
  have ne_q1_q28 : q1 ≠ q28 := (ne_in (List.mem_append_left _ lk9q1) nq28)
  have ne_q2_q28 : q2 ≠ q28 := (ne_in (List.mem_append_left _ lk9q2) nq28)
  have ne_q3_q28 : q3 ≠ q28 := (ne_in (List.mem_append_left _ lk9q3) nq28)
  have ne_q4_q28 : q4 ≠ q28 := (ne_in (List.mem_append_left _ lk9q4) nq28)
  have ne_q5_q28 : q5 ≠ q28 := (ne_in (List.mem_append_left _ lk9q5) nq28)
  have ne_q6_q28 : q6 ≠ q28 := (ne_in (List.mem_append_left _ lk9q6) nq28)
  have ne_q7_q28 : q7 ≠ q28 := (ne_in (List.mem_append_left _ lk9q7) nq28)
  have ne_q13_q28 : q13 ≠ q28 := (ne_in (List.mem_append_left _ lk9q13) nq28)
  have ne_q15_q28 : q15 ≠ q28 := (ne_in (List.mem_append_left _ lk9q15) nq28)
  have ne_q21_q28 : q21 ≠ q28 := (ne_in (List.mem_append_left _ lk9q21) nq28)
  refine q_putF (k := 44) C ck_13 dX12_init_263 w6_103 (by decide) rfl rfl rfl (List.mem_append_left _ (List.mem_append_left _ lk9h0)) ((va_up_ne _ _ ne_h0_q28).trans (va_up_self _ _ _)) rfl rfl ?_
  refine q_aload_n (j := 0) C dX12_init_266 rfl ?_
  refine q_sipush (v := 12016) C dX12_init_267 (by decide) ?_
  refine q_newaI (N := 12016) C dX12_init_270 w1_57 (by decide) (by decide) (by decide) ⟨Nat.le_of_ble_eq_true rfl, Nat.le_of_ble_eq_true rfl⟩ (fun q29 nq29 => ?_)
  have ne_h0_q29 : h0 ≠ q29 := (ne_in (List.mem_append_left _ (List.mem_append_left _ lk9h0)) nq29)
  have ne_q1_q29 : q1 ≠ q29 := (ne_in (List.mem_append_left _ (List.mem_append_left _ lk9q1)) nq29)
  have ne_q2_q29 : q2 ≠ q29 := (ne_in (List.mem_append_left _ (List.mem_append_left _ lk9q2)) nq29)
  have ne_q3_q29 : q3 ≠ q29 := (ne_in (List.mem_append_left _ (List.mem_append_left _ lk9q3)) nq29)
  have ne_q4_q29 : q4 ≠ q29 := (ne_in (List.mem_append_left _ (List.mem_append_left _ lk9q4)) nq29)
  have ne_q5_q29 : q5 ≠ q29 := (ne_in (List.mem_append_left _ (List.mem_append_left _ lk9q5)) nq29)
  have ne_q6_q29 : q6 ≠ q29 := (ne_in (List.mem_append_left _ (List.mem_append_left _ lk9q6)) nq29)
  have ne_q7_q29 : q7 ≠ q29 := (ne_in (List.mem_append_left _ (List.mem_append_left _ lk9q7)) nq29)
  have ne_q13_q29 : q13 ≠ q29 := (ne_in (List.mem_append_left _ (List.mem_append_left _ lk9q13)) nq29)
  have ne_q15_q29 : q15 ≠ q29 := (ne_in (List.mem_append_left _ (List.mem_append_left _ lk9q15)) nq29)
  have ne_q21_q29 : q21 ≠ q29 := (ne_in (List.mem_append_left _ (List.mem_append_left _ lk9q21)) nq29)
  refine q_putF (k := 45) C ck_13 dX12_init_272 w6_104 (by decide) rfl rfl rfl (List.mem_append_left _ (List.mem_append_left _ (List.mem_append_left _ lk9h0))) ((va_up_ne _ _ ne_h0_q29).trans (va_up_self _ _ _)) rfl rfl ?_
  refine q_cut (fun Lk10 Ek10 hLk10 hEk10 => ?_)
  have ek10h0 := (congrFun hEk10 h0).trans (va_up_self _ _ _)
  have lk10h0 : h0 ∈ Lk10 := hLk10 ▸ (List.mem_append_left _ (List.mem_append_left _ (List.mem_append_left _ lk9h0)))
  have ek10q1 := (congrFun hEk10 q1).trans ((va_up_ne _ _ (Ne.symm ne_h0_q1)).trans ((va_up_ne _ _ ne_q1_q29).trans ((va_up_ne _ _ (Ne.symm ne_h0_q1)).trans ((va_up_ne _ _ ne_q1_q28).trans ((va_up_ne _ _ (Ne.symm ne_h0_q1)).trans ((va_up_ne _ _ ne_q1_q27).trans ek9q1))))))
  have lk10q1 : q1 ∈ Lk10 := hLk10 ▸ (List.mem_append_left _ (List.mem_append_left _ (List.mem_append_left _ lk9q1)))
  have ek10q2 := (congrFun hEk10 q2).trans ((va_up_ne _ _ (Ne.symm ne_h0_q2)).trans ((va_up_ne _ _ ne_q2_q29).trans ((va_up_ne _ _ (Ne.symm ne_h0_q2)).trans ((va_up_ne _ _ ne_q2_q28).trans ((va_up_ne _ _ (Ne.symm ne_h0_q2)).trans ((va_up_ne _ _ ne_q2_q27).trans ek9q2))))))
  have lk10q2 : q2 ∈ Lk10 := hLk10 ▸ (List.mem_append_left _ (List.mem_append_left _ (List.mem_append_left _ lk9q2)))
  have ek10q3 := (congrFun hEk10 q3).trans ((va_up_ne _ _ (Ne.symm ne_h0_q3)).trans ((va_up_ne _ _ ne_q3_q29).trans ((va_up_ne _ _ (Ne.symm ne_h0_q3)).trans ((va_up_ne _ _ ne_q3_q28).trans ((va_up_ne _ _ (Ne.symm ne_h0_q3)).trans ((va_up_ne _ _ ne_q3_q27).trans ek9q3))))))
  have lk10q3 : q3 ∈ Lk10 := hLk10 ▸ (List.mem_append_left _ (List.mem_append_left _ (List.mem_append_left _ lk9q3)))
  have ek10q4 := (congrFun hEk10 q4).trans ((va_up_ne _ _ (Ne.symm ne_h0_q4)).trans ((va_up_ne _ _ ne_q4_q29).trans ((va_up_ne _ _ (Ne.symm ne_h0_q4)).trans ((va_up_ne _ _ ne_q4_q28).trans ((va_up_ne _ _ (Ne.symm ne_h0_q4)).trans ((va_up_ne _ _ ne_q4_q27).trans ek9q4))))))
  have lk10q4 : q4 ∈ Lk10 := hLk10 ▸ (List.mem_append_left _ (List.mem_append_left _ (List.mem_append_left _ lk9q4)))
  have ek10q5 := (congrFun hEk10 q5).trans ((va_up_ne _ _ (Ne.symm ne_h0_q5)).trans ((va_up_ne _ _ ne_q5_q29).trans ((va_up_ne _ _ (Ne.symm ne_h0_q5)).trans ((va_up_ne _ _ ne_q5_q28).trans ((va_up_ne _ _ (Ne.symm ne_h0_q5)).trans ((va_up_ne _ _ ne_q5_q27).trans ek9q5))))))
  have lk10q5 : q5 ∈ Lk10 := hLk10 ▸ (List.mem_append_left _ (List.mem_append_left _ (List.mem_append_left _ lk9q5)))
  have ek10q6 := (congrFun hEk10 q6).trans ((va_up_ne _ _ (Ne.symm ne_h0_q6)).trans ((va_up_ne _ _ ne_q6_q29).trans ((va_up_ne _ _ (Ne.symm ne_h0_q6)).trans ((va_up_ne _ _ ne_q6_q28).trans ((va_up_ne _ _ (Ne.symm ne_h0_q6)).trans ((va_up_ne _ _ ne_q6_q27).trans ek9q6))))))
  have lk10q6 : q6 ∈ Lk10 := hLk10 ▸ (List.mem_append_left _ (List.mem_append_left _ (List.mem_append_left _ lk9q6)))
  have ek10q7 := (congrFun hEk10 q7).trans ((va_up_ne _ _ (Ne.symm ne_h0_q7)).trans ((va_up_ne _ _ ne_q7_q29).trans ((va_up_ne _ _ (Ne.symm ne_h0_q7)).trans ((va_up_ne _ _ ne_q7_q28).trans ((va_up_ne _ _ (Ne.symm ne_h0_q7)).trans ((va_up_ne _ _ ne_q7_q27).trans ek9q7))))))
  have lk10q7 : q7 ∈ Lk10 := hLk10 ▸ (List.mem_append_left _ (List.mem_append_left _ (List.mem_append_left _ lk9q7)))
  have ek10q13 := (congrFun hEk10 q13).trans ((va_up_ne _ _ (Ne.symm ne_h0_q13)).trans ((va_up_ne _ _ ne_q13_q29).trans ((va_up_ne _ _ (Ne.symm ne_h0_q13)).trans ((va_up_ne _ _ ne_q13_q28).trans ((va_up_ne _ _ (Ne.symm ne_h0_q13)).trans ((va_up_ne _ _ ne_q13_q27).trans ek9q13))))))
  have lk10q13 : q13 ∈ Lk10 := hLk10 ▸ (List.mem_append_left _ (List.mem_append_left _ (List.mem_append_left _ lk9q13)))
  have ek10q15 := (congrFun hEk10 q15).trans ((va_up_ne _ _ (Ne.symm ne_h0_q15)).trans ((va_up_ne _ _ ne_q15_q29).trans ((va_up_ne _ _ (Ne.symm ne_h0_q15)).trans ((va_up_ne _ _ ne_q15_q28).trans ((va_up_ne _ _ (Ne.symm ne_h0_q15)).trans ((va_up_ne _ _ ne_q15_q27).trans ek9q15))))))
  have lk10q15 : q15 ∈ Lk10 := hLk10 ▸ (List.mem_append_left _ (List.mem_append_left _ (List.mem_append_left _ lk9q15)))
  have ek10q21 := (congrFun hEk10 q21).trans ((va_up_ne _ _ (Ne.symm ne_h0_q21)).trans ((va_up_ne _ _ ne_q21_q29).trans ((va_up_ne _ _ (Ne.symm ne_h0_q21)).trans ((va_up_ne _ _ ne_q21_q28).trans ((va_up_ne _ _ (Ne.symm ne_h0_q21)).trans ((va_up_ne _ _ ne_q21_q27).trans ek9q21))))))
  have lk10q21 : q21 ∈ Lk10 := hLk10 ▸ (List.mem_append_left _ (List.mem_append_left _ (List.mem_append_left _ lk9q21)))
  clear hEk10 hLk10
  refine q_aload_n (j := 0) C dX12_init_275 rfl ?_
  refine q_sipush (v := 12016) C dX12_init_276 (by decide) ?_
  refine q_newaI (N := 12016) C dX12_init_279 w1_57 (by decide) (by decide) (by decide) ⟨Nat.le_of_ble_eq_true rfl, Nat.le_of_ble_eq_true rfl⟩ (fun q30 nq30 => ?_)
  have ne_h0_q30 : h0 ≠ q30 := (ne_in lk10h0 nq30)
  have ne_q1_q30 : q1 ≠ q30 := (ne_in lk10q1 nq30)
  have ne_q2_q30 : q2 ≠ q30 := (ne_in lk10q2 nq30)
  have ne_q3_q30 : q3 ≠ q30 := (ne_in lk10q3 nq30)
  have ne_q4_q30 : q4 ≠ q30 := (ne_in lk10q4 nq30)
  have ne_q5_q30 : q5 ≠ q30 := (ne_in lk10q5 nq30)
  have ne_q6_q30 : q6 ≠ q30 := (ne_in lk10q6 nq30)
  have ne_q7_q30 : q7 ≠ q30 := (ne_in lk10q7 nq30)
  have ne_q13_q30 : q13 ≠ q30 := (ne_in lk10q13 nq30)
  have ne_q15_q30 : q15 ≠ q30 := (ne_in lk10q15 nq30)
  have ne_q21_q30 : q21 ≠ q30 := (ne_in lk10q21 nq30)
  refine q_putF (k := 46) C ck_13 dX12_init_281 w6_105 (by decide) rfl rfl rfl (List.mem_append_left _ lk10h0) ((va_up_ne _ _ ne_h0_q30).trans ek10h0) rfl rfl ?_
  refine q_aload_n (j := 0) C dX12_init_284 rfl ?_
  refine q_iconst (v := 2) C dX12_init_285 (by decide) ?_
  refine q_newaI (N := 2) C dX12_init_286 w1_57 (by decide) (by decide) (by decide) ⟨Nat.le_of_ble_eq_true rfl, Nat.le_of_ble_eq_true rfl⟩ (fun q31 nq31 => ?_)
  have ne_h0_q31 : h0 ≠ q31 := (ne_in (List.mem_append_left _ lk10h0) nq31)
  have ne_q1_q31 : q1 ≠ q31 := (ne_in (List.mem_append_left _ lk10q1) nq31)
  have ne_q2_q31 : q2 ≠ q31 := (ne_in (List.mem_append_left _ lk10q2) nq31)
  have ne_q3_q31 : q3 ≠ q31 := (ne_in (List.mem_append_left _ lk10q3) nq31)
  have ne_q4_q31 : q4 ≠ q31 := (ne_in (List.mem_append_left _ lk10q4) nq31)
  have ne_q5_q31 : q5 ≠ q31 := (ne_in (List.mem_append_left _ lk10q5) nq31)
  have ne_q6_q31 : q6 ≠ q31 := (ne_in (List.mem_append_left _ lk10q6) nq31)
  have ne_q7_q31 : q7 ≠ q31 := (ne_in (List.mem_append_left _ lk10q7) nq31)
  have ne_q13_q31 : q13 ≠ q31 := (ne_in (List.mem_append_left _ lk10q13) nq31)
  have ne_q15_q31 : q15 ≠ q31 := (ne_in (List.mem_append_left _ lk10q15) nq31)
  have ne_q21_q31 : q21 ≠ q31 := (ne_in (List.mem_append_left _ lk10q21) nq31)
  refine q_putF (k := 47) C ck_13 dX12_init_288 w6_106 (by decide) rfl rfl rfl (List.mem_append_left _ (List.mem_append_left _ lk10h0)) ((va_up_ne _ _ ne_h0_q31).trans (va_up_self _ _ _)) rfl rfl ?_
  refine q_aload_n (j := 0) C dX12_init_291 rfl ?_
  refine q_ldc (v := 40200) C dX12_init_292 w6_57 ?_
  refine q_newaI (N := 40200) C dX12_init_294 w1_57 (by decide) (by decide) (by decide) ⟨Nat.le_of_ble_eq_true rfl, Nat.le_of_ble_eq_true rfl⟩ (fun q32 nq32 => ?_)
  have ne_h0_q32 : h0 ≠ q32 := (ne_in (List.mem_append_left _ (List.mem_append_left _ lk10h0)) nq32)
  have ne_q1_q32 : q1 ≠ q32 := (ne_in (List.mem_append_left _ (List.mem_append_left _ lk10q1)) nq32)
  have ne_q2_q32 : q2 ≠ q32 := (ne_in (List.mem_append_left _ (List.mem_append_left _ lk10q2)) nq32)
  have ne_q3_q32 : q3 ≠ q32 := (ne_in (List.mem_append_left _ (List.mem_append_left _ lk10q3)) nq32)
  have ne_q4_q32 : q4 ≠ q32 := (ne_in (List.mem_append_left _ (List.mem_append_left _ lk10q4)) nq32)
  have ne_q5_q32 : q5 ≠ q32 := (ne_in (List.mem_append_left _ (List.mem_append_left _ lk10q5)) nq32)
  have ne_q6_q32 : q6 ≠ q32 := (ne_in (List.mem_append_left _ (List.mem_append_left _ lk10q6)) nq32)
  have ne_q7_q32 : q7 ≠ q32 := (ne_in (List.mem_append_left _ (List.mem_append_left _ lk10q7)) nq32)
  have ne_q13_q32 : q13 ≠ q32 := (ne_in (List.mem_append_left _ (List.mem_append_left _ lk10q13)) nq32)
  have ne_q15_q32 : q15 ≠ q32 := (ne_in (List.mem_append_left _ (List.mem_append_left _ lk10q15)) nq32)
  have ne_q21_q32 : q21 ≠ q32 := (ne_in (List.mem_append_left _ (List.mem_append_left _ lk10q21)) nq32)
  refine q_putF (k := 48) C ck_13 dX12_init_296 w6_107 (by decide) rfl rfl rfl (List.mem_append_left _ (List.mem_append_left _ (List.mem_append_left _ lk10h0))) ((va_up_ne _ _ ne_h0_q32).trans (va_up_self _ _ _)) rfl rfl ?_
  refine q_cut (fun Lk11 Ek11 hLk11 hEk11 => ?_)
  have ek11h0 := (congrFun hEk11 h0).trans (va_up_self _ _ _)
  have lk11h0 : h0 ∈ Lk11 := hLk11 ▸ (List.mem_append_left _ (List.mem_append_left _ (List.mem_append_left _ lk10h0)))
  have ek11q1 := (congrFun hEk11 q1).trans ((va_up_ne _ _ (Ne.symm ne_h0_q1)).trans ((va_up_ne _ _ ne_q1_q32).trans ((va_up_ne _ _ (Ne.symm ne_h0_q1)).trans ((va_up_ne _ _ ne_q1_q31).trans ((va_up_ne _ _ (Ne.symm ne_h0_q1)).trans ((va_up_ne _ _ ne_q1_q30).trans ek10q1))))))
  have lk11q1 : q1 ∈ Lk11 := hLk11 ▸ (List.mem_append_left _ (List.mem_append_left _ (List.mem_append_left _ lk10q1)))
  have ek11q2 := (congrFun hEk11 q2).trans ((va_up_ne _ _ (Ne.symm ne_h0_q2)).trans ((va_up_ne _ _ ne_q2_q32).trans ((va_up_ne _ _ (Ne.symm ne_h0_q2)).trans ((va_up_ne _ _ ne_q2_q31).trans ((va_up_ne _ _ (Ne.symm ne_h0_q2)).trans ((va_up_ne _ _ ne_q2_q30).trans ek10q2))))))
  have lk11q2 : q2 ∈ Lk11 := hLk11 ▸ (List.mem_append_left _ (List.mem_append_left _ (List.mem_append_left _ lk10q2)))
  have ek11q3 := (congrFun hEk11 q3).trans ((va_up_ne _ _ (Ne.symm ne_h0_q3)).trans ((va_up_ne _ _ ne_q3_q32).trans ((va_up_ne _ _ (Ne.symm ne_h0_q3)).trans ((va_up_ne _ _ ne_q3_q31).trans ((va_up_ne _ _ (Ne.symm ne_h0_q3)).trans ((va_up_ne _ _ ne_q3_q30).trans ek10q3))))))
  have lk11q3 : q3 ∈ Lk11 := hLk11 ▸ (List.mem_append_left _ (List.mem_append_left _ (List.mem_append_left _ lk10q3)))
  have ek11q4 := (congrFun hEk11 q4).trans ((va_up_ne _ _ (Ne.symm ne_h0_q4)).trans ((va_up_ne _ _ ne_q4_q32).trans ((va_up_ne _ _ (Ne.symm ne_h0_q4)).trans ((va_up_ne _ _ ne_q4_q31).trans ((va_up_ne _ _ (Ne.symm ne_h0_q4)).trans ((va_up_ne _ _ ne_q4_q30).trans ek10q4))))))
  have lk11q4 : q4 ∈ Lk11 := hLk11 ▸ (List.mem_append_left _ (List.mem_append_left _ (List.mem_append_left _ lk10q4)))
  have ek11q5 := (congrFun hEk11 q5).trans ((va_up_ne _ _ (Ne.symm ne_h0_q5)).trans ((va_up_ne _ _ ne_q5_q32).trans ((va_up_ne _ _ (Ne.symm ne_h0_q5)).trans ((va_up_ne _ _ ne_q5_q31).trans ((va_up_ne _ _ (Ne.symm ne_h0_q5)).trans ((va_up_ne _ _ ne_q5_q30).trans ek10q5))))))
  have lk11q5 : q5 ∈ Lk11 := hLk11 ▸ (List.mem_append_left _ (List.mem_append_left _ (List.mem_append_left _ lk10q5)))
  have ek11q6 := (congrFun hEk11 q6).trans ((va_up_ne _ _ (Ne.symm ne_h0_q6)).trans ((va_up_ne _ _ ne_q6_q32).trans ((va_up_ne _ _ (Ne.symm ne_h0_q6)).trans ((va_up_ne _ _ ne_q6_q31).trans ((va_up_ne _ _ (Ne.symm ne_h0_q6)).trans ((va_up_ne _ _ ne_q6_q30).trans ek10q6))))))
  have lk11q6 : q6 ∈ Lk11 := hLk11 ▸ (List.mem_append_left _ (List.mem_append_left _ (List.mem_append_left _ lk10q6)))
  have ek11q7 := (congrFun hEk11 q7).trans ((va_up_ne _ _ (Ne.symm ne_h0_q7)).trans ((va_up_ne _ _ ne_q7_q32).trans ((va_up_ne _ _ (Ne.symm ne_h0_q7)).trans ((va_up_ne _ _ ne_q7_q31).trans ((va_up_ne _ _ (Ne.symm ne_h0_q7)).trans ((va_up_ne _ _ ne_q7_q30).trans ek10q7))))))
  have lk11q7 : q7 ∈ Lk11 := hLk11 ▸ (List.mem_append_left _ (List.mem_append_left _ (List.mem_append_left _ lk10q7)))
  have ek11q13 := (congrFun hEk11 q13).trans ((va_up_ne _ _ (Ne.symm ne_h0_q13)).trans ((va_up_ne _ _ ne_q13_q32).trans ((va_up_ne _ _ (Ne.symm ne_h0_q13)).trans ((va_up_ne _ _ ne_q13_q31).trans ((va_up_ne _ _ (Ne.symm ne_h0_q13)).trans ((va_up_ne _ _ ne_q13_q30).trans ek10q13))))))
  have lk11q13 : q13 ∈ Lk11 := hLk11 ▸ (List.mem_append_left _ (List.mem_append_left _ (List.mem_append_left _ lk10q13)))
  have ek11q15 := (congrFun hEk11 q15).trans ((va_up_ne _ _ (Ne.symm ne_h0_q15)).trans ((va_up_ne _ _ ne_q15_q32).trans ((va_up_ne _ _ (Ne.symm ne_h0_q15)).trans ((va_up_ne _ _ ne_q15_q31).trans ((va_up_ne _ _ (Ne.symm ne_h0_q15)).trans ((va_up_ne _ _ ne_q15_q30).trans ek10q15))))))
  have lk11q15 : q15 ∈ Lk11 := hLk11 ▸ (List.mem_append_left _ (List.mem_append_left _ (List.mem_append_left _ lk10q15)))
  have ek11q21 := (congrFun hEk11 q21).trans ((va_up_ne _ _ (Ne.symm ne_h0_q21)).trans ((va_up_ne _ _ ne_q21_q32).trans ((va_up_ne _ _ (Ne.symm ne_h0_q21)).trans ((va_up_ne _ _ ne_q21_q31).trans ((va_up_ne _ _ (Ne.symm ne_h0_q21)).trans ((va_up_ne _ _ ne_q21_q30).trans ek10q21))))))
  have lk11q21 : q21 ∈ Lk11 := hLk11 ▸ (List.mem_append_left _ (List.mem_append_left _ (List.mem_append_left _ lk10q21)))
  clear hEk11 hLk11
  refine q_aload_n (j := 0) C dX12_init_299 rfl ?_
  refine q_ldc (v := 40200) C dX12_init_300 w6_57 ?_
  refine q_newaI (N := 40200) C dX12_init_302 w1_57 (by decide) (by decide) (by decide) ⟨Nat.le_of_ble_eq_true rfl, Nat.le_of_ble_eq_true rfl⟩ (fun q33 nq33 => ?_)
  have ne_h0_q33 : h0 ≠ q33 := (ne_in lk11h0 nq33)
  have ne_q1_q33 : q1 ≠ q33 := (ne_in lk11q1 nq33)
  have ne_q2_q33 : q2 ≠ q33 := (ne_in lk11q2 nq33)
  have ne_q3_q33 : q3 ≠ q33 := (ne_in lk11q3 nq33)
  have ne_q4_q33 : q4 ≠ q33 := (ne_in lk11q4 nq33)
  have ne_q5_q33 : q5 ≠ q33 := (ne_in lk11q5 nq33)
  have ne_q6_q33 : q6 ≠ q33 := (ne_in lk11q6 nq33)
  have ne_q7_q33 : q7 ≠ q33 := (ne_in lk11q7 nq33)
  have ne_q13_q33 : q13 ≠ q33 := (ne_in lk11q13 nq33)
  have ne_q15_q33 : q15 ≠ q33 := (ne_in lk11q15 nq33)
  have ne_q21_q33 : q21 ≠ q33 := (ne_in lk11q21 nq33)
  refine q_putF (k := 49) C ck_13 dX12_init_304 w6_108 (by decide) rfl rfl rfl (List.mem_append_left _ lk11h0) ((va_up_ne _ _ ne_h0_q33).trans ek11h0) rfl rfl ?_
  refine q_aload_n (j := 0) C dX12_init_307 rfl ?_
  refine q_sipush (v := 4000) C dX12_init_308 (by decide) ?_
  refine q_newaI (N := 4000) C dX12_init_311 w1_57 (by decide) (by decide) (by decide) ⟨Nat.le_of_ble_eq_true rfl, Nat.le_of_ble_eq_true rfl⟩ (fun q34 nq34 => ?_)
  have ne_h0_q34 : h0 ≠ q34 := (ne_in (List.mem_append_left _ lk11h0) nq34)
  have ne_q1_q34 : q1 ≠ q34 := (ne_in (List.mem_append_left _ lk11q1) nq34)
  have ne_q2_q34 : q2 ≠ q34 := (ne_in (List.mem_append_left _ lk11q2) nq34)
  have ne_q3_q34 : q3 ≠ q34 := (ne_in (List.mem_append_left _ lk11q3) nq34)
  have ne_q4_q34 : q4 ≠ q34 := (ne_in (List.mem_append_left _ lk11q4) nq34)
  have ne_q5_q34 : q5 ≠ q34 := (ne_in (List.mem_append_left _ lk11q5) nq34)
  have ne_q6_q34 : q6 ≠ q34 := (ne_in (List.mem_append_left _ lk11q6) nq34)
  have ne_q7_q34 : q7 ≠ q34 := (ne_in (List.mem_append_left _ lk11q7) nq34)
  have ne_q13_q34 : q13 ≠ q34 := (ne_in (List.mem_append_left _ lk11q13) nq34)
  have ne_q15_q34 : q15 ≠ q34 := (ne_in (List.mem_append_left _ lk11q15) nq34)
  have ne_q21_q34 : q21 ≠ q34 := (ne_in (List.mem_append_left _ lk11q21) nq34)
  refine q_putF (k := 51) C ck_13 dX12_init_313 w6_110 (by decide) rfl rfl rfl (List.mem_append_left _ (List.mem_append_left _ lk11h0)) ((va_up_ne _ _ ne_h0_q34).trans (va_up_self _ _ _)) rfl rfl ?_
  refine q_aload_n (j := 0) C dX12_init_316 rfl ?_
  refine q_sipush (v := 4000) C dX12_init_317 (by decide) ?_
  refine q_newaI (N := 4000) C dX12_init_320 w1_57 (by decide) (by decide) (by decide) ⟨Nat.le_of_ble_eq_true rfl, Nat.le_of_ble_eq_true rfl⟩ (fun q35 nq35 => ?_)
  have ne_h0_q35 : h0 ≠ q35 := (ne_in (List.mem_append_left _ (List.mem_append_left _ lk11h0)) nq35)
  have ne_q1_q35 : q1 ≠ q35 := (ne_in (List.mem_append_left _ (List.mem_append_left _ lk11q1)) nq35)
  have ne_q2_q35 : q2 ≠ q35 := (ne_in (List.mem_append_left _ (List.mem_append_left _ lk11q2)) nq35)
  have ne_q3_q35 : q3 ≠ q35 := (ne_in (List.mem_append_left _ (List.mem_append_left _ lk11q3)) nq35)
  have ne_q4_q35 : q4 ≠ q35 := (ne_in (List.mem_append_left _ (List.mem_append_left _ lk11q4)) nq35)
  have ne_q5_q35 : q5 ≠ q35 := (ne_in (List.mem_append_left _ (List.mem_append_left _ lk11q5)) nq35)
  have ne_q6_q35 : q6 ≠ q35 := (ne_in (List.mem_append_left _ (List.mem_append_left _ lk11q6)) nq35)
  have ne_q7_q35 : q7 ≠ q35 := (ne_in (List.mem_append_left _ (List.mem_append_left _ lk11q7)) nq35)
  have ne_q13_q35 : q13 ≠ q35 := (ne_in (List.mem_append_left _ (List.mem_append_left _ lk11q13)) nq35)
  have ne_q15_q35 : q15 ≠ q35 := (ne_in (List.mem_append_left _ (List.mem_append_left _ lk11q15)) nq35)
  have ne_q21_q35 : q21 ≠ q35 := (ne_in (List.mem_append_left _ (List.mem_append_left _ lk11q21)) nq35)
  refine q_putF (k := 54) C ck_13 dX12_init_322 w6_113 (by decide) rfl rfl rfl (List.mem_append_left _ (List.mem_append_left _ (List.mem_append_left _ lk11h0))) ((va_up_ne _ _ ne_h0_q35).trans (va_up_self _ _ _)) rfl rfl ?_
  refine q_cut (fun Lk12 Ek12 hLk12 hEk12 => ?_)
  have ek12h0 := (congrFun hEk12 h0).trans (va_up_self _ _ _)
  have lk12h0 : h0 ∈ Lk12 := hLk12 ▸ (List.mem_append_left _ (List.mem_append_left _ (List.mem_append_left _ lk11h0)))
  have ek12q1 := (congrFun hEk12 q1).trans ((va_up_ne _ _ (Ne.symm ne_h0_q1)).trans ((va_up_ne _ _ ne_q1_q35).trans ((va_up_ne _ _ (Ne.symm ne_h0_q1)).trans ((va_up_ne _ _ ne_q1_q34).trans ((va_up_ne _ _ (Ne.symm ne_h0_q1)).trans ((va_up_ne _ _ ne_q1_q33).trans ek11q1))))))
  have lk12q1 : q1 ∈ Lk12 := hLk12 ▸ (List.mem_append_left _ (List.mem_append_left _ (List.mem_append_left _ lk11q1)))
  have ek12q2 := (congrFun hEk12 q2).trans ((va_up_ne _ _ (Ne.symm ne_h0_q2)).trans ((va_up_ne _ _ ne_q2_q35).trans ((va_up_ne _ _ (Ne.symm ne_h0_q2)).trans ((va_up_ne _ _ ne_q2_q34).trans ((va_up_ne _ _ (Ne.symm ne_h0_q2)).trans ((va_up_ne _ _ ne_q2_q33).trans ek11q2))))))
  have lk12q2 : q2 ∈ Lk12 := hLk12 ▸ (List.mem_append_left _ (List.mem_append_left _ (List.mem_append_left _ lk11q2)))
  have ek12q3 := (congrFun hEk12 q3).trans ((va_up_ne _ _ (Ne.symm ne_h0_q3)).trans ((va_up_ne _ _ ne_q3_q35).trans ((va_up_ne _ _ (Ne.symm ne_h0_q3)).trans ((va_up_ne _ _ ne_q3_q34).trans ((va_up_ne _ _ (Ne.symm ne_h0_q3)).trans ((va_up_ne _ _ ne_q3_q33).trans ek11q3))))))
  have lk12q3 : q3 ∈ Lk12 := hLk12 ▸ (List.mem_append_left _ (List.mem_append_left _ (List.mem_append_left _ lk11q3)))
  have ek12q4 := (congrFun hEk12 q4).trans ((va_up_ne _ _ (Ne.symm ne_h0_q4)).trans ((va_up_ne _ _ ne_q4_q35).trans ((va_up_ne _ _ (Ne.symm ne_h0_q4)).trans ((va_up_ne _ _ ne_q4_q34).trans ((va_up_ne _ _ (Ne.symm ne_h0_q4)).trans ((va_up_ne _ _ ne_q4_q33).trans ek11q4))))))
  have lk12q4 : q4 ∈ Lk12 := hLk12 ▸ (List.mem_append_left _ (List.mem_append_left _ (List.mem_append_left _ lk11q4)))
  have ek12q5 := (congrFun hEk12 q5).trans ((va_up_ne _ _ (Ne.symm ne_h0_q5)).trans ((va_up_ne _ _ ne_q5_q35).trans ((va_up_ne _ _ (Ne.symm ne_h0_q5)).trans ((va_up_ne _ _ ne_q5_q34).trans ((va_up_ne _ _ (Ne.symm ne_h0_q5)).trans ((va_up_ne _ _ ne_q5_q33).trans ek11q5))))))
  have lk12q5 : q5 ∈ Lk12 := hLk12 ▸ (List.mem_append_left _ (List.mem_append_left _ (List.mem_append_left _ lk11q5)))
  have ek12q6 := (congrFun hEk12 q6).trans ((va_up_ne _ _ (Ne.symm ne_h0_q6)).trans ((va_up_ne _ _ ne_q6_q35).trans ((va_up_ne _ _ (Ne.symm ne_h0_q6)).trans ((va_up_ne _ _ ne_q6_q34).trans ((va_up_ne _ _ (Ne.symm ne_h0_q6)).trans ((va_up_ne _ _ ne_q6_q33).trans ek11q6))))))
  have lk12q6 : q6 ∈ Lk12 := hLk12 ▸ (List.mem_append_left _ (List.mem_append_left _ (List.mem_append_left _ lk11q6)))
  have ek12q7 := (congrFun hEk12 q7).trans ((va_up_ne _ _ (Ne.symm ne_h0_q7)).trans ((va_up_ne _ _ ne_q7_q35).trans ((va_up_ne _ _ (Ne.symm ne_h0_q7)).trans ((va_up_ne _ _ ne_q7_q34).trans ((va_up_ne _ _ (Ne.symm ne_h0_q7)).trans ((va_up_ne _ _ ne_q7_q33).trans ek11q7))))))
  have lk12q7 : q7 ∈ Lk12 := hLk12 ▸ (List.mem_append_left _ (List.mem_append_left _ (List.mem_append_left _ lk11q7)))
  have ek12q13 := (congrFun hEk12 q13).trans ((va_up_ne _ _ (Ne.symm ne_h0_q13)).trans ((va_up_ne _ _ ne_q13_q35).trans ((va_up_ne _ _ (Ne.symm ne_h0_q13)).trans ((va_up_ne _ _ ne_q13_q34).trans ((va_up_ne _ _ (Ne.symm ne_h0_q13)).trans ((va_up_ne _ _ ne_q13_q33).trans ek11q13))))))
  have lk12q13 : q13 ∈ Lk12 := hLk12 ▸ (List.mem_append_left _ (List.mem_append_left _ (List.mem_append_left _ lk11q13)))
  have ek12q15 := (congrFun hEk12 q15).trans ((va_up_ne _ _ (Ne.symm ne_h0_q15)).trans ((va_up_ne _ _ ne_q15_q35).trans ((va_up_ne _ _ (Ne.symm ne_h0_q15)).trans ((va_up_ne _ _ ne_q15_q34).trans ((va_up_ne _ _ (Ne.symm ne_h0_q15)).trans ((va_up_ne _ _ ne_q15_q33).trans ek11q15))))))
  have lk12q15 : q15 ∈ Lk12 := hLk12 ▸ (List.mem_append_left _ (List.mem_append_left _ (List.mem_append_left _ lk11q15)))
  have ek12q21 := (congrFun hEk12 q21).trans ((va_up_ne _ _ (Ne.symm ne_h0_q21)).trans ((va_up_ne _ _ ne_q21_q35).trans ((va_up_ne _ _ (Ne.symm ne_h0_q21)).trans ((va_up_ne _ _ ne_q21_q34).trans ((va_up_ne _ _ (Ne.symm ne_h0_q21)).trans ((va_up_ne _ _ ne_q21_q33).trans ek11q21))))))
  have lk12q21 : q21 ∈ Lk12 := hLk12 ▸ (List.mem_append_left _ (List.mem_append_left _ (List.mem_append_left _ lk11q21)))
  clear hEk12 hLk12
  refine q_aload_n (j := 0) C dX12_init_325 rfl ?_
  refine q_sipush (v := 404) C dX12_init_326 (by decide) ?_
  refine q_newaZ (N := 404) C dX12_init_329 w1_129 (by decide) (by decide) (by decide) ⟨Nat.le_of_ble_eq_true rfl, Nat.le_of_ble_eq_true rfl⟩ (fun q36 nq36 => ?_)
  have ne_h0_q36 : h0 ≠ q36 := (ne_in lk12h0 nq36)
  have ne_q1_q36 : q1 ≠ q36 := (ne_in lk12q1 nq36)
  have ne_q2_q36 : q2 ≠ q36 := (ne_in lk12q2 nq36)
  have ne_q3_q36 : q3 ≠ q36 := (ne_in lk12q3 nq36)
  have ne_q4_q36 : q4 ≠ q36 := (ne_in lk12q4 nq36)
  have ne_q5_q36 : q5 ≠ q36 := (ne_in lk12q5 nq36)
  have ne_q6_q36 : q6 ≠ q36 := (ne_in lk12q6 nq36)
  have ne_q7_q36 : q7 ≠ q36 := (ne_in lk12q7 nq36)
  have ne_q13_q36 : q13 ≠ q36 := (ne_in lk12q13 nq36)
  have ne_q15_q36 : q15 ≠ q36 := (ne_in lk12q15 nq36)
  have ne_q21_q36 : q21 ≠ q36 := (ne_in lk12q21 nq36)
  refine q_putF (k := 57) C ck_13 dX12_init_331 w6_116 (by decide) rfl rfl rfl (List.mem_append_left _ lk12h0) ((va_up_ne _ _ ne_h0_q36).trans ek12h0) rfl rfl ?_
  refine q_aload_n (j := 0) C dX12_init_334 rfl ?_
  refine q_ldc (v := 40400) C dX12_init_335 w6_58 ?_
  refine q_newaI (N := 40400) C dX12_init_337 w1_57 (by decide) (by decide) (by decide) ⟨Nat.le_of_ble_eq_true rfl, Nat.le_of_ble_eq_true rfl⟩ (fun q37 nq37 => ?_)
  have ne_h0_q37 : h0 ≠ q37 := (ne_in (List.mem_append_left _ lk12h0) nq37)
  have ne_q1_q37 : q1 ≠ q37 := (ne_in (List.mem_append_left _ lk12q1) nq37)
  have ne_q2_q37 : q2 ≠ q37 := (ne_in (List.mem_append_left _ lk12q2) nq37)
  have ne_q3_q37 : q3 ≠ q37 := (ne_in (List.mem_append_left _ lk12q3) nq37)
  have ne_q4_q37 : q4 ≠ q37 := (ne_in (List.mem_append_left _ lk12q4) nq37)
  have ne_q5_q37 : q5 ≠ q37 := (ne_in (List.mem_append_left _ lk12q5) nq37)
  have ne_q6_q37 : q6 ≠ q37 := (ne_in (List.mem_append_left _ lk12q6) nq37)
  have ne_q7_q37 : q7 ≠ q37 := (ne_in (List.mem_append_left _ lk12q7) nq37)
  have ne_q13_q37 : q13 ≠ q37 := (ne_in (List.mem_append_left _ lk12q13) nq37)
  have ne_q15_q37 : q15 ≠ q37 := (ne_in (List.mem_append_left _ lk12q15) nq37)
  have ne_q21_q37 : q21 ≠ q37 := (ne_in (List.mem_append_left _ lk12q21) nq37)
  refine q_putF (k := 58) C ck_13 dX12_init_339 w6_117 (by decide) rfl rfl rfl (List.mem_append_left _ (List.mem_append_left _ lk12h0)) ((va_up_ne _ _ ne_h0_q37).trans (va_up_self _ _ _)) rfl rfl ?_
  refine q_aload_n (j := 0) C dX12_init_342 rfl ?_
  refine q_bipush (v := 50) C dX12_init_343 (by decide) ?_
  refine q_newaI (N := 50) C dX12_init_345 w1_57 (by decide) (by decide) (by decide) ⟨Nat.le_of_ble_eq_true rfl, Nat.le_of_ble_eq_true rfl⟩ (fun q38 nq38 => ?_)
  have ne_h0_q38 : h0 ≠ q38 := (ne_in (List.mem_append_left _ (List.mem_append_left _ lk12h0)) nq38)
  have ne_q1_q38 : q1 ≠ q38 := (ne_in (List.mem_append_left _ (List.mem_append_left _ lk12q1)) nq38)
  have ne_q2_q38 : q2 ≠ q38 := (ne_in (List.mem_append_left _ (List.mem_append_left _ lk12q2)) nq38)
  have ne_q3_q38 : q3 ≠ q38 := (ne_in (List.mem_append_left _ (List.mem_append_left _ lk12q3)) nq38)
  have ne_q4_q38 : q4 ≠ q38 := (ne_in (List.mem_append_left _ (List.mem_append_left _ lk12q4)) nq38)
  have ne_q5_q38 : q5 ≠ q38 := (ne_in (List.mem_append_left _ (List.mem_append_left _ lk12q5)) nq38)
  have ne_q6_q38 : q6 ≠ q38 := (ne_in (List.mem_append_left _ (List.mem_append_left _ lk12q6)) nq38)
  have ne_q7_q38 : q7 ≠ q38 := (ne_in (List.mem_append_left _ (List.mem_append_left _ lk12q7)) nq38)
  have ne_q13_q38 : q13 ≠ q38 := (ne_in (List.mem_append_left _ (List.mem_append_left _ lk12q13)) nq38)
  have ne_q15_q38 : q15 ≠ q38 := (ne_in (List.mem_append_left _ (List.mem_append_left _ lk12q15)) nq38)
  have ne_q21_q38 : q21 ≠ q38 := (ne_in (List.mem_append_left _ (List.mem_append_left _ lk12q21)) nq38)
  refine q_putF (k := 59) C ck_13 dX12_init_347 w6_118 (by decide) rfl rfl rfl (List.mem_append_left _ (List.mem_append_left _ (List.mem_append_left _ lk12h0))) ((va_up_ne _ _ ne_h0_q38).trans (va_up_self _ _ _)) rfl rfl ?_
  refine q_cut (fun Lk13 Ek13 hLk13 hEk13 => ?_)
  have ek13h0 := (congrFun hEk13 h0).trans (va_up_self _ _ _)
  have lk13h0 : h0 ∈ Lk13 := hLk13 ▸ (List.mem_append_left _ (List.mem_append_left _ (List.mem_append_left _ lk12h0)))
  have ek13q1 := (congrFun hEk13 q1).trans ((va_up_ne _ _ (Ne.symm ne_h0_q1)).trans ((va_up_ne _ _ ne_q1_q38).trans ((va_up_ne _ _ (Ne.symm ne_h0_q1)).trans ((va_up_ne _ _ ne_q1_q37).trans ((va_up_ne _ _ (Ne.symm ne_h0_q1)).trans ((va_up_ne _ _ ne_q1_q36).trans ek12q1))))))
  have lk13q1 : q1 ∈ Lk13 := hLk13 ▸ (List.mem_append_left _ (List.mem_append_left _ (List.mem_append_left _ lk12q1)))
  have ek13q2 := (congrFun hEk13 q2).trans ((va_up_ne _ _ (Ne.symm ne_h0_q2)).trans ((va_up_ne _ _ ne_q2_q38).trans ((va_up_ne _ _ (Ne.symm ne_h0_q2)).trans ((va_up_ne _ _ ne_q2_q37).trans ((va_up_ne _ _ (Ne.symm ne_h0_q2)).trans ((va_up_ne _ _ ne_q2_q36).trans ek12q2))))))
  have lk13q2 : q2 ∈ Lk13 := hLk13 ▸ (List.mem_append_left _ (List.mem_append_left _ (List.mem_append_left _ lk12q2)))
  have ek13q3 := (congrFun hEk13 q3).trans ((va_up_ne _ _ (Ne.symm ne_h0_q3)).trans ((va_up_ne _ _ ne_q3_q38).trans ((va_up_ne _ _ (Ne.symm ne_h0_q3)).trans ((va_up_ne _ _ ne_q3_q37).trans ((va_up_ne _ _ (Ne.symm ne_h0_q3)).trans ((va_up_ne _ _ ne_q3_q36).trans ek12q3))))))
  have lk13q3 : q3 ∈ Lk13 := hLk13 ▸ (List.mem_append_left _ (List.mem_append_left _ (List.mem_append_left _ lk12q3)))
  have ek13q4 := (congrFun hEk13 q4).trans ((va_up_ne _ _ (Ne.symm ne_h0_q4)).trans ((va_up_ne _ _ ne_q4_q38).trans ((va_up_ne _ _ (Ne.symm ne_h0_q4)).trans ((va_up_ne _ _ ne_q4_q37).trans ((va_up_ne _ _ (Ne.symm ne_h0_q4)).trans ((va_up_ne _ _ ne_q4_q36).trans ek12q4))))))
  have lk13q4 : q4 ∈ Lk13 := hLk13 ▸ (List.mem_append_left _ (List.mem_append_left _ (List.mem_append_left _ lk12q4)))
  have ek13q5 := (congrFun hEk13 q5).trans ((va_up_ne _ _ (Ne.symm ne_h0_q5)).trans ((va_up_ne _ _ ne_q5_q38).trans ((va_up_ne _ _ (Ne.symm ne_h0_q5)).trans ((va_up_ne _ _ ne_q5_q37).trans ((va_up_ne _ _ (Ne.symm ne_h0_q5)).trans ((va_up_ne _ _ ne_q5_q36).trans ek12q5))))))
  have lk13q5 : q5 ∈ Lk13 := hLk13 ▸ (List.mem_append_left _ (List.mem_append_left _ (List.mem_append_left _ lk12q5)))
  have ek13q6 := (congrFun hEk13 q6).trans ((va_up_ne _ _ (Ne.symm ne_h0_q6)).trans ((va_up_ne _ _ ne_q6_q38).trans ((va_up_ne _ _ (Ne.symm ne_h0_q6)).trans ((va_up_ne _ _ ne_q6_q37).trans ((va_up_ne _ _ (Ne.symm ne_h0_q6)).trans ((va_up_ne _ _ ne_q6_q36).trans ek12q6))))))
  have lk13q6 : q6 ∈ Lk13 := hLk13 ▸ (List.mem_append_left _ (List.mem_append_left _ (List.mem_append_left _ lk12q6)))
  have ek13q7 := (congrFun hEk13 q7).trans ((va_up_ne _ _ (Ne.symm ne_h0_q7)).trans ((va_up_ne _ _ ne_q7_q38).trans ((va_up_ne _ _ (Ne.symm ne_h0_q7)).trans ((va_up_ne _ _ ne_q7_q37).trans ((va_up_ne _ _ (Ne.symm ne_h0_q7)).trans ((va_up_ne _ _ ne_q7_q36).trans ek12q7))))))
  have lk13q7 : q7 ∈ Lk13 := hLk13 ▸ (List.mem_append_left _ (List.mem_append_left _ (List.mem_append_left _ lk12q7)))
  have ek13q13 := (congrFun hEk13 q13).trans ((va_up_ne _ _ (Ne.symm ne_h0_q13)).trans ((va_up_ne _ _ ne_q13_q38).trans ((va_up_ne _ _ (Ne.symm ne_h0_q13)).trans ((va_up_ne _ _ ne_q13_q37).trans ((va_up_ne _ _ (Ne.symm ne_h0_q13)).trans ((va_up_ne _ _ ne_q13_q36).trans ek12q13))))))
  have lk13q13 : q13 ∈ Lk13 := hLk13 ▸ (List.mem_append_left _ (List.mem_append_left _ (List.mem_append_left _ lk12q13)))
  have ek13q15 := (congrFun hEk13 q15).trans ((va_up_ne _ _ (Ne.symm ne_h0_q15)).trans ((va_up_ne _ _ ne_q15_q38).trans ((va_up_ne _ _ (Ne.symm ne_h0_q15)).trans ((va_up_ne _ _ ne_q15_q37).trans ((va_up_ne _ _ (Ne.symm ne_h0_q15)).trans ((va_up_ne _ _ ne_q15_q36).trans ek12q15))))))
  have lk13q15 : q15 ∈ Lk13 := hLk13 ▸ (List.mem_append_left _ (List.mem_append_left _ (List.mem_append_left _ lk12q15)))
  have ek13q21 := (congrFun hEk13 q21).trans ((va_up_ne _ _ (Ne.symm ne_h0_q21)).trans ((va_up_ne _ _ ne_q21_q38).trans ((va_up_ne _ _ (Ne.symm ne_h0_q21)).trans ((va_up_ne _ _ ne_q21_q37).trans ((va_up_ne _ _ (Ne.symm ne_h0_q21)).trans ((va_up_ne _ _ ne_q21_q36).trans ek12q21))))))
  have lk13q21 : q21 ∈ Lk13 := hLk13 ▸ (List.mem_append_left _ (List.mem_append_left _ (List.mem_append_left _ lk12q21)))
  clear hEk13 hLk13
  refine q_aload_n (j := 0) C dX12_init_350 rfl ?_
  refine q_sipush (v := 1000) C dX12_init_351 (by decide) ?_
  refine q_newaI (N := 1000) C dX12_init_354 w1_57 (by decide) (by decide) (by decide) ⟨Nat.le_of_ble_eq_true rfl, Nat.le_of_ble_eq_true rfl⟩ (fun q39 nq39 => ?_)
  have ne_h0_q39 : h0 ≠ q39 := (ne_in lk13h0 nq39)
  have ne_q1_q39 : q1 ≠ q39 := (ne_in lk13q1 nq39)
  have ne_q2_q39 : q2 ≠ q39 := (ne_in lk13q2 nq39)
  have ne_q3_q39 : q3 ≠ q39 := (ne_in lk13q3 nq39)
  have ne_q4_q39 : q4 ≠ q39 := (ne_in lk13q4 nq39)
  have ne_q5_q39 : q5 ≠ q39 := (ne_in lk13q5 nq39)
  have ne_q6_q39 : q6 ≠ q39 := (ne_in lk13q6 nq39)
  have ne_q7_q39 : q7 ≠ q39 := (ne_in lk13q7 nq39)
  have ne_q13_q39 : q13 ≠ q39 := (ne_in lk13q13 nq39)
  have ne_q15_q39 : q15 ≠ q39 := (ne_in lk13q15 nq39)
  have ne_q21_q39 : q21 ≠ q39 := (ne_in lk13q21 nq39)
  refine q_putF (k := 62) C ck_13 dX12_init_356 w6_121 (by decide) rfl rfl rfl (List.mem_append_left _ lk13h0) ((va_up_ne _ _ ne_h0_q39).trans ek13h0) rfl rfl ?_
  refine q_aload_n (j := 0) C dX12_init_359 rfl ?_
  refine q_sipush (v := 256) C dX12_init_360 (by decide) ?_
  refine q_newaI (N := 256) C dX12_init_363 w1_57 (by decide) (by decide) (by decide) ⟨Nat.le_of_ble_eq_true rfl, Nat.le_of_ble_eq_true rfl⟩ (fun q40 nq40 => ?_)
  have ne_h0_q40 : h0 ≠ q40 := (ne_in (List.mem_append_left _ lk13h0) nq40)
  have ne_q1_q40 : q1 ≠ q40 := (ne_in (List.mem_append_left _ lk13q1) nq40)
  have ne_q2_q40 : q2 ≠ q40 := (ne_in (List.mem_append_left _ lk13q2) nq40)
  have ne_q3_q40 : q3 ≠ q40 := (ne_in (List.mem_append_left _ lk13q3) nq40)
  have ne_q4_q40 : q4 ≠ q40 := (ne_in (List.mem_append_left _ lk13q4) nq40)
  have ne_q5_q40 : q5 ≠ q40 := (ne_in (List.mem_append_left _ lk13q5) nq40)
  have ne_q6_q40 : q6 ≠ q40 := (ne_in (List.mem_append_left _ lk13q6) nq40)
  have ne_q7_q40 : q7 ≠ q40 := (ne_in (List.mem_append_left _ lk13q7) nq40)
  have ne_q13_q40 : q13 ≠ q40 := (ne_in (List.mem_append_left _ lk13q13) nq40)
  have ne_q15_q40 : q15 ≠ q40 := (ne_in (List.mem_append_left _ lk13q15) nq40)
  have ne_q21_q40 : q21 ≠ q40 := (ne_in (List.mem_append_left _ lk13q21) nq40)
  refine q_putF (k := 65) C ck_13 dX12_init_365 w6_124 (by decide) rfl rfl rfl (List.mem_append_left _ (List.mem_append_left _ lk13h0)) ((va_up_ne _ _ ne_h0_q40).trans (va_up_self _ _ _)) rfl rfl ?_
  exact q_vret C dX12_init_368 rfl (Nat.le_of_ble_eq_true rfl) (Nat.le_of_ble_eq_true rfl) ⟨rfl, q1, q2, q3, q4, q5, q6, q7, q13, q15, q21, _, (List.mem_append_left _ (List.mem_append_left _ lk13h0)), (va_up_self _ _ _), hf0, rfl, hf3, hf4, hf19, hf23, hf30, rfl, rfl, rfl, hf36, hf41, hf42, hf43, hf50, hf52, hf56, hf60, hf61, rfl, (List.mem_append_left _ (List.mem_append_left _ lk13q1)), ((va_up_ne _ _ (Ne.symm ne_h0_q1)).trans ((va_up_ne _ _ ne_q1_q40).trans ((va_up_ne _ _ (Ne.symm ne_h0_q1)).trans ((va_up_ne _ _ ne_q1_q39).trans ek13q1)))), rfl, (List.mem_append_left _ (List.mem_append_left _ lk13q2)), ((va_up_ne _ _ (Ne.symm ne_h0_q2)).trans ((va_up_ne _ _ ne_q2_q40).trans ((va_up_ne _ _ (Ne.symm ne_h0_q2)).trans ((va_up_ne _ _ ne_q2_q39).trans ek13q2)))), rfl, (List.mem_append_left _ (List.mem_append_left _ lk13q3)), ((va_up_ne _ _ (Ne.symm ne_h0_q3)).trans ((va_up_ne _ _ ne_q3_q40).trans ((va_up_ne _ _ (Ne.symm ne_h0_q3)).trans ((va_up_ne _ _ ne_q3_q39).trans ek13q3)))), rfl, (List.mem_append_left _ (List.mem_append_left _ lk13q4)), ((va_up_ne _ _ (Ne.symm ne_h0_q4)).trans ((va_up_ne _ _ ne_q4_q40).trans ((va_up_ne _ _ (Ne.symm ne_h0_q4)).trans ((va_up_ne _ _ ne_q4_q39).trans ek13q4)))), rfl, (List.mem_append_left _ (List.mem_append_left _ lk13q5)), ((va_up_ne _ _ (Ne.symm ne_h0_q5)).trans ((va_up_ne _ _ ne_q5_q40).trans ((va_up_ne _ _ (Ne.symm ne_h0_q5)).trans ((va_up_ne _ _ ne_q5_q39).trans ek13q5)))), rfl, (List.mem_append_left _ (List.mem_append_left _ lk13q6)), ((va_up_ne _ _ (Ne.symm ne_h0_q6)).trans ((va_up_ne _ _ ne_q6_q40).trans ((va_up_ne _ _ (Ne.symm ne_h0_q6)).trans ((va_up_ne _ _ ne_q6_q39).trans ek13q6)))), rfl, (List.mem_append_left _ (List.mem_append_left _ lk13q7)), ((va_up_ne _ _ (Ne.symm ne_h0_q7)).trans ((va_up_ne _ _ ne_q7_q40).trans ((va_up_ne _ _ (Ne.symm ne_h0_q7)).trans ((va_up_ne _ _ ne_q7_q39).trans ek13q7)))), rfl, (List.mem_append_left _ (List.mem_append_left _ lk13q13)), ((va_up_ne _ _ (Ne.symm ne_h0_q13)).trans ((va_up_ne _ _ ne_q13_q40).trans ((va_up_ne _ _ (Ne.symm ne_h0_q13)).trans ((va_up_ne _ _ ne_q13_q39).trans ek13q13)))), rfl, (List.mem_append_left _ (List.mem_append_left _ lk13q15)), ((va_up_ne _ _ (Ne.symm ne_h0_q15)).trans ((va_up_ne _ _ ne_q15_q40).trans ((va_up_ne _ _ (Ne.symm ne_h0_q15)).trans ((va_up_ne _ _ ne_q15_q39).trans ek13q15)))), rfl, (List.mem_append_left _ (List.mem_append_left _ lk13q21)), ((va_up_ne _ _ (Ne.symm ne_h0_q21)).trans ((va_up_ne _ _ ne_q21_q40).trans ((va_up_ne _ _ (Ne.symm ne_h0_q21)).trans ((va_up_ne _ _ ne_q21_q39).trans ek13q21)))), ne_h0_q1, ne_h0_q2, ne_h0_q3, ne_h0_q4, ne_h0_q5, ne_h0_q6, ne_h0_q7, ne_h0_q13, ne_h0_q15, ne_h0_q21⟩
end
section
set_option maxHeartbeats 4000000 in
set_option maxRecDepth 100000 in
theorem c_al_size {l : Launch} {G : GT} {L : List Nat} {E : Nat → va_E} {a : Nat} {f : Nat → Value} {n : Int32} (hL : a ∈ L) (hE : E a = ob 0 3 f) (h2 : f 2 = .int n) : Mq l G yJx4a65c_size_8abf5 cJx4a65c_size_8abf5 1 (some .int) 0 [.ref a] L E 0 0 (fun v L2 E2 => v = some (.int n) ∧ L2 = L ∧ E2 = E) := by
  refine Mq.mk (by decide) (Nat.le_of_ble_eq_true rfl) ?_
  intro p e s m args below meth c A C
  refine q_aload_n (j := 0) C dJx4a65c_size_8abf5_0 rfl ?_
  refine q_get (k := 2) (v := .int n) C ck_0 dJx4a65c_size_8abf5_1 w1_79 (by decide) hL hE h2 ?_
  exact q_iret C dJx4a65c_size_8abf5_4 rfl (Nat.le_of_ble_eq_true rfl) (Nat.le_of_ble_eq_true rfl) ⟨rfl, rfl, rfl⟩
set_option maxHeartbeats 4000000 in
set_option maxRecDepth 100000 in
theorem c_al_empty {l : Launch} {G : GT} {L : List Nat} {E : Nat → va_E} {a : Nat} {f : Nat → Value} (hL : a ∈ L) (hE : E a = ob 0 3 f) (h2 : f 2 = .int 0) : Mq l G yJx4a65c_isEmpty_aae02 cJx4a65c_isEmpty_aae02 1 (some .boolean) 0 [.ref a] L E 0 0 (fun v L2 E2 => v = some (.int 1) ∧ L2 = L ∧ E2 = E) := by
  refine Mq.mk (by decide) (Nat.le_of_ble_eq_true rfl) ?_
  intro p e s m args below meth c A C
  refine q_aload_n (j := 0) C dJx4a65c_isEmpty_aae02_0 rfl ?_
  refine q_get (k := 2) (v := .int 0) C ck_0 dJx4a65c_isEmpty_aae02_1 w1_79 (by decide) hL hE h2 ?_
  refine q_if_ne (tgt := 11) C dJx4a65c_isEmpty_aae02_4 (by decide) (fun z => absurd (by decide) z) (fun _ => ?_)
  refine q_iconst (v := 1) C dJx4a65c_isEmpty_aae02_7 (by decide) ?_
  refine q_goto (tgt := 12) C dJx4a65c_isEmpty_aae02_8 (by decide) ?_
  exact q_zret C dJx4a65c_isEmpty_aae02_12 rfl (by decide) (Nat.le_of_ble_eq_true rfl) (Nat.le_of_ble_eq_true rfl) ⟨rfl, rfl, rfl⟩
set_option maxHeartbeats 4000000 in
set_option maxRecDepth 100000 in
theorem c_alive0 {l : Launch} {G : GT} {L : List Nat} {E : Nat → va_E} (t : Int32) {a md ch : Nat} {f g gc : Nat → Value} (hL : a ∈ L) (hE : E a = ob 11 2 f) (h0 : f 0 = .ref md) (h1 : f 1 = .ref ch) (hLm : md ∈ L) (hEm : E md = ob 0 3 g) (hm2 : g 2 = .int 0) (hLc : ch ∈ L) (hEc : E ch = ob 0 3 gc) (hc2 : gc 2 = .int 0) : Mq l G yX10_alive cX10_alive 3 (some (.object "DotPress$Table")) 1 [.ref a, .int t] L E 0 0 (fun v L2 E2 => v = some (.null) ∧ L2 = L ∧ E2 = E) := by
  refine Mq.mk (by decide) (Nat.le_of_ble_eq_true rfl) ?_
  intro p e s m args below meth c A C
  refine q_iload_n (j := 1) C dX10_alive_0 rfl ?_
  refine q_if_lt (tgt := 15) C dX10_alive_1 (by decide) (fun c1 => ?_) (fun c1 => ?_)
  · refine q_null C dX10_alive_15 ?_
    exact q_aret C dX10_alive_16 rfl (Or.inl ⟨_, rfl⟩) (Or.inl rfl) (Nat.le_of_ble_eq_true rfl) (Nat.le_of_ble_eq_true rfl) ⟨rfl, rfl, rfl⟩
  · refine q_iload_n (j := 1) C dX10_alive_4 rfl ?_
    refine q_aload_n (j := 0) C dX10_alive_5 rfl ?_
    refine q_get (k := 0) (v := .ref md) C ck_11 dX10_alive_6 w1_90 (by decide) hL hE h0 ?_
    refine q_callV (As := []) (rest := [.int t]) C (c_al_size hLm hEm hm2) dX10_alive_9 kV_X10_21 rfl hLm hEm ck_0 rfl (Nat.le_of_ble_eq_true rfl) ⟨Nat.le_of_ble_eq_true rfl, Nat.le_of_ble_eq_true rfl⟩ ⟨Nat.le_of_ble_eq_true rfl, Nat.le_of_ble_eq_true rfl⟩ (fun vh1 Lh1 Eh1 h1 => ?_)
    obtain ⟨rfl, rfl, rfl⟩ := h1
    refine q_st (st2 := [.int 0, .int t]) rfl ?_
    refine q_icmp_lt (tgt := 17) C dX10_alive_12 (by decide) (fun z => absurd z (by have hz := c1; simp only [i32_lt, i32_le, i32_eq, inn_f, Decidable.not_not, tn_m1, tn_0, tn_1, tn_2, tn_3, tn_4, tn_5, tn_6, tn_7, tn_8, tn_10, tn_30, tn_31, tn_32, tn_36, tn_40, tn_50, tn_100, tn_126, tn_200, tn_255, tn_500, tn_512, tn_3000, tn_5000] at hz ⊢; omega)) (fun _ => ?_)
    refine q_null C dX10_alive_15 ?_
    exact q_aret C dX10_alive_16 rfl (Or.inl ⟨_, rfl⟩) (Or.inl rfl) (Nat.le_of_ble_eq_true rfl) (Nat.le_of_ble_eq_true rfl) ⟨rfl, rfl, rfl⟩
set_option maxHeartbeats 4000000 in
set_option maxRecDepth 100000 in
theorem c_whole0 {l : Launch} {G : GT} {L : List Nat} {E : Nat → va_E} (t : Int32) {a md ch : Nat} {f g gc : Nat → Value} (hL : a ∈ L) (hE : E a = ob 11 2 f) (h0 : f 0 = .ref md) (h1 : f 1 = .ref ch) (hLm : md ∈ L) (hEm : E md = ob 0 3 g) (hm2 : g 2 = .int 0) (hLc : ch ∈ L) (hEc : E ch = ob 0 3 gc) (hc2 : gc 2 = .int 0) : Mq l G yX10_whole cX10_whole 3 (some (.object "DotPress$Table")) 2 [.ref a, .int t] L E 0 0 (fun v L2 E2 => v = some (.null) ∧ L2 = L ∧ E2 = E) := by
  refine Mq.mk (by decide) (Nat.le_of_ble_eq_true rfl) ?_
  intro p e s m args below meth c A C
  refine q_aload_n (j := 0) C dX10_whole_0 rfl ?_
  refine q_iload_n (j := 1) C dX10_whole_1 rfl ?_
  refine q_callV (As := [.int t]) (rest := []) C (c_alive0 t hL hE h0 h1 hLm hEm hm2 hLc hEc hc2) dX10_whole_2 kV_X10_35 rfl hL hE ck_11 rfl (Nat.le_of_ble_eq_true rfl) ⟨Nat.le_of_ble_eq_true rfl, Nat.le_of_ble_eq_true rfl⟩ ⟨Nat.le_of_ble_eq_true rfl, Nat.le_of_ble_eq_true rfl⟩ (fun vh1 Lh1 Eh1 h1 => ?_)
  obtain ⟨rfl, rfl, rfl⟩ := h1
  refine q_st (st2 := [.null]) rfl ?_
  refine q_astore_nN (lv2 := [(2, .null), (0, .ref a), (1, .int t)]) C dX10_whole_5 (by decide) rfl ?_
  refine q_aload_nN (j := 0) C dX10_whole_6 rfl ?_
  refine q_ifnullN (tgt := 21) C dX10_whole_7 (by decide) ?_
  refine q_null C dX10_whole_21 ?_
  exact q_aret C dX10_whole_22 rfl (Or.inl ⟨_, rfl⟩) (Or.inl rfl) (Nat.le_of_ble_eq_true rfl) (Nat.le_of_ble_eq_true rfl) ⟨rfl, rfl, rfl⟩
set_option maxHeartbeats 4000000 in
set_option maxRecDepth 100000 in
theorem c_full0 {l : Launch} {G : GT} {L : List Nat} {E : Nat → va_E} {a md ch : Nat} {f g gc : Nat → Value} (hL : a ∈ L) (hE : E a = ob 11 2 f) (h0 : f 0 = .ref md) (h1 : f 1 = .ref ch) (hLm : md ∈ L) (hEm : E md = ob 0 3 g) (hm2 : g 2 = .int 0) (hLc : ch ∈ L) (hEc : E ch = ob 0 3 gc) (hc2 : gc 2 = .int 0) : Mq l G yX10_isFull cX10_isFull 1 (some .boolean) 1 [.ref a] L E 0 0 (fun v L2 E2 => v = some (.int 0) ∧ L2 = L ∧ E2 = E) := by
  refine Mq.mk (by decide) (Nat.le_of_ble_eq_true rfl) ?_
  intro p e s m args below meth c A C
  refine q_aload_n (j := 0) C dX10_isFull_0 rfl ?_
  refine q_get (k := 0) (v := .ref md) C ck_11 dX10_isFull_1 w1_90 (by decide) hL hE h0 ?_
  refine q_callV (As := []) (rest := []) C (c_al_size hLm hEm hm2) dX10_isFull_4 kV_X10_21 rfl hLm hEm ck_0 rfl (Nat.le_of_ble_eq_true rfl) ⟨Nat.le_of_ble_eq_true rfl, Nat.le_of_ble_eq_true rfl⟩ ⟨Nat.le_of_ble_eq_true rfl, Nat.le_of_ble_eq_true rfl⟩ (fun vh1 Lh1 Eh1 h1 => ?_)
  obtain ⟨rfl, rfl, rfl⟩ := h1
  refine q_st (st2 := [.int 0]) rfl ?_
  refine q_bipush (v := 30) C dX10_isFull_7 (by decide) ?_
  refine q_icmp_lt (tgt := 16) C dX10_isFull_9 (by decide) (fun _ => ?_) (fun z => absurd (by decide) z)
  refine q_iconst (v := 0) C dX10_isFull_16 (by decide) ?_
  exact q_zret C dX10_isFull_17 rfl (by decide) (Nat.le_of_ble_eq_true rfl) (Nat.le_of_ble_eq_true rfl) ⟨rfl, rfl, rfl⟩
set_option maxHeartbeats 4000000 in
set_option maxRecDepth 100000 in
theorem c_takeBack0 {l : Launch} {G : GT} {L : List Nat} {E : Nat → va_E} {a md ch : Nat} {f g gc : Nat → Value} (hL : a ∈ L) (hE : E a = ob 11 2 f) (h0 : f 0 = .ref md) (h1 : f 1 = .ref ch) (hLm : md ∈ L) (hEm : E md = ob 0 3 g) (hm2 : g 2 = .int 0) (hLc : ch ∈ L) (hEc : E ch = ob 0 3 gc) (hc2 : gc 2 = .int 0) : Mq l G yX10_takeBack cX10_takeBack 2 (some .boolean) 1 [.ref a] L E 0 0 (fun v L2 E2 => v = some (.int 0) ∧ L2 = L ∧ E2 = E) := by
  refine Mq.mk (by decide) (Nat.le_of_ble_eq_true rfl) ?_
  intro p e s m args below meth c A C
  refine q_aload_n (j := 0) C dX10_takeBack_0 rfl ?_
  refine q_get (k := 1) (v := .ref ch) C ck_11 dX10_takeBack_1 w1_91 (by decide) hL hE h1 ?_
  refine q_callV (As := []) (rest := []) C (c_al_empty hLc hEc hc2) dX10_takeBack_4 kV_X10_59 rfl hLc hEc ck_0 rfl (Nat.le_of_ble_eq_true rfl) ⟨Nat.le_of_ble_eq_true rfl, Nat.le_of_ble_eq_true rfl⟩ ⟨Nat.le_of_ble_eq_true rfl, Nat.le_of_ble_eq_true rfl⟩ (fun vh1 Lh1 Eh1 h1 => ?_)
  obtain ⟨rfl, rfl, rfl⟩ := h1
  refine q_st (st2 := [.int 1]) rfl ?_
  refine q_if_eq (tgt := 12) C dX10_takeBack_7 (by decide) (fun z => absurd z (by decide)) (fun _ => ?_)
  refine q_iconst (v := 0) C dX10_takeBack_10 (by decide) ?_
  exact q_zret C dX10_takeBack_11 rfl (by decide) (Nat.le_of_ble_eq_true rfl) (Nat.le_of_ble_eq_true rfl) ⟨rfl, rfl, rfl⟩
set_option maxHeartbeats 4000000 in
set_option maxRecDepth 100000 in
theorem c_sat0 {l : Launch} {G : GT} {L : List Nat} {E : Nat → va_E} (t : Int32) {a : Nat} {f : Nat → Value} (hL : a ∈ L) (hE : E a = ob 8 3 f) (h1 : f 1 = .int 0) : Mq l G yX7_at cX7_at 2 (some (.object "DotPress$Line")) 0 [.ref a, .int t] L E 0 0 (fun v L2 E2 => v = some (.null) ∧ L2 = L ∧ E2 = E) := by
  refine Mq.mk (by decide) (Nat.le_of_ble_eq_true rfl) ?_
  intro p e s m args below meth c A C
  refine q_iload_n (j := 1) C dX7_at_0 rfl ?_
  refine q_if_lt (tgt := 21) C dX7_at_1 (by decide) (fun c1 => ?_) (fun c1 => ?_)
  · refine q_null C dX7_at_21 ?_
    exact q_aret C dX7_at_22 rfl (Or.inl ⟨_, rfl⟩) (Or.inl rfl) (Nat.le_of_ble_eq_true rfl) (Nat.le_of_ble_eq_true rfl) ⟨rfl, rfl, rfl⟩
  · refine q_iload_n (j := 1) C dX7_at_4 rfl ?_
    refine q_aload_n (j := 0) C dX7_at_5 rfl ?_
    refine q_get (k := 1) (v := .int 0) C ck_8 dX7_at_6 w2_34 (by decide) hL hE h1 ?_
    refine q_icmp_ge (tgt := 21) C dX7_at_9 (by decide) (fun _ => ?_) (fun z => absurd (by have hz := c1; simp only [i32_lt, i32_le, i32_eq, inn_f, Decidable.not_not, tn_m1, tn_0, tn_1, tn_2, tn_3, tn_4, tn_5, tn_6, tn_7, tn_8, tn_10, tn_30, tn_31, tn_32, tn_36, tn_40, tn_50, tn_100, tn_126, tn_200, tn_255, tn_500, tn_512, tn_3000, tn_5000] at hz ⊢; omega) z)
    refine q_null C dX7_at_21 ?_
    exact q_aret C dX7_at_22 rfl (Or.inl ⟨_, rfl⟩) (Or.inl rfl) (Nat.le_of_ble_eq_true rfl) (Nat.le_of_ble_eq_true rfl) ⟨rfl, rfl, rfl⟩
set_option maxHeartbeats 4000000 in
set_option maxRecDepth 100000 in
theorem c_present0 {l : Launch} {G : GT} {L : List Nat} {E : Nat → va_E} (t : Int32) {a : Nat} {f : Nat → Value} (hL : a ∈ L) (hE : E a = ob 8 3 f) (h1 : f 1 = .int 0) : Mq l G yX7_present cX7_present 3 (some (.object "DotPress$Line")) 1 [.ref a, .int t] L E 0 0 (fun v L2 E2 => v = some (.null) ∧ L2 = L ∧ E2 = E) := by
  refine Mq.mk (by decide) (Nat.le_of_ble_eq_true rfl) ?_
  intro p e s m args below meth c A C
  refine q_aload_n (j := 0) C dX7_present_0 rfl ?_
  refine q_iload_n (j := 1) C dX7_present_1 rfl ?_
  refine q_callV (As := [.int t]) (rest := []) C (c_sat0 t hL hE h1) dX7_present_2 kV_X7_24 rfl hL hE ck_8 rfl (Nat.le_of_ble_eq_true rfl) ⟨Nat.le_of_ble_eq_true rfl, Nat.le_of_ble_eq_true rfl⟩ ⟨Nat.le_of_ble_eq_true rfl, Nat.le_of_ble_eq_true rfl⟩ (fun vh1 Lh1 Eh1 h1 => ?_)
  obtain ⟨rfl, rfl, rfl⟩ := h1
  refine q_st (st2 := [.null]) rfl ?_
  refine q_astore_nN (lv2 := [(2, .null), (0, .ref a), (1, .int t)]) C dX7_present_5 (by decide) rfl ?_
  refine q_aload_nN (j := 0) C dX7_present_6 rfl ?_
  refine q_ifnullN (tgt := 17) C dX7_present_7 (by decide) ?_
  refine q_null C dX7_present_17 ?_
  refine q_goto (tgt := 22) C dX7_present_18 (by decide) ?_
  exact q_aret C dX7_present_22 rfl (Or.inl ⟨_, rfl⟩) (Or.inl rfl) (Nat.le_of_ble_eq_true rfl) (Nat.le_of_ble_eq_true rfl) ⟨rfl, rfl, rfl⟩
set_option maxHeartbeats 4000000 in
set_option maxRecDepth 100000 in
theorem c_whyNone0 {l : Launch} {G : GT} {L : List Nat} {E : Nat → va_E} (t : Int32) {a : Nat} {f : Nat → Value} (hL : a ∈ L) (hE : E a = ob 8 3 f) (h1 : f 1 = .int 0) : Mq l G yX7_whyNone cX7_whyNone 2 (some .int) 1 [.ref a, .int t] L E 0 0 (fun v L2 E2 => v = some (.int 2) ∧ L2 = L ∧ E2 = E) := by
  refine Mq.mk (by decide) (Nat.le_of_ble_eq_true rfl) ?_
  intro p e s m args below meth c A C
  refine q_aload_n (j := 0) C dX7_whyNone_0 rfl ?_
  refine q_iload_n (j := 1) C dX7_whyNone_1 rfl ?_
  refine q_callV (As := [.int t]) (rest := []) C (c_sat0 t hL hE h1) dX7_whyNone_2 kV_X7_24 rfl hL hE ck_8 rfl (Nat.le_of_ble_eq_true rfl) ⟨Nat.le_of_ble_eq_true rfl, Nat.le_of_ble_eq_true rfl⟩ ⟨Nat.le_of_ble_eq_true rfl, Nat.le_of_ble_eq_true rfl⟩ (fun vh1 Lh1 Eh1 h1 => ?_)
  obtain ⟨rfl, rfl, rfl⟩ := h1
  refine q_st (st2 := [.null]) rfl ?_
  refine q_ifnonnullN C dX7_whyNone_5 ?_
  refine q_iconst (v := 2) C dX7_whyNone_8 (by decide) ?_
  refine q_goto (tgt := 13) C dX7_whyNone_9 (by decide) ?_
  exact q_iret C dX7_whyNone_13 rfl (Nat.le_of_ble_eq_true rfl) (Nat.le_of_ble_eq_true rfl) ⟨rfl, rfl, rfl⟩
set_option maxHeartbeats 4000000 in
set_option maxRecDepth 100000 in
theorem c_goOver0 {l : Launch} {G : GT} {L : List Nat} {E : Nat → va_E} (t : Int32) {a : Nat} {f : Nat → Value} (hL : a ∈ L) (hE : E a = ob 8 3 f) (h1 : f 1 = .int 0) : Mq l G yX7_goOver cX7_goOver 6 (some .int) 0 [.ref a, .int t] L E 0 0 (fun v L2 E2 => v = some (.int t) ∧ L2 = L ∧ E2 = E) := by
  refine Mq.mk (by decide) (Nat.le_of_ble_eq_true rfl) ?_
  intro p e s m args below meth c A C
  refine q_iload_n (j := 1) C dX7_goOver_0 rfl ?_
  refine q_istore_n (lv2 := [(2, .int t), (0, .ref a), (1, .int t)]) C dX7_goOver_1 (by decide) rfl ?_
  refine q_iconst (v := 0) C dX7_goOver_2 (by decide) ?_
  refine q_istore_n (lv2 := [(3, .int 0), (2, .int t), (0, .ref a), (1, .int t)]) C dX7_goOver_3 (by decide) rfl ?_
  refine q_iload_n (j := 0) C dX7_goOver_4 rfl ?_
  refine q_aload_n (j := 2) C dX7_goOver_5 rfl ?_
  refine q_get (k := 1) (v := .int 0) C ck_8 dX7_goOver_6 w2_34 (by decide) hL hE h1 ?_
  refine q_icmp_ge (tgt := 83) C dX7_goOver_9 (by decide) (fun _ => ?_) (fun z => absurd (by decide) z)
  refine q_iload_n (j := 1) C dX7_goOver_83 rfl ?_
  exact q_iret C dX7_goOver_84 rfl (Nat.le_of_ble_eq_true rfl) (Nat.le_of_ble_eq_true rfl) ⟨rfl, rfl, rfl⟩
set_option maxHeartbeats 4000000 in
set_option maxRecDepth 100000 in
theorem c_byteOf0 {l : Launch} {G : GT} {L : List Nat} {E : Nat → va_E} (k i : Int32) {a : Nat} {f : Nat → Value} (hL : a ∈ L) (hE : E a = ob 5 11 f) (h5 : f 5 = .int 0) : Mq l G yX4_byteOf cX4_byteOf 4 (some .int) 0 [.ref a, .int k, .int i] L E 0 0 (fun v L2 E2 => v = some (.int (-1)) ∧ L2 = L ∧ E2 = E) := by
  refine Mq.mk (by decide) (Nat.le_of_ble_eq_true rfl) ?_
  intro p e s m args below meth c A C
  refine q_iload_n (j := 1) C dX4_byteOf_0 rfl ?_
  refine q_if_lt (tgt := 12) C dX4_byteOf_1 (by decide) (fun c1 => ?_) (fun c1 => ?_)
  · refine q_iconst (v := (-1)) C dX4_byteOf_12 (by decide) ?_
    exact q_iret C dX4_byteOf_13 rfl (Nat.le_of_ble_eq_true rfl) (Nat.le_of_ble_eq_true rfl) ⟨rfl, rfl, rfl⟩
  · refine q_iload_n (j := 1) C dX4_byteOf_4 rfl ?_
    refine q_aload_n (j := 0) C dX4_byteOf_5 rfl ?_
    refine q_get (k := 5) (v := .int 0) C ck_5 dX4_byteOf_6 w1_234 (by decide) hL hE h5 ?_
    refine q_icmp_lt (tgt := 14) C dX4_byteOf_9 (by decide) (fun z => absurd z (by have hz := c1; simp only [i32_lt, i32_le, i32_eq, inn_f, Decidable.not_not, tn_m1, tn_0, tn_1, tn_2, tn_3, tn_4, tn_5, tn_6, tn_7, tn_8, tn_10, tn_30, tn_31, tn_32, tn_36, tn_40, tn_50, tn_100, tn_126, tn_200, tn_255, tn_500, tn_512, tn_3000, tn_5000] at hz ⊢; omega)) (fun _ => ?_)
    refine q_iconst (v := (-1)) C dX4_byteOf_12 (by decide) ?_
    exact q_iret C dX4_byteOf_13 rfl (Nat.le_of_ble_eq_true rfl) (Nat.le_of_ble_eq_true rfl) ⟨rfl, rfl, rfl⟩
set_option maxHeartbeats 4000000 in
set_option maxRecDepth 100000 in
theorem c_iclear {l : Launch} {G : GT} {L : List Nat} {E : Nat → va_E} {a : Nat} {f : Nat → Value} (hL : a ∈ L) (hE : E a = ob 2 3 f) : Mq l G yX1_clear cX1_clear 1 none 0 [.ref a] L E 0 0 (fun v L2 E2 => v = none ∧ L2 = L ∧ E2 = va_up E a (ob 2 3 (va_up f 2 (.int 0)))) := by
  refine Mq.mk (by decide) (Nat.le_of_ble_eq_true rfl) ?_
  intro p e s m args below meth c A C
  refine q_aload_n (j := 0) C dX1_clear_0 rfl ?_
  refine q_iconst (v := 0) C dX1_clear_1 (by decide) ?_
  refine q_put (k := 2) C ck_2 dX1_clear_2 w1_43 (by decide) rfl hL hE rfl rfl ?_
  exact q_vret C dX1_clear_5 rfl (Nat.le_of_ble_eq_true rfl) (Nat.le_of_ble_eq_true rfl) ⟨rfl, rfl, rfl⟩
set_option maxHeartbeats 4000000 in
set_option maxRecDepth 100000 in
theorem c_ikeep0 {l : Launch} {G : GT} {L : List Nat} {E : Nat → va_E} (n : Int32) {a : Nat} {f : Nat → Value} (hn : n = 0) (hL : a ∈ L) (hE : E a = ob 2 3 f) (h2 : f 2 = .int 0) : Mq l G yX1_keep cX1_keep 2 none 1 [.ref a, .int n] L E 0 0 (fun v L2 E2 => v = none ∧ L2 = L ∧ E2 = va_up E a (ob 2 3 (va_up f 2 (.int 0)))) := by
  refine Mq.mk (by decide) (Nat.le_of_ble_eq_true rfl) ?_
  intro p e s m args below meth c A C
  refine q_aload_n (j := 0) C dX1_keep_0 rfl ?_
  refine q_iconst (v := 0) C dX1_keep_1 (by decide) ?_
  refine q_aload_n (j := 0) C dX1_keep_2 rfl ?_
  refine q_get (k := 2) (v := .int 0) C ck_2 dX1_keep_3 w1_43 (by decide) hL hE h2 ?_
  refine q_iload_n (j := 1) C dX1_keep_6 rfl ?_
  refine q_mmin (v := 0) C dX1_keep_7 w2_146 w2_129 w1_14 w2_130 ⟨Nat.le_of_ble_eq_true rfl, Nat.le_of_ble_eq_true rfl⟩ ⟨Nat.le_of_ble_eq_true rfl, Nat.le_of_ble_eq_true rfl⟩ (Nat.le_of_ble_eq_true rfl) (by rw [hn]; decide) ?_
  refine q_mmax (v := 0) C dX1_keep_10 w2_147 w2_148 w1_14 w2_149 ⟨Nat.le_of_ble_eq_true rfl, Nat.le_of_ble_eq_true rfl⟩ ⟨Nat.le_of_ble_eq_true rfl, Nat.le_of_ble_eq_true rfl⟩ (Nat.le_of_ble_eq_true rfl) (by decide) ?_
  refine q_put (k := 2) C ck_2 dX1_keep_13 w1_43 (by decide) rfl hL hE rfl rfl ?_
  exact q_vret C dX1_keep_16 rfl (Nat.le_of_ble_eq_true rfl) (Nat.le_of_ble_eq_true rfl) ⟨rfl, rfl, rfl⟩
set_option maxHeartbeats 4000000 in
set_option maxRecDepth 100000 in
theorem c_within0 {l : Launch} {G : GT} {L : List Nat} {E : Nat → va_E} (lo hi : Int32) {a : Nat} {f : Nat → Value} (hL : a ∈ L) (hE : E a = ob 2 3 f) : Mq l G yX1_isWithin cX1_isWithin 6 (some .boolean) 0 [.ref a, .int 0, .int 0, .int lo, .int hi] L E 0 0 (fun v L2 E2 => v = some (.int 1) ∧ L2 = L ∧ E2 = E) := by
  refine Mq.mk (by decide) (Nat.le_of_ble_eq_true rfl) ?_
  intro p e s m args below meth c A C
  refine q_iload_n (j := 1) C dX1_isWithin_0 rfl ?_
  refine q_istore (lv2 := [(5, .int 0), (0, .ref a), (1, .int 0), (2, .int 0), (3, .int lo), (4, .int hi)]) C dX1_isWithin_1 (by decide) rfl ?_
  refine q_iload (j := 0) C dX1_isWithin_3 rfl ?_
  refine q_iload_n (j := 3) C dX1_isWithin_5 rfl ?_
  refine q_icmp_ge (tgt := 38) C dX1_isWithin_6 (by decide) (fun _ => ?_) (fun z => absurd (by decide) z)
  refine q_iconst (v := 1) C dX1_isWithin_38 (by decide) ?_
  exact q_zret C dX1_isWithin_39 rfl (by decide) (Nat.le_of_ble_eq_true rfl) (Nat.le_of_ble_eq_true rfl) ⟨rfl, rfl, rfl⟩
set_option maxHeartbeats 4000000 in
set_option maxRecDepth 100000 in
theorem c_addAll0 {l : Launch} {G : GT} {L : List Nat} {E : Nat → va_E} {a b : Nat} {f g : Nat → Value} (hL : a ∈ L) (hE : E a = ob 2 3 f) (hLb : b ∈ L) (hEb : E b = ob 2 3 g) (h2 : g 2 = .int 0) : Mq l G yX1_addAll cX1_addAll 3 none 0 [.ref a, .ref b] L E 0 0 (fun v L2 E2 => v = none ∧ L2 = L ∧ E2 = E) := by
  refine Mq.mk (by decide) (Nat.le_of_ble_eq_true rfl) ?_
  intro p e s m args below meth c A C
  refine q_iconst (v := 0) C dX1_addAll_0 (by decide) ?_
  refine q_istore_n (lv2 := [(2, .int 0), (0, .ref a), (1, .ref b)]) C dX1_addAll_1 (by decide) rfl ?_
  refine q_iload_n (j := 0) C dX1_addAll_2 rfl ?_
  refine q_aload_n (j := 2) C dX1_addAll_3 rfl ?_
  refine q_get (k := 2) (v := .int 0) C ck_2 dX1_addAll_4 w1_43 (by decide) hLb hEb h2 ?_
  refine q_icmp_ge (tgt := 26) C dX1_addAll_7 (by decide) (fun _ => ?_) (fun z => absurd (by decide) z)
  exact q_vret C dX1_addAll_26 rfl (Nat.le_of_ble_eq_true rfl) (Nat.le_of_ble_eq_true rfl) ⟨rfl, rfl, rfl⟩
set_option maxHeartbeats 4000000 in
set_option maxRecDepth 100000 in
theorem c_sclear {l : Launch} {G : GT} {L : List Nat} {E : Nat → va_E} {a : Nat} {f : Nat → Value} (hL : a ∈ L) (hE : E a = ob 7 12 f) : Mq l G yX6_clear cX6_clear 1 none 0 [.ref a] L E 0 0 (fun v L2 E2 => v = none ∧ L2 = L ∧ E2 = va_up E a (ob 7 12 (va_up (va_up f 4 (.int 0)) 5 (.int 0)))) := by
  refine Mq.mk (by decide) (Nat.le_of_ble_eq_true rfl) ?_
  intro p e s m args below meth c A C
  refine q_aload_n (j := 0) C dX6_clear_0 rfl ?_
  refine q_iconst (v := 0) C dX6_clear_1 (by decide) ?_
  refine q_put (k := 4) C ck_7 dX6_clear_2 w1_140 (by decide) rfl hL hE rfl rfl ?_
  refine q_aload_n (j := 0) C dX6_clear_5 rfl ?_
  refine q_iconst (v := 0) C dX6_clear_6 (by decide) ?_
  refine q_put (k := 5) C ck_7 dX6_clear_7 w1_143 (by decide) rfl hL (va_up_self _ _ _) (by decide) rfl ?_
  exact q_vret C dX6_clear_10 rfl (Nat.le_of_ble_eq_true rfl) (Nat.le_of_ble_eq_true rfl) ⟨rfl, rfl, bx_uu _ _ _ _⟩
set_option maxHeartbeats 4000000 in
set_option maxRecDepth 100000 in
theorem c_findsOf0 {l : Launch} {G : GT} {L : List Nat} {E : Nat → va_E} (k : Int32) {a fi : Nat} {f : Nat → Value} (hL : a ∈ L) (hE : E a = ob 7 12 f) (h8 : f 8 = .ref fi) (hLf : fi ∈ L) (hEf : E fi = aI G 5 (fun _ => 0)) : Mq l G yX6_findsOf cX6_findsOf 2 (some .int) 0 [.ref a, .int k] L E 0 0 (fun v L2 E2 => v = some (.int 0) ∧ L2 = L ∧ E2 = E) := by
  refine Mq.mk (by decide) (Nat.le_of_ble_eq_true rfl) ?_
  intro p e s m args below meth c A C
  refine q_iload_n (j := 1) C dX6_findsOf_0 rfl ?_
  refine q_if_lt (tgt := 22) C dX6_findsOf_1 (by decide) (fun c1 => ?_) (fun c1 => ?_)
  · refine q_iconst (v := 0) C dX6_findsOf_22 (by decide) ?_
    exact q_iret C dX6_findsOf_23 rfl (Nat.le_of_ble_eq_true rfl) (Nat.le_of_ble_eq_true rfl) ⟨rfl, rfl, rfl⟩
  · refine q_iload_n (j := 1) C dX6_findsOf_4 rfl ?_
    refine q_aload_n (j := 0) C dX6_findsOf_5 rfl ?_
    refine q_get (k := 8) (v := .ref fi) C ck_7 dX6_findsOf_6 w1_150 (by decide) hL hE h8 ?_
    refine q_alenI (v := 5) C dX6_findsOf_9 hLf hEf (by decide) ?_
    refine q_icmp_ge (tgt := 22) C dX6_findsOf_10 (by decide) (fun c2 => ?_) (fun c2 => ?_)
    · refine q_iconst (v := 0) C dX6_findsOf_22 (by decide) ?_
      exact q_iret C dX6_findsOf_23 rfl (Nat.le_of_ble_eq_true rfl) (Nat.le_of_ble_eq_true rfl) ⟨rfl, rfl, rfl⟩
    · refine q_aload_n (j := 0) C dX6_findsOf_13 rfl ?_
      refine q_get (k := 8) (v := .ref fi) C ck_7 dX6_findsOf_14 w1_150 (by decide) hL hE h8 ?_
      refine q_iload_n (j := 1) C dX6_findsOf_17 rfl ?_
      refine q_iald (v := 0) C dX6_findsOf_18 hLf hEf (by rw [vp_in_iff]; have h1 := c1; have h2 := c2; simp only [i32_lt, i32_le, i32_eq, inn_f, Decidable.not_not, tn_m1, tn_0, tn_1, tn_2, tn_3, tn_4, tn_5, tn_6, tn_7, tn_8, tn_10, tn_30, tn_31, tn_32, tn_36, tn_40, tn_50, tn_100, tn_126, tn_200, tn_255, tn_500, tn_512, tn_3000, tn_5000] at h1 h2; omega) rfl ?_
      refine q_goto (tgt := 23) C dX6_findsOf_19 (by decide) ?_
      exact q_iret C dX6_findsOf_23 rfl (Nat.le_of_ble_eq_true rfl) (Nat.le_of_ble_eq_true rfl) ⟨rfl, rfl, rfl⟩
def bc (x : Int32) : Int32 := ((((((((x - (((Int32.toUInt32 x >>> (Int32.toUInt32 1 &&& Int32.toUInt32 31)).toInt32) &&& 1431655765)) &&& 858993459) + (((Int32.toUInt32 (x - (((Int32.toUInt32 x >>> (Int32.toUInt32 1 &&& Int32.toUInt32 31)).toInt32) &&& 1431655765)) >>> (Int32.toUInt32 2 &&& Int32.toUInt32 31)).toInt32) &&& 858993459)) + ((Int32.toUInt32 (((x - (((Int32.toUInt32 x >>> (Int32.toUInt32 1 &&& Int32.toUInt32 31)).toInt32) &&& 1431655765)) &&& 858993459) + (((Int32.toUInt32 (x - (((Int32.toUInt32 x >>> (Int32.toUInt32 1 &&& Int32.toUInt32 31)).toInt32) &&& 1431655765)) >>> (Int32.toUInt32 2 &&& Int32.toUInt32 31)).toInt32) &&& 858993459)) >>> (Int32.toUInt32 4 &&& Int32.toUInt32 31)).toInt32)) &&& 252645135) + ((Int32.toUInt32 (((((x - (((Int32.toUInt32 x >>> (Int32.toUInt32 1 &&& Int32.toUInt32 31)).toInt32) &&& 1431655765)) &&& 858993459) + (((Int32.toUInt32 (x - (((Int32.toUInt32 x >>> (Int32.toUInt32 1 &&& Int32.toUInt32 31)).toInt32) &&& 1431655765)) >>> (Int32.toUInt32 2 &&& Int32.toUInt32 31)).toInt32) &&& 858993459)) + ((Int32.toUInt32 (((x - (((Int32.toUInt32 x >>> (Int32.toUInt32 1 &&& Int32.toUInt32 31)).toInt32) &&& 1431655765)) &&& 858993459) + (((Int32.toUInt32 (x - (((Int32.toUInt32 x >>> (Int32.toUInt32 1 &&& Int32.toUInt32 31)).toInt32) &&& 1431655765)) >>> (Int32.toUInt32 2 &&& Int32.toUInt32 31)).toInt32) &&& 858993459)) >>> (Int32.toUInt32 4 &&& Int32.toUInt32 31)).toInt32)) &&& 252645135) >>> (Int32.toUInt32 8 &&& Int32.toUInt32 31)).toInt32)) + ((Int32.toUInt32 ((((((x - (((Int32.toUInt32 x >>> (Int32.toUInt32 1 &&& Int32.toUInt32 31)).toInt32) &&& 1431655765)) &&& 858993459) + (((Int32.toUInt32 (x - (((Int32.toUInt32 x >>> (Int32.toUInt32 1 &&& Int32.toUInt32 31)).toInt32) &&& 1431655765)) >>> (Int32.toUInt32 2 &&& Int32.toUInt32 31)).toInt32) &&& 858993459)) + ((Int32.toUInt32 (((x - (((Int32.toUInt32 x >>> (Int32.toUInt32 1 &&& Int32.toUInt32 31)).toInt32) &&& 1431655765)) &&& 858993459) + (((Int32.toUInt32 (x - (((Int32.toUInt32 x >>> (Int32.toUInt32 1 &&& Int32.toUInt32 31)).toInt32) &&& 1431655765)) >>> (Int32.toUInt32 2 &&& Int32.toUInt32 31)).toInt32) &&& 858993459)) >>> (Int32.toUInt32 4 &&& Int32.toUInt32 31)).toInt32)) &&& 252645135) + ((Int32.toUInt32 (((((x - (((Int32.toUInt32 x >>> (Int32.toUInt32 1 &&& Int32.toUInt32 31)).toInt32) &&& 1431655765)) &&& 858993459) + (((Int32.toUInt32 (x - (((Int32.toUInt32 x >>> (Int32.toUInt32 1 &&& Int32.toUInt32 31)).toInt32) &&& 1431655765)) >>> (Int32.toUInt32 2 &&& Int32.toUInt32 31)).toInt32) &&& 858993459)) + ((Int32.toUInt32 (((x - (((Int32.toUInt32 x >>> (Int32.toUInt32 1 &&& Int32.toUInt32 31)).toInt32) &&& 1431655765)) &&& 858993459) + (((Int32.toUInt32 (x - (((Int32.toUInt32 x >>> (Int32.toUInt32 1 &&& Int32.toUInt32 31)).toInt32) &&& 1431655765)) >>> (Int32.toUInt32 2 &&& Int32.toUInt32 31)).toInt32) &&& 858993459)) >>> (Int32.toUInt32 4 &&& Int32.toUInt32 31)).toInt32)) &&& 252645135) >>> (Int32.toUInt32 8 &&& Int32.toUInt32 31)).toInt32)) >>> (Int32.toUInt32 16 &&& Int32.toUInt32 31)).toInt32)) &&& 63)
set_option maxHeartbeats 4000000 in
set_option maxRecDepth 100000 in
theorem c_bitCount {l : Launch} {G : GT} {L : List Nat} {E : Nat → va_E} (x : Int32) : Mq l G yJ6_bitCount_0f7a4 cJ6_bitCount_0f7a4 1 (some .int) 0 [.int x] L E 0 0 (fun v L2 E2 => v = some (.int (bc x)) ∧ L2 = L ∧ E2 = E) := by
  refine Mq.mk (by decide) (Nat.le_of_ble_eq_true rfl) ?_
  intro p e s m args below meth c A C
  refine q_iload_n (j := 0) C dJ6_bitCount_0f7a4_0 rfl ?_
  refine q_iload_n (j := 0) C dJ6_bitCount_0f7a4_1 rfl ?_
  refine q_iconst (v := 1) C dJ6_bitCount_0f7a4_2 (by decide) ?_
  refine q_iushr (v := ((Int32.toUInt32 x >>> (Int32.toUInt32 1 &&& Int32.toUInt32 31)).toInt32)) C dJ6_bitCount_0f7a4_3 rfl ?_
  refine q_ldcw (v := 1431655765) C dJ6_bitCount_0f7a4_4 w5_17 ?_
  refine q_iand (v := (((Int32.toUInt32 x >>> (Int32.toUInt32 1 &&& Int32.toUInt32 31)).toInt32) &&& 1431655765)) C dJ6_bitCount_0f7a4_7 rfl ?_
  refine q_isub (v := (x - (((Int32.toUInt32 x >>> (Int32.toUInt32 1 &&& Int32.toUInt32 31)).toInt32) &&& 1431655765))) C dJ6_bitCount_0f7a4_8 rfl ?_
  refine q_istore_n (lv2 := [(0, .int (x - (((Int32.toUInt32 x >>> (Int32.toUInt32 1 &&& Int32.toUInt32 31)).toInt32) &&& 1431655765)))]) C dJ6_bitCount_0f7a4_9 (by decide) rfl ?_
  refine q_iload_n (j := 0) C dJ6_bitCount_0f7a4_10 rfl ?_
  refine q_ldcw (v := 858993459) C dJ6_bitCount_0f7a4_11 w5_18 ?_
  refine q_iand (v := ((x - (((Int32.toUInt32 x >>> (Int32.toUInt32 1 &&& Int32.toUInt32 31)).toInt32) &&& 1431655765)) &&& 858993459)) C dJ6_bitCount_0f7a4_14 rfl ?_
  refine q_iload_n (j := 0) C dJ6_bitCount_0f7a4_15 rfl ?_
  refine q_iconst (v := 2) C dJ6_bitCount_0f7a4_16 (by decide) ?_
  refine q_iushr (v := ((Int32.toUInt32 (x - (((Int32.toUInt32 x >>> (Int32.toUInt32 1 &&& Int32.toUInt32 31)).toInt32) &&& 1431655765)) >>> (Int32.toUInt32 2 &&& Int32.toUInt32 31)).toInt32)) C dJ6_bitCount_0f7a4_17 rfl ?_
  refine q_ldcw (v := 858993459) C dJ6_bitCount_0f7a4_18 w5_18 ?_
  refine q_iand (v := (((Int32.toUInt32 (x - (((Int32.toUInt32 x >>> (Int32.toUInt32 1 &&& Int32.toUInt32 31)).toInt32) &&& 1431655765)) >>> (Int32.toUInt32 2 &&& Int32.toUInt32 31)).toInt32) &&& 858993459)) C dJ6_bitCount_0f7a4_21 rfl ?_
  refine q_iadd (v := (((x - (((Int32.toUInt32 x >>> (Int32.toUInt32 1 &&& Int32.toUInt32 31)).toInt32) &&& 1431655765)) &&& 858993459) + (((Int32.toUInt32 (x - (((Int32.toUInt32 x >>> (Int32.toUInt32 1 &&& Int32.toUInt32 31)).toInt32) &&& 1431655765)) >>> (Int32.toUInt32 2 &&& Int32.toUInt32 31)).toInt32) &&& 858993459))) C dJ6_bitCount_0f7a4_22 rfl ?_
  refine q_istore_n (lv2 := [(0, .int (((x - (((Int32.toUInt32 x >>> (Int32.toUInt32 1 &&& Int32.toUInt32 31)).toInt32) &&& 1431655765)) &&& 858993459) + (((Int32.toUInt32 (x - (((Int32.toUInt32 x >>> (Int32.toUInt32 1 &&& Int32.toUInt32 31)).toInt32) &&& 1431655765)) >>> (Int32.toUInt32 2 &&& Int32.toUInt32 31)).toInt32) &&& 858993459)))]) C dJ6_bitCount_0f7a4_23 (by decide) rfl ?_
  refine q_iload_n (j := 0) C dJ6_bitCount_0f7a4_24 rfl ?_
  refine q_iload_n (j := 0) C dJ6_bitCount_0f7a4_25 rfl ?_
  refine q_iconst (v := 4) C dJ6_bitCount_0f7a4_26 (by decide) ?_
  refine q_iushr (v := ((Int32.toUInt32 (((x - (((Int32.toUInt32 x >>> (Int32.toUInt32 1 &&& Int32.toUInt32 31)).toInt32) &&& 1431655765)) &&& 858993459) + (((Int32.toUInt32 (x - (((Int32.toUInt32 x >>> (Int32.toUInt32 1 &&& Int32.toUInt32 31)).toInt32) &&& 1431655765)) >>> (Int32.toUInt32 2 &&& Int32.toUInt32 31)).toInt32) &&& 858993459)) >>> (Int32.toUInt32 4 &&& Int32.toUInt32 31)).toInt32)) C dJ6_bitCount_0f7a4_27 rfl ?_
  refine q_iadd (v := ((((x - (((Int32.toUInt32 x >>> (Int32.toUInt32 1 &&& Int32.toUInt32 31)).toInt32) &&& 1431655765)) &&& 858993459) + (((Int32.toUInt32 (x - (((Int32.toUInt32 x >>> (Int32.toUInt32 1 &&& Int32.toUInt32 31)).toInt32) &&& 1431655765)) >>> (Int32.toUInt32 2 &&& Int32.toUInt32 31)).toInt32) &&& 858993459)) + ((Int32.toUInt32 (((x - (((Int32.toUInt32 x >>> (Int32.toUInt32 1 &&& Int32.toUInt32 31)).toInt32) &&& 1431655765)) &&& 858993459) + (((Int32.toUInt32 (x - (((Int32.toUInt32 x >>> (Int32.toUInt32 1 &&& Int32.toUInt32 31)).toInt32) &&& 1431655765)) >>> (Int32.toUInt32 2 &&& Int32.toUInt32 31)).toInt32) &&& 858993459)) >>> (Int32.toUInt32 4 &&& Int32.toUInt32 31)).toInt32))) C dJ6_bitCount_0f7a4_28 rfl ?_
  refine q_ldcw (v := 252645135) C dJ6_bitCount_0f7a4_29 w5_19 ?_
  refine q_iand (v := (((((x - (((Int32.toUInt32 x >>> (Int32.toUInt32 1 &&& Int32.toUInt32 31)).toInt32) &&& 1431655765)) &&& 858993459) + (((Int32.toUInt32 (x - (((Int32.toUInt32 x >>> (Int32.toUInt32 1 &&& Int32.toUInt32 31)).toInt32) &&& 1431655765)) >>> (Int32.toUInt32 2 &&& Int32.toUInt32 31)).toInt32) &&& 858993459)) + ((Int32.toUInt32 (((x - (((Int32.toUInt32 x >>> (Int32.toUInt32 1 &&& Int32.toUInt32 31)).toInt32) &&& 1431655765)) &&& 858993459) + (((Int32.toUInt32 (x - (((Int32.toUInt32 x >>> (Int32.toUInt32 1 &&& Int32.toUInt32 31)).toInt32) &&& 1431655765)) >>> (Int32.toUInt32 2 &&& Int32.toUInt32 31)).toInt32) &&& 858993459)) >>> (Int32.toUInt32 4 &&& Int32.toUInt32 31)).toInt32)) &&& 252645135)) C dJ6_bitCount_0f7a4_32 rfl ?_
  refine q_istore_n (lv2 := [(0, .int (((((x - (((Int32.toUInt32 x >>> (Int32.toUInt32 1 &&& Int32.toUInt32 31)).toInt32) &&& 1431655765)) &&& 858993459) + (((Int32.toUInt32 (x - (((Int32.toUInt32 x >>> (Int32.toUInt32 1 &&& Int32.toUInt32 31)).toInt32) &&& 1431655765)) >>> (Int32.toUInt32 2 &&& Int32.toUInt32 31)).toInt32) &&& 858993459)) + ((Int32.toUInt32 (((x - (((Int32.toUInt32 x >>> (Int32.toUInt32 1 &&& Int32.toUInt32 31)).toInt32) &&& 1431655765)) &&& 858993459) + (((Int32.toUInt32 (x - (((Int32.toUInt32 x >>> (Int32.toUInt32 1 &&& Int32.toUInt32 31)).toInt32) &&& 1431655765)) >>> (Int32.toUInt32 2 &&& Int32.toUInt32 31)).toInt32) &&& 858993459)) >>> (Int32.toUInt32 4 &&& Int32.toUInt32 31)).toInt32)) &&& 252645135))]) C dJ6_bitCount_0f7a4_33 (by decide) rfl ?_
  refine q_iload_n (j := 0) C dJ6_bitCount_0f7a4_34 rfl ?_
  refine q_iload_n (j := 0) C dJ6_bitCount_0f7a4_35 rfl ?_
  refine q_bipush (v := 8) C dJ6_bitCount_0f7a4_36 (by decide) ?_
  refine q_iushr (v := ((Int32.toUInt32 (((((x - (((Int32.toUInt32 x >>> (Int32.toUInt32 1 &&& Int32.toUInt32 31)).toInt32) &&& 1431655765)) &&& 858993459) + (((Int32.toUInt32 (x - (((Int32.toUInt32 x >>> (Int32.toUInt32 1 &&& Int32.toUInt32 31)).toInt32) &&& 1431655765)) >>> (Int32.toUInt32 2 &&& Int32.toUInt32 31)).toInt32) &&& 858993459)) + ((Int32.toUInt32 (((x - (((Int32.toUInt32 x >>> (Int32.toUInt32 1 &&& Int32.toUInt32 31)).toInt32) &&& 1431655765)) &&& 858993459) + (((Int32.toUInt32 (x - (((Int32.toUInt32 x >>> (Int32.toUInt32 1 &&& Int32.toUInt32 31)).toInt32) &&& 1431655765)) >>> (Int32.toUInt32 2 &&& Int32.toUInt32 31)).toInt32) &&& 858993459)) >>> (Int32.toUInt32 4 &&& Int32.toUInt32 31)).toInt32)) &&& 252645135) >>> (Int32.toUInt32 8 &&& Int32.toUInt32 31)).toInt32)) C dJ6_bitCount_0f7a4_38 rfl ?_
  refine q_iadd (v := ((((((x - (((Int32.toUInt32 x >>> (Int32.toUInt32 1 &&& Int32.toUInt32 31)).toInt32) &&& 1431655765)) &&& 858993459) + (((Int32.toUInt32 (x - (((Int32.toUInt32 x >>> (Int32.toUInt32 1 &&& Int32.toUInt32 31)).toInt32) &&& 1431655765)) >>> (Int32.toUInt32 2 &&& Int32.toUInt32 31)).toInt32) &&& 858993459)) + ((Int32.toUInt32 (((x - (((Int32.toUInt32 x >>> (Int32.toUInt32 1 &&& Int32.toUInt32 31)).toInt32) &&& 1431655765)) &&& 858993459) + (((Int32.toUInt32 (x - (((Int32.toUInt32 x >>> (Int32.toUInt32 1 &&& Int32.toUInt32 31)).toInt32) &&& 1431655765)) >>> (Int32.toUInt32 2 &&& Int32.toUInt32 31)).toInt32) &&& 858993459)) >>> (Int32.toUInt32 4 &&& Int32.toUInt32 31)).toInt32)) &&& 252645135) + ((Int32.toUInt32 (((((x - (((Int32.toUInt32 x >>> (Int32.toUInt32 1 &&& Int32.toUInt32 31)).toInt32) &&& 1431655765)) &&& 858993459) + (((Int32.toUInt32 (x - (((Int32.toUInt32 x >>> (Int32.toUInt32 1 &&& Int32.toUInt32 31)).toInt32) &&& 1431655765)) >>> (Int32.toUInt32 2 &&& Int32.toUInt32 31)).toInt32) &&& 858993459)) + ((Int32.toUInt32 (((x - (((Int32.toUInt32 x >>> (Int32.toUInt32 1 &&& Int32.toUInt32 31)).toInt32) &&& 1431655765)) &&& 858993459) + (((Int32.toUInt32 (x - (((Int32.toUInt32 x >>> (Int32.toUInt32 1 &&& Int32.toUInt32 31)).toInt32) &&& 1431655765)) >>> (Int32.toUInt32 2 &&& Int32.toUInt32 31)).toInt32) &&& 858993459)) >>> (Int32.toUInt32 4 &&& Int32.toUInt32 31)).toInt32)) &&& 252645135) >>> (Int32.toUInt32 8 &&& Int32.toUInt32 31)).toInt32))) C dJ6_bitCount_0f7a4_39 rfl ?_
  refine q_istore_n (lv2 := [(0, .int ((((((x - (((Int32.toUInt32 x >>> (Int32.toUInt32 1 &&& Int32.toUInt32 31)).toInt32) &&& 1431655765)) &&& 858993459) + (((Int32.toUInt32 (x - (((Int32.toUInt32 x >>> (Int32.toUInt32 1 &&& Int32.toUInt32 31)).toInt32) &&& 1431655765)) >>> (Int32.toUInt32 2 &&& Int32.toUInt32 31)).toInt32) &&& 858993459)) + ((Int32.toUInt32 (((x - (((Int32.toUInt32 x >>> (Int32.toUInt32 1 &&& Int32.toUInt32 31)).toInt32) &&& 1431655765)) &&& 858993459) + (((Int32.toUInt32 (x - (((Int32.toUInt32 x >>> (Int32.toUInt32 1 &&& Int32.toUInt32 31)).toInt32) &&& 1431655765)) >>> (Int32.toUInt32 2 &&& Int32.toUInt32 31)).toInt32) &&& 858993459)) >>> (Int32.toUInt32 4 &&& Int32.toUInt32 31)).toInt32)) &&& 252645135) + ((Int32.toUInt32 (((((x - (((Int32.toUInt32 x >>> (Int32.toUInt32 1 &&& Int32.toUInt32 31)).toInt32) &&& 1431655765)) &&& 858993459) + (((Int32.toUInt32 (x - (((Int32.toUInt32 x >>> (Int32.toUInt32 1 &&& Int32.toUInt32 31)).toInt32) &&& 1431655765)) >>> (Int32.toUInt32 2 &&& Int32.toUInt32 31)).toInt32) &&& 858993459)) + ((Int32.toUInt32 (((x - (((Int32.toUInt32 x >>> (Int32.toUInt32 1 &&& Int32.toUInt32 31)).toInt32) &&& 1431655765)) &&& 858993459) + (((Int32.toUInt32 (x - (((Int32.toUInt32 x >>> (Int32.toUInt32 1 &&& Int32.toUInt32 31)).toInt32) &&& 1431655765)) >>> (Int32.toUInt32 2 &&& Int32.toUInt32 31)).toInt32) &&& 858993459)) >>> (Int32.toUInt32 4 &&& Int32.toUInt32 31)).toInt32)) &&& 252645135) >>> (Int32.toUInt32 8 &&& Int32.toUInt32 31)).toInt32)))]) C dJ6_bitCount_0f7a4_40 (by decide) rfl ?_
  refine q_iload_n (j := 0) C dJ6_bitCount_0f7a4_41 rfl ?_
  refine q_iload_n (j := 0) C dJ6_bitCount_0f7a4_42 rfl ?_
  refine q_bipush (v := 16) C dJ6_bitCount_0f7a4_43 (by decide) ?_
  refine q_iushr (v := ((Int32.toUInt32 ((((((x - (((Int32.toUInt32 x >>> (Int32.toUInt32 1 &&& Int32.toUInt32 31)).toInt32) &&& 1431655765)) &&& 858993459) + (((Int32.toUInt32 (x - (((Int32.toUInt32 x >>> (Int32.toUInt32 1 &&& Int32.toUInt32 31)).toInt32) &&& 1431655765)) >>> (Int32.toUInt32 2 &&& Int32.toUInt32 31)).toInt32) &&& 858993459)) + ((Int32.toUInt32 (((x - (((Int32.toUInt32 x >>> (Int32.toUInt32 1 &&& Int32.toUInt32 31)).toInt32) &&& 1431655765)) &&& 858993459) + (((Int32.toUInt32 (x - (((Int32.toUInt32 x >>> (Int32.toUInt32 1 &&& Int32.toUInt32 31)).toInt32) &&& 1431655765)) >>> (Int32.toUInt32 2 &&& Int32.toUInt32 31)).toInt32) &&& 858993459)) >>> (Int32.toUInt32 4 &&& Int32.toUInt32 31)).toInt32)) &&& 252645135) + ((Int32.toUInt32 (((((x - (((Int32.toUInt32 x >>> (Int32.toUInt32 1 &&& Int32.toUInt32 31)).toInt32) &&& 1431655765)) &&& 858993459) + (((Int32.toUInt32 (x - (((Int32.toUInt32 x >>> (Int32.toUInt32 1 &&& Int32.toUInt32 31)).toInt32) &&& 1431655765)) >>> (Int32.toUInt32 2 &&& Int32.toUInt32 31)).toInt32) &&& 858993459)) + ((Int32.toUInt32 (((x - (((Int32.toUInt32 x >>> (Int32.toUInt32 1 &&& Int32.toUInt32 31)).toInt32) &&& 1431655765)) &&& 858993459) + (((Int32.toUInt32 (x - (((Int32.toUInt32 x >>> (Int32.toUInt32 1 &&& Int32.toUInt32 31)).toInt32) &&& 1431655765)) >>> (Int32.toUInt32 2 &&& Int32.toUInt32 31)).toInt32) &&& 858993459)) >>> (Int32.toUInt32 4 &&& Int32.toUInt32 31)).toInt32)) &&& 252645135) >>> (Int32.toUInt32 8 &&& Int32.toUInt32 31)).toInt32)) >>> (Int32.toUInt32 16 &&& Int32.toUInt32 31)).toInt32)) C dJ6_bitCount_0f7a4_45 rfl ?_
  refine q_iadd (v := (((((((x - (((Int32.toUInt32 x >>> (Int32.toUInt32 1 &&& Int32.toUInt32 31)).toInt32) &&& 1431655765)) &&& 858993459) + (((Int32.toUInt32 (x - (((Int32.toUInt32 x >>> (Int32.toUInt32 1 &&& Int32.toUInt32 31)).toInt32) &&& 1431655765)) >>> (Int32.toUInt32 2 &&& Int32.toUInt32 31)).toInt32) &&& 858993459)) + ((Int32.toUInt32 (((x - (((Int32.toUInt32 x >>> (Int32.toUInt32 1 &&& Int32.toUInt32 31)).toInt32) &&& 1431655765)) &&& 858993459) + (((Int32.toUInt32 (x - (((Int32.toUInt32 x >>> (Int32.toUInt32 1 &&& Int32.toUInt32 31)).toInt32) &&& 1431655765)) >>> (Int32.toUInt32 2 &&& Int32.toUInt32 31)).toInt32) &&& 858993459)) >>> (Int32.toUInt32 4 &&& Int32.toUInt32 31)).toInt32)) &&& 252645135) + ((Int32.toUInt32 (((((x - (((Int32.toUInt32 x >>> (Int32.toUInt32 1 &&& Int32.toUInt32 31)).toInt32) &&& 1431655765)) &&& 858993459) + (((Int32.toUInt32 (x - (((Int32.toUInt32 x >>> (Int32.toUInt32 1 &&& Int32.toUInt32 31)).toInt32) &&& 1431655765)) >>> (Int32.toUInt32 2 &&& Int32.toUInt32 31)).toInt32) &&& 858993459)) + ((Int32.toUInt32 (((x - (((Int32.toUInt32 x >>> (Int32.toUInt32 1 &&& Int32.toUInt32 31)).toInt32) &&& 1431655765)) &&& 858993459) + (((Int32.toUInt32 (x - (((Int32.toUInt32 x >>> (Int32.toUInt32 1 &&& Int32.toUInt32 31)).toInt32) &&& 1431655765)) >>> (Int32.toUInt32 2 &&& Int32.toUInt32 31)).toInt32) &&& 858993459)) >>> (Int32.toUInt32 4 &&& Int32.toUInt32 31)).toInt32)) &&& 252645135) >>> (Int32.toUInt32 8 &&& Int32.toUInt32 31)).toInt32)) + ((Int32.toUInt32 ((((((x - (((Int32.toUInt32 x >>> (Int32.toUInt32 1 &&& Int32.toUInt32 31)).toInt32) &&& 1431655765)) &&& 858993459) + (((Int32.toUInt32 (x - (((Int32.toUInt32 x >>> (Int32.toUInt32 1 &&& Int32.toUInt32 31)).toInt32) &&& 1431655765)) >>> (Int32.toUInt32 2 &&& Int32.toUInt32 31)).toInt32) &&& 858993459)) + ((Int32.toUInt32 (((x - (((Int32.toUInt32 x >>> (Int32.toUInt32 1 &&& Int32.toUInt32 31)).toInt32) &&& 1431655765)) &&& 858993459) + (((Int32.toUInt32 (x - (((Int32.toUInt32 x >>> (Int32.toUInt32 1 &&& Int32.toUInt32 31)).toInt32) &&& 1431655765)) >>> (Int32.toUInt32 2 &&& Int32.toUInt32 31)).toInt32) &&& 858993459)) >>> (Int32.toUInt32 4 &&& Int32.toUInt32 31)).toInt32)) &&& 252645135) + ((Int32.toUInt32 (((((x - (((Int32.toUInt32 x >>> (Int32.toUInt32 1 &&& Int32.toUInt32 31)).toInt32) &&& 1431655765)) &&& 858993459) + (((Int32.toUInt32 (x - (((Int32.toUInt32 x >>> (Int32.toUInt32 1 &&& Int32.toUInt32 31)).toInt32) &&& 1431655765)) >>> (Int32.toUInt32 2 &&& Int32.toUInt32 31)).toInt32) &&& 858993459)) + ((Int32.toUInt32 (((x - (((Int32.toUInt32 x >>> (Int32.toUInt32 1 &&& Int32.toUInt32 31)).toInt32) &&& 1431655765)) &&& 858993459) + (((Int32.toUInt32 (x - (((Int32.toUInt32 x >>> (Int32.toUInt32 1 &&& Int32.toUInt32 31)).toInt32) &&& 1431655765)) >>> (Int32.toUInt32 2 &&& Int32.toUInt32 31)).toInt32) &&& 858993459)) >>> (Int32.toUInt32 4 &&& Int32.toUInt32 31)).toInt32)) &&& 252645135) >>> (Int32.toUInt32 8 &&& Int32.toUInt32 31)).toInt32)) >>> (Int32.toUInt32 16 &&& Int32.toUInt32 31)).toInt32))) C dJ6_bitCount_0f7a4_46 rfl ?_
  refine q_istore_n (lv2 := [(0, .int (((((((x - (((Int32.toUInt32 x >>> (Int32.toUInt32 1 &&& Int32.toUInt32 31)).toInt32) &&& 1431655765)) &&& 858993459) + (((Int32.toUInt32 (x - (((Int32.toUInt32 x >>> (Int32.toUInt32 1 &&& Int32.toUInt32 31)).toInt32) &&& 1431655765)) >>> (Int32.toUInt32 2 &&& Int32.toUInt32 31)).toInt32) &&& 858993459)) + ((Int32.toUInt32 (((x - (((Int32.toUInt32 x >>> (Int32.toUInt32 1 &&& Int32.toUInt32 31)).toInt32) &&& 1431655765)) &&& 858993459) + (((Int32.toUInt32 (x - (((Int32.toUInt32 x >>> (Int32.toUInt32 1 &&& Int32.toUInt32 31)).toInt32) &&& 1431655765)) >>> (Int32.toUInt32 2 &&& Int32.toUInt32 31)).toInt32) &&& 858993459)) >>> (Int32.toUInt32 4 &&& Int32.toUInt32 31)).toInt32)) &&& 252645135) + ((Int32.toUInt32 (((((x - (((Int32.toUInt32 x >>> (Int32.toUInt32 1 &&& Int32.toUInt32 31)).toInt32) &&& 1431655765)) &&& 858993459) + (((Int32.toUInt32 (x - (((Int32.toUInt32 x >>> (Int32.toUInt32 1 &&& Int32.toUInt32 31)).toInt32) &&& 1431655765)) >>> (Int32.toUInt32 2 &&& Int32.toUInt32 31)).toInt32) &&& 858993459)) + ((Int32.toUInt32 (((x - (((Int32.toUInt32 x >>> (Int32.toUInt32 1 &&& Int32.toUInt32 31)).toInt32) &&& 1431655765)) &&& 858993459) + (((Int32.toUInt32 (x - (((Int32.toUInt32 x >>> (Int32.toUInt32 1 &&& Int32.toUInt32 31)).toInt32) &&& 1431655765)) >>> (Int32.toUInt32 2 &&& Int32.toUInt32 31)).toInt32) &&& 858993459)) >>> (Int32.toUInt32 4 &&& Int32.toUInt32 31)).toInt32)) &&& 252645135) >>> (Int32.toUInt32 8 &&& Int32.toUInt32 31)).toInt32)) + ((Int32.toUInt32 ((((((x - (((Int32.toUInt32 x >>> (Int32.toUInt32 1 &&& Int32.toUInt32 31)).toInt32) &&& 1431655765)) &&& 858993459) + (((Int32.toUInt32 (x - (((Int32.toUInt32 x >>> (Int32.toUInt32 1 &&& Int32.toUInt32 31)).toInt32) &&& 1431655765)) >>> (Int32.toUInt32 2 &&& Int32.toUInt32 31)).toInt32) &&& 858993459)) + ((Int32.toUInt32 (((x - (((Int32.toUInt32 x >>> (Int32.toUInt32 1 &&& Int32.toUInt32 31)).toInt32) &&& 1431655765)) &&& 858993459) + (((Int32.toUInt32 (x - (((Int32.toUInt32 x >>> (Int32.toUInt32 1 &&& Int32.toUInt32 31)).toInt32) &&& 1431655765)) >>> (Int32.toUInt32 2 &&& Int32.toUInt32 31)).toInt32) &&& 858993459)) >>> (Int32.toUInt32 4 &&& Int32.toUInt32 31)).toInt32)) &&& 252645135) + ((Int32.toUInt32 (((((x - (((Int32.toUInt32 x >>> (Int32.toUInt32 1 &&& Int32.toUInt32 31)).toInt32) &&& 1431655765)) &&& 858993459) + (((Int32.toUInt32 (x - (((Int32.toUInt32 x >>> (Int32.toUInt32 1 &&& Int32.toUInt32 31)).toInt32) &&& 1431655765)) >>> (Int32.toUInt32 2 &&& Int32.toUInt32 31)).toInt32) &&& 858993459)) + ((Int32.toUInt32 (((x - (((Int32.toUInt32 x >>> (Int32.toUInt32 1 &&& Int32.toUInt32 31)).toInt32) &&& 1431655765)) &&& 858993459) + (((Int32.toUInt32 (x - (((Int32.toUInt32 x >>> (Int32.toUInt32 1 &&& Int32.toUInt32 31)).toInt32) &&& 1431655765)) >>> (Int32.toUInt32 2 &&& Int32.toUInt32 31)).toInt32) &&& 858993459)) >>> (Int32.toUInt32 4 &&& Int32.toUInt32 31)).toInt32)) &&& 252645135) >>> (Int32.toUInt32 8 &&& Int32.toUInt32 31)).toInt32)) >>> (Int32.toUInt32 16 &&& Int32.toUInt32 31)).toInt32)))]) C dJ6_bitCount_0f7a4_47 (by decide) rfl ?_
  refine q_iload_n (j := 0) C dJ6_bitCount_0f7a4_48 rfl ?_
  refine q_bipush (v := 63) C dJ6_bitCount_0f7a4_49 (by decide) ?_
  refine q_iand (v := ((((((((x - (((Int32.toUInt32 x >>> (Int32.toUInt32 1 &&& Int32.toUInt32 31)).toInt32) &&& 1431655765)) &&& 858993459) + (((Int32.toUInt32 (x - (((Int32.toUInt32 x >>> (Int32.toUInt32 1 &&& Int32.toUInt32 31)).toInt32) &&& 1431655765)) >>> (Int32.toUInt32 2 &&& Int32.toUInt32 31)).toInt32) &&& 858993459)) + ((Int32.toUInt32 (((x - (((Int32.toUInt32 x >>> (Int32.toUInt32 1 &&& Int32.toUInt32 31)).toInt32) &&& 1431655765)) &&& 858993459) + (((Int32.toUInt32 (x - (((Int32.toUInt32 x >>> (Int32.toUInt32 1 &&& Int32.toUInt32 31)).toInt32) &&& 1431655765)) >>> (Int32.toUInt32 2 &&& Int32.toUInt32 31)).toInt32) &&& 858993459)) >>> (Int32.toUInt32 4 &&& Int32.toUInt32 31)).toInt32)) &&& 252645135) + ((Int32.toUInt32 (((((x - (((Int32.toUInt32 x >>> (Int32.toUInt32 1 &&& Int32.toUInt32 31)).toInt32) &&& 1431655765)) &&& 858993459) + (((Int32.toUInt32 (x - (((Int32.toUInt32 x >>> (Int32.toUInt32 1 &&& Int32.toUInt32 31)).toInt32) &&& 1431655765)) >>> (Int32.toUInt32 2 &&& Int32.toUInt32 31)).toInt32) &&& 858993459)) + ((Int32.toUInt32 (((x - (((Int32.toUInt32 x >>> (Int32.toUInt32 1 &&& Int32.toUInt32 31)).toInt32) &&& 1431655765)) &&& 858993459) + (((Int32.toUInt32 (x - (((Int32.toUInt32 x >>> (Int32.toUInt32 1 &&& Int32.toUInt32 31)).toInt32) &&& 1431655765)) >>> (Int32.toUInt32 2 &&& Int32.toUInt32 31)).toInt32) &&& 858993459)) >>> (Int32.toUInt32 4 &&& Int32.toUInt32 31)).toInt32)) &&& 252645135) >>> (Int32.toUInt32 8 &&& Int32.toUInt32 31)).toInt32)) + ((Int32.toUInt32 ((((((x - (((Int32.toUInt32 x >>> (Int32.toUInt32 1 &&& Int32.toUInt32 31)).toInt32) &&& 1431655765)) &&& 858993459) + (((Int32.toUInt32 (x - (((Int32.toUInt32 x >>> (Int32.toUInt32 1 &&& Int32.toUInt32 31)).toInt32) &&& 1431655765)) >>> (Int32.toUInt32 2 &&& Int32.toUInt32 31)).toInt32) &&& 858993459)) + ((Int32.toUInt32 (((x - (((Int32.toUInt32 x >>> (Int32.toUInt32 1 &&& Int32.toUInt32 31)).toInt32) &&& 1431655765)) &&& 858993459) + (((Int32.toUInt32 (x - (((Int32.toUInt32 x >>> (Int32.toUInt32 1 &&& Int32.toUInt32 31)).toInt32) &&& 1431655765)) >>> (Int32.toUInt32 2 &&& Int32.toUInt32 31)).toInt32) &&& 858993459)) >>> (Int32.toUInt32 4 &&& Int32.toUInt32 31)).toInt32)) &&& 252645135) + ((Int32.toUInt32 (((((x - (((Int32.toUInt32 x >>> (Int32.toUInt32 1 &&& Int32.toUInt32 31)).toInt32) &&& 1431655765)) &&& 858993459) + (((Int32.toUInt32 (x - (((Int32.toUInt32 x >>> (Int32.toUInt32 1 &&& Int32.toUInt32 31)).toInt32) &&& 1431655765)) >>> (Int32.toUInt32 2 &&& Int32.toUInt32 31)).toInt32) &&& 858993459)) + ((Int32.toUInt32 (((x - (((Int32.toUInt32 x >>> (Int32.toUInt32 1 &&& Int32.toUInt32 31)).toInt32) &&& 1431655765)) &&& 858993459) + (((Int32.toUInt32 (x - (((Int32.toUInt32 x >>> (Int32.toUInt32 1 &&& Int32.toUInt32 31)).toInt32) &&& 1431655765)) >>> (Int32.toUInt32 2 &&& Int32.toUInt32 31)).toInt32) &&& 858993459)) >>> (Int32.toUInt32 4 &&& Int32.toUInt32 31)).toInt32)) &&& 252645135) >>> (Int32.toUInt32 8 &&& Int32.toUInt32 31)).toInt32)) >>> (Int32.toUInt32 16 &&& Int32.toUInt32 31)).toInt32)) &&& 63)) C dJ6_bitCount_0f7a4_51 rfl ?_
  exact q_iret C dJ6_bitCount_0f7a4_52 rfl (Nat.le_of_ble_eq_true rfl) (Nat.le_of_ble_eq_true rfl) ⟨rfl, rfl, rfl⟩
end
section
def an_end (n : Int32) : Int32 := if n = 0 then 0 else -1
def an_meas (w h y : Int32) : Int32 := if (1 ≤ w ∧ w ≤ 100) ∧ (1 ≤ h ∧ h ≤ 50) ∧ (1 ≤ y ∧ y ≤ 255) then 1 else -1
def an_fail (d z : Int32) : Int32 := if 0 ≤ d ∧ d ≤ 7 then (if z = 0 then bc ((0 : Int32) &&& (((1 : Int32) <<< (d &&& 31)) ^^^ (-1))) else bc ((0 : Int32) ||| ((1 : Int32) <<< (d &&& 31)))) else -1
set_option maxHeartbeats 4000000 in
set_option maxRecDepth 100000 in
theorem x_place {l : Launch} {G : GT} {L : List Nat} {E : Nat → va_E}  {h0 : Nat} {f : Nat → Value} (hL : h0 ∈ L) (hE : E h0 = ob 12 19 f) (f18 : f 18 = .int (-1)) : Mq l G yX11_place cX11_place 1 (some .int) 5 [.ref h0] L E 0 0 (fun v L2 E2 => v = some (.int (-1))) := by
  refine Mq.mk (by decide) (Nat.le_of_ble_eq_true rfl) ?_
  intro p e s m args below meth c A C
  refine q_aload_n (j := 0) C dX11_place_0 rfl ?_
  refine q_get (k := 18) (v := .int (-1)) C ck_12 dX11_place_1 w2_62 (by decide) hL hE f18 ?_
  exact q_iret C dX11_place_4 rfl (Nat.le_of_ble_eq_true rfl) (Nat.le_of_ble_eq_true rfl) rfl
set_option maxHeartbeats 4000000 in
set_option maxRecDepth 100000 in
theorem x_status {l : Launch} {G : GT} {L : List Nat} {E : Nat → va_E}  {h0 : Nat} {f : Nat → Value} (hL : h0 ∈ L) (hE : E h0 = ob 12 19 f) (f17 : f 17 = .int 0) : Mq l G yX11_status cX11_status 1 (some .int) 5 [.ref h0] L E 0 0 (fun v L2 E2 => v = some (.int 0)) := by
  refine Mq.mk (by decide) (Nat.le_of_ble_eq_true rfl) ?_
  intro p e s m args below meth c A C
  refine q_aload_n (j := 0) C dX11_status_0 rfl ?_
  refine q_get (k := 17) (v := .int 0) C ck_12 dX11_status_1 w2_61 (by decide) hL hE f17 ?_
  exact q_iret C dX11_status_4 rfl (Nat.le_of_ble_eq_true rfl) (Nat.le_of_ble_eq_true rfl) rfl
set_option maxHeartbeats 4000000 in
set_option maxRecDepth 100000 in
theorem x_closed {l : Launch} {G : GT} {L : List Nat} {E : Nat → va_E}  {h0 : Nat} {f : Nat → Value} (hL : h0 ∈ L) (hE : E h0 = ob 12 19 f) (f16 : f 16 = .int 0) : Mq l G yX11_closed cX11_closed 1 (some .int) 5 [.ref h0] L E 0 0 (fun v L2 E2 => v = some (.int 0)) := by
  refine Mq.mk (by decide) (Nat.le_of_ble_eq_true rfl) ?_
  intro p e s m args below meth c A C
  refine q_aload_n (j := 0) C dX11_closed_0 rfl ?_
  refine q_get (k := 16) (v := .int 0) C ck_12 dX11_closed_1 w2_60 (by decide) hL hE f16 ?_
  exact q_iret C dX11_closed_4 rfl (Nat.le_of_ble_eq_true rfl) (Nat.le_of_ble_eq_true rfl) rfl
set_option maxHeartbeats 4000000 in
set_option maxRecDepth 100000 in
theorem x_copied {l : Launch} {G : GT} {L : List Nat} {E : Nat → va_E}  {h0 : Nat} {f : Nat → Value} (hL : h0 ∈ L) (hE : E h0 = ob 12 19 f) (f15 : f 15 = .int 0) : Mq l G yX11_copied cX11_copied 1 (some .int) 5 [.ref h0] L E 0 0 (fun v L2 E2 => v = some (.int 0)) := by
  refine Mq.mk (by decide) (Nat.le_of_ble_eq_true rfl) ?_
  intro p e s m args below meth c A C
  refine q_aload_n (j := 0) C dX11_copied_0 rfl ?_
  refine q_get (k := 15) (v := .int 0) C ck_12 dX11_copied_1 w2_59 (by decide) hL hE f15 ?_
  exact q_iret C dX11_copied_4 rfl (Nat.le_of_ble_eq_true rfl) (Nat.le_of_ble_eq_true rfl) rfl
set_option maxHeartbeats 4000000 in
set_option maxRecDepth 100000 in
theorem x_lines {l : Launch} {G : GT} {L : List Nat} {E : Nat → va_E}  {h0 sh : Nat} {f fs : Nat → Value} (hL : h0 ∈ L) (hE : E h0 = ob 12 19 f) (f9 : f 9 = .ref sh) (hLsh : sh ∈ L) (hEsh : E sh = ob 8 3 fs) (fs1 : fs 1 = .int 0) : Mq l G yX11_lines cX11_lines 1 (some .int) 5 [.ref h0] L E 0 0 (fun v L2 E2 => v = some (.int 0)) := by
  refine Mq.mk (by decide) (Nat.le_of_ble_eq_true rfl) ?_
  intro p e s m args below meth c A C
  refine q_aload_n (j := 0) C dX11_lines_0 rfl ?_
  refine q_get (k := 9) (v := .ref sh) C ck_12 dX11_lines_1 w2_53 (by decide) hL hE f9 ?_
  refine q_get (k := 1) (v := .int 0) C ck_8 dX11_lines_4 w2_35 (by decide) hLsh hEsh fs1 ?_
  exact q_iret C dX11_lines_7 rfl (Nat.le_of_ble_eq_true rfl) (Nat.le_of_ble_eq_true rfl) rfl
set_option maxHeartbeats 4000000 in
set_option maxRecDepth 100000 in
theorem x_more {l : Launch} {G : GT} {L : List Nat} {E : Nat → va_E}  {h0 fo : Nat} {f ff : Nat → Value} (hL : h0 ∈ L) (hE : E h0 = ob 12 19 f) (f8 : f 8 = .ref fo) (hLfo : fo ∈ L) (hEfo : E fo = ob 5 11 ff) (ff6 : ff 6 = .int 0) : Mq l G yX11_more cX11_more 1 (some .int) 5 [.ref h0] L E 0 0 (fun v L2 E2 => v = some (.int 0)) := by
  refine Mq.mk (by decide) (Nat.le_of_ble_eq_true rfl) ?_
  intro p e s m args below meth c A C
  refine q_aload_n (j := 0) C dX11_more_0 rfl ?_
  refine q_get (k := 8) (v := .ref fo) C ck_12 dX11_more_1 w2_52 (by decide) hL hE f8 ?_
  refine q_get (k := 6) (v := .int 0) C ck_5 dX11_more_4 w1_237 (by decide) hLfo hEfo ff6 ?_
  refine q_if_eq (tgt := 14) C dX11_more_7 (by decide) (fun _ => ?_) (fun z => absurd (by decide) z)
  refine q_iconst (v := 0) C dX11_more_14 (by decide) ?_
  exact q_iret C dX11_more_15 rfl (Nat.le_of_ble_eq_true rfl) (Nat.le_of_ble_eq_true rfl) rfl
set_option maxHeartbeats 4000000 in
set_option maxRecDepth 100000 in
theorem x_drop {l : Launch} {G : GT} {L : List Nat} {E : Nat → va_E} (t : Int32)  {h0 tb md ch : Nat} {f fT fm fc : Nat → Value} (hL : h0 ∈ L) (hE : E h0 = ob 12 19 f) (f4 : f 4 = .ref tb) (hLtb : tb ∈ L) (hEtb : E tb = ob 11 2 fT) (fT0 : fT 0 = .ref md) (fT1 : fT 1 = .ref ch) (hLmd : md ∈ L) (hEmd : E md = ob 0 3 fm) (fm2 : fm 2 = .int 0) (hLch : ch ∈ L) (hEch : E ch = ob 0 3 fc) (fc2 : fc 2 = .int 0) : Mq l G yX11_drop cX11_drop 3 (some .int) 5 [.ref h0, .int t] L E 0 0 (fun v L2 E2 => v = some (.int (-1))) := by
  refine Mq.mk (by decide) (Nat.le_of_ble_eq_true rfl) ?_
  intro p e s m args below meth c A C
  refine q_aload_n (j := 0) C dX11_drop_0 rfl ?_
  refine q_get (k := 4) (v := .ref tb) C ck_12 dX11_drop_1 w2_48 (by decide) hL hE f4 ?_
  refine q_iload_n (j := 1) C dX11_drop_4 rfl ?_
  refine q_callV (As := [.int t]) (rest := []) C (c_alive0 t hLtb hEtb fT0 fT1 hLmd hEmd fm2 hLch hEch fc2) dX11_drop_5 kV_X11_131 rfl hLtb hEtb ck_11 rfl (Nat.le_of_ble_eq_true rfl) ⟨Nat.le_of_ble_eq_true rfl, Nat.le_of_ble_eq_true rfl⟩ ⟨Nat.le_of_ble_eq_true rfl, Nat.le_of_ble_eq_true rfl⟩ (fun vh1 Lh1 Eh1 h1 => ?_)
  obtain ⟨rfl, rfl, rfl⟩ := h1
  refine q_st (st2 := [.null]) rfl ?_
  refine q_astore_nN (lv2 := [(2, .null), (0, .ref h0), (1, .int t)]) C dX11_drop_8 (by decide) rfl ?_
  refine q_aload_nN (j := 0) C dX11_drop_9 rfl ?_
  refine q_ifnonnullN C dX11_drop_10 ?_
  refine q_aload_n (j := 1) C dX11_drop_13 rfl ?_
  refine q_iconst (v := 3) C dX11_drop_14 (by decide) ?_
  refine q_callV (As := [.int 3]) (rest := []) C (c_refuse 3 hL hE) dX11_drop_15 kV_X11_102 rfl hL hE ck_12 rfl (Nat.le_of_ble_eq_true rfl) ⟨Nat.le_of_ble_eq_true rfl, Nat.le_of_ble_eq_true rfl⟩ ⟨Nat.le_of_ble_eq_true rfl, Nat.le_of_ble_eq_true rfl⟩ (fun vh2 Lh2 Eh2 h2 => ?_)
  obtain ⟨rfl, rfl, rfl⟩ := h2
  refine q_st (st2 := [.int (-1)]) rfl ?_
  exact q_iret C dX11_drop_18 rfl (Nat.le_of_ble_eq_true rfl) (Nat.le_of_ble_eq_true rfl) rfl
set_option maxHeartbeats 4000000 in
set_option maxRecDepth 100000 in
theorem x_judge {l : Launch} {G : GT} {L : List Nat} {E : Nat → va_E} (t : Int32)  {h0 tb md ch : Nat} {f fT fm fc : Nat → Value} (hL : h0 ∈ L) (hE : E h0 = ob 12 19 f) (f4 : f 4 = .ref tb) (hLtb : tb ∈ L) (hEtb : E tb = ob 11 2 fT) (fT0 : fT 0 = .ref md) (fT1 : fT 1 = .ref ch) (hLmd : md ∈ L) (hEmd : E md = ob 0 3 fm) (fm2 : fm 2 = .int 0) (hLch : ch ∈ L) (hEch : E ch = ob 0 3 fc) (fc2 : fc 2 = .int 0) : Mq l G yX11_judge cX11_judge 4 (some .int) 5 [.ref h0, .int t] L E 0 0 (fun v L2 E2 => v = some (.int (-1))) := by
  refine Mq.mk (by decide) (Nat.le_of_ble_eq_true rfl) ?_
  intro p e s m args below meth c A C
  refine q_aload_n (j := 0) C dX11_judge_0 rfl ?_
  refine q_get (k := 4) (v := .ref tb) C ck_12 dX11_judge_1 w2_48 (by decide) hL hE f4 ?_
  refine q_iload_n (j := 1) C dX11_judge_4 rfl ?_
  refine q_callV (As := [.int t]) (rest := []) C (c_alive0 t hLtb hEtb fT0 fT1 hLmd hEmd fm2 hLch hEch fc2) dX11_judge_5 kV_X11_131 rfl hLtb hEtb ck_11 rfl (Nat.le_of_ble_eq_true rfl) ⟨Nat.le_of_ble_eq_true rfl, Nat.le_of_ble_eq_true rfl⟩ ⟨Nat.le_of_ble_eq_true rfl, Nat.le_of_ble_eq_true rfl⟩ (fun vh1 Lh1 Eh1 h1 => ?_)
  obtain ⟨rfl, rfl, rfl⟩ := h1
  refine q_st (st2 := [.null]) rfl ?_
  refine q_astore_nN (lv2 := [(2, .null), (0, .ref h0), (1, .int t)]) C dX11_judge_8 (by decide) rfl ?_
  refine q_aload_nN (j := 0) C dX11_judge_9 rfl ?_
  refine q_ifnonnullN C dX11_judge_10 ?_
  refine q_aload_n (j := 1) C dX11_judge_13 rfl ?_
  refine q_iconst (v := 3) C dX11_judge_14 (by decide) ?_
  refine q_callV (As := [.int 3]) (rest := []) C (c_refuse 3 hL hE) dX11_judge_15 kV_X11_102 rfl hL hE ck_12 rfl (Nat.le_of_ble_eq_true rfl) ⟨Nat.le_of_ble_eq_true rfl, Nat.le_of_ble_eq_true rfl⟩ ⟨Nat.le_of_ble_eq_true rfl, Nat.le_of_ble_eq_true rfl⟩ (fun vh2 Lh2 Eh2 h2 => ?_)
  obtain ⟨rfl, rfl, rfl⟩ := h2
  refine q_st (st2 := [.int (-1)]) rfl ?_
  exact q_iret C dX11_judge_18 rfl (Nat.le_of_ble_eq_true rfl) (Nat.le_of_ble_eq_true rfl) rfl
set_option maxHeartbeats 4000000 in
set_option maxRecDepth 100000 in
theorem x_set {l : Launch} {G : GT} {L : List Nat} {E : Nat → va_E} (t : Int32)  {h0 tb md ch : Nat} {f fT fm fc : Nat → Value} (hL : h0 ∈ L) (hE : E h0 = ob 12 19 f) (f4 : f 4 = .ref tb) (hLtb : tb ∈ L) (hEtb : E tb = ob 11 2 fT) (fT0 : fT 0 = .ref md) (fT1 : fT 1 = .ref ch) (hLmd : md ∈ L) (hEmd : E md = ob 0 3 fm) (fm2 : fm 2 = .int 0) (hLch : ch ∈ L) (hEch : E ch = ob 0 3 fc) (fc2 : fc 2 = .int 0) : Mq l G yX11_set cX11_set 7 (some .int) 5 [.ref h0, .int t] L E 0 0 (fun v L2 E2 => v = some (.int (-1))) := by
  refine Mq.mk (by decide) (Nat.le_of_ble_eq_true rfl) ?_
  intro p e s m args below meth c A C
  refine q_aload_n (j := 0) C dX11_set_0 rfl ?_
  refine q_get (k := 4) (v := .ref tb) C ck_12 dX11_set_1 w2_48 (by decide) hL hE f4 ?_
  refine q_iload_n (j := 1) C dX11_set_4 rfl ?_
  refine q_callV (As := [.int t]) (rest := []) C (c_whole0 t hLtb hEtb fT0 fT1 hLmd hEmd fm2 hLch hEch fc2) dX11_set_5 kV_X11_231 rfl hLtb hEtb ck_11 rfl (Nat.le_of_ble_eq_true rfl) ⟨Nat.le_of_ble_eq_true rfl, Nat.le_of_ble_eq_true rfl⟩ ⟨Nat.le_of_ble_eq_true rfl, Nat.le_of_ble_eq_true rfl⟩ (fun vh1 Lh1 Eh1 h1 => ?_)
  obtain ⟨rfl, rfl, rfl⟩ := h1
  refine q_st (st2 := [.null]) rfl ?_
  refine q_astore_nN (lv2 := [(2, .null), (0, .ref h0), (1, .int t)]) C dX11_set_8 (by decide) rfl ?_
  refine q_aload_nN (j := 0) C dX11_set_9 rfl ?_
  refine q_ifnonnullN C dX11_set_10 ?_
  refine q_aload_n (j := 1) C dX11_set_13 rfl ?_
  refine q_iconst (v := 3) C dX11_set_14 (by decide) ?_
  refine q_callV (As := [.int 3]) (rest := []) C (c_refuse 3 hL hE) dX11_set_15 kV_X11_102 rfl hL hE ck_12 rfl (Nat.le_of_ble_eq_true rfl) ⟨Nat.le_of_ble_eq_true rfl, Nat.le_of_ble_eq_true rfl⟩ ⟨Nat.le_of_ble_eq_true rfl, Nat.le_of_ble_eq_true rfl⟩ (fun vh2 Lh2 Eh2 h2 => ?_)
  obtain ⟨rfl, rfl, rfl⟩ := h2
  refine q_st (st2 := [.int (-1)]) rfl ?_
  exact q_iret C dX11_set_18 rfl (Nat.le_of_ble_eq_true rfl) (Nat.le_of_ble_eq_true rfl) rfl
set_option maxHeartbeats 4000000 in
set_option maxRecDepth 100000 in
theorem x_join {l : Launch} {G : GT} {L : List Nat} {E : Nat → va_E} (a b : Int32)  {h0 tb md ch : Nat} {f fT fm fc : Nat → Value} (hL : h0 ∈ L) (hE : E h0 = ob 12 19 f) (f4 : f 4 = .ref tb) (hLtb : tb ∈ L) (hEtb : E tb = ob 11 2 fT) (fT0 : fT 0 = .ref md) (fT1 : fT 1 = .ref ch) (hLmd : md ∈ L) (hEmd : E md = ob 0 3 fm) (fm2 : fm 2 = .int 0) (hLch : ch ∈ L) (hEch : E ch = ob 0 3 fc) (fc2 : fc 2 = .int 0) : Mq l G yX11_join cX11_join 5 (some .int) 5 [.ref h0, .int a, .int b] L E 0 0 (fun v L2 E2 => v = some (.int (-1))) := by
  refine Mq.mk (by decide) (Nat.le_of_ble_eq_true rfl) ?_
  intro p e s m args below meth c A C
  refine q_aload_n (j := 0) C dX11_join_0 rfl ?_
  refine q_get (k := 4) (v := .ref tb) C ck_12 dX11_join_1 w2_48 (by decide) hL hE f4 ?_
  refine q_iload_n (j := 1) C dX11_join_4 rfl ?_
  refine q_callV (As := [.int a]) (rest := []) C (c_alive0 a hLtb hEtb fT0 fT1 hLmd hEmd fm2 hLch hEch fc2) dX11_join_5 kV_X11_131 rfl hLtb hEtb ck_11 rfl (Nat.le_of_ble_eq_true rfl) ⟨Nat.le_of_ble_eq_true rfl, Nat.le_of_ble_eq_true rfl⟩ ⟨Nat.le_of_ble_eq_true rfl, Nat.le_of_ble_eq_true rfl⟩ (fun vh1 Lh1 Eh1 h1 => ?_)
  obtain ⟨rfl, rfl, rfl⟩ := h1
  refine q_st (st2 := [.null]) rfl ?_
  refine q_astore_nN (lv2 := [(3, .null), (0, .ref h0), (1, .int a), (2, .int b)]) C dX11_join_8 (by decide) rfl ?_
  refine q_aload_nN (j := 0) C dX11_join_9 rfl ?_
  refine q_ifnullN (tgt := 21) C dX11_join_10 (by decide) ?_
  refine q_aload_n (j := 1) C dX11_join_21 rfl ?_
  refine q_aload_nN (j := 0) C dX11_join_22 rfl ?_
  refine q_ifnonnullN C dX11_join_23 ?_
  refine q_iconst (v := 3) C dX11_join_26 (by decide) ?_
  refine q_goto (tgt := 31) C dX11_join_27 (by decide) ?_
  refine q_callV (As := [.int 3]) (rest := []) C (c_refuse 3 hL hE) dX11_join_31 kV_X11_102 rfl hL hE ck_12 rfl (Nat.le_of_ble_eq_true rfl) ⟨Nat.le_of_ble_eq_true rfl, Nat.le_of_ble_eq_true rfl⟩ ⟨Nat.le_of_ble_eq_true rfl, Nat.le_of_ble_eq_true rfl⟩ (fun vh2 Lh2 Eh2 h2 => ?_)
  obtain ⟨rfl, rfl, rfl⟩ := h2
  refine q_st (st2 := [.int (-1)]) rfl ?_
  exact q_iret C dX11_join_34 rfl (Nat.le_of_ble_eq_true rfl) (Nat.le_of_ble_eq_true rfl) rfl
set_option maxHeartbeats 4000000 in
set_option maxRecDepth 100000 in
theorem x_condition {l : Launch} {G : GT} {L : List Nat} {E : Nat → va_E} (t r k : Int32)  {h0 tb md ch : Nat} {f fT fm fc : Nat → Value} (hL : h0 ∈ L) (hE : E h0 = ob 12 19 f) (f4 : f 4 = .ref tb) (hLtb : tb ∈ L) (hEtb : E tb = ob 11 2 fT) (fT0 : fT 0 = .ref md) (fT1 : fT 1 = .ref ch) (hLmd : md ∈ L) (hEmd : E md = ob 0 3 fm) (fm2 : fm 2 = .int 0) (hLch : ch ∈ L) (hEch : E ch = ob 0 3 fc) (fc2 : fc 2 = .int 0) : Mq l G yX11_condition cX11_condition 7 (some .int) 5 [.ref h0, .int t, .int r, .int k] L E 0 0 (fun v L2 E2 => v = some (.int (-1))) := by
  refine Mq.mk (by decide) (Nat.le_of_ble_eq_true rfl) ?_
  intro p e s m args below meth c A C
  refine q_aload_n (j := 0) C dX11_condition_0 rfl ?_
  refine q_get (k := 4) (v := .ref tb) C ck_12 dX11_condition_1 w2_48 (by decide) hL hE f4 ?_
  refine q_iload_n (j := 1) C dX11_condition_4 rfl ?_
  refine q_callV (As := [.int t]) (rest := []) C (c_alive0 t hLtb hEtb fT0 fT1 hLmd hEmd fm2 hLch hEch fc2) dX11_condition_5 kV_X11_131 rfl hLtb hEtb ck_11 rfl (Nat.le_of_ble_eq_true rfl) ⟨Nat.le_of_ble_eq_true rfl, Nat.le_of_ble_eq_true rfl⟩ ⟨Nat.le_of_ble_eq_true rfl, Nat.le_of_ble_eq_true rfl⟩ (fun vh1 Lh1 Eh1 h1 => ?_)
  obtain ⟨rfl, rfl, rfl⟩ := h1
  refine q_st (st2 := [.null]) rfl ?_
  refine q_astoreN (lv2 := [(4, .null), (0, .ref h0), (1, .int t), (2, .int r), (3, .int k)]) C dX11_condition_8 (by decide) rfl ?_
  refine q_aloadN (j := 0) C dX11_condition_10 rfl ?_
  refine q_ifnonnullN C dX11_condition_12 ?_
  refine q_aload_n (j := 1) C dX11_condition_15 rfl ?_
  refine q_iconst (v := 3) C dX11_condition_16 (by decide) ?_
  refine q_callV (As := [.int 3]) (rest := []) C (c_refuse 3 hL hE) dX11_condition_17 kV_X11_102 rfl hL hE ck_12 rfl (Nat.le_of_ble_eq_true rfl) ⟨Nat.le_of_ble_eq_true rfl, Nat.le_of_ble_eq_true rfl⟩ ⟨Nat.le_of_ble_eq_true rfl, Nat.le_of_ble_eq_true rfl⟩ (fun vh2 Lh2 Eh2 h2 => ?_)
  obtain ⟨rfl, rfl, rfl⟩ := h2
  refine q_st (st2 := [.int (-1)]) rfl ?_
  exact q_iret C dX11_condition_20 rfl (Nat.le_of_ble_eq_true rfl) (Nat.le_of_ble_eq_true rfl) rfl
set_option maxHeartbeats 4000000 in
set_option maxRecDepth 100000 in
theorem x_parts {l : Launch} {G : GT} {L : List Nat} {E : Nat → va_E} (t a b : Int32)  {h0 tb md ch : Nat} {f fT fm fc : Nat → Value} (hL : h0 ∈ L) (hE : E h0 = ob 12 19 f) (f4 : f 4 = .ref tb) (hLtb : tb ∈ L) (hEtb : E tb = ob 11 2 fT) (fT0 : fT 0 = .ref md) (fT1 : fT 1 = .ref ch) (hLmd : md ∈ L) (hEmd : E md = ob 0 3 fm) (fm2 : fm 2 = .int 0) (hLch : ch ∈ L) (hEch : E ch = ob 0 3 fc) (fc2 : fc 2 = .int 0) : Mq l G yX11_parts cX11_parts 10 (some .int) 5 [.ref h0, .int t, .int a, .int b] L E 0 0 (fun v L2 E2 => v = some (.int (-1))) := by
  refine Mq.mk (by decide) (Nat.le_of_ble_eq_true rfl) ?_
  intro p e s m args below meth c A C
  refine q_aload_n (j := 0) C dX11_parts_0 rfl ?_
  refine q_get (k := 4) (v := .ref tb) C ck_12 dX11_parts_1 w2_48 (by decide) hL hE f4 ?_
  refine q_iload_n (j := 1) C dX11_parts_4 rfl ?_
  refine q_callV (As := [.int t]) (rest := []) C (c_whole0 t hLtb hEtb fT0 fT1 hLmd hEmd fm2 hLch hEch fc2) dX11_parts_5 kV_X11_231 rfl hLtb hEtb ck_11 rfl (Nat.le_of_ble_eq_true rfl) ⟨Nat.le_of_ble_eq_true rfl, Nat.le_of_ble_eq_true rfl⟩ ⟨Nat.le_of_ble_eq_true rfl, Nat.le_of_ble_eq_true rfl⟩ (fun vh1 Lh1 Eh1 h1 => ?_)
  obtain ⟨rfl, rfl, rfl⟩ := h1
  refine q_st (st2 := [.null]) rfl ?_
  refine q_astoreN (lv2 := [(4, .null), (0, .ref h0), (1, .int t), (2, .int a), (3, .int b)]) C dX11_parts_8 (by decide) rfl ?_
  refine q_aloadN (j := 0) C dX11_parts_10 rfl ?_
  refine q_ifnonnullN C dX11_parts_12 ?_
  refine q_aload_n (j := 1) C dX11_parts_15 rfl ?_
  refine q_iconst (v := 3) C dX11_parts_16 (by decide) ?_
  refine q_callV (As := [.int 3]) (rest := []) C (c_refuse 3 hL hE) dX11_parts_17 kV_X11_102 rfl hL hE ck_12 rfl (Nat.le_of_ble_eq_true rfl) ⟨Nat.le_of_ble_eq_true rfl, Nat.le_of_ble_eq_true rfl⟩ ⟨Nat.le_of_ble_eq_true rfl, Nat.le_of_ble_eq_true rfl⟩ (fun vh2 Lh2 Eh2 h2 => ?_)
  obtain ⟨rfl, rfl, rfl⟩ := h2
  refine q_st (st2 := [.int (-1)]) rfl ?_
  exact q_iret C dX11_parts_20 rfl (Nat.le_of_ble_eq_true rfl) (Nat.le_of_ble_eq_true rfl) rfl
set_option maxHeartbeats 4000000 in
set_option maxRecDepth 100000 in
theorem x_read {l : Launch} {G : GT} {L : List Nat} {E : Nat → va_E} (t a n : Int32)  {h0 tb md ch : Nat} {f fT fm fc : Nat → Value} (hL : h0 ∈ L) (hE : E h0 = ob 12 19 f) (f4 : f 4 = .ref tb) (hLtb : tb ∈ L) (hEtb : E tb = ob 11 2 fT) (fT0 : fT 0 = .ref md) (fT1 : fT 1 = .ref ch) (hLmd : md ∈ L) (hEmd : E md = ob 0 3 fm) (fm2 : fm 2 = .int 0) (hLch : ch ∈ L) (hEch : E ch = ob 0 3 fc) (fc2 : fc 2 = .int 0) : Mq l G yX11_read cX11_read 6 (some .int) 5 [.ref h0, .int t, .int a, .int n] L E 0 0 (fun v L2 E2 => v = some (.int (-1))) := by
  refine Mq.mk (by decide) (Nat.le_of_ble_eq_true rfl) ?_
  intro p e s m args below meth c A C
  refine q_aload_n (j := 0) C dX11_read_0 rfl ?_
  refine q_get (k := 4) (v := .ref tb) C ck_12 dX11_read_1 w2_48 (by decide) hL hE f4 ?_
  refine q_iload_n (j := 1) C dX11_read_4 rfl ?_
  refine q_callV (As := [.int t]) (rest := []) C (c_whole0 t hLtb hEtb fT0 fT1 hLmd hEmd fm2 hLch hEch fc2) dX11_read_5 kV_X11_231 rfl hLtb hEtb ck_11 rfl (Nat.le_of_ble_eq_true rfl) ⟨Nat.le_of_ble_eq_true rfl, Nat.le_of_ble_eq_true rfl⟩ ⟨Nat.le_of_ble_eq_true rfl, Nat.le_of_ble_eq_true rfl⟩ (fun vh1 Lh1 Eh1 h1 => ?_)
  obtain ⟨rfl, rfl, rfl⟩ := h1
  refine q_st (st2 := [.null]) rfl ?_
  refine q_astoreN (lv2 := [(4, .null), (0, .ref h0), (1, .int t), (2, .int a), (3, .int n)]) C dX11_read_8 (by decide) rfl ?_
  refine q_aloadN (j := 0) C dX11_read_10 rfl ?_
  refine q_ifnonnullN C dX11_read_12 ?_
  refine q_aload_n (j := 1) C dX11_read_15 rfl ?_
  refine q_iconst (v := 3) C dX11_read_16 (by decide) ?_
  refine q_callV (As := [.int 3]) (rest := []) C (c_refuse 3 hL hE) dX11_read_17 kV_X11_102 rfl hL hE ck_12 rfl (Nat.le_of_ble_eq_true rfl) ⟨Nat.le_of_ble_eq_true rfl, Nat.le_of_ble_eq_true rfl⟩ ⟨Nat.le_of_ble_eq_true rfl, Nat.le_of_ble_eq_true rfl⟩ (fun vh2 Lh2 Eh2 h2 => ?_)
  obtain ⟨rfl, rfl, rfl⟩ := h2
  refine q_st (st2 := [.int (-1)]) rfl ?_
  exact q_iret C dX11_read_20 rfl (Nat.le_of_ble_eq_true rfl) (Nat.le_of_ble_eq_true rfl) rfl
set_option maxHeartbeats 4000000 in
set_option maxRecDepth 100000 in
theorem x_saved {l : Launch} {G : GT} {L : List Nat} {E : Nat → va_E} (a b : Int32)  {h0 tb md ch : Nat} {f fT fm fc : Nat → Value} (hL : h0 ∈ L) (hE : E h0 = ob 12 19 f) (f4 : f 4 = .ref tb) (hLtb : tb ∈ L) (hEtb : E tb = ob 11 2 fT) (fT0 : fT 0 = .ref md) (fT1 : fT 1 = .ref ch) (hLmd : md ∈ L) (hEmd : E md = ob 0 3 fm) (fm2 : fm 2 = .int 0) (hLch : ch ∈ L) (hEch : E ch = ob 0 3 fc) (fc2 : fc 2 = .int 0) : Mq l G yX11_saved cX11_saved 10 (some .int) 5 [.ref h0, .int a, .int b] L E 0 0 (fun v L2 E2 => v = some (.int (-1))) := by
  refine Mq.mk (by decide) (Nat.le_of_ble_eq_true rfl) ?_
  intro p e s m args below meth c A C
  refine q_aload_n (j := 0) C dX11_saved_0 rfl ?_
  refine q_get (k := 4) (v := .ref tb) C ck_12 dX11_saved_1 w2_48 (by decide) hL hE f4 ?_
  refine q_iload_n (j := 1) C dX11_saved_4 rfl ?_
  refine q_callV (As := [.int a]) (rest := []) C (c_whole0 a hLtb hEtb fT0 fT1 hLmd hEmd fm2 hLch hEch fc2) dX11_saved_5 kV_X11_231 rfl hLtb hEtb ck_11 rfl (Nat.le_of_ble_eq_true rfl) ⟨Nat.le_of_ble_eq_true rfl, Nat.le_of_ble_eq_true rfl⟩ ⟨Nat.le_of_ble_eq_true rfl, Nat.le_of_ble_eq_true rfl⟩ (fun vh1 Lh1 Eh1 h1 => ?_)
  obtain ⟨rfl, rfl, rfl⟩ := h1
  refine q_st (st2 := [.null]) rfl ?_
  refine q_astore_nN (lv2 := [(3, .null), (0, .ref h0), (1, .int a), (2, .int b)]) C dX11_saved_8 (by decide) rfl ?_
  refine q_aload_n (j := 1) C dX11_saved_9 rfl ?_
  refine q_get (k := 4) (v := .ref tb) C ck_12 dX11_saved_10 w2_48 (by decide) hL hE f4 ?_
  refine q_iload_n (j := 3) C dX11_saved_13 rfl ?_
  refine q_callV (As := [.int b]) (rest := []) C (c_whole0 b hLtb hEtb fT0 fT1 hLmd hEmd fm2 hLch hEch fc2) dX11_saved_14 kV_X11_231 rfl hLtb hEtb ck_11 rfl (Nat.le_of_ble_eq_true rfl) ⟨Nat.le_of_ble_eq_true rfl, Nat.le_of_ble_eq_true rfl⟩ ⟨Nat.le_of_ble_eq_true rfl, Nat.le_of_ble_eq_true rfl⟩ (fun vh2 Lh2 Eh2 h2 => ?_)
  obtain ⟨rfl, rfl, rfl⟩ := h2
  refine q_st (st2 := [.null]) rfl ?_
  refine q_astoreN (lv2 := [(4, .null), (3, .null), (0, .ref h0), (1, .int a), (2, .int b)]) C dX11_saved_17 (by decide) rfl ?_
  refine q_aload_nN (j := 1) C dX11_saved_19 rfl ?_
  refine q_ifnullN (tgt := 28) C dX11_saved_20 (by decide) ?_
  refine q_aload_n (j := 2) C dX11_saved_28 rfl ?_
  refine q_iconst (v := 3) C dX11_saved_29 (by decide) ?_
  refine q_callV (As := [.int 3]) (rest := []) C (c_refuse 3 hL hE) dX11_saved_30 kV_X11_102 rfl hL hE ck_12 rfl (Nat.le_of_ble_eq_true rfl) ⟨Nat.le_of_ble_eq_true rfl, Nat.le_of_ble_eq_true rfl⟩ ⟨Nat.le_of_ble_eq_true rfl, Nat.le_of_ble_eq_true rfl⟩ (fun vh3 Lh3 Eh3 h3 => ?_)
  obtain ⟨rfl, rfl, rfl⟩ := h3
  refine q_st (st2 := [.int (-1)]) rfl ?_
  exact q_iret C dX11_saved_33 rfl (Nat.le_of_ble_eq_true rfl) (Nat.le_of_ble_eq_true rfl) rfl
set_option maxHeartbeats 4000000 in
set_option maxRecDepth 100000 in
theorem x_undo {l : Launch} {G : GT} {L : List Nat} {E : Nat → va_E}  {h0 tb md ch : Nat} {f fT fm fc : Nat → Value} (hL : h0 ∈ L) (hE : E h0 = ob 12 19 f) (f4 : f 4 = .ref tb) (hLtb : tb ∈ L) (hEtb : E tb = ob 11 2 fT) (fT0 : fT 0 = .ref md) (fT1 : fT 1 = .ref ch) (hLmd : md ∈ L) (hEmd : E md = ob 0 3 fm) (fm2 : fm 2 = .int 0) (hLch : ch ∈ L) (hEch : E ch = ob 0 3 fc) (fc2 : fc 2 = .int 0) : Mq l G yX11_undo cX11_undo 1 (some .int) 5 [.ref h0] L E 0 0 (fun v L2 E2 => v = some (.int 0)) := by
  refine Mq.mk (by decide) (Nat.le_of_ble_eq_true rfl) ?_
  intro p e s m args below meth c A C
  refine q_aload_n (j := 0) C dX11_undo_0 rfl ?_
  refine q_aload_n (j := 0) C dX11_undo_1 rfl ?_
  refine q_get (k := 4) (v := .ref tb) C ck_12 dX11_undo_2 w2_48 (by decide) hL hE f4 ?_
  refine q_callV (As := []) (rest := [.ref h0]) C (c_takeBack0  hLtb hEtb fT0 fT1 hLmd hEmd fm2 hLch hEch fc2) dX11_undo_5 kV_X11_218 rfl hLtb hEtb ck_11 rfl (Nat.le_of_ble_eq_true rfl) ⟨Nat.le_of_ble_eq_true rfl, Nat.le_of_ble_eq_true rfl⟩ ⟨Nat.le_of_ble_eq_true rfl, Nat.le_of_ble_eq_true rfl⟩ (fun vh1 Lh1 Eh1 h1 => ?_)
  obtain ⟨rfl, rfl, rfl⟩ := h1
  refine q_st (st2 := [.int 0, .ref h0]) rfl ?_
  refine q_if_eq (tgt := 15) C dX11_undo_8 (by decide) (fun _ => ?_) (fun z => absurd (by decide) z)
  refine q_iconst (v := 0) C dX11_undo_15 (by decide) ?_
  refine q_callV (As := [.int 0]) (rest := []) C (c_done 0 hL hE) dX11_undo_16 kV_X11_109 rfl hL hE ck_12 rfl (Nat.le_of_ble_eq_true rfl) ⟨Nat.le_of_ble_eq_true rfl, Nat.le_of_ble_eq_true rfl⟩ ⟨Nat.le_of_ble_eq_true rfl, Nat.le_of_ble_eq_true rfl⟩ (fun vh2 Lh2 Eh2 h2 => ?_)
  obtain ⟨rfl, rfl, rfl⟩ := h2
  refine q_st (st2 := [.int 0]) rfl ?_
  exact q_iret C dX11_undo_19 rfl (Nat.le_of_ble_eq_true rfl) (Nat.le_of_ble_eq_true rfl) rfl
set_option maxHeartbeats 4000000 in
set_option maxRecDepth 100000 in
theorem x_lose {l : Launch} {G : GT} {L : List Nat} {E : Nat → va_E} (l0 : Int32)  {h0 sh : Nat} {f fs : Nat → Value} (hL : h0 ∈ L) (hE : E h0 = ob 12 19 f) (f9 : f 9 = .ref sh) (hLsh : sh ∈ L) (hEsh : E sh = ob 8 3 fs) (fs1 : fs 1 = .int 0) : Mq l G yX11_lose cX11_lose 3 (some .int) 5 [.ref h0, .int l0] L E 0 0 (fun v L2 E2 => v = some (.int (-1))) := by
  refine Mq.mk (by decide) (Nat.le_of_ble_eq_true rfl) ?_
  intro p e s m args below meth c A C
  refine q_aload_n (j := 0) C dX11_lose_0 rfl ?_
  refine q_get (k := 9) (v := .ref sh) C ck_12 dX11_lose_1 w2_53 (by decide) hL hE f9 ?_
  refine q_iload_n (j := 1) C dX11_lose_4 rfl ?_
  refine q_callV (As := [.int l0]) (rest := []) C (c_sat0 l0 hLsh hEsh fs1) dX11_lose_5 kV_X11_308 rfl hLsh hEsh ck_8 rfl (Nat.le_of_ble_eq_true rfl) ⟨Nat.le_of_ble_eq_true rfl, Nat.le_of_ble_eq_true rfl⟩ ⟨Nat.le_of_ble_eq_true rfl, Nat.le_of_ble_eq_true rfl⟩ (fun vh1 Lh1 Eh1 h1 => ?_)
  obtain ⟨rfl, rfl, rfl⟩ := h1
  refine q_st (st2 := [.null]) rfl ?_
  refine q_astore_nN (lv2 := [(2, .null), (0, .ref h0), (1, .int l0)]) C dX11_lose_8 (by decide) rfl ?_
  refine q_aload_nN (j := 0) C dX11_lose_9 rfl ?_
  refine q_ifnonnullN C dX11_lose_10 ?_
  refine q_aload_n (j := 1) C dX11_lose_13 rfl ?_
  refine q_iconst (v := 2) C dX11_lose_14 (by decide) ?_
  refine q_callV (As := [.int 2]) (rest := []) C (c_refuse 2 hL hE) dX11_lose_15 kV_X11_102 rfl hL hE ck_12 rfl (Nat.le_of_ble_eq_true rfl) ⟨Nat.le_of_ble_eq_true rfl, Nat.le_of_ble_eq_true rfl⟩ ⟨Nat.le_of_ble_eq_true rfl, Nat.le_of_ble_eq_true rfl⟩ (fun vh2 Lh2 Eh2 h2 => ?_)
  obtain ⟨rfl, rfl, rfl⟩ := h2
  refine q_st (st2 := [.int (-1)]) rfl ?_
  exact q_iret C dX11_lose_18 rfl (Nat.le_of_ble_eq_true rfl) (Nat.le_of_ble_eq_true rfl) rfl
set_option maxHeartbeats 4000000 in
set_option maxRecDepth 100000 in
theorem x_length {l : Launch} {G : GT} {L : List Nat} {E : Nat → va_E} (l0 : Int32)  {h0 sh : Nat} {f fs : Nat → Value} (hL : h0 ∈ L) (hE : E h0 = ob 12 19 f) (f9 : f 9 = .ref sh) (hLsh : sh ∈ L) (hEsh : E sh = ob 8 3 fs) (fs1 : fs 1 = .int 0) : Mq l G yX11_length cX11_length 3 (some .int) 5 [.ref h0, .int l0] L E 0 0 (fun v L2 E2 => v = some (.int (-1))) := by
  refine Mq.mk (by decide) (Nat.le_of_ble_eq_true rfl) ?_
  intro p e s m args below meth c A C
  refine q_aload_n (j := 0) C dX11_length_0 rfl ?_
  refine q_get (k := 9) (v := .ref sh) C ck_12 dX11_length_1 w2_53 (by decide) hL hE f9 ?_
  refine q_iload_n (j := 1) C dX11_length_4 rfl ?_
  refine q_callV (As := [.int l0]) (rest := []) C (c_present0 l0 hLsh hEsh fs1) dX11_length_5 kV_X11_288 rfl hLsh hEsh ck_8 rfl (Nat.le_of_ble_eq_true rfl) ⟨Nat.le_of_ble_eq_true rfl, Nat.le_of_ble_eq_true rfl⟩ ⟨Nat.le_of_ble_eq_true rfl, Nat.le_of_ble_eq_true rfl⟩ (fun vh1 Lh1 Eh1 h1 => ?_)
  obtain ⟨rfl, rfl, rfl⟩ := h1
  refine q_st (st2 := [.null]) rfl ?_
  refine q_astore_nN (lv2 := [(2, .null), (0, .ref h0), (1, .int l0)]) C dX11_length_8 (by decide) rfl ?_
  refine q_aload_nN (j := 0) C dX11_length_9 rfl ?_
  refine q_ifnonnullN C dX11_length_10 ?_
  refine q_aload_n (j := 1) C dX11_length_13 rfl ?_
  refine q_aload_n (j := 1) C dX11_length_14 rfl ?_
  refine q_get (k := 9) (v := .ref sh) C ck_12 dX11_length_15 w2_53 (by decide) hL hE f9 ?_
  refine q_iload_n (j := 2) C dX11_length_18 rfl ?_
  refine q_callV (As := [.int l0]) (rest := [.ref h0]) C (c_whyNone0 l0 hLsh hEsh fs1) dX11_length_19 kV_X11_292 rfl hLsh hEsh ck_8 rfl (Nat.le_of_ble_eq_true rfl) ⟨Nat.le_of_ble_eq_true rfl, Nat.le_of_ble_eq_true rfl⟩ ⟨Nat.le_of_ble_eq_true rfl, Nat.le_of_ble_eq_true rfl⟩ (fun vh2 Lh2 Eh2 h2 => ?_)
  obtain ⟨rfl, rfl, rfl⟩ := h2
  refine q_st (st2 := [.int 2, .ref h0]) rfl ?_
  refine q_callV (As := [.int 2]) (rest := []) C (c_refuse 2 hL hE) dX11_length_22 kV_X11_102 rfl hL hE ck_12 rfl (Nat.le_of_ble_eq_true rfl) ⟨Nat.le_of_ble_eq_true rfl, Nat.le_of_ble_eq_true rfl⟩ ⟨Nat.le_of_ble_eq_true rfl, Nat.le_of_ble_eq_true rfl⟩ (fun vh3 Lh3 Eh3 h3 => ?_)
  obtain ⟨rfl, rfl, rfl⟩ := h3
  refine q_st (st2 := [.int (-1)]) rfl ?_
  refine q_goto (tgt := 36) C dX11_length_25 (by decide) ?_
  exact q_iret C dX11_length_36 rfl (Nat.le_of_ble_eq_true rfl) (Nat.le_of_ble_eq_true rfl) rfl
set_option maxHeartbeats 4000000 in
set_option maxRecDepth 100000 in
theorem x_copyRow {l : Launch} {G : GT} {L : List Nat} {E : Nat → va_E} (a b c1 d1 n : Int32)  {h0 sh : Nat} {f fs : Nat → Value} (hL : h0 ∈ L) (hE : E h0 = ob 12 19 f) (f9 : f 9 = .ref sh) (hLsh : sh ∈ L) (hEsh : E sh = ob 8 3 fs) (fs1 : fs 1 = .int 0) : Mq l G yX11_copyRow cX11_copyRow 8 (some .int) 5 [.ref h0, .int a, .int b, .int c1, .int d1, .int n] L E 0 0 (fun v L2 E2 => v = some (.int (-1))) := by
  refine Mq.mk (by decide) (Nat.le_of_ble_eq_true rfl) ?_
  intro p e s m args below meth c A C
  refine q_aload_n (j := 0) C dX11_copyRow_0 rfl ?_
  refine q_get (k := 9) (v := .ref sh) C ck_12 dX11_copyRow_1 w2_53 (by decide) hL hE f9 ?_
  refine q_iload_n (j := 1) C dX11_copyRow_4 rfl ?_
  refine q_callV (As := [.int a]) (rest := []) C (c_sat0 a hLsh hEsh fs1) dX11_copyRow_5 kV_X11_308 rfl hLsh hEsh ck_8 rfl (Nat.le_of_ble_eq_true rfl) ⟨Nat.le_of_ble_eq_true rfl, Nat.le_of_ble_eq_true rfl⟩ ⟨Nat.le_of_ble_eq_true rfl, Nat.le_of_ble_eq_true rfl⟩ (fun vh1 Lh1 Eh1 h1 => ?_)
  obtain ⟨rfl, rfl, rfl⟩ := h1
  refine q_st (st2 := [.null]) rfl ?_
  refine q_astoreN (lv2 := [(6, .null), (0, .ref h0), (1, .int a), (2, .int b), (3, .int c1), (4, .int d1), (5, .int n)]) C dX11_copyRow_8 (by decide) rfl ?_
  refine q_aload_n (j := 1) C dX11_copyRow_10 rfl ?_
  refine q_get (k := 9) (v := .ref sh) C ck_12 dX11_copyRow_11 w2_53 (by decide) hL hE f9 ?_
  refine q_iload_n (j := 4) C dX11_copyRow_14 rfl ?_
  refine q_callV (As := [.int c1]) (rest := []) C (c_sat0 c1 hLsh hEsh fs1) dX11_copyRow_15 kV_X11_308 rfl hLsh hEsh ck_8 rfl (Nat.le_of_ble_eq_true rfl) ⟨Nat.le_of_ble_eq_true rfl, Nat.le_of_ble_eq_true rfl⟩ ⟨Nat.le_of_ble_eq_true rfl, Nat.le_of_ble_eq_true rfl⟩ (fun vh2 Lh2 Eh2 h2 => ?_)
  obtain ⟨rfl, rfl, rfl⟩ := h2
  refine q_st (st2 := [.null]) rfl ?_
  refine q_astoreN (lv2 := [(7, .null), (6, .null), (0, .ref h0), (1, .int a), (2, .int b), (3, .int c1), (4, .int d1), (5, .int n)]) C dX11_copyRow_18 (by decide) rfl ?_
  refine q_aloadN (j := 1) C dX11_copyRow_20 rfl ?_
  refine q_ifnullN (tgt := 30) C dX11_copyRow_22 (by decide) ?_
  refine q_aload_n (j := 2) C dX11_copyRow_30 rfl ?_
  refine q_iconst (v := 2) C dX11_copyRow_31 (by decide) ?_
  refine q_callV (As := [.int 2]) (rest := []) C (c_refuse 2 hL hE) dX11_copyRow_32 kV_X11_102 rfl hL hE ck_12 rfl (Nat.le_of_ble_eq_true rfl) ⟨Nat.le_of_ble_eq_true rfl, Nat.le_of_ble_eq_true rfl⟩ ⟨Nat.le_of_ble_eq_true rfl, Nat.le_of_ble_eq_true rfl⟩ (fun vh3 Lh3 Eh3 h3 => ?_)
  obtain ⟨rfl, rfl, rfl⟩ := h3
  refine q_st (st2 := [.int (-1)]) rfl ?_
  exact q_iret C dX11_copyRow_35 rfl (Nat.le_of_ble_eq_true rfl) (Nat.le_of_ble_eq_true rfl) rfl
set_option maxHeartbeats 4000000 in
set_option maxRecDepth 100000 in
theorem x_reading {l : Launch} {G : GT} {L : List Nat} {E : Nat → va_E} (k i : Int32)  {h0 fo : Nat} {f ff : Nat → Value} (hL : h0 ∈ L) (hE : E h0 = ob 12 19 f) (f8 : f 8 = .ref fo) (hLfo : fo ∈ L) (hEfo : E fo = ob 5 11 ff) (ff5 : ff 5 = .int 0) : Mq l G yX11_reading cX11_reading 4 (some .int) 5 [.ref h0, .int k, .int i] L E 0 0 (fun v L2 E2 => v = some (.int (-1))) := by
  refine Mq.mk (by decide) (Nat.le_of_ble_eq_true rfl) ?_
  intro p e s m args below meth c A C
  refine q_aload_n (j := 0) C dX11_reading_0 rfl ?_
  refine q_get (k := 8) (v := .ref fo) C ck_12 dX11_reading_1 w2_52 (by decide) hL hE f8 ?_
  refine q_iload_n (j := 1) C dX11_reading_4 rfl ?_
  refine q_iload_n (j := 2) C dX11_reading_5 rfl ?_
  refine q_callV (As := [.int k, .int i]) (rest := []) C (c_byteOf0 k i hLfo hEfo ff5) dX11_reading_6 kV_X11_364 rfl hLfo hEfo ck_5 rfl (Nat.le_of_ble_eq_true rfl) ⟨Nat.le_of_ble_eq_true rfl, Nat.le_of_ble_eq_true rfl⟩ ⟨Nat.le_of_ble_eq_true rfl, Nat.le_of_ble_eq_true rfl⟩ (fun vh1 Lh1 Eh1 h1 => ?_)
  obtain ⟨rfl, rfl, rfl⟩ := h1
  refine q_st (st2 := [.int (-1)]) rfl ?_
  refine q_istore_n (lv2 := [(3, .int (-1)), (0, .ref h0), (1, .int k), (2, .int i)]) C dX11_reading_9 (by decide) rfl ?_
  refine q_iload_n (j := 0) C dX11_reading_10 rfl ?_
  refine q_if_ge (tgt := 22) C dX11_reading_11 (by decide) (fun z => absurd z (by decide)) (fun _ => ?_)
  refine q_aload_n (j := 1) C dX11_reading_14 rfl ?_
  refine q_iconst (v := 2) C dX11_reading_15 (by decide) ?_
  refine q_callV (As := [.int 2]) (rest := []) C (c_refuse 2 hL hE) dX11_reading_16 kV_X11_102 rfl hL hE ck_12 rfl (Nat.le_of_ble_eq_true rfl) ⟨Nat.le_of_ble_eq_true rfl, Nat.le_of_ble_eq_true rfl⟩ ⟨Nat.le_of_ble_eq_true rfl, Nat.le_of_ble_eq_true rfl⟩ (fun vh2 Lh2 Eh2 h2 => ?_)
  obtain ⟨rfl, rfl, rfl⟩ := h2
  refine q_st (st2 := [.int (-1)]) rfl ?_
  refine q_goto (tgt := 27) C dX11_reading_19 (by decide) ?_
  exact q_iret C dX11_reading_27 rfl (Nat.le_of_ble_eq_true rfl) (Nat.le_of_ble_eq_true rfl) rfl
set_option maxHeartbeats 4000000 in
set_option maxRecDepth 100000 in
theorem x_letter {l : Launch} {G : GT} {L : List Nat} {E : Nat → va_E} (i : Int32)  {h0 br : Nat} {f fb : Nat → Value} (hL : h0 ∈ L) (hE : E h0 = ob 12 19 f) (f2 : f 2 = .ref br) (hLbr : br ∈ L) (hEbr : E br = ob 2 3 fb) (fb2 : fb 2 = .int 0) : Mq l G yX11_letter cX11_letter 2 (some .int) 5 [.ref h0, .int i] L E 0 0 (fun v L2 E2 => v = some (.int (-1))) := by
  refine Mq.mk (by decide) (Nat.le_of_ble_eq_true rfl) ?_
  intro p e s m args below meth c A C
  refine q_iload_n (j := 1) C dX11_letter_0 rfl ?_
  refine q_if_lt (tgt := 15) C dX11_letter_1 (by decide) (fun c1 => ?_) (fun c1 => ?_)
  · refine q_aload_n (j := 0) C dX11_letter_15 rfl ?_
    refine q_iconst (v := 2) C dX11_letter_16 (by decide) ?_
    refine q_callV (As := [.int 2]) (rest := []) C (c_refuse 2 hL hE) dX11_letter_17 kV_X11_102 rfl hL hE ck_12 rfl (Nat.le_of_ble_eq_true rfl) ⟨Nat.le_of_ble_eq_true rfl, Nat.le_of_ble_eq_true rfl⟩ ⟨Nat.le_of_ble_eq_true rfl, Nat.le_of_ble_eq_true rfl⟩ (fun vh1 Lh1 Eh1 h1 => ?_)
    obtain ⟨rfl, rfl, rfl⟩ := h1
    refine q_st (st2 := [.int (-1)]) rfl ?_
    refine q_goto (tgt := 35) C dX11_letter_20 (by decide) ?_
    exact q_iret C dX11_letter_35 rfl (Nat.le_of_ble_eq_true rfl) (Nat.le_of_ble_eq_true rfl) rfl
  · refine q_iload_n (j := 1) C dX11_letter_4 rfl ?_
    refine q_aload_n (j := 0) C dX11_letter_5 rfl ?_
    refine q_get (k := 2) (v := .ref br) C ck_12 dX11_letter_6 w2_46 (by decide) hL hE f2 ?_
    refine q_get (k := 2) (v := .int 0) C ck_2 dX11_letter_9 w1_44 (by decide) hLbr hEbr fb2 ?_
    refine q_icmp_lt (tgt := 23) C dX11_letter_12 (by decide) (fun z => absurd z (by have hz := c1; simp only [i32_lt, i32_le, i32_eq, inn_f, Decidable.not_not, tn_m1, tn_0, tn_1, tn_2, tn_3, tn_4, tn_5, tn_6, tn_7, tn_8, tn_10, tn_30, tn_31, tn_32, tn_36, tn_40, tn_50, tn_100, tn_126, tn_200, tn_255, tn_500, tn_512, tn_3000, tn_5000] at hz ⊢; omega)) (fun _ => ?_)
    refine q_aload_n (j := 0) C dX11_letter_15 rfl ?_
    refine q_iconst (v := 2) C dX11_letter_16 (by decide) ?_
    refine q_callV (As := [.int 2]) (rest := []) C (c_refuse 2 hL hE) dX11_letter_17 kV_X11_102 rfl hL hE ck_12 rfl (Nat.le_of_ble_eq_true rfl) ⟨Nat.le_of_ble_eq_true rfl, Nat.le_of_ble_eq_true rfl⟩ ⟨Nat.le_of_ble_eq_true rfl, Nat.le_of_ble_eq_true rfl⟩ (fun vh2 Lh2 Eh2 h2 => ?_)
    obtain ⟨rfl, rfl, rfl⟩ := h2
    refine q_st (st2 := [.int (-1)]) rfl ?_
    refine q_goto (tgt := 35) C dX11_letter_20 (by decide) ?_
    exact q_iret C dX11_letter_35 rfl (Nat.le_of_ble_eq_true rfl) (Nat.le_of_ble_eq_true rfl) rfl
set_option maxHeartbeats 4000000 in
set_option maxRecDepth 100000 in
theorem x_finds {l : Launch} {G : GT} {L : List Nat} {E : Nat → va_E} (k : Int32)  {h0 wd fi : Nat} {f fd : Nat → Value} (hL : h0 ∈ L) (hE : E h0 = ob 12 19 f) (f6 : f 6 = .ref wd) (hLwd : wd ∈ L) (hEwd : E wd = ob 7 12 fd) (fd8 : fd 8 = .ref fi) (hLfi : fi ∈ L) (hEfi : E fi = aI G 5 (fun _ => 0)) : Mq l G yX11_finds cX11_finds 2 (some .int) 5 [.ref h0, .int k] L E 0 0 (fun v L2 E2 => v = some (.int 0)) := by
  refine Mq.mk (by decide) (Nat.le_of_ble_eq_true rfl) ?_
  intro p e s m args below meth c A C
  refine q_aload_n (j := 0) C dX11_finds_0 rfl ?_
  refine q_get (k := 6) (v := .ref wd) C ck_12 dX11_finds_1 w2_50 (by decide) hL hE f6 ?_
  refine q_iload_n (j := 1) C dX11_finds_4 rfl ?_
  refine q_callV (As := [.int k]) (rest := []) C (c_findsOf0 k hLwd hEwd fd8 hLfi hEfi) dX11_finds_5 kV_X11_413 rfl hLwd hEwd ck_7 rfl (Nat.le_of_ble_eq_true rfl) ⟨Nat.le_of_ble_eq_true rfl, Nat.le_of_ble_eq_true rfl⟩ ⟨Nat.le_of_ble_eq_true rfl, Nat.le_of_ble_eq_true rfl⟩ (fun vh1 Lh1 Eh1 h1 => ?_)
  obtain ⟨rfl, rfl, rfl⟩ := h1
  refine q_st (st2 := [.int 0]) rfl ?_
  exact q_iret C dX11_finds_8 rfl (Nat.le_of_ble_eq_true rfl) (Nat.le_of_ble_eq_true rfl) rfl
set_option maxHeartbeats 4000000 in
set_option maxRecDepth 100000 in
theorem x_readings {l : Launch} {G : GT} {L : List Nat} {E : Nat → va_E} (t l0 most : Int32)  {h0 tb md ch : Nat} {f fT fm fc : Nat → Value} (hL : h0 ∈ L) (hE : E h0 = ob 12 19 f) (f4 : f 4 = .ref tb) (hLtb : tb ∈ L) (hEtb : E tb = ob 11 2 fT) (fT0 : fT 0 = .ref md) (fT1 : fT 1 = .ref ch) (hLmd : md ∈ L) (hEmd : E md = ob 0 3 fm) (fm2 : fm 2 = .int 0) (hLch : ch ∈ L) (hEch : E ch = ob 0 3 fc) (fc2 : fc 2 = .int 0) : Mq l G yX11_readings cX11_readings 6 (some .int) 5 [.ref h0, .int t, .int l0, .int most] L E 0 0 (fun v L2 E2 => v = some (.int (-1))) := by
  refine Mq.mk (by decide) (Nat.le_of_ble_eq_true rfl) ?_
  intro p e s m args below meth c A C
  refine q_iload_n (j := 3) C dX11_readings_0 rfl ?_
  refine q_iconst (v := 1) C dX11_readings_1 (by decide) ?_
  refine q_icmp_lt (tgt := 11) C dX11_readings_2 (by decide) (fun c1 => ?_) (fun c1 => ?_)
  · refine q_aload_n (j := 0) C dX11_readings_11 rfl ?_
    refine q_bipush (v := 6) C dX11_readings_12 (by decide) ?_
    refine q_callV (As := [.int 6]) (rest := []) C (c_refuse 6 hL hE) dX11_readings_14 kV_X11_102 rfl hL hE ck_12 rfl (Nat.le_of_ble_eq_true rfl) ⟨Nat.le_of_ble_eq_true rfl, Nat.le_of_ble_eq_true rfl⟩ ⟨Nat.le_of_ble_eq_true rfl, Nat.le_of_ble_eq_true rfl⟩ (fun vh1 Lh1 Eh1 h1 => ?_)
    obtain ⟨rfl, rfl, rfl⟩ := h1
    refine q_st (st2 := [.int (-1)]) rfl ?_
    exact q_iret C dX11_readings_17 rfl (Nat.le_of_ble_eq_true rfl) (Nat.le_of_ble_eq_true rfl) rfl
  · refine q_iload_n (j := 3) C dX11_readings_5 rfl ?_
    refine q_bipush (v := 50) C dX11_readings_6 (by decide) ?_
    refine q_icmp_le (tgt := 18) C dX11_readings_8 (by decide) (fun c2 => ?_) (fun c2 => ?_)
    · refine q_aload_n (j := 0) C dX11_readings_18 rfl ?_
      refine q_get (k := 4) (v := .ref tb) C ck_12 dX11_readings_19 w2_48 (by decide) hL hE f4 ?_
      refine q_iload_n (j := 1) C dX11_readings_22 rfl ?_
      refine q_callV (As := [.int t]) (rest := []) C (c_whole0 t hLtb hEtb fT0 fT1 hLmd hEmd fm2 hLch hEch fc2) dX11_readings_23 kV_X11_231 rfl hLtb hEtb ck_11 rfl (Nat.le_of_ble_eq_true rfl) ⟨Nat.le_of_ble_eq_true rfl, Nat.le_of_ble_eq_true rfl⟩ ⟨Nat.le_of_ble_eq_true rfl, Nat.le_of_ble_eq_true rfl⟩ (fun vh2 Lh2 Eh2 h2 => ?_)
      obtain ⟨rfl, rfl, rfl⟩ := h2
      refine q_st (st2 := [.null]) rfl ?_
      refine q_astoreN (lv2 := [(4, .null), (0, .ref h0), (1, .int t), (2, .int l0), (3, .int most)]) C dX11_readings_26 (by decide) rfl ?_
      refine q_aloadN (j := 0) C dX11_readings_28 rfl ?_
      refine q_ifnonnullN C dX11_readings_30 ?_
      refine q_aload_n (j := 1) C dX11_readings_33 rfl ?_
      refine q_iconst (v := 3) C dX11_readings_34 (by decide) ?_
      refine q_callV (As := [.int 3]) (rest := []) C (c_refuse 3 hL hE) dX11_readings_35 kV_X11_102 rfl hL hE ck_12 rfl (Nat.le_of_ble_eq_true rfl) ⟨Nat.le_of_ble_eq_true rfl, Nat.le_of_ble_eq_true rfl⟩ ⟨Nat.le_of_ble_eq_true rfl, Nat.le_of_ble_eq_true rfl⟩ (fun vh3 Lh3 Eh3 h3 => ?_)
      obtain ⟨rfl, rfl, rfl⟩ := h3
      refine q_st (st2 := [.int (-1)]) rfl ?_
      exact q_iret C dX11_readings_38 rfl (Nat.le_of_ble_eq_true rfl) (Nat.le_of_ble_eq_true rfl) rfl
    · refine q_aload_n (j := 0) C dX11_readings_11 rfl ?_
      refine q_bipush (v := 6) C dX11_readings_12 (by decide) ?_
      refine q_callV (As := [.int 6]) (rest := []) C (c_refuse 6 hL hE) dX11_readings_14 kV_X11_102 rfl hL hE ck_12 rfl (Nat.le_of_ble_eq_true rfl) ⟨Nat.le_of_ble_eq_true rfl, Nat.le_of_ble_eq_true rfl⟩ ⟨Nat.le_of_ble_eq_true rfl, Nat.le_of_ble_eq_true rfl⟩ (fun vh4 Lh4 Eh4 h4 => ?_)
      obtain ⟨rfl, rfl, rfl⟩ := h4
      refine q_st (st2 := [.int (-1)]) rfl ?_
      exact q_iret C dX11_readings_17 rfl (Nat.le_of_ble_eq_true rfl) (Nat.le_of_ble_eq_true rfl) rfl
set_option maxHeartbeats 4000000 in
set_option maxRecDepth 100000 in
theorem x_unreadable {l : Launch} {G : GT} {L : List Nat} {E : Nat → va_E} (t n most : Int32)  {h0 tb md ch : Nat} {f fT fm fc : Nat → Value} (hL : h0 ∈ L) (hE : E h0 = ob 12 19 f) (f4 : f 4 = .ref tb) (hLtb : tb ∈ L) (hEtb : E tb = ob 11 2 fT) (fT0 : fT 0 = .ref md) (fT1 : fT 1 = .ref ch) (hLmd : md ∈ L) (hEmd : E md = ob 0 3 fm) (fm2 : fm 2 = .int 0) (hLch : ch ∈ L) (hEch : E ch = ob 0 3 fc) (fc2 : fc 2 = .int 0) : Mq l G yX11_unreadable cX11_unreadable 7 (some .int) 5 [.ref h0, .int t, .int n, .int most] L E 0 0 (fun v L2 E2 => v = some (.int (-1))) := by
  refine Mq.mk (by decide) (Nat.le_of_ble_eq_true rfl) ?_
  intro p e s m args below meth c A C
  refine q_iload_n (j := 2) C dX11_unreadable_0 rfl ?_
  refine q_iconst (v := 1) C dX11_unreadable_1 (by decide) ?_
  refine q_icmp_lt (tgt := 23) C dX11_unreadable_2 (by decide) (fun c1 => ?_) (fun c1 => ?_)
  · refine q_aload_n (j := 0) C dX11_unreadable_23 rfl ?_
    refine q_bipush (v := 6) C dX11_unreadable_24 (by decide) ?_
    refine q_callV (As := [.int 6]) (rest := []) C (c_refuse 6 hL hE) dX11_unreadable_26 kV_X11_102 rfl hL hE ck_12 rfl (Nat.le_of_ble_eq_true rfl) ⟨Nat.le_of_ble_eq_true rfl, Nat.le_of_ble_eq_true rfl⟩ ⟨Nat.le_of_ble_eq_true rfl, Nat.le_of_ble_eq_true rfl⟩ (fun vh1 Lh1 Eh1 h1 => ?_)
    obtain ⟨rfl, rfl, rfl⟩ := h1
    refine q_st (st2 := [.int (-1)]) rfl ?_
    exact q_iret C dX11_unreadable_29 rfl (Nat.le_of_ble_eq_true rfl) (Nat.le_of_ble_eq_true rfl) rfl
  · refine q_iload_n (j := 2) C dX11_unreadable_5 rfl ?_
    refine q_bipush (v := 6) C dX11_unreadable_6 (by decide) ?_
    refine q_icmp_gt (tgt := 23) C dX11_unreadable_8 (by decide) (fun c2 => ?_) (fun c2 => ?_)
    · refine q_aload_n (j := 0) C dX11_unreadable_23 rfl ?_
      refine q_bipush (v := 6) C dX11_unreadable_24 (by decide) ?_
      refine q_callV (As := [.int 6]) (rest := []) C (c_refuse 6 hL hE) dX11_unreadable_26 kV_X11_102 rfl hL hE ck_12 rfl (Nat.le_of_ble_eq_true rfl) ⟨Nat.le_of_ble_eq_true rfl, Nat.le_of_ble_eq_true rfl⟩ ⟨Nat.le_of_ble_eq_true rfl, Nat.le_of_ble_eq_true rfl⟩ (fun vh2 Lh2 Eh2 h2 => ?_)
      obtain ⟨rfl, rfl, rfl⟩ := h2
      refine q_st (st2 := [.int (-1)]) rfl ?_
      exact q_iret C dX11_unreadable_29 rfl (Nat.le_of_ble_eq_true rfl) (Nat.le_of_ble_eq_true rfl) rfl
    · refine q_iload_n (j := 3) C dX11_unreadable_11 rfl ?_
      refine q_iconst (v := 1) C dX11_unreadable_12 (by decide) ?_
      refine q_icmp_lt (tgt := 23) C dX11_unreadable_13 (by decide) (fun c3 => ?_) (fun c3 => ?_)
      · refine q_aload_n (j := 0) C dX11_unreadable_23 rfl ?_
        refine q_bipush (v := 6) C dX11_unreadable_24 (by decide) ?_
        refine q_callV (As := [.int 6]) (rest := []) C (c_refuse 6 hL hE) dX11_unreadable_26 kV_X11_102 rfl hL hE ck_12 rfl (Nat.le_of_ble_eq_true rfl) ⟨Nat.le_of_ble_eq_true rfl, Nat.le_of_ble_eq_true rfl⟩ ⟨Nat.le_of_ble_eq_true rfl, Nat.le_of_ble_eq_true rfl⟩ (fun vh3 Lh3 Eh3 h3 => ?_)
        obtain ⟨rfl, rfl, rfl⟩ := h3
        refine q_st (st2 := [.int (-1)]) rfl ?_
        exact q_iret C dX11_unreadable_29 rfl (Nat.le_of_ble_eq_true rfl) (Nat.le_of_ble_eq_true rfl) rfl
      · refine q_iload_n (j := 3) C dX11_unreadable_16 rfl ?_
        refine q_sipush (v := 5000) C dX11_unreadable_17 (by decide) ?_
        refine q_icmp_le (tgt := 30) C dX11_unreadable_20 (by decide) (fun c4 => ?_) (fun c4 => ?_)
        · refine q_aload_n (j := 0) C dX11_unreadable_30 rfl ?_
          refine q_get (k := 4) (v := .ref tb) C ck_12 dX11_unreadable_31 w2_48 (by decide) hL hE f4 ?_
          refine q_iload_n (j := 1) C dX11_unreadable_34 rfl ?_
          refine q_callV (As := [.int t]) (rest := []) C (c_whole0 t hLtb hEtb fT0 fT1 hLmd hEmd fm2 hLch hEch fc2) dX11_unreadable_35 kV_X11_231 rfl hLtb hEtb ck_11 rfl (Nat.le_of_ble_eq_true rfl) ⟨Nat.le_of_ble_eq_true rfl, Nat.le_of_ble_eq_true rfl⟩ ⟨Nat.le_of_ble_eq_true rfl, Nat.le_of_ble_eq_true rfl⟩ (fun vh4 Lh4 Eh4 h4 => ?_)
          obtain ⟨rfl, rfl, rfl⟩ := h4
          refine q_st (st2 := [.null]) rfl ?_
          refine q_astoreN (lv2 := [(4, .null), (0, .ref h0), (1, .int t), (2, .int n), (3, .int most)]) C dX11_unreadable_38 (by decide) rfl ?_
          refine q_aloadN (j := 0) C dX11_unreadable_40 rfl ?_
          refine q_ifnonnullN C dX11_unreadable_42 ?_
          refine q_aload_n (j := 1) C dX11_unreadable_45 rfl ?_
          refine q_iconst (v := 3) C dX11_unreadable_46 (by decide) ?_
          refine q_callV (As := [.int 3]) (rest := []) C (c_refuse 3 hL hE) dX11_unreadable_47 kV_X11_102 rfl hL hE ck_12 rfl (Nat.le_of_ble_eq_true rfl) ⟨Nat.le_of_ble_eq_true rfl, Nat.le_of_ble_eq_true rfl⟩ ⟨Nat.le_of_ble_eq_true rfl, Nat.le_of_ble_eq_true rfl⟩ (fun vh5 Lh5 Eh5 h5 => ?_)
          obtain ⟨rfl, rfl, rfl⟩ := h5
          refine q_st (st2 := [.int (-1)]) rfl ?_
          exact q_iret C dX11_unreadable_50 rfl (Nat.le_of_ble_eq_true rfl) (Nat.le_of_ble_eq_true rfl) rfl
        · refine q_aload_n (j := 0) C dX11_unreadable_23 rfl ?_
          refine q_bipush (v := 6) C dX11_unreadable_24 (by decide) ?_
          refine q_callV (As := [.int 6]) (rest := []) C (c_refuse 6 hL hE) dX11_unreadable_26 kV_X11_102 rfl hL hE ck_12 rfl (Nat.le_of_ble_eq_true rfl) ⟨Nat.le_of_ble_eq_true rfl, Nat.le_of_ble_eq_true rfl⟩ ⟨Nat.le_of_ble_eq_true rfl, Nat.le_of_ble_eq_true rfl⟩ (fun vh6 Lh6 Eh6 h6 => ?_)
          obtain ⟨rfl, rfl, rfl⟩ := h6
          refine q_st (st2 := [.int (-1)]) rfl ?_
          exact q_iret C dX11_unreadable_29 rfl (Nat.le_of_ble_eq_true rfl) (Nat.le_of_ble_eq_true rfl) rfl
set_option maxHeartbeats 4000000 in
set_option maxRecDepth 100000 in
theorem x_cut {l : Launch} {G : GT} {L : List Nat} {E : Nat → va_E} (l0 n : Int32)  {h0 sh : Nat} {f fs : Nat → Value} (hL : h0 ∈ L) (hE : E h0 = ob 12 19 f) (f9 : f 9 = .ref sh) (hLsh : sh ∈ L) (hEsh : E sh = ob 8 3 fs) (fs1 : fs 1 = .int 0) : Mq l G yX11_cut cX11_cut 4 (some .int) 5 [.ref h0, .int l0, .int n] L E 0 0 (fun v L2 E2 => v = some (.int (-1))) := by
  refine Mq.mk (by decide) (Nat.le_of_ble_eq_true rfl) ?_
  intro p e s m args below meth c A C
  refine q_iload_n (j := 2) C dX11_cut_0 rfl ?_
  refine q_sipush (v := 200) C dX11_cut_1 (by decide) ?_
  refine q_icmp_le (tgt := 14) C dX11_cut_4 (by decide) (fun c1 => ?_) (fun c1 => ?_)
  · refine q_iload_n (j := 2) C dX11_cut_14 rfl ?_
    refine q_if_ge (tgt := 24) C dX11_cut_15 (by decide) (fun c2 => ?_) (fun c2 => ?_)
    · refine q_aload_n (j := 0) C dX11_cut_24 rfl ?_
      refine q_get (k := 9) (v := .ref sh) C ck_12 dX11_cut_25 w2_53 (by decide) hL hE f9 ?_
      refine q_iload_n (j := 1) C dX11_cut_28 rfl ?_
      refine q_callV (As := [.int l0]) (rest := []) C (c_present0 l0 hLsh hEsh fs1) dX11_cut_29 kV_X11_288 rfl hLsh hEsh ck_8 rfl (Nat.le_of_ble_eq_true rfl) ⟨Nat.le_of_ble_eq_true rfl, Nat.le_of_ble_eq_true rfl⟩ ⟨Nat.le_of_ble_eq_true rfl, Nat.le_of_ble_eq_true rfl⟩ (fun vh1 Lh1 Eh1 h1 => ?_)
      obtain ⟨rfl, rfl, rfl⟩ := h1
      refine q_st (st2 := [.null]) rfl ?_
      refine q_astore_nN (lv2 := [(3, .null), (0, .ref h0), (1, .int l0), (2, .int n)]) C dX11_cut_32 (by decide) rfl ?_
      refine q_aload_nN (j := 0) C dX11_cut_33 rfl ?_
      refine q_ifnonnullN C dX11_cut_34 ?_
      refine q_aload_n (j := 1) C dX11_cut_37 rfl ?_
      refine q_aload_n (j := 1) C dX11_cut_38 rfl ?_
      refine q_get (k := 9) (v := .ref sh) C ck_12 dX11_cut_39 w2_53 (by decide) hL hE f9 ?_
      refine q_iload_n (j := 2) C dX11_cut_42 rfl ?_
      refine q_callV (As := [.int l0]) (rest := [.ref h0]) C (c_whyNone0 l0 hLsh hEsh fs1) dX11_cut_43 kV_X11_292 rfl hLsh hEsh ck_8 rfl (Nat.le_of_ble_eq_true rfl) ⟨Nat.le_of_ble_eq_true rfl, Nat.le_of_ble_eq_true rfl⟩ ⟨Nat.le_of_ble_eq_true rfl, Nat.le_of_ble_eq_true rfl⟩ (fun vh2 Lh2 Eh2 h2 => ?_)
      obtain ⟨rfl, rfl, rfl⟩ := h2
      refine q_st (st2 := [.int 2, .ref h0]) rfl ?_
      refine q_callV (As := [.int 2]) (rest := []) C (c_refuse 2 hL hE) dX11_cut_46 kV_X11_102 rfl hL hE ck_12 rfl (Nat.le_of_ble_eq_true rfl) ⟨Nat.le_of_ble_eq_true rfl, Nat.le_of_ble_eq_true rfl⟩ ⟨Nat.le_of_ble_eq_true rfl, Nat.le_of_ble_eq_true rfl⟩ (fun vh3 Lh3 Eh3 h3 => ?_)
      obtain ⟨rfl, rfl, rfl⟩ := h3
      refine q_st (st2 := [.int (-1)]) rfl ?_
      exact q_iret C dX11_cut_49 rfl (Nat.le_of_ble_eq_true rfl) (Nat.le_of_ble_eq_true rfl) rfl
    · refine q_aload_n (j := 0) C dX11_cut_18 rfl ?_
      refine q_iconst (v := 5) C dX11_cut_19 (by decide) ?_
      refine q_callV (As := [.int 5]) (rest := []) C (c_refuse 5 hL hE) dX11_cut_20 kV_X11_102 rfl hL hE ck_12 rfl (Nat.le_of_ble_eq_true rfl) ⟨Nat.le_of_ble_eq_true rfl, Nat.le_of_ble_eq_true rfl⟩ ⟨Nat.le_of_ble_eq_true rfl, Nat.le_of_ble_eq_true rfl⟩ (fun vh4 Lh4 Eh4 h4 => ?_)
      obtain ⟨rfl, rfl, rfl⟩ := h4
      refine q_st (st2 := [.int (-1)]) rfl ?_
      exact q_iret C dX11_cut_23 rfl (Nat.le_of_ble_eq_true rfl) (Nat.le_of_ble_eq_true rfl) rfl
  · refine q_aload_n (j := 0) C dX11_cut_7 rfl ?_
    refine q_bipush (v := 6) C dX11_cut_8 (by decide) ?_
    refine q_callV (As := [.int 6]) (rest := []) C (c_refuse 6 hL hE) dX11_cut_10 kV_X11_102 rfl hL hE ck_12 rfl (Nat.le_of_ble_eq_true rfl) ⟨Nat.le_of_ble_eq_true rfl, Nat.le_of_ble_eq_true rfl⟩ ⟨Nat.le_of_ble_eq_true rfl, Nat.le_of_ble_eq_true rfl⟩ (fun vh5 Lh5 Eh5 h5 => ?_)
    obtain ⟨rfl, rfl, rfl⟩ := h5
    refine q_st (st2 := [.int (-1)]) rfl ?_
    exact q_iret C dX11_cut_13 rfl (Nat.le_of_ble_eq_true rfl) (Nat.le_of_ble_eq_true rfl) rfl
set_option maxHeartbeats 4000000 in
set_option maxRecDepth 100000 in
theorem x_end {l : Launch} {G : GT} {L : List Nat} {E : Nat → va_E} (n : Int32)  {h0 tp : Nat} {f ft : Nat → Value} (hL : h0 ∈ L) (hE : E h0 = ob 12 19 f) (f0 : f 0 = .ref tp) (hLtp : tp ∈ L) (hEtp : E tp = ob 2 3 ft) (ft2 : ft 2 = .int 0) : Mq l G yX11_end cX11_end 2 (some .int) 5 [.ref h0, .int n] L E 0 0 (fun v L2 E2 => v = some (.int (an_end n))) := by
  refine Mq.mk (by decide) (Nat.le_of_ble_eq_true rfl) ?_
  intro p e s m args below meth c A C
  refine q_iload_n (j := 1) C dX11_end_0 rfl ?_
  refine q_if_ge (tgt := 10) C dX11_end_1 (by decide) (fun c1 => ?_) (fun c1 => ?_)
  · refine q_iload_n (j := 1) C dX11_end_10 rfl ?_
    refine q_aload_n (j := 0) C dX11_end_11 rfl ?_
    refine q_get (k := 0) (v := .ref tp) C ck_12 dX11_end_12 w2_44 (by decide) hL hE f0 ?_
    refine q_get (k := 2) (v := .int 0) C ck_2 dX11_end_15 w1_44 (by decide) hLtp hEtp ft2 ?_
    refine q_icmp_le (tgt := 28) C dX11_end_18 (by decide) (fun c2 => ?_) (fun c2 => ?_)
    · refine q_aload_n (j := 0) C dX11_end_28 rfl ?_
      refine q_get (k := 0) (v := .ref tp) C ck_12 dX11_end_29 w2_44 (by decide) hL hE f0 ?_
      refine q_iload_n (j := 1) C dX11_end_32 rfl ?_
      have hn0 : n = 0 := by simp only [i32_lt, i32_le, i32_eq, inn_f, Decidable.not_not, tn_m1, tn_0, tn_1, tn_2, tn_3, tn_4, tn_5, tn_6, tn_7, tn_8, tn_10, tn_30, tn_31, tn_32, tn_36, tn_40, tn_50, tn_100, tn_126, tn_200, tn_255, tn_500, tn_512, tn_3000, tn_5000] at c1; simp only [i32_lt, i32_le, i32_eq, inn_f, Decidable.not_not, tn_m1, tn_0, tn_1, tn_2, tn_3, tn_4, tn_5, tn_6, tn_7, tn_8, tn_10, tn_30, tn_31, tn_32, tn_36, tn_40, tn_50, tn_100, tn_126, tn_200, tn_255, tn_500, tn_512, tn_3000, tn_5000] at c2; rw [i32_eq]; simp only [i32_lt, i32_le, i32_eq, inn_f, Decidable.not_not, tn_m1, tn_0, tn_1, tn_2, tn_3, tn_4, tn_5, tn_6, tn_7, tn_8, tn_10, tn_30, tn_31, tn_32, tn_36, tn_40, tn_50, tn_100, tn_126, tn_200, tn_255, tn_500, tn_512, tn_3000, tn_5000]; omega
      refine q_callV (As := [.int n]) (rest := []) C (c_ikeep0 n hn0 hLtp hEtp ft2) dX11_end_33 kV_X11_115 rfl hLtp hEtp ck_2 rfl (Nat.le_of_ble_eq_true rfl) ⟨Nat.le_of_ble_eq_true rfl, Nat.le_of_ble_eq_true rfl⟩ ⟨Nat.le_of_ble_eq_true rfl, Nat.le_of_ble_eq_true rfl⟩ (fun vh1 Lh1 Eh1 h1 => ?_)
      obtain ⟨rfl, rfl, rfl⟩ := h1
      refine q_st (st2 := []) rfl ?_
      refine q_aload_n (j := 0) C dX11_end_36 rfl ?_
      refine q_iload_n (j := 1) C dX11_end_37 rfl ?_
      refine q_callV (As := [.int n]) (rest := []) C (c_done n hL ((va_up_ne _ _ (ne_ob hE hEtp (by decide))).trans hE)) dX11_end_38 kV_X11_109 rfl hL ((va_up_ne _ _ (ne_ob hE hEtp (by decide))).trans hE) ck_12 rfl (Nat.le_of_ble_eq_true rfl) ⟨Nat.le_of_ble_eq_true rfl, Nat.le_of_ble_eq_true rfl⟩ ⟨Nat.le_of_ble_eq_true rfl, Nat.le_of_ble_eq_true rfl⟩ (fun vh2 Lh2 Eh2 h2 => ?_)
      obtain ⟨rfl, rfl, rfl⟩ := h2
      refine q_st (st2 := [.int n]) rfl ?_
      exact q_iret C dX11_end_41 rfl (Nat.le_of_ble_eq_true rfl) (Nat.le_of_ble_eq_true rfl) (by refine congrArg (fun z => some (Value.int z)) ?_; unfold an_end; (try simp only [i32_lt, i32_le, i32_eq, inn_f, Decidable.not_not, tn_m1, tn_0, tn_1, tn_2, tn_3, tn_4, tn_5, tn_6, tn_7, tn_8, tn_10, tn_30, tn_31, tn_32, tn_36, tn_40, tn_50, tn_100, tn_126, tn_200, tn_255, tn_500, tn_512, tn_3000, tn_5000] at c1); (try simp only [i32_lt, i32_le, i32_eq, inn_f, Decidable.not_not, tn_m1, tn_0, tn_1, tn_2, tn_3, tn_4, tn_5, tn_6, tn_7, tn_8, tn_10, tn_30, tn_31, tn_32, tn_36, tn_40, tn_50, tn_100, tn_126, tn_200, tn_255, tn_500, tn_512, tn_3000, tn_5000] at c2); split <;> rename_i hz <;> (try simp only [i32_lt, i32_le, i32_eq, inn_f, Decidable.not_not, tn_m1, tn_0, tn_1, tn_2, tn_3, tn_4, tn_5, tn_6, tn_7, tn_8, tn_10, tn_30, tn_31, tn_32, tn_36, tn_40, tn_50, tn_100, tn_126, tn_200, tn_255, tn_500, tn_512, tn_3000, tn_5000] at hz) <;> first | rfl | (exfalso; omega) | (rw [i32_eq]; simp only [i32_lt, i32_le, i32_eq, inn_f, Decidable.not_not, tn_m1, tn_0, tn_1, tn_2, tn_3, tn_4, tn_5, tn_6, tn_7, tn_8, tn_10, tn_30, tn_31, tn_32, tn_36, tn_40, tn_50, tn_100, tn_126, tn_200, tn_255, tn_500, tn_512, tn_3000, tn_5000]; omega))
    · refine q_aload_n (j := 0) C dX11_end_21 rfl ?_
      refine q_bipush (v := 6) C dX11_end_22 (by decide) ?_
      refine q_callV (As := [.int 6]) (rest := []) C (c_refuse 6 hL hE) dX11_end_24 kV_X11_102 rfl hL hE ck_12 rfl (Nat.le_of_ble_eq_true rfl) ⟨Nat.le_of_ble_eq_true rfl, Nat.le_of_ble_eq_true rfl⟩ ⟨Nat.le_of_ble_eq_true rfl, Nat.le_of_ble_eq_true rfl⟩ (fun vh3 Lh3 Eh3 h3 => ?_)
      obtain ⟨rfl, rfl, rfl⟩ := h3
      refine q_st (st2 := [.int (-1)]) rfl ?_
      exact q_iret C dX11_end_27 rfl (Nat.le_of_ble_eq_true rfl) (Nat.le_of_ble_eq_true rfl) (by refine congrArg (fun z => some (Value.int z)) ?_; unfold an_end; (try simp only [i32_lt, i32_le, i32_eq, inn_f, Decidable.not_not, tn_m1, tn_0, tn_1, tn_2, tn_3, tn_4, tn_5, tn_6, tn_7, tn_8, tn_10, tn_30, tn_31, tn_32, tn_36, tn_40, tn_50, tn_100, tn_126, tn_200, tn_255, tn_500, tn_512, tn_3000, tn_5000] at c1); (try simp only [i32_lt, i32_le, i32_eq, inn_f, Decidable.not_not, tn_m1, tn_0, tn_1, tn_2, tn_3, tn_4, tn_5, tn_6, tn_7, tn_8, tn_10, tn_30, tn_31, tn_32, tn_36, tn_40, tn_50, tn_100, tn_126, tn_200, tn_255, tn_500, tn_512, tn_3000, tn_5000] at c2); split <;> rename_i hz <;> (try simp only [i32_lt, i32_le, i32_eq, inn_f, Decidable.not_not, tn_m1, tn_0, tn_1, tn_2, tn_3, tn_4, tn_5, tn_6, tn_7, tn_8, tn_10, tn_30, tn_31, tn_32, tn_36, tn_40, tn_50, tn_100, tn_126, tn_200, tn_255, tn_500, tn_512, tn_3000, tn_5000] at hz) <;> first | rfl | (exfalso; omega) | (rw [i32_eq]; simp only [i32_lt, i32_le, i32_eq, inn_f, Decidable.not_not, tn_m1, tn_0, tn_1, tn_2, tn_3, tn_4, tn_5, tn_6, tn_7, tn_8, tn_10, tn_30, tn_31, tn_32, tn_36, tn_40, tn_50, tn_100, tn_126, tn_200, tn_255, tn_500, tn_512, tn_3000, tn_5000]; omega))
  · refine q_aload_n (j := 0) C dX11_end_4 rfl ?_
    refine q_iconst (v := 5) C dX11_end_5 (by decide) ?_
    refine q_callV (As := [.int 5]) (rest := []) C (c_refuse 5 hL hE) dX11_end_6 kV_X11_102 rfl hL hE ck_12 rfl (Nat.le_of_ble_eq_true rfl) ⟨Nat.le_of_ble_eq_true rfl, Nat.le_of_ble_eq_true rfl⟩ ⟨Nat.le_of_ble_eq_true rfl, Nat.le_of_ble_eq_true rfl⟩ (fun vh4 Lh4 Eh4 h4 => ?_)
    obtain ⟨rfl, rfl, rfl⟩ := h4
    refine q_st (st2 := [.int (-1)]) rfl ?_
    exact q_iret C dX11_end_9 rfl (Nat.le_of_ble_eq_true rfl) (Nat.le_of_ble_eq_true rfl) (by refine congrArg (fun z => some (Value.int z)) ?_; unfold an_end; (try simp only [i32_lt, i32_le, i32_eq, inn_f, Decidable.not_not, tn_m1, tn_0, tn_1, tn_2, tn_3, tn_4, tn_5, tn_6, tn_7, tn_8, tn_10, tn_30, tn_31, tn_32, tn_36, tn_40, tn_50, tn_100, tn_126, tn_200, tn_255, tn_500, tn_512, tn_3000, tn_5000] at c1); split <;> rename_i hz <;> (try simp only [i32_lt, i32_le, i32_eq, inn_f, Decidable.not_not, tn_m1, tn_0, tn_1, tn_2, tn_3, tn_4, tn_5, tn_6, tn_7, tn_8, tn_10, tn_30, tn_31, tn_32, tn_36, tn_40, tn_50, tn_100, tn_126, tn_200, tn_255, tn_500, tn_512, tn_3000, tn_5000] at hz) <;> first | rfl | (exfalso; omega) | (rw [i32_eq]; simp only [i32_lt, i32_le, i32_eq, inn_f, Decidable.not_not, tn_m1, tn_0, tn_1, tn_2, tn_3, tn_4, tn_5, tn_6, tn_7, tn_8, tn_10, tn_30, tn_31, tn_32, tn_36, tn_40, tn_50, tn_100, tn_126, tn_200, tn_255, tn_500, tn_512, tn_3000, tn_5000]; omega))
set_option maxHeartbeats 4000000 in
set_option maxRecDepth 100000 in
theorem x_copyLines {l : Launch} {G : GT} {L : List Nat} {E : Nat → va_E} (a b n : Int32)  {h0 sh : Nat} {f fs : Nat → Value} (hL : h0 ∈ L) (hE : E h0 = ob 12 19 f) (f9 : f 9 = .ref sh) (hLsh : sh ∈ L) (hEsh : E sh = ob 8 3 fs) (fs1 : fs 1 = .int 0) : Mq l G yX11_copyLines cX11_copyLines 7 (some .int) 5 [.ref h0, .int a, .int b, .int n] L E 0 0 (fun v L2 E2 => v = some (.int (an_end n))) := by
  refine Mq.mk (by decide) (Nat.le_of_ble_eq_true rfl) ?_
  intro p e s m args below meth c A C
  refine q_iload_n (j := 3) C dX11_copyLines_0 rfl ?_
  refine q_bipush (v := 10) C dX11_copyLines_1 (by decide) ?_
  refine q_icmp_le (tgt := 13) C dX11_copyLines_3 (by decide) (fun c1 => ?_) (fun c1 => ?_)
  · refine q_iload_n (j := 3) C dX11_copyLines_13 rfl ?_
    refine q_if_ge (tgt := 23) C dX11_copyLines_14 (by decide) (fun c2 => ?_) (fun c2 => ?_)
    · refine q_aload_n (j := 0) C dX11_copyLines_23 rfl ?_
      refine q_iconst (v := 0) C dX11_copyLines_24 (by decide) ?_
      refine q_put (k := 15) C ck_12 dX11_copyLines_25 w2_59 (by decide) rfl hL hE rfl rfl ?_
      refine q_iconst (v := 0) C dX11_copyLines_28 (by decide) ?_
      refine q_istore (lv2 := [(4, .int 0), (0, .ref h0), (1, .int a), (2, .int b), (3, .int n)]) C dX11_copyLines_29 (by decide) rfl ?_
      refine q_iload (j := 0) C dX11_copyLines_31 rfl ?_
      refine q_iload_n (j := 4) C dX11_copyLines_33 rfl ?_
      refine q_icmp_ge (tgt := 116) C dX11_copyLines_34 (by decide) (fun c3 => ?_) (fun c3 => ?_)
      · refine q_aload_n (j := 1) C dX11_copyLines_116 rfl ?_
        refine q_iload_n (j := 4) C dX11_copyLines_117 rfl ?_
        refine q_callV (As := [.int n]) (rest := []) C (c_done n hL (va_up_self _ _ _)) dX11_copyLines_118 kV_X11_109 rfl hL (va_up_self _ _ _) ck_12 rfl (Nat.le_of_ble_eq_true rfl) ⟨Nat.le_of_ble_eq_true rfl, Nat.le_of_ble_eq_true rfl⟩ ⟨Nat.le_of_ble_eq_true rfl, Nat.le_of_ble_eq_true rfl⟩ (fun vh1 Lh1 Eh1 h1 => ?_)
        obtain ⟨rfl, rfl, rfl⟩ := h1
        refine q_st (st2 := [.int n]) rfl ?_
        exact q_iret C dX11_copyLines_121 rfl (Nat.le_of_ble_eq_true rfl) (Nat.le_of_ble_eq_true rfl) (by refine congrArg (fun z => some (Value.int z)) ?_; unfold an_end; (try simp only [i32_lt, i32_le, i32_eq, inn_f, Decidable.not_not, tn_m1, tn_0, tn_1, tn_2, tn_3, tn_4, tn_5, tn_6, tn_7, tn_8, tn_10, tn_30, tn_31, tn_32, tn_36, tn_40, tn_50, tn_100, tn_126, tn_200, tn_255, tn_500, tn_512, tn_3000, tn_5000] at c1); (try simp only [i32_lt, i32_le, i32_eq, inn_f, Decidable.not_not, tn_m1, tn_0, tn_1, tn_2, tn_3, tn_4, tn_5, tn_6, tn_7, tn_8, tn_10, tn_30, tn_31, tn_32, tn_36, tn_40, tn_50, tn_100, tn_126, tn_200, tn_255, tn_500, tn_512, tn_3000, tn_5000] at c2); (try simp only [i32_lt, i32_le, i32_eq, inn_f, Decidable.not_not, tn_m1, tn_0, tn_1, tn_2, tn_3, tn_4, tn_5, tn_6, tn_7, tn_8, tn_10, tn_30, tn_31, tn_32, tn_36, tn_40, tn_50, tn_100, tn_126, tn_200, tn_255, tn_500, tn_512, tn_3000, tn_5000] at c3); split <;> rename_i hz <;> (try simp only [i32_lt, i32_le, i32_eq, inn_f, Decidable.not_not, tn_m1, tn_0, tn_1, tn_2, tn_3, tn_4, tn_5, tn_6, tn_7, tn_8, tn_10, tn_30, tn_31, tn_32, tn_36, tn_40, tn_50, tn_100, tn_126, tn_200, tn_255, tn_500, tn_512, tn_3000, tn_5000] at hz) <;> first | rfl | (exfalso; omega) | (rw [i32_eq]; simp only [i32_lt, i32_le, i32_eq, inn_f, Decidable.not_not, tn_m1, tn_0, tn_1, tn_2, tn_3, tn_4, tn_5, tn_6, tn_7, tn_8, tn_10, tn_30, tn_31, tn_32, tn_36, tn_40, tn_50, tn_100, tn_126, tn_200, tn_255, tn_500, tn_512, tn_3000, tn_5000]; omega))
      · refine q_aload_n (j := 1) C dX11_copyLines_37 rfl ?_
        refine q_get (k := 9) (v := .ref sh) C ck_12 dX11_copyLines_38 w2_53 (by decide) hL (va_up_self _ _ _) f9 ?_
        refine q_iload_n (j := 2) C dX11_copyLines_41 rfl ?_
        refine q_iload (j := 0) C dX11_copyLines_42 rfl ?_
        refine q_iadd (v := (a + 0)) C dX11_copyLines_44 rfl ?_
        refine q_callV (As := [.int (a + 0)]) (rest := []) C (c_sat0 (a + 0) hLsh ((va_up_ne _ _ (ne_ob hEsh hE (by decide))).trans hEsh) fs1) dX11_copyLines_45 kV_X11_308 rfl hLsh ((va_up_ne _ _ (ne_ob hEsh hE (by decide))).trans hEsh) ck_8 rfl (Nat.le_of_ble_eq_true rfl) ⟨Nat.le_of_ble_eq_true rfl, Nat.le_of_ble_eq_true rfl⟩ ⟨Nat.le_of_ble_eq_true rfl, Nat.le_of_ble_eq_true rfl⟩ (fun vh2 Lh2 Eh2 h2 => ?_)
        obtain ⟨rfl, rfl, rfl⟩ := h2
        refine q_st (st2 := [.null]) rfl ?_
        refine q_astoreN (lv2 := [(5, .null), (4, .int 0), (0, .ref h0), (1, .int a), (2, .int b), (3, .int n)]) C dX11_copyLines_48 (by decide) rfl ?_
        refine q_aload_n (j := 2) C dX11_copyLines_50 rfl ?_
        refine q_get (k := 9) (v := .ref sh) C ck_12 dX11_copyLines_51 w2_53 (by decide) hL (va_up_self _ _ _) f9 ?_
        refine q_iload_n (j := 4) C dX11_copyLines_54 rfl ?_
        refine q_iload (j := 1) C dX11_copyLines_55 rfl ?_
        refine q_iadd (v := (b + 0)) C dX11_copyLines_57 rfl ?_
        refine q_callV (As := [.int (b + 0)]) (rest := []) C (c_sat0 (b + 0) hLsh ((va_up_ne _ _ (ne_ob hEsh hE (by decide))).trans hEsh) fs1) dX11_copyLines_58 kV_X11_308 rfl hLsh ((va_up_ne _ _ (ne_ob hEsh hE (by decide))).trans hEsh) ck_8 rfl (Nat.le_of_ble_eq_true rfl) ⟨Nat.le_of_ble_eq_true rfl, Nat.le_of_ble_eq_true rfl⟩ ⟨Nat.le_of_ble_eq_true rfl, Nat.le_of_ble_eq_true rfl⟩ (fun vh3 Lh3 Eh3 h3 => ?_)
        obtain ⟨rfl, rfl, rfl⟩ := h3
        refine q_st (st2 := [.null]) rfl ?_
        refine q_astoreN (lv2 := [(6, .null), (5, .null), (4, .int 0), (0, .ref h0), (1, .int a), (2, .int b), (3, .int n)]) C dX11_copyLines_61 (by decide) rfl ?_
        refine q_aloadN (j := 1) C dX11_copyLines_63 rfl ?_
        refine q_ifnullN (tgt := 73) C dX11_copyLines_65 (by decide) ?_
        refine q_aload_n (j := 3) C dX11_copyLines_73 rfl ?_
        refine q_iconst (v := 2) C dX11_copyLines_74 (by decide) ?_
        refine q_callV (As := [.int 2]) (rest := []) C (c_refuse 2 hL (va_up_self _ _ _)) dX11_copyLines_75 kV_X11_102 rfl hL (va_up_self _ _ _) ck_12 rfl (Nat.le_of_ble_eq_true rfl) ⟨Nat.le_of_ble_eq_true rfl, Nat.le_of_ble_eq_true rfl⟩ ⟨Nat.le_of_ble_eq_true rfl, Nat.le_of_ble_eq_true rfl⟩ (fun vh4 Lh4 Eh4 h4 => ?_)
        obtain ⟨rfl, rfl, rfl⟩ := h4
        refine q_st (st2 := [.int (-1)]) rfl ?_
        exact q_iret C dX11_copyLines_78 rfl (Nat.le_of_ble_eq_true rfl) (Nat.le_of_ble_eq_true rfl) (by refine congrArg (fun z => some (Value.int z)) ?_; unfold an_end; (try simp only [i32_lt, i32_le, i32_eq, inn_f, Decidable.not_not, tn_m1, tn_0, tn_1, tn_2, tn_3, tn_4, tn_5, tn_6, tn_7, tn_8, tn_10, tn_30, tn_31, tn_32, tn_36, tn_40, tn_50, tn_100, tn_126, tn_200, tn_255, tn_500, tn_512, tn_3000, tn_5000] at c1); (try simp only [i32_lt, i32_le, i32_eq, inn_f, Decidable.not_not, tn_m1, tn_0, tn_1, tn_2, tn_3, tn_4, tn_5, tn_6, tn_7, tn_8, tn_10, tn_30, tn_31, tn_32, tn_36, tn_40, tn_50, tn_100, tn_126, tn_200, tn_255, tn_500, tn_512, tn_3000, tn_5000] at c2); (try simp only [i32_lt, i32_le, i32_eq, inn_f, Decidable.not_not, tn_m1, tn_0, tn_1, tn_2, tn_3, tn_4, tn_5, tn_6, tn_7, tn_8, tn_10, tn_30, tn_31, tn_32, tn_36, tn_40, tn_50, tn_100, tn_126, tn_200, tn_255, tn_500, tn_512, tn_3000, tn_5000] at c3); split <;> rename_i hz <;> (try simp only [i32_lt, i32_le, i32_eq, inn_f, Decidable.not_not, tn_m1, tn_0, tn_1, tn_2, tn_3, tn_4, tn_5, tn_6, tn_7, tn_8, tn_10, tn_30, tn_31, tn_32, tn_36, tn_40, tn_50, tn_100, tn_126, tn_200, tn_255, tn_500, tn_512, tn_3000, tn_5000] at hz) <;> first | rfl | (exfalso; omega) | (rw [i32_eq]; simp only [i32_lt, i32_le, i32_eq, inn_f, Decidable.not_not, tn_m1, tn_0, tn_1, tn_2, tn_3, tn_4, tn_5, tn_6, tn_7, tn_8, tn_10, tn_30, tn_31, tn_32, tn_36, tn_40, tn_50, tn_100, tn_126, tn_200, tn_255, tn_500, tn_512, tn_3000, tn_5000]; omega))
    · refine q_aload_n (j := 0) C dX11_copyLines_17 rfl ?_
      refine q_iconst (v := 5) C dX11_copyLines_18 (by decide) ?_
      refine q_callV (As := [.int 5]) (rest := []) C (c_refuse 5 hL hE) dX11_copyLines_19 kV_X11_102 rfl hL hE ck_12 rfl (Nat.le_of_ble_eq_true rfl) ⟨Nat.le_of_ble_eq_true rfl, Nat.le_of_ble_eq_true rfl⟩ ⟨Nat.le_of_ble_eq_true rfl, Nat.le_of_ble_eq_true rfl⟩ (fun vh5 Lh5 Eh5 h5 => ?_)
      obtain ⟨rfl, rfl, rfl⟩ := h5
      refine q_st (st2 := [.int (-1)]) rfl ?_
      exact q_iret C dX11_copyLines_22 rfl (Nat.le_of_ble_eq_true rfl) (Nat.le_of_ble_eq_true rfl) (by refine congrArg (fun z => some (Value.int z)) ?_; unfold an_end; (try simp only [i32_lt, i32_le, i32_eq, inn_f, Decidable.not_not, tn_m1, tn_0, tn_1, tn_2, tn_3, tn_4, tn_5, tn_6, tn_7, tn_8, tn_10, tn_30, tn_31, tn_32, tn_36, tn_40, tn_50, tn_100, tn_126, tn_200, tn_255, tn_500, tn_512, tn_3000, tn_5000] at c1); (try simp only [i32_lt, i32_le, i32_eq, inn_f, Decidable.not_not, tn_m1, tn_0, tn_1, tn_2, tn_3, tn_4, tn_5, tn_6, tn_7, tn_8, tn_10, tn_30, tn_31, tn_32, tn_36, tn_40, tn_50, tn_100, tn_126, tn_200, tn_255, tn_500, tn_512, tn_3000, tn_5000] at c2); split <;> rename_i hz <;> (try simp only [i32_lt, i32_le, i32_eq, inn_f, Decidable.not_not, tn_m1, tn_0, tn_1, tn_2, tn_3, tn_4, tn_5, tn_6, tn_7, tn_8, tn_10, tn_30, tn_31, tn_32, tn_36, tn_40, tn_50, tn_100, tn_126, tn_200, tn_255, tn_500, tn_512, tn_3000, tn_5000] at hz) <;> first | rfl | (exfalso; omega) | (rw [i32_eq]; simp only [i32_lt, i32_le, i32_eq, inn_f, Decidable.not_not, tn_m1, tn_0, tn_1, tn_2, tn_3, tn_4, tn_5, tn_6, tn_7, tn_8, tn_10, tn_30, tn_31, tn_32, tn_36, tn_40, tn_50, tn_100, tn_126, tn_200, tn_255, tn_500, tn_512, tn_3000, tn_5000]; omega))
  · refine q_aload_n (j := 0) C dX11_copyLines_6 rfl ?_
    refine q_bipush (v := 6) C dX11_copyLines_7 (by decide) ?_
    refine q_callV (As := [.int 6]) (rest := []) C (c_refuse 6 hL hE) dX11_copyLines_9 kV_X11_102 rfl hL hE ck_12 rfl (Nat.le_of_ble_eq_true rfl) ⟨Nat.le_of_ble_eq_true rfl, Nat.le_of_ble_eq_true rfl⟩ ⟨Nat.le_of_ble_eq_true rfl, Nat.le_of_ble_eq_true rfl⟩ (fun vh6 Lh6 Eh6 h6 => ?_)
    obtain ⟨rfl, rfl, rfl⟩ := h6
    refine q_st (st2 := [.int (-1)]) rfl ?_
    exact q_iret C dX11_copyLines_12 rfl (Nat.le_of_ble_eq_true rfl) (Nat.le_of_ble_eq_true rfl) (by refine congrArg (fun z => some (Value.int z)) ?_; unfold an_end; (try simp only [i32_lt, i32_le, i32_eq, inn_f, Decidable.not_not, tn_m1, tn_0, tn_1, tn_2, tn_3, tn_4, tn_5, tn_6, tn_7, tn_8, tn_10, tn_30, tn_31, tn_32, tn_36, tn_40, tn_50, tn_100, tn_126, tn_200, tn_255, tn_500, tn_512, tn_3000, tn_5000] at c1); split <;> rename_i hz <;> (try simp only [i32_lt, i32_le, i32_eq, inn_f, Decidable.not_not, tn_m1, tn_0, tn_1, tn_2, tn_3, tn_4, tn_5, tn_6, tn_7, tn_8, tn_10, tn_30, tn_31, tn_32, tn_36, tn_40, tn_50, tn_100, tn_126, tn_200, tn_255, tn_500, tn_512, tn_3000, tn_5000] at hz) <;> first | rfl | (exfalso; omega) | (rw [i32_eq]; simp only [i32_lt, i32_le, i32_eq, inn_f, Decidable.not_not, tn_m1, tn_0, tn_1, tn_2, tn_3, tn_4, tn_5, tn_6, tn_7, tn_8, tn_10, tn_30, tn_31, tn_32, tn_36, tn_40, tn_50, tn_100, tn_126, tn_200, tn_255, tn_500, tn_512, tn_3000, tn_5000]; omega))
set_option maxHeartbeats 4000000 in
set_option maxRecDepth 100000 in
theorem x_emboss {l : Launch} {G : GT} {L : List Nat} {E : Nat → va_E} (a n : Int32)  {h0 sh : Nat} {f fs : Nat → Value} (hL : h0 ∈ L) (hE : E h0 = ob 12 19 f) (f9 : f 9 = .ref sh) (f16 : f 16 = .int 0) (hLsh : sh ∈ L) (hEsh : E sh = ob 8 3 fs) (fs1 : fs 1 = .int 0) : Mq l G yX11_emboss cX11_emboss 6 (some .int) 5 [.ref h0, .int a, .int n] L E 0 0 (fun v L2 E2 => v = some (.int (an_end n))) := by
  refine Mq.mk (by decide) (Nat.le_of_ble_eq_true rfl) ?_
  intro p e s m args below meth c A C
  refine q_iload_n (j := 2) C dX11_emboss_0 rfl ?_
  refine q_sipush (v := 200) C dX11_emboss_1 (by decide) ?_
  refine q_icmp_le (tgt := 14) C dX11_emboss_4 (by decide) (fun c1 => ?_) (fun c1 => ?_)
  · refine q_iload_n (j := 2) C dX11_emboss_14 rfl ?_
    refine q_if_ge (tgt := 24) C dX11_emboss_15 (by decide) (fun c2 => ?_) (fun c2 => ?_)
    · refine q_iconst (v := 0) C dX11_emboss_24 (by decide) ?_
      refine q_istore_n (lv2 := [(3, .int 0), (0, .ref h0), (1, .int a), (2, .int n)]) C dX11_emboss_25 (by decide) rfl ?_
      refine q_iconst (v := 0) C dX11_emboss_26 (by decide) ?_
      refine q_istore (lv2 := [(4, .int 0), (3, .int 0), (0, .ref h0), (1, .int a), (2, .int n)]) C dX11_emboss_27 (by decide) rfl ?_
      refine q_iload (j := 0) C dX11_emboss_29 rfl ?_
      refine q_iload_n (j := 4) C dX11_emboss_31 rfl ?_
      refine q_icmp_ge (tgt := 121) C dX11_emboss_32 (by decide) (fun c3 => ?_) (fun c3 => ?_)
      · refine q_aload_n (j := 2) C dX11_emboss_121 rfl ?_
        refine q_iload_n (j := 1) C dX11_emboss_122 rfl ?_
        refine q_callV (As := [.int 0]) (rest := []) C (c_done 0 hL hE) dX11_emboss_123 kV_X11_109 rfl hL hE ck_12 rfl (Nat.le_of_ble_eq_true rfl) ⟨Nat.le_of_ble_eq_true rfl, Nat.le_of_ble_eq_true rfl⟩ ⟨Nat.le_of_ble_eq_true rfl, Nat.le_of_ble_eq_true rfl⟩ (fun vh1 Lh1 Eh1 h1 => ?_)
        obtain ⟨rfl, rfl, rfl⟩ := h1
        refine q_st (st2 := [.int 0]) rfl ?_
        exact q_iret C dX11_emboss_126 rfl (Nat.le_of_ble_eq_true rfl) (Nat.le_of_ble_eq_true rfl) (by refine congrArg (fun z => some (Value.int z)) ?_; unfold an_end; (try simp only [i32_lt, i32_le, i32_eq, inn_f, Decidable.not_not, tn_m1, tn_0, tn_1, tn_2, tn_3, tn_4, tn_5, tn_6, tn_7, tn_8, tn_10, tn_30, tn_31, tn_32, tn_36, tn_40, tn_50, tn_100, tn_126, tn_200, tn_255, tn_500, tn_512, tn_3000, tn_5000] at c1); (try simp only [i32_lt, i32_le, i32_eq, inn_f, Decidable.not_not, tn_m1, tn_0, tn_1, tn_2, tn_3, tn_4, tn_5, tn_6, tn_7, tn_8, tn_10, tn_30, tn_31, tn_32, tn_36, tn_40, tn_50, tn_100, tn_126, tn_200, tn_255, tn_500, tn_512, tn_3000, tn_5000] at c2); (try simp only [i32_lt, i32_le, i32_eq, inn_f, Decidable.not_not, tn_m1, tn_0, tn_1, tn_2, tn_3, tn_4, tn_5, tn_6, tn_7, tn_8, tn_10, tn_30, tn_31, tn_32, tn_36, tn_40, tn_50, tn_100, tn_126, tn_200, tn_255, tn_500, tn_512, tn_3000, tn_5000] at c3); split <;> rename_i hz <;> (try simp only [i32_lt, i32_le, i32_eq, inn_f, Decidable.not_not, tn_m1, tn_0, tn_1, tn_2, tn_3, tn_4, tn_5, tn_6, tn_7, tn_8, tn_10, tn_30, tn_31, tn_32, tn_36, tn_40, tn_50, tn_100, tn_126, tn_200, tn_255, tn_500, tn_512, tn_3000, tn_5000] at hz) <;> first | rfl | (exfalso; omega) | (rw [i32_eq]; simp only [i32_lt, i32_le, i32_eq, inn_f, Decidable.not_not, tn_m1, tn_0, tn_1, tn_2, tn_3, tn_4, tn_5, tn_6, tn_7, tn_8, tn_10, tn_30, tn_31, tn_32, tn_36, tn_40, tn_50, tn_100, tn_126, tn_200, tn_255, tn_500, tn_512, tn_3000, tn_5000]; omega))
      · refine q_aload_n (j := 2) C dX11_emboss_35 rfl ?_
        refine q_dup C dX11_emboss_36 rfl ?_
        refine q_get (k := 16) (v := .int 0) C ck_12 dX11_emboss_37 w2_60 (by decide) hL hE f16 ?_
        refine q_iconst (v := 1) C dX11_emboss_40 (by decide) ?_
        refine q_iadd (v := 1) C dX11_emboss_41 (by decide) ?_
        refine q_put (k := 16) C ck_12 dX11_emboss_42 w2_60 (by decide) rfl hL hE rfl rfl ?_
        refine q_aload_n (j := 2) C dX11_emboss_45 rfl ?_
        refine q_get (k := 9) (v := .ref sh) C ck_12 dX11_emboss_46 w2_53 (by decide) hL (va_up_self _ _ _) f9 ?_
        refine q_iload_n (j := 3) C dX11_emboss_49 rfl ?_
        refine q_iload (j := 0) C dX11_emboss_50 rfl ?_
        refine q_iadd (v := (a + 0)) C dX11_emboss_52 rfl ?_
        refine q_callV (As := [.int (a + 0)]) (rest := []) C (c_sat0 (a + 0) hLsh ((va_up_ne _ _ (ne_ob hEsh hE (by decide))).trans hEsh) fs1) dX11_emboss_53 kV_X11_308 rfl hLsh ((va_up_ne _ _ (ne_ob hEsh hE (by decide))).trans hEsh) ck_8 rfl (Nat.le_of_ble_eq_true rfl) ⟨Nat.le_of_ble_eq_true rfl, Nat.le_of_ble_eq_true rfl⟩ ⟨Nat.le_of_ble_eq_true rfl, Nat.le_of_ble_eq_true rfl⟩ (fun vh2 Lh2 Eh2 h2 => ?_)
        obtain ⟨rfl, rfl, rfl⟩ := h2
        refine q_st (st2 := [.null]) rfl ?_
        refine q_astoreN (lv2 := [(5, .null), (4, .int 0), (3, .int 0), (0, .ref h0), (1, .int a), (2, .int n)]) C dX11_emboss_56 (by decide) rfl ?_
        refine q_aloadN (j := 0) C dX11_emboss_58 rfl ?_
        refine q_ifnonnullN C dX11_emboss_60 ?_
        refine q_aload_n (j := 3) C dX11_emboss_63 rfl ?_
        refine q_iconst (v := 2) C dX11_emboss_64 (by decide) ?_
        refine q_callV (As := [.int 2]) (rest := []) C (c_refuse 2 hL (va_up_self _ _ _)) dX11_emboss_65 kV_X11_102 rfl hL (va_up_self _ _ _) ck_12 rfl (Nat.le_of_ble_eq_true rfl) ⟨Nat.le_of_ble_eq_true rfl, Nat.le_of_ble_eq_true rfl⟩ ⟨Nat.le_of_ble_eq_true rfl, Nat.le_of_ble_eq_true rfl⟩ (fun vh3 Lh3 Eh3 h3 => ?_)
        obtain ⟨rfl, rfl, rfl⟩ := h3
        refine q_st (st2 := [.int (-1)]) rfl ?_
        exact q_iret C dX11_emboss_68 rfl (Nat.le_of_ble_eq_true rfl) (Nat.le_of_ble_eq_true rfl) (by refine congrArg (fun z => some (Value.int z)) ?_; unfold an_end; (try simp only [i32_lt, i32_le, i32_eq, inn_f, Decidable.not_not, tn_m1, tn_0, tn_1, tn_2, tn_3, tn_4, tn_5, tn_6, tn_7, tn_8, tn_10, tn_30, tn_31, tn_32, tn_36, tn_40, tn_50, tn_100, tn_126, tn_200, tn_255, tn_500, tn_512, tn_3000, tn_5000] at c1); (try simp only [i32_lt, i32_le, i32_eq, inn_f, Decidable.not_not, tn_m1, tn_0, tn_1, tn_2, tn_3, tn_4, tn_5, tn_6, tn_7, tn_8, tn_10, tn_30, tn_31, tn_32, tn_36, tn_40, tn_50, tn_100, tn_126, tn_200, tn_255, tn_500, tn_512, tn_3000, tn_5000] at c2); (try simp only [i32_lt, i32_le, i32_eq, inn_f, Decidable.not_not, tn_m1, tn_0, tn_1, tn_2, tn_3, tn_4, tn_5, tn_6, tn_7, tn_8, tn_10, tn_30, tn_31, tn_32, tn_36, tn_40, tn_50, tn_100, tn_126, tn_200, tn_255, tn_500, tn_512, tn_3000, tn_5000] at c3); split <;> rename_i hz <;> (try simp only [i32_lt, i32_le, i32_eq, inn_f, Decidable.not_not, tn_m1, tn_0, tn_1, tn_2, tn_3, tn_4, tn_5, tn_6, tn_7, tn_8, tn_10, tn_30, tn_31, tn_32, tn_36, tn_40, tn_50, tn_100, tn_126, tn_200, tn_255, tn_500, tn_512, tn_3000, tn_5000] at hz) <;> first | rfl | (exfalso; omega) | (rw [i32_eq]; simp only [i32_lt, i32_le, i32_eq, inn_f, Decidable.not_not, tn_m1, tn_0, tn_1, tn_2, tn_3, tn_4, tn_5, tn_6, tn_7, tn_8, tn_10, tn_30, tn_31, tn_32, tn_36, tn_40, tn_50, tn_100, tn_126, tn_200, tn_255, tn_500, tn_512, tn_3000, tn_5000]; omega))
    · refine q_aload_n (j := 0) C dX11_emboss_18 rfl ?_
      refine q_iconst (v := 5) C dX11_emboss_19 (by decide) ?_
      refine q_callV (As := [.int 5]) (rest := []) C (c_refuse 5 hL hE) dX11_emboss_20 kV_X11_102 rfl hL hE ck_12 rfl (Nat.le_of_ble_eq_true rfl) ⟨Nat.le_of_ble_eq_true rfl, Nat.le_of_ble_eq_true rfl⟩ ⟨Nat.le_of_ble_eq_true rfl, Nat.le_of_ble_eq_true rfl⟩ (fun vh4 Lh4 Eh4 h4 => ?_)
      obtain ⟨rfl, rfl, rfl⟩ := h4
      refine q_st (st2 := [.int (-1)]) rfl ?_
      exact q_iret C dX11_emboss_23 rfl (Nat.le_of_ble_eq_true rfl) (Nat.le_of_ble_eq_true rfl) (by refine congrArg (fun z => some (Value.int z)) ?_; unfold an_end; (try simp only [i32_lt, i32_le, i32_eq, inn_f, Decidable.not_not, tn_m1, tn_0, tn_1, tn_2, tn_3, tn_4, tn_5, tn_6, tn_7, tn_8, tn_10, tn_30, tn_31, tn_32, tn_36, tn_40, tn_50, tn_100, tn_126, tn_200, tn_255, tn_500, tn_512, tn_3000, tn_5000] at c1); (try simp only [i32_lt, i32_le, i32_eq, inn_f, Decidable.not_not, tn_m1, tn_0, tn_1, tn_2, tn_3, tn_4, tn_5, tn_6, tn_7, tn_8, tn_10, tn_30, tn_31, tn_32, tn_36, tn_40, tn_50, tn_100, tn_126, tn_200, tn_255, tn_500, tn_512, tn_3000, tn_5000] at c2); split <;> rename_i hz <;> (try simp only [i32_lt, i32_le, i32_eq, inn_f, Decidable.not_not, tn_m1, tn_0, tn_1, tn_2, tn_3, tn_4, tn_5, tn_6, tn_7, tn_8, tn_10, tn_30, tn_31, tn_32, tn_36, tn_40, tn_50, tn_100, tn_126, tn_200, tn_255, tn_500, tn_512, tn_3000, tn_5000] at hz) <;> first | rfl | (exfalso; omega) | (rw [i32_eq]; simp only [i32_lt, i32_le, i32_eq, inn_f, Decidable.not_not, tn_m1, tn_0, tn_1, tn_2, tn_3, tn_4, tn_5, tn_6, tn_7, tn_8, tn_10, tn_30, tn_31, tn_32, tn_36, tn_40, tn_50, tn_100, tn_126, tn_200, tn_255, tn_500, tn_512, tn_3000, tn_5000]; omega))
  · refine q_aload_n (j := 0) C dX11_emboss_7 rfl ?_
    refine q_bipush (v := 6) C dX11_emboss_8 (by decide) ?_
    refine q_callV (As := [.int 6]) (rest := []) C (c_refuse 6 hL hE) dX11_emboss_10 kV_X11_102 rfl hL hE ck_12 rfl (Nat.le_of_ble_eq_true rfl) ⟨Nat.le_of_ble_eq_true rfl, Nat.le_of_ble_eq_true rfl⟩ ⟨Nat.le_of_ble_eq_true rfl, Nat.le_of_ble_eq_true rfl⟩ (fun vh5 Lh5 Eh5 h5 => ?_)
    obtain ⟨rfl, rfl, rfl⟩ := h5
    refine q_st (st2 := [.int (-1)]) rfl ?_
    exact q_iret C dX11_emboss_13 rfl (Nat.le_of_ble_eq_true rfl) (Nat.le_of_ble_eq_true rfl) (by refine congrArg (fun z => some (Value.int z)) ?_; unfold an_end; (try simp only [i32_lt, i32_le, i32_eq, inn_f, Decidable.not_not, tn_m1, tn_0, tn_1, tn_2, tn_3, tn_4, tn_5, tn_6, tn_7, tn_8, tn_10, tn_30, tn_31, tn_32, tn_36, tn_40, tn_50, tn_100, tn_126, tn_200, tn_255, tn_500, tn_512, tn_3000, tn_5000] at c1); split <;> rename_i hz <;> (try simp only [i32_lt, i32_le, i32_eq, inn_f, Decidable.not_not, tn_m1, tn_0, tn_1, tn_2, tn_3, tn_4, tn_5, tn_6, tn_7, tn_8, tn_10, tn_30, tn_31, tn_32, tn_36, tn_40, tn_50, tn_100, tn_126, tn_200, tn_255, tn_500, tn_512, tn_3000, tn_5000] at hz) <;> first | rfl | (exfalso; omega) | (rw [i32_eq]; simp only [i32_lt, i32_le, i32_eq, inn_f, Decidable.not_not, tn_m1, tn_0, tn_1, tn_2, tn_3, tn_4, tn_5, tn_6, tn_7, tn_8, tn_10, tn_30, tn_31, tn_32, tn_36, tn_40, tn_50, tn_100, tn_126, tn_200, tn_255, tn_500, tn_512, tn_3000, tn_5000]; omega))
set_option maxHeartbeats 4000000 in
set_option maxRecDepth 100000 in
theorem x_measure {l : Launch} {G : GT} {L : List Nat} {E : Nat → va_E} (w h y : Int32)  {h0 : Nat} {f : Nat → Value} (hL : h0 ∈ L) (hE : E h0 = ob 12 19 f) : Mq l G yX11_measure cX11_measure 4 (some .int) 5 [.ref h0, .int w, .int h, .int y] L E 0 0 (fun v L2 E2 => v = some (.int (an_meas w h y))) := by
  refine Mq.mk (by decide) (Nat.le_of_ble_eq_true rfl) ?_
  intro p e s m args below meth c A C
  refine q_iload_n (j := 1) C dX11_measure_0 rfl ?_
  refine q_iconst (v := 1) C dX11_measure_1 (by decide) ?_
  refine q_icmp_lt (tgt := 34) C dX11_measure_2 (by decide) (fun c1 => ?_) (fun c1 => ?_)
  · refine q_aload_n (j := 0) C dX11_measure_34 rfl ?_
    refine q_bipush (v := 6) C dX11_measure_35 (by decide) ?_
    refine q_callV (As := [.int 6]) (rest := []) C (c_refuse 6 hL hE) dX11_measure_37 kV_X11_102 rfl hL hE ck_12 rfl (Nat.le_of_ble_eq_true rfl) ⟨Nat.le_of_ble_eq_true rfl, Nat.le_of_ble_eq_true rfl⟩ ⟨Nat.le_of_ble_eq_true rfl, Nat.le_of_ble_eq_true rfl⟩ (fun vh1 Lh1 Eh1 h1 => ?_)
    obtain ⟨rfl, rfl, rfl⟩ := h1
    refine q_st (st2 := [.int (-1)]) rfl ?_
    exact q_iret C dX11_measure_40 rfl (Nat.le_of_ble_eq_true rfl) (Nat.le_of_ble_eq_true rfl) (by refine congrArg (fun z => some (Value.int z)) ?_; unfold an_meas; (try simp only [i32_lt, i32_le, i32_eq, inn_f, Decidable.not_not, tn_m1, tn_0, tn_1, tn_2, tn_3, tn_4, tn_5, tn_6, tn_7, tn_8, tn_10, tn_30, tn_31, tn_32, tn_36, tn_40, tn_50, tn_100, tn_126, tn_200, tn_255, tn_500, tn_512, tn_3000, tn_5000] at c1); split <;> rename_i hz <;> (try simp only [i32_lt, i32_le, i32_eq, inn_f, Decidable.not_not, tn_m1, tn_0, tn_1, tn_2, tn_3, tn_4, tn_5, tn_6, tn_7, tn_8, tn_10, tn_30, tn_31, tn_32, tn_36, tn_40, tn_50, tn_100, tn_126, tn_200, tn_255, tn_500, tn_512, tn_3000, tn_5000] at hz) <;> first | rfl | (exfalso; omega) | (rw [i32_eq]; simp only [i32_lt, i32_le, i32_eq, inn_f, Decidable.not_not, tn_m1, tn_0, tn_1, tn_2, tn_3, tn_4, tn_5, tn_6, tn_7, tn_8, tn_10, tn_30, tn_31, tn_32, tn_36, tn_40, tn_50, tn_100, tn_126, tn_200, tn_255, tn_500, tn_512, tn_3000, tn_5000]; omega))
  · refine q_iload_n (j := 1) C dX11_measure_5 rfl ?_
    refine q_bipush (v := 100) C dX11_measure_6 (by decide) ?_
    refine q_icmp_gt (tgt := 34) C dX11_measure_8 (by decide) (fun c2 => ?_) (fun c2 => ?_)
    · refine q_aload_n (j := 0) C dX11_measure_34 rfl ?_
      refine q_bipush (v := 6) C dX11_measure_35 (by decide) ?_
      refine q_callV (As := [.int 6]) (rest := []) C (c_refuse 6 hL hE) dX11_measure_37 kV_X11_102 rfl hL hE ck_12 rfl (Nat.le_of_ble_eq_true rfl) ⟨Nat.le_of_ble_eq_true rfl, Nat.le_of_ble_eq_true rfl⟩ ⟨Nat.le_of_ble_eq_true rfl, Nat.le_of_ble_eq_true rfl⟩ (fun vh2 Lh2 Eh2 h2 => ?_)
      obtain ⟨rfl, rfl, rfl⟩ := h2
      refine q_st (st2 := [.int (-1)]) rfl ?_
      exact q_iret C dX11_measure_40 rfl (Nat.le_of_ble_eq_true rfl) (Nat.le_of_ble_eq_true rfl) (by refine congrArg (fun z => some (Value.int z)) ?_; unfold an_meas; (try simp only [i32_lt, i32_le, i32_eq, inn_f, Decidable.not_not, tn_m1, tn_0, tn_1, tn_2, tn_3, tn_4, tn_5, tn_6, tn_7, tn_8, tn_10, tn_30, tn_31, tn_32, tn_36, tn_40, tn_50, tn_100, tn_126, tn_200, tn_255, tn_500, tn_512, tn_3000, tn_5000] at c1); (try simp only [i32_lt, i32_le, i32_eq, inn_f, Decidable.not_not, tn_m1, tn_0, tn_1, tn_2, tn_3, tn_4, tn_5, tn_6, tn_7, tn_8, tn_10, tn_30, tn_31, tn_32, tn_36, tn_40, tn_50, tn_100, tn_126, tn_200, tn_255, tn_500, tn_512, tn_3000, tn_5000] at c2); split <;> rename_i hz <;> (try simp only [i32_lt, i32_le, i32_eq, inn_f, Decidable.not_not, tn_m1, tn_0, tn_1, tn_2, tn_3, tn_4, tn_5, tn_6, tn_7, tn_8, tn_10, tn_30, tn_31, tn_32, tn_36, tn_40, tn_50, tn_100, tn_126, tn_200, tn_255, tn_500, tn_512, tn_3000, tn_5000] at hz) <;> first | rfl | (exfalso; omega) | (rw [i32_eq]; simp only [i32_lt, i32_le, i32_eq, inn_f, Decidable.not_not, tn_m1, tn_0, tn_1, tn_2, tn_3, tn_4, tn_5, tn_6, tn_7, tn_8, tn_10, tn_30, tn_31, tn_32, tn_36, tn_40, tn_50, tn_100, tn_126, tn_200, tn_255, tn_500, tn_512, tn_3000, tn_5000]; omega))
    · refine q_iload_n (j := 2) C dX11_measure_11 rfl ?_
      refine q_iconst (v := 1) C dX11_measure_12 (by decide) ?_
      refine q_icmp_lt (tgt := 34) C dX11_measure_13 (by decide) (fun c3 => ?_) (fun c3 => ?_)
      · refine q_aload_n (j := 0) C dX11_measure_34 rfl ?_
        refine q_bipush (v := 6) C dX11_measure_35 (by decide) ?_
        refine q_callV (As := [.int 6]) (rest := []) C (c_refuse 6 hL hE) dX11_measure_37 kV_X11_102 rfl hL hE ck_12 rfl (Nat.le_of_ble_eq_true rfl) ⟨Nat.le_of_ble_eq_true rfl, Nat.le_of_ble_eq_true rfl⟩ ⟨Nat.le_of_ble_eq_true rfl, Nat.le_of_ble_eq_true rfl⟩ (fun vh3 Lh3 Eh3 h3 => ?_)
        obtain ⟨rfl, rfl, rfl⟩ := h3
        refine q_st (st2 := [.int (-1)]) rfl ?_
        exact q_iret C dX11_measure_40 rfl (Nat.le_of_ble_eq_true rfl) (Nat.le_of_ble_eq_true rfl) (by refine congrArg (fun z => some (Value.int z)) ?_; unfold an_meas; (try simp only [i32_lt, i32_le, i32_eq, inn_f, Decidable.not_not, tn_m1, tn_0, tn_1, tn_2, tn_3, tn_4, tn_5, tn_6, tn_7, tn_8, tn_10, tn_30, tn_31, tn_32, tn_36, tn_40, tn_50, tn_100, tn_126, tn_200, tn_255, tn_500, tn_512, tn_3000, tn_5000] at c1); (try simp only [i32_lt, i32_le, i32_eq, inn_f, Decidable.not_not, tn_m1, tn_0, tn_1, tn_2, tn_3, tn_4, tn_5, tn_6, tn_7, tn_8, tn_10, tn_30, tn_31, tn_32, tn_36, tn_40, tn_50, tn_100, tn_126, tn_200, tn_255, tn_500, tn_512, tn_3000, tn_5000] at c2); (try simp only [i32_lt, i32_le, i32_eq, inn_f, Decidable.not_not, tn_m1, tn_0, tn_1, tn_2, tn_3, tn_4, tn_5, tn_6, tn_7, tn_8, tn_10, tn_30, tn_31, tn_32, tn_36, tn_40, tn_50, tn_100, tn_126, tn_200, tn_255, tn_500, tn_512, tn_3000, tn_5000] at c3); split <;> rename_i hz <;> (try simp only [i32_lt, i32_le, i32_eq, inn_f, Decidable.not_not, tn_m1, tn_0, tn_1, tn_2, tn_3, tn_4, tn_5, tn_6, tn_7, tn_8, tn_10, tn_30, tn_31, tn_32, tn_36, tn_40, tn_50, tn_100, tn_126, tn_200, tn_255, tn_500, tn_512, tn_3000, tn_5000] at hz) <;> first | rfl | (exfalso; omega) | (rw [i32_eq]; simp only [i32_lt, i32_le, i32_eq, inn_f, Decidable.not_not, tn_m1, tn_0, tn_1, tn_2, tn_3, tn_4, tn_5, tn_6, tn_7, tn_8, tn_10, tn_30, tn_31, tn_32, tn_36, tn_40, tn_50, tn_100, tn_126, tn_200, tn_255, tn_500, tn_512, tn_3000, tn_5000]; omega))
      · refine q_iload_n (j := 2) C dX11_measure_16 rfl ?_
        refine q_bipush (v := 50) C dX11_measure_17 (by decide) ?_
        refine q_icmp_gt (tgt := 34) C dX11_measure_19 (by decide) (fun c4 => ?_) (fun c4 => ?_)
        · refine q_aload_n (j := 0) C dX11_measure_34 rfl ?_
          refine q_bipush (v := 6) C dX11_measure_35 (by decide) ?_
          refine q_callV (As := [.int 6]) (rest := []) C (c_refuse 6 hL hE) dX11_measure_37 kV_X11_102 rfl hL hE ck_12 rfl (Nat.le_of_ble_eq_true rfl) ⟨Nat.le_of_ble_eq_true rfl, Nat.le_of_ble_eq_true rfl⟩ ⟨Nat.le_of_ble_eq_true rfl, Nat.le_of_ble_eq_true rfl⟩ (fun vh4 Lh4 Eh4 h4 => ?_)
          obtain ⟨rfl, rfl, rfl⟩ := h4
          refine q_st (st2 := [.int (-1)]) rfl ?_
          exact q_iret C dX11_measure_40 rfl (Nat.le_of_ble_eq_true rfl) (Nat.le_of_ble_eq_true rfl) (by refine congrArg (fun z => some (Value.int z)) ?_; unfold an_meas; (try simp only [i32_lt, i32_le, i32_eq, inn_f, Decidable.not_not, tn_m1, tn_0, tn_1, tn_2, tn_3, tn_4, tn_5, tn_6, tn_7, tn_8, tn_10, tn_30, tn_31, tn_32, tn_36, tn_40, tn_50, tn_100, tn_126, tn_200, tn_255, tn_500, tn_512, tn_3000, tn_5000] at c1); (try simp only [i32_lt, i32_le, i32_eq, inn_f, Decidable.not_not, tn_m1, tn_0, tn_1, tn_2, tn_3, tn_4, tn_5, tn_6, tn_7, tn_8, tn_10, tn_30, tn_31, tn_32, tn_36, tn_40, tn_50, tn_100, tn_126, tn_200, tn_255, tn_500, tn_512, tn_3000, tn_5000] at c2); (try simp only [i32_lt, i32_le, i32_eq, inn_f, Decidable.not_not, tn_m1, tn_0, tn_1, tn_2, tn_3, tn_4, tn_5, tn_6, tn_7, tn_8, tn_10, tn_30, tn_31, tn_32, tn_36, tn_40, tn_50, tn_100, tn_126, tn_200, tn_255, tn_500, tn_512, tn_3000, tn_5000] at c3); (try simp only [i32_lt, i32_le, i32_eq, inn_f, Decidable.not_not, tn_m1, tn_0, tn_1, tn_2, tn_3, tn_4, tn_5, tn_6, tn_7, tn_8, tn_10, tn_30, tn_31, tn_32, tn_36, tn_40, tn_50, tn_100, tn_126, tn_200, tn_255, tn_500, tn_512, tn_3000, tn_5000] at c4); split <;> rename_i hz <;> (try simp only [i32_lt, i32_le, i32_eq, inn_f, Decidable.not_not, tn_m1, tn_0, tn_1, tn_2, tn_3, tn_4, tn_5, tn_6, tn_7, tn_8, tn_10, tn_30, tn_31, tn_32, tn_36, tn_40, tn_50, tn_100, tn_126, tn_200, tn_255, tn_500, tn_512, tn_3000, tn_5000] at hz) <;> first | rfl | (exfalso; omega) | (rw [i32_eq]; simp only [i32_lt, i32_le, i32_eq, inn_f, Decidable.not_not, tn_m1, tn_0, tn_1, tn_2, tn_3, tn_4, tn_5, tn_6, tn_7, tn_8, tn_10, tn_30, tn_31, tn_32, tn_36, tn_40, tn_50, tn_100, tn_126, tn_200, tn_255, tn_500, tn_512, tn_3000, tn_5000]; omega))
        · refine q_iload_n (j := 3) C dX11_measure_22 rfl ?_
          refine q_iconst (v := 1) C dX11_measure_23 (by decide) ?_
          refine q_icmp_lt (tgt := 34) C dX11_measure_24 (by decide) (fun c5 => ?_) (fun c5 => ?_)
          · refine q_aload_n (j := 0) C dX11_measure_34 rfl ?_
            refine q_bipush (v := 6) C dX11_measure_35 (by decide) ?_
            refine q_callV (As := [.int 6]) (rest := []) C (c_refuse 6 hL hE) dX11_measure_37 kV_X11_102 rfl hL hE ck_12 rfl (Nat.le_of_ble_eq_true rfl) ⟨Nat.le_of_ble_eq_true rfl, Nat.le_of_ble_eq_true rfl⟩ ⟨Nat.le_of_ble_eq_true rfl, Nat.le_of_ble_eq_true rfl⟩ (fun vh5 Lh5 Eh5 h5 => ?_)
            obtain ⟨rfl, rfl, rfl⟩ := h5
            refine q_st (st2 := [.int (-1)]) rfl ?_
            exact q_iret C dX11_measure_40 rfl (Nat.le_of_ble_eq_true rfl) (Nat.le_of_ble_eq_true rfl) (by refine congrArg (fun z => some (Value.int z)) ?_; unfold an_meas; (try simp only [i32_lt, i32_le, i32_eq, inn_f, Decidable.not_not, tn_m1, tn_0, tn_1, tn_2, tn_3, tn_4, tn_5, tn_6, tn_7, tn_8, tn_10, tn_30, tn_31, tn_32, tn_36, tn_40, tn_50, tn_100, tn_126, tn_200, tn_255, tn_500, tn_512, tn_3000, tn_5000] at c1); (try simp only [i32_lt, i32_le, i32_eq, inn_f, Decidable.not_not, tn_m1, tn_0, tn_1, tn_2, tn_3, tn_4, tn_5, tn_6, tn_7, tn_8, tn_10, tn_30, tn_31, tn_32, tn_36, tn_40, tn_50, tn_100, tn_126, tn_200, tn_255, tn_500, tn_512, tn_3000, tn_5000] at c2); (try simp only [i32_lt, i32_le, i32_eq, inn_f, Decidable.not_not, tn_m1, tn_0, tn_1, tn_2, tn_3, tn_4, tn_5, tn_6, tn_7, tn_8, tn_10, tn_30, tn_31, tn_32, tn_36, tn_40, tn_50, tn_100, tn_126, tn_200, tn_255, tn_500, tn_512, tn_3000, tn_5000] at c3); (try simp only [i32_lt, i32_le, i32_eq, inn_f, Decidable.not_not, tn_m1, tn_0, tn_1, tn_2, tn_3, tn_4, tn_5, tn_6, tn_7, tn_8, tn_10, tn_30, tn_31, tn_32, tn_36, tn_40, tn_50, tn_100, tn_126, tn_200, tn_255, tn_500, tn_512, tn_3000, tn_5000] at c4); (try simp only [i32_lt, i32_le, i32_eq, inn_f, Decidable.not_not, tn_m1, tn_0, tn_1, tn_2, tn_3, tn_4, tn_5, tn_6, tn_7, tn_8, tn_10, tn_30, tn_31, tn_32, tn_36, tn_40, tn_50, tn_100, tn_126, tn_200, tn_255, tn_500, tn_512, tn_3000, tn_5000] at c5); split <;> rename_i hz <;> (try simp only [i32_lt, i32_le, i32_eq, inn_f, Decidable.not_not, tn_m1, tn_0, tn_1, tn_2, tn_3, tn_4, tn_5, tn_6, tn_7, tn_8, tn_10, tn_30, tn_31, tn_32, tn_36, tn_40, tn_50, tn_100, tn_126, tn_200, tn_255, tn_500, tn_512, tn_3000, tn_5000] at hz) <;> first | rfl | (exfalso; omega) | (rw [i32_eq]; simp only [i32_lt, i32_le, i32_eq, inn_f, Decidable.not_not, tn_m1, tn_0, tn_1, tn_2, tn_3, tn_4, tn_5, tn_6, tn_7, tn_8, tn_10, tn_30, tn_31, tn_32, tn_36, tn_40, tn_50, tn_100, tn_126, tn_200, tn_255, tn_500, tn_512, tn_3000, tn_5000]; omega))
          · refine q_iload_n (j := 3) C dX11_measure_27 rfl ?_
            refine q_sipush (v := 255) C dX11_measure_28 (by decide) ?_
            refine q_icmp_le (tgt := 41) C dX11_measure_31 (by decide) (fun c6 => ?_) (fun c6 => ?_)
            · refine q_aload_n (j := 0) C dX11_measure_41 rfl ?_
              refine q_iload_n (j := 1) C dX11_measure_42 rfl ?_
              refine q_put (k := 11) C ck_12 dX11_measure_43 w2_55 (by decide) rfl hL hE rfl rfl ?_
              refine q_aload_n (j := 0) C dX11_measure_46 rfl ?_
              refine q_iload_n (j := 2) C dX11_measure_47 rfl ?_
              refine q_put (k := 12) C ck_12 dX11_measure_48 w2_56 (by decide) rfl hL (va_up_self _ _ _) rfl rfl ?_
              refine q_aload_n (j := 0) C dX11_measure_51 rfl ?_
              refine q_iload_n (j := 3) C dX11_measure_52 rfl ?_
              refine q_put (k := 13) C ck_12 dX11_measure_53 w2_57 (by decide) rfl hL (va_up_self _ _ _) rfl rfl ?_
              refine q_aload_n (j := 0) C dX11_measure_56 rfl ?_
              refine q_iconst (v := 1) C dX11_measure_57 (by decide) ?_
              refine q_callV (As := [.int 1]) (rest := []) C (c_done 1 hL (va_up_self _ _ _)) dX11_measure_58 kV_X11_109 rfl hL (va_up_self _ _ _) ck_12 rfl (Nat.le_of_ble_eq_true rfl) ⟨Nat.le_of_ble_eq_true rfl, Nat.le_of_ble_eq_true rfl⟩ ⟨Nat.le_of_ble_eq_true rfl, Nat.le_of_ble_eq_true rfl⟩ (fun vh6 Lh6 Eh6 h6 => ?_)
              obtain ⟨rfl, rfl, rfl⟩ := h6
              refine q_st (st2 := [.int 1]) rfl ?_
              exact q_iret C dX11_measure_61 rfl (Nat.le_of_ble_eq_true rfl) (Nat.le_of_ble_eq_true rfl) (by refine congrArg (fun z => some (Value.int z)) ?_; unfold an_meas; (try simp only [i32_lt, i32_le, i32_eq, inn_f, Decidable.not_not, tn_m1, tn_0, tn_1, tn_2, tn_3, tn_4, tn_5, tn_6, tn_7, tn_8, tn_10, tn_30, tn_31, tn_32, tn_36, tn_40, tn_50, tn_100, tn_126, tn_200, tn_255, tn_500, tn_512, tn_3000, tn_5000] at c1); (try simp only [i32_lt, i32_le, i32_eq, inn_f, Decidable.not_not, tn_m1, tn_0, tn_1, tn_2, tn_3, tn_4, tn_5, tn_6, tn_7, tn_8, tn_10, tn_30, tn_31, tn_32, tn_36, tn_40, tn_50, tn_100, tn_126, tn_200, tn_255, tn_500, tn_512, tn_3000, tn_5000] at c2); (try simp only [i32_lt, i32_le, i32_eq, inn_f, Decidable.not_not, tn_m1, tn_0, tn_1, tn_2, tn_3, tn_4, tn_5, tn_6, tn_7, tn_8, tn_10, tn_30, tn_31, tn_32, tn_36, tn_40, tn_50, tn_100, tn_126, tn_200, tn_255, tn_500, tn_512, tn_3000, tn_5000] at c3); (try simp only [i32_lt, i32_le, i32_eq, inn_f, Decidable.not_not, tn_m1, tn_0, tn_1, tn_2, tn_3, tn_4, tn_5, tn_6, tn_7, tn_8, tn_10, tn_30, tn_31, tn_32, tn_36, tn_40, tn_50, tn_100, tn_126, tn_200, tn_255, tn_500, tn_512, tn_3000, tn_5000] at c4); (try simp only [i32_lt, i32_le, i32_eq, inn_f, Decidable.not_not, tn_m1, tn_0, tn_1, tn_2, tn_3, tn_4, tn_5, tn_6, tn_7, tn_8, tn_10, tn_30, tn_31, tn_32, tn_36, tn_40, tn_50, tn_100, tn_126, tn_200, tn_255, tn_500, tn_512, tn_3000, tn_5000] at c5); (try simp only [i32_lt, i32_le, i32_eq, inn_f, Decidable.not_not, tn_m1, tn_0, tn_1, tn_2, tn_3, tn_4, tn_5, tn_6, tn_7, tn_8, tn_10, tn_30, tn_31, tn_32, tn_36, tn_40, tn_50, tn_100, tn_126, tn_200, tn_255, tn_500, tn_512, tn_3000, tn_5000] at c6); split <;> rename_i hz <;> (try simp only [i32_lt, i32_le, i32_eq, inn_f, Decidable.not_not, tn_m1, tn_0, tn_1, tn_2, tn_3, tn_4, tn_5, tn_6, tn_7, tn_8, tn_10, tn_30, tn_31, tn_32, tn_36, tn_40, tn_50, tn_100, tn_126, tn_200, tn_255, tn_500, tn_512, tn_3000, tn_5000] at hz) <;> first | rfl | (exfalso; omega) | (rw [i32_eq]; simp only [i32_lt, i32_le, i32_eq, inn_f, Decidable.not_not, tn_m1, tn_0, tn_1, tn_2, tn_3, tn_4, tn_5, tn_6, tn_7, tn_8, tn_10, tn_30, tn_31, tn_32, tn_36, tn_40, tn_50, tn_100, tn_126, tn_200, tn_255, tn_500, tn_512, tn_3000, tn_5000]; omega))
            · refine q_aload_n (j := 0) C dX11_measure_34 rfl ?_
              refine q_bipush (v := 6) C dX11_measure_35 (by decide) ?_
              refine q_callV (As := [.int 6]) (rest := []) C (c_refuse 6 hL hE) dX11_measure_37 kV_X11_102 rfl hL hE ck_12 rfl (Nat.le_of_ble_eq_true rfl) ⟨Nat.le_of_ble_eq_true rfl, Nat.le_of_ble_eq_true rfl⟩ ⟨Nat.le_of_ble_eq_true rfl, Nat.le_of_ble_eq_true rfl⟩ (fun vh7 Lh7 Eh7 h7 => ?_)
              obtain ⟨rfl, rfl, rfl⟩ := h7
              refine q_st (st2 := [.int (-1)]) rfl ?_
              exact q_iret C dX11_measure_40 rfl (Nat.le_of_ble_eq_true rfl) (Nat.le_of_ble_eq_true rfl) (by refine congrArg (fun z => some (Value.int z)) ?_; unfold an_meas; (try simp only [i32_lt, i32_le, i32_eq, inn_f, Decidable.not_not, tn_m1, tn_0, tn_1, tn_2, tn_3, tn_4, tn_5, tn_6, tn_7, tn_8, tn_10, tn_30, tn_31, tn_32, tn_36, tn_40, tn_50, tn_100, tn_126, tn_200, tn_255, tn_500, tn_512, tn_3000, tn_5000] at c1); (try simp only [i32_lt, i32_le, i32_eq, inn_f, Decidable.not_not, tn_m1, tn_0, tn_1, tn_2, tn_3, tn_4, tn_5, tn_6, tn_7, tn_8, tn_10, tn_30, tn_31, tn_32, tn_36, tn_40, tn_50, tn_100, tn_126, tn_200, tn_255, tn_500, tn_512, tn_3000, tn_5000] at c2); (try simp only [i32_lt, i32_le, i32_eq, inn_f, Decidable.not_not, tn_m1, tn_0, tn_1, tn_2, tn_3, tn_4, tn_5, tn_6, tn_7, tn_8, tn_10, tn_30, tn_31, tn_32, tn_36, tn_40, tn_50, tn_100, tn_126, tn_200, tn_255, tn_500, tn_512, tn_3000, tn_5000] at c3); (try simp only [i32_lt, i32_le, i32_eq, inn_f, Decidable.not_not, tn_m1, tn_0, tn_1, tn_2, tn_3, tn_4, tn_5, tn_6, tn_7, tn_8, tn_10, tn_30, tn_31, tn_32, tn_36, tn_40, tn_50, tn_100, tn_126, tn_200, tn_255, tn_500, tn_512, tn_3000, tn_5000] at c4); (try simp only [i32_lt, i32_le, i32_eq, inn_f, Decidable.not_not, tn_m1, tn_0, tn_1, tn_2, tn_3, tn_4, tn_5, tn_6, tn_7, tn_8, tn_10, tn_30, tn_31, tn_32, tn_36, tn_40, tn_50, tn_100, tn_126, tn_200, tn_255, tn_500, tn_512, tn_3000, tn_5000] at c5); (try simp only [i32_lt, i32_le, i32_eq, inn_f, Decidable.not_not, tn_m1, tn_0, tn_1, tn_2, tn_3, tn_4, tn_5, tn_6, tn_7, tn_8, tn_10, tn_30, tn_31, tn_32, tn_36, tn_40, tn_50, tn_100, tn_126, tn_200, tn_255, tn_500, tn_512, tn_3000, tn_5000] at c6); split <;> rename_i hz <;> (try simp only [i32_lt, i32_le, i32_eq, inn_f, Decidable.not_not, tn_m1, tn_0, tn_1, tn_2, tn_3, tn_4, tn_5, tn_6, tn_7, tn_8, tn_10, tn_30, tn_31, tn_32, tn_36, tn_40, tn_50, tn_100, tn_126, tn_200, tn_255, tn_500, tn_512, tn_3000, tn_5000] at hz) <;> first | rfl | (exfalso; omega) | (rw [i32_eq]; simp only [i32_lt, i32_le, i32_eq, inn_f, Decidable.not_not, tn_m1, tn_0, tn_1, tn_2, tn_3, tn_4, tn_5, tn_6, tn_7, tn_8, tn_10, tn_30, tn_31, tn_32, tn_36, tn_40, tn_50, tn_100, tn_126, tn_200, tn_255, tn_500, tn_512, tn_3000, tn_5000]; omega))
end
