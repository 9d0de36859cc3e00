section
-- ===== PART A: goes FIRST, ahead of the names: the tables' words, and 'selects' of the private methods out of them =====
def lw_okq (q : MethodName × Nat) : Prop := (q.1.cls ≠ "java/lang/invoke/MethodHandle" ∧ q.1.cls ≠ "java/lang/invoke/VarHandle") ∧ Cond.instantiable q.1.cls q.2 ∈ tables_1 ∧ Cond.privateMethod q.1 ∈ tables_1 ∧ Cond.instanceMethod q.1 ∈ tables_1
def lwcdl : List Cond → Nat → List (Nat × Cond) → Bool
  | _, _, [] => true
  | l, p, x :: r => (Nat.ble p x.1 && decide ((l.drop (x.1 - p)).head? = some x.2)) && lwcdl (l.drop (x.1 - p)) x.1 r
def lwcdp (t : List Cond) : List (Nat × Cond) → Prop
  | [] => True
  | (_, x) :: r => x ∈ t ∧ lwcdp t r
theorem lwcdl_ok {t : List Cond} : ∀ (rows : List (Nat × Cond)) (l : List Cond) (p : Nat), l = t.drop p → lwcdl l p rows = true → lwcdp t rows
  | [], _, _, _, _ => trivial
  | x :: r, l, p, e, h => by
    have g0 : ((Nat.ble p x.1 && decide ((l.drop (x.1 - p)).head? = some x.2)) && lwcdl (l.drop (x.1 - p)) x.1 r) = true := h
    rw [Bool.and_eq_true, Bool.and_eq_true] at g0
    obtain ⟨⟨g1, g2⟩, g3⟩ := g0
    have le : p ≤ x.1 := Nat.le_of_ble_eq_true g1
    have ed : l.drop (x.1 - p) = t.drop x.1 := by
      rw [e, List.drop_drop, show p + (x.1 - p) = x.1 by omega]
    rw [ed] at g2 g3
    have g4 : (t.drop x.1).head? = some x.2 := of_decide_eq_true g2
    show x.2 ∈ t ∧ lwcdp t r
    exact ⟨List.mem_of_mem_drop (List.mem_of_mem_head? g4), lwcdl_ok r _ _ rfl g3⟩
theorem lwcdf {t : List Cond} {rows : List (Nat × Cond)} (h : lwcdl t 0 rows = true) : lwcdp t rows := lwcdl_ok rows _ 0 (List.drop_zero).symm h
theorem lwcg_0 : lwcdp tables_1 [(25, Cond.instantiable "DotPress" 19), (65, Cond.instantiable "java/util/ArrayList" 3), (98, Cond.instantiable "DotPress$Source" 8), (131, Cond.instantiable "DotPress$Setting" 12), (180, Cond.instantiable "DotPress$Reader" 8), (221, Cond.instantiable "DotPress$Readings" 11), (347, Cond.privateMethod ⟨"DotPress", "refuse", "(I)I"⟩), (348, Cond.instanceMethod ⟨"DotPress", "refuse", "(I)I"⟩), (351, Cond.privateMethod ⟨"DotPress", "feedFour", "(I)V"⟩), (352, Cond.instanceMethod ⟨"DotPress", "feedFour", "(I)V"⟩), (375, Cond.privateMethod ⟨"DotPress", "done", "(I)I"⟩), (376, Cond.instanceMethod ⟨"DotPress", "done", "(I)I"⟩), (466, Cond.privateMethod ⟨"java/util/ArrayList", "add", "(Ljava/lang/Object;[Ljava/lang/Object;I)V"⟩), (467, Cond.instanceMethod ⟨"java/util/ArrayList", "add", "(Ljava/lang/Object;[Ljava/lang/Object;I)V"⟩), (470, Cond.privateMethod ⟨"java/util/ArrayList", "grow", "()[Ljava/lang/Object;"⟩), (471, Cond.instanceMethod ⟨"java/util/ArrayList", "grow", "()[Ljava/lang/Object;"⟩), (474, Cond.privateMethod ⟨"java/util/ArrayList", "grow", "(I)[Ljava/lang/Object;"⟩), (475, Cond.instanceMethod ⟨"java/util/ArrayList", "grow", "(I)[Ljava/lang/Object;"⟩), (552, Cond.privateMethod ⟨"java/util/ArrayList", "fastRemove", "([Ljava/lang/Object;I)V"⟩), (553, Cond.instanceMethod ⟨"java/util/ArrayList", "fastRemove", "([Ljava/lang/Object;I)V"⟩)] := lwcdf (by decide +kernel)
theorem lwcg_1 : lwcdp tables_1 [(586, Cond.privateMethod ⟨"DotPress", "addRule", "(III)I"⟩), (587, Cond.instanceMethod ⟨"DotPress", "addRule", "(III)I"⟩), (601, Cond.privateMethod ⟨"DotPress", "isRowOfCells", "(II)Z"⟩), (602, Cond.instanceMethod ⟨"DotPress", "isRowOfCells", "(II)Z"⟩), (660, Cond.privateMethod ⟨"DotPress", "changeIndicator", "(II)I"⟩), (661, Cond.instanceMethod ⟨"DotPress", "changeIndicator", "(II)I"⟩), (692, Cond.privateMethod ⟨"DotPress", "addText", "()I"⟩), (693, Cond.instanceMethod ⟨"DotPress", "addText", "()I"⟩), (734, Cond.privateMethod ⟨"DotPress$Source", "enterLine", "(LDotPress$Ints;)I"⟩), (735, Cond.instanceMethod ⟨"DotPress$Source", "enterLine", "(LDotPress$Ints;)I"⟩), (806, Cond.privateMethod ⟨"DotPress$Setting", "setPart", "(LDotPress$Table;II)I"⟩), (807, Cond.instanceMethod ⟨"DotPress$Setting", "setPart", "(LDotPress$Table;II)I"⟩), (810, Cond.privateMethod ⟨"DotPress$Setting", "numberAhead", "(LDotPress$Table;I)LDotPress$Row;"⟩), (811, Cond.instanceMethod ⟨"DotPress$Setting", "numberAhead", "(LDotPress$Table;I)LDotPress$Row;"⟩), (817, Cond.privateMethod ⟨"DotPress$Setting", "find", "(LDotPress$Table;II)LDotPress$Row;"⟩), (818, Cond.instanceMethod ⟨"DotPress$Setting", "find", "(LDotPress$Table;II)LDotPress$Row;"⟩), (821, Cond.privateMethod ⟨"DotPress$Setting", "countFind", "(I)V"⟩), (822, Cond.instanceMethod ⟨"DotPress$Setting", "countFind", "(I)V"⟩), (825, Cond.privateMethod ⟨"DotPress$Setting", "findOwn", "(LDotPress$Table;IILDotPress$Row;)LDotPress$Row;"⟩), (826, Cond.instanceMethod ⟨"DotPress$Setting", "findOwn", "(LDotPress$Table;IILDotPress$Row;)LDotPress$Row;"⟩)] := lwcdf (by decide +kernel)
theorem lwcg_2 : lwcdp tables_1 [(833, Cond.privateMethod ⟨"DotPress$Setting", "fits", "(LDotPress$Row;I)Z"⟩), (834, Cond.instanceMethod ⟨"DotPress$Setting", "fits", "(LDotPress$Row;I)Z"⟩), (843, Cond.privateMethod ⟨"DotPress$Setting", "markStart", "(II)V"⟩), (844, Cond.instanceMethod ⟨"DotPress$Setting", "markStart", "(II)V"⟩), (847, Cond.privateMethod ⟨"DotPress$Setting", "push", "(LDotPress$Row;)V"⟩), (848, Cond.instanceMethod ⟨"DotPress$Setting", "push", "(LDotPress$Row;)V"⟩), (852, Cond.privateMethod ⟨"DotPress$Setting", "setTurn", "(LDotPress$Row;I)I"⟩), (853, Cond.instanceMethod ⟨"DotPress$Setting", "setTurn", "(LDotPress$Row;I)I"⟩), (873, Cond.privateMethod ⟨"DotPress", "publish", "()I"⟩), (874, Cond.instanceMethod ⟨"DotPress", "publish", "()I"⟩), (881, Cond.privateMethod ⟨"DotPress", "refuseAt", "(II)I"⟩), (882, Cond.instanceMethod ⟨"DotPress", "refuseAt", "(II)I"⟩), (899, Cond.privateMethod ⟨"DotPress", "linesOfPage", "()I"⟩), (900, Cond.instanceMethod ⟨"DotPress", "linesOfPage", "()I"⟩), (903, Cond.privateMethod ⟨"DotPress", "pagesHaveHeader", "()Z"⟩), (904, Cond.instanceMethod ⟨"DotPress", "pagesHaveHeader", "()Z"⟩), (923, Cond.privateMethod ⟨"DotPress", "cellOfLine", "(II)I"⟩), (924, Cond.instanceMethod ⟨"DotPress", "cellOfLine", "(II)I"⟩), (989, Cond.privateMethod ⟨"DotPress", "chainLines", "(II)V"⟩), (990, Cond.instanceMethod ⟨"DotPress", "chainLines", "(II)V"⟩)] := lwcdf (by decide +kernel)
theorem lwcg_3 : lwcdp tables_1 [(1037, Cond.privateMethod ⟨"DotPress$Reader", "decodeWord", "(I)I"⟩), (1038, Cond.instanceMethod ⟨"DotPress$Reader", "decodeWord", "(I)I"⟩), (1041, Cond.privateMethod ⟨"DotPress$Reader", "longestAt", "(ZI)LDotPress$Row;"⟩), (1042, Cond.instanceMethod ⟨"DotPress$Reader", "longestAt", "(ZI)LDotPress$Row;"⟩), (1091, Cond.privateMethod ⟨"DotPress$Readings", "markEnds", "()V"⟩), (1092, Cond.instanceMethod ⟨"DotPress$Readings", "markEnds", "()V"⟩), (1095, Cond.privateMethod ⟨"DotPress$Readings", "nextChoice", "(II)I"⟩), (1096, Cond.instanceMethod ⟨"DotPress$Readings", "nextChoice", "(II)I"⟩), (1101, Cond.privateMethod ⟨"DotPress$Readings", "nodeBehind", "(II)I"⟩), (1102, Cond.instanceMethod ⟨"DotPress$Readings", "nodeBehind", "(II)I"⟩), (1105, Cond.privateMethod ⟨"DotPress$Readings", "looksLike", "(II)Z"⟩), (1106, Cond.instanceMethod ⟨"DotPress$Readings", "looksLike", "(II)Z"⟩), (1111, Cond.privateMethod ⟨"DotPress$Readings", "looksLikeRow", "(LDotPress$Row;I)Z"⟩), (1112, Cond.instanceMethod ⟨"DotPress$Readings", "looksLikeRow", "(LDotPress$Row;I)Z"⟩), (1116, Cond.privateMethod ⟨"DotPress$Readings", "walk", "(I)V"⟩), (1117, Cond.instanceMethod ⟨"DotPress$Readings", "walk", "(I)V"⟩), (1121, Cond.privateMethod ⟨"DotPress$Readings", "write", "(I)V"⟩), (1122, Cond.instanceMethod ⟨"DotPress$Readings", "write", "(I)V"⟩), (1180, Cond.privateMethod ⟨"DotPress$Source", "markLetters", "(Ljava/util/ArrayList;)V"⟩), (1181, Cond.instanceMethod ⟨"DotPress$Source", "markLetters", "(Ljava/util/ArrayList;)V"⟩)] := lwcdf (by decide +kernel)
theorem lwcg_4 : lwcdp tables_1 [(1191, Cond.privateMethod ⟨"DotPress$Source", "lengthen", "(I)Z"⟩), (1192, Cond.instanceMethod ⟨"DotPress$Source", "lengthen", "(I)Z"⟩), (1202, Cond.privateMethod ⟨"DotPress", "isReadBack", "()Z"⟩), (1203, Cond.instanceMethod ⟨"DotPress", "isReadBack", "()Z"⟩), (1250, Cond.instantiable "DotPressModel" 67), (1466, Cond.privateMethod ⟨"DotPressModel", "bad", "(I)I"⟩), (1467, Cond.instanceMethod ⟨"DotPressModel", "bad", "(I)I"⟩), (1470, Cond.privateMethod ⟨"DotPressModel", "fine", "(I)I"⟩), (1471, Cond.instanceMethod ⟨"DotPressModel", "fine", "(I)I"⟩), (1485, Cond.privateMethod ⟨"DotPressModel", "isTable", "(I)Z"⟩), (1486, Cond.instanceMethod ⟨"DotPressModel", "isTable", "(I)Z"⟩), (1489, Cond.privateMethod ⟨"DotPressModel", "newTable", "(IIII)I"⟩), (1490, Cond.instanceMethod ⟨"DotPressModel", "newTable", "(IIII)I"⟩), (1493, Cond.privateMethod ⟨"DotPressModel", "step", "(IIII)V"⟩), (1494, Cond.instanceMethod ⟨"DotPressModel", "step", "(IIII)V"⟩), (1510, Cond.privateMethod ⟨"DotPressModel", "taken", "()I"⟩), (1511, Cond.instanceMethod ⟨"DotPressModel", "taken", "()I"⟩), (1514, Cond.privateMethod ⟨"DotPressModel", "areCells", "(III)Z"⟩), (1515, Cond.instanceMethod ⟨"DotPressModel", "areCells", "(III)Z"⟩), (1549, Cond.privateMethod ⟨"DotPressModel", "isWhole", "(I)Z"⟩)] := lwcdf (by decide +kernel)
theorem lwcg_5 : lwcdp tables_1 [(1550, Cond.instanceMethod ⟨"DotPressModel", "isWhole", "(I)Z"⟩), (1553, Cond.privateMethod ⟨"DotPressModel", "lineEnd", "(I)I"⟩), (1554, Cond.instanceMethod ⟨"DotPressModel", "lineEnd", "(I)I"⟩), (1557, Cond.privateMethod ⟨"DotPressModel", "newLine", "()Z"⟩), (1558, Cond.instanceMethod ⟨"DotPressModel", "newLine", "()Z"⟩), (1561, Cond.privateMethod ⟨"DotPressModel", "takeWord", "(II)I"⟩), (1562, Cond.instanceMethod ⟨"DotPressModel", "takeWord", "(II)I"⟩), (1565, Cond.privateMethod ⟨"DotPressModel", "setWord", "(I)Z"⟩), (1566, Cond.instanceMethod ⟨"DotPressModel", "setWord", "(I)Z"⟩), (1569, Cond.privateMethod ⟨"DotPressModel", "setPart", "(III)Z"⟩), (1570, Cond.instanceMethod ⟨"DotPressModel", "setPart", "(III)Z"⟩), (1576, Cond.privateMethod ⟨"DotPressModel", "putIndicator", "(II)V"⟩), (1577, Cond.instanceMethod ⟨"DotPressModel", "putIndicator", "(II)V"⟩), (1580, Cond.privateMethod ⟨"DotPressModel", "find", "(IIII)I"⟩), (1581, Cond.instanceMethod ⟨"DotPressModel", "find", "(IIII)I"⟩), (1584, Cond.privateMethod ⟨"DotPressModel", "contracted", "(IIII)I"⟩), (1585, Cond.instanceMethod ⟨"DotPressModel", "contracted", "(IIII)I"⟩), (1588, Cond.privateMethod ⟨"DotPressModel", "own", "(IIII)I"⟩), (1589, Cond.instanceMethod ⟨"DotPressModel", "own", "(IIII)I"⟩), (1592, Cond.privateMethod ⟨"DotPressModel", "fits", "(IIII)Z"⟩)] := lwcdf (by decide +kernel)
theorem lwcg_6 : lwcdp tables_1 [(1593, Cond.instanceMethod ⟨"DotPressModel", "fits", "(IIII)Z"⟩), (1602, Cond.privateMethod ⟨"DotPressModel", "notSet", "()I"⟩), (1603, Cond.instanceMethod ⟨"DotPressModel", "notSet", "()I"⟩), (1606, Cond.privateMethod ⟨"DotPressModel", "badAt", "(II)I"⟩), (1607, Cond.instanceMethod ⟨"DotPressModel", "badAt", "(II)I"⟩), (1610, Cond.privateMethod ⟨"DotPressModel", "flow", "(I)Z"⟩), (1611, Cond.instanceMethod ⟨"DotPressModel", "flow", "(I)Z"⟩), (1614, Cond.privateMethod ⟨"DotPressModel", "breakOf", "(III)I"⟩), (1615, Cond.instanceMethod ⟨"DotPressModel", "breakOf", "(III)I"⟩), (1618, Cond.privateMethod ⟨"DotPressModel", "putCell", "(I)V"⟩), (1619, Cond.instanceMethod ⟨"DotPressModel", "putCell", "(I)V"⟩), (1622, Cond.privateMethod ⟨"DotPressModel", "centre", "(I)V"⟩), (1623, Cond.instanceMethod ⟨"DotPressModel", "centre", "(I)V"⟩), (1639, Cond.privateMethod ⟨"DotPressModel", "onPage", "()I"⟩), (1640, Cond.instanceMethod ⟨"DotPressModel", "onPage", "()I"⟩), (1643, Cond.privateMethod ⟨"DotPressModel", "hasHead", "()Z"⟩), (1644, Cond.instanceMethod ⟨"DotPressModel", "hasHead", "()Z"⟩), (1651, Cond.privateMethod ⟨"DotPressModel", "lineFault", "(I)I"⟩), (1652, Cond.instanceMethod ⟨"DotPressModel", "lineFault", "(I)I"⟩), (1702, Cond.privateMethod ⟨"DotPressModel", "putRow", "(II)V"⟩)] := lwcdf (by decide +kernel)
theorem lwcg_7 : lwcdp tables_1 [(1703, Cond.instanceMethod ⟨"DotPressModel", "putRow", "(II)V"⟩), (1706, Cond.privateMethod ⟨"DotPressModel", "gather", "(I)V"⟩), (1707, Cond.instanceMethod ⟨"DotPressModel", "gather", "(I)V"⟩), (1710, Cond.privateMethod ⟨"DotPressModel", "addRows", "(II)V"⟩), (1711, Cond.instanceMethod ⟨"DotPressModel", "addRows", "(II)V"⟩), (1714, Cond.privateMethod ⟨"DotPressModel", "addRow", "(IIII)V"⟩), (1715, Cond.instanceMethod ⟨"DotPressModel", "addRow", "(IIII)V"⟩), (1718, Cond.privateMethod ⟨"DotPressModel", "addIndicator", "(III)V"⟩), (1719, Cond.instanceMethod ⟨"DotPressModel", "addIndicator", "(III)V"⟩), (1722, Cond.privateMethod ⟨"DotPressModel", "readAll", "()I"⟩), (1723, Cond.instanceMethod ⟨"DotPressModel", "readAll", "()I"⟩), (1726, Cond.privateMethod ⟨"DotPressModel", "tell", "(I)Z"⟩), (1727, Cond.instanceMethod ⟨"DotPressModel", "tell", "(I)Z"⟩), (1730, Cond.privateMethod ⟨"DotPressModel", "readWord", "(II)I"⟩), (1731, Cond.instanceMethod ⟨"DotPressModel", "readWord", "(II)I"⟩), (1734, Cond.privateMethod ⟨"DotPressModel", "longest", "(III)I"⟩), (1735, Cond.instanceMethod ⟨"DotPressModel", "longest", "(III)I"⟩), (1738, Cond.privateMethod ⟨"DotPressModel", "stands", "(III)Z"⟩), (1739, Cond.instanceMethod ⟨"DotPressModel", "stands", "(III)Z"⟩), (1742, Cond.privateMethod ⟨"DotPressModel", "rowCell", "(II)I"⟩)] := lwcdf (by decide +kernel)
theorem lwcg_8 : lwcdp tables_1 [(1743, Cond.instanceMethod ⟨"DotPressModel", "rowCell", "(II)I"⟩), (1746, Cond.privateMethod ⟨"DotPressModel", "isSmallRule", "(I)Z"⟩), (1747, Cond.instanceMethod ⟨"DotPressModel", "isSmallRule", "(I)Z"⟩), (1762, Cond.privateMethod ⟨"DotPressModel", "findCan", "()V"⟩), (1763, Cond.instanceMethod ⟨"DotPressModel", "findCan", "()V"⟩), (1766, Cond.privateMethod ⟨"DotPressModel", "mayBlank", "(IZ)Z"⟩), (1767, Cond.instanceMethod ⟨"DotPressModel", "mayBlank", "(IZ)Z"⟩), (1770, Cond.privateMethod ⟨"DotPressModel", "looksLike", "(II)Z"⟩), (1771, Cond.instanceMethod ⟨"DotPressModel", "looksLike", "(II)Z"⟩), (1777, Cond.privateMethod ⟨"DotPressModel", "may", "(IIIZ)Z"⟩), (1778, Cond.instanceMethod ⟨"DotPressModel", "may", "(IIIZ)Z"⟩), (1781, Cond.privateMethod ⟨"DotPressModel", "next", "(II)I"⟩), (1782, Cond.instanceMethod ⟨"DotPressModel", "next", "(II)I"⟩), (1785, Cond.privateMethod ⟨"DotPressModel", "go", "(IIZ)V"⟩), (1786, Cond.instanceMethod ⟨"DotPressModel", "go", "(IIZ)V"⟩), (1789, Cond.privateMethod ⟨"DotPressModel", "keep", "()V"⟩), (1790, Cond.instanceMethod ⟨"DotPressModel", "keep", "()V"⟩), (1805, Cond.privateMethod ⟨"DotPressModel", "isShort", "(I)Z"⟩), (1806, Cond.instanceMethod ⟨"DotPressModel", "isShort", "(I)Z"⟩), (1809, Cond.privateMethod ⟨"DotPressModel", "isReadable", "(I)Z"⟩)] := lwcdf (by decide +kernel)
theorem lwcg_9 : lwcdp tables_1 [(1810, Cond.instanceMethod ⟨"DotPressModel", "isReadable", "(I)Z"⟩), (1813, Cond.privateMethod ⟨"DotPressModel", "alike", "(II)I"⟩), (1814, Cond.instanceMethod ⟨"DotPressModel", "alike", "(II)I"⟩), (1825, Cond.privateMethod ⟨"DotPressModel", "gatherSigns", "(I)V"⟩), (1826, Cond.instanceMethod ⟨"DotPressModel", "gatherSigns", "(I)V"⟩), (1829, Cond.privateMethod ⟨"DotPressModel", "putBack", "()V"⟩), (1830, Cond.instanceMethod ⟨"DotPressModel", "putBack", "()V"⟩), (1833, Cond.privateMethod ⟨"DotPressModel", "isUnreadable", "(I)Z"⟩), (1834, Cond.instanceMethod ⟨"DotPressModel", "isUnreadable", "(I)Z"⟩)] := lwcdf (by decide +kernel)
theorem lwsn_0 : "DotPress" ≠ "java/lang/invoke/MethodHandle" ∧ "DotPress" ≠ "java/lang/invoke/VarHandle" := ⟨by decide +kernel, by decide +kernel⟩
theorem lwsn_1 : "java/util/ArrayList" ≠ "java/lang/invoke/MethodHandle" ∧ "java/util/ArrayList" ≠ "java/lang/invoke/VarHandle" := ⟨by decide +kernel, by decide +kernel⟩
theorem lwsn_2 : "DotPress$Source" ≠ "java/lang/invoke/MethodHandle" ∧ "DotPress$Source" ≠ "java/lang/invoke/VarHandle" := ⟨by decide +kernel, by decide +kernel⟩
theorem lwsn_3 : "DotPress$Setting" ≠ "java/lang/invoke/MethodHandle" ∧ "DotPress$Setting" ≠ "java/lang/invoke/VarHandle" := ⟨by decide +kernel, by decide +kernel⟩
theorem lwsn_4 : "DotPress$Reader" ≠ "java/lang/invoke/MethodHandle" ∧ "DotPress$Reader" ≠ "java/lang/invoke/VarHandle" := ⟨by decide +kernel, by decide +kernel⟩
theorem lwsn_5 : "DotPress$Readings" ≠ "java/lang/invoke/MethodHandle" ∧ "DotPress$Readings" ≠ "java/lang/invoke/VarHandle" := ⟨by decide +kernel, by decide +kernel⟩
theorem lwsn_6 : "DotPressModel" ≠ "java/lang/invoke/MethodHandle" ∧ "DotPressModel" ≠ "java/lang/invoke/VarHandle" := ⟨by decide +kernel, by decide +kernel⟩
theorem lw_p0 : lw_okq (⟨"DotPress", "refuse", "(I)I"⟩, 19) := ⟨lwsn_0, lwcg_0.1, lwcg_0.2.2.2.2.2.2.1, lwcg_0.2.2.2.2.2.2.2.1⟩
theorem lw_p1 : lw_okq (⟨"DotPress", "feedFour", "(I)V"⟩, 19) := ⟨lwsn_0, lwcg_0.1, lwcg_0.2.2.2.2.2.2.2.2.1, lwcg_0.2.2.2.2.2.2.2.2.2.1⟩
theorem lw_p2 : lw_okq (⟨"DotPress", "done", "(I)I"⟩, 19) := ⟨lwsn_0, lwcg_0.1, lwcg_0.2.2.2.2.2.2.2.2.2.2.1, lwcg_0.2.2.2.2.2.2.2.2.2.2.2.1⟩
theorem lw_p3 : lw_okq (⟨"java/util/ArrayList", "add", "(Ljava/lang/Object;[Ljava/lang/Object;I)V"⟩, 3) := ⟨lwsn_1, lwcg_0.2.1, lwcg_0.2.2.2.2.2.2.2.2.2.2.2.2.1, lwcg_0.2.2.2.2.2.2.2.2.2.2.2.2.2.1⟩
theorem lw_p4 : lw_okq (⟨"java/util/ArrayList", "grow", "()[Ljava/lang/Object;"⟩, 3) := ⟨lwsn_1, lwcg_0.2.1, lwcg_0.2.2.2.2.2.2.2.2.2.2.2.2.2.2.1, lwcg_0.2.2.2.2.2.2.2.2.2.2.2.2.2.2.2.1⟩
theorem lw_p5 : lw_okq (⟨"java/util/ArrayList", "grow", "(I)[Ljava/lang/Object;"⟩, 3) := ⟨lwsn_1, lwcg_0.2.1, lwcg_0.2.2.2.2.2.2.2.2.2.2.2.2.2.2.2.2.1, lwcg_0.2.2.2.2.2.2.2.2.2.2.2.2.2.2.2.2.2.1⟩
theorem lw_p6 : lw_okq (⟨"java/util/ArrayList", "fastRemove", "([Ljava/lang/Object;I)V"⟩, 3) := ⟨lwsn_1, lwcg_0.2.1, lwcg_0.2.2.2.2.2.2.2.2.2.2.2.2.2.2.2.2.2.2.1, lwcg_0.2.2.2.2.2.2.2.2.2.2.2.2.2.2.2.2.2.2.2.1⟩
theorem lw_p7 : lw_okq (⟨"DotPress", "addRule", "(III)I"⟩, 19) := ⟨lwsn_0, lwcg_0.1, lwcg_1.1, lwcg_1.2.1⟩
theorem lw_p8 : lw_okq (⟨"DotPress", "isRowOfCells", "(II)Z"⟩, 19) := ⟨lwsn_0, lwcg_0.1, lwcg_1.2.2.1, lwcg_1.2.2.2.1⟩
theorem lw_p9 : lw_okq (⟨"DotPress", "changeIndicator", "(II)I"⟩, 19) := ⟨lwsn_0, lwcg_0.1, lwcg_1.2.2.2.2.1, lwcg_1.2.2.2.2.2.1⟩
theorem lw_p10 : lw_okq (⟨"DotPress", "addText", "()I"⟩, 19) := ⟨lwsn_0, lwcg_0.1, lwcg_1.2.2.2.2.2.2.1, lwcg_1.2.2.2.2.2.2.2.1⟩
theorem lw_p11 : lw_okq (⟨"DotPress$Source", "enterLine", "(LDotPress$Ints;)I"⟩, 8) := ⟨lwsn_2, lwcg_0.2.2.1, lwcg_1.2.2.2.2.2.2.2.2.1, lwcg_1.2.2.2.2.2.2.2.2.2.1⟩
theorem lw_p12 : lw_okq (⟨"DotPress$Setting", "setPart", "(LDotPress$Table;II)I"⟩, 12) := ⟨lwsn_3, lwcg_0.2.2.2.1, lwcg_1.2.2.2.2.2.2.2.2.2.2.1, lwcg_1.2.2.2.2.2.2.2.2.2.2.2.1⟩
theorem lw_p13 : lw_okq (⟨"DotPress$Setting", "numberAhead", "(LDotPress$Table;I)LDotPress$Row;"⟩, 12) := ⟨lwsn_3, lwcg_0.2.2.2.1, lwcg_1.2.2.2.2.2.2.2.2.2.2.2.2.1, lwcg_1.2.2.2.2.2.2.2.2.2.2.2.2.2.1⟩
theorem lw_p14 : lw_okq (⟨"DotPress$Setting", "find", "(LDotPress$Table;II)LDotPress$Row;"⟩, 12) := ⟨lwsn_3, lwcg_0.2.2.2.1, lwcg_1.2.2.2.2.2.2.2.2.2.2.2.2.2.2.1, lwcg_1.2.2.2.2.2.2.2.2.2.2.2.2.2.2.2.1⟩
theorem lw_p15 : lw_okq (⟨"DotPress$Setting", "countFind", "(I)V"⟩, 12) := ⟨lwsn_3, lwcg_0.2.2.2.1, lwcg_1.2.2.2.2.2.2.2.2.2.2.2.2.2.2.2.2.1, lwcg_1.2.2.2.2.2.2.2.2.2.2.2.2.2.2.2.2.2.1⟩
def lw_privs_1 : List (MethodName × Nat) := [(⟨"DotPress", "refuse", "(I)I"⟩, 19), (⟨"DotPress", "feedFour", "(I)V"⟩, 19), (⟨"DotPress", "done", "(I)I"⟩, 19), (⟨"java/util/ArrayList", "add", "(Ljava/lang/Object;[Ljava/lang/Object;I)V"⟩, 3), (⟨"java/util/ArrayList", "grow", "()[Ljava/lang/Object;"⟩, 3), (⟨"java/util/ArrayList", "grow", "(I)[Ljava/lang/Object;"⟩, 3), (⟨"java/util/ArrayList", "fastRemove", "([Ljava/lang/Object;I)V"⟩, 3), (⟨"DotPress", "addRule", "(III)I"⟩, 19), (⟨"DotPress", "isRowOfCells", "(II)Z"⟩, 19), (⟨"DotPress", "changeIndicator", "(II)I"⟩, 19), (⟨"DotPress", "addText", "()I"⟩, 19), (⟨"DotPress$Source", "enterLine", "(LDotPress$Ints;)I"⟩, 8), (⟨"DotPress$Setting", "setPart", "(LDotPress$Table;II)I"⟩, 12), (⟨"DotPress$Setting", "numberAhead", "(LDotPress$Table;I)LDotPress$Row;"⟩, 12), (⟨"DotPress$Setting", "find", "(LDotPress$Table;II)LDotPress$Row;"⟩, 12), (⟨"DotPress$Setting", "countFind", "(I)V"⟩, 12)]
theorem lw_r1 : ∀ q ∈ lw_privs_1, lw_okq q := List.forall_mem_cons.mpr ⟨lw_p0, List.forall_mem_cons.mpr ⟨lw_p1, List.forall_mem_cons.mpr ⟨lw_p2, List.forall_mem_cons.mpr ⟨lw_p3, List.forall_mem_cons.mpr ⟨lw_p4, List.forall_mem_cons.mpr ⟨lw_p5, List.forall_mem_cons.mpr ⟨lw_p6, List.forall_mem_cons.mpr ⟨lw_p7, List.forall_mem_cons.mpr ⟨lw_p8, List.forall_mem_cons.mpr ⟨lw_p9, List.forall_mem_cons.mpr ⟨lw_p10, List.forall_mem_cons.mpr ⟨lw_p11, List.forall_mem_cons.mpr ⟨lw_p12, List.forall_mem_cons.mpr ⟨lw_p13, List.forall_mem_cons.mpr ⟨lw_p14, List.forall_mem_cons.mpr ⟨lw_p15, fun _ h => absurd h List.not_mem_nil⟩⟩⟩⟩⟩⟩⟩⟩⟩⟩⟩⟩⟩⟩⟩⟩
theorem lw_p16 : lw_okq (⟨"DotPress$Setting", "findOwn", "(LDotPress$Table;IILDotPress$Row;)LDotPress$Row;"⟩, 12) := ⟨lwsn_3, lwcg_0.2.2.2.1, lwcg_1.2.2.2.2.2.2.2.2.2.2.2.2.2.2.2.2.2.2.1, lwcg_1.2.2.2.2.2.2.2.2.2.2.2.2.2.2.2.2.2.2.2.1⟩
theorem lw_p17 : lw_okq (⟨"DotPress$Setting", "fits", "(LDotPress$Row;I)Z"⟩, 12) := ⟨lwsn_3, lwcg_0.2.2.2.1, lwcg_2.1, lwcg_2.2.1⟩
theorem lw_p18 : lw_okq (⟨"DotPress$Setting", "markStart", "(II)V"⟩, 12) := ⟨lwsn_3, lwcg_0.2.2.2.1, lwcg_2.2.2.1, lwcg_2.2.2.2.1⟩
theorem lw_p19 : lw_okq (⟨"DotPress$Setting", "push", "(LDotPress$Row;)V"⟩, 12) := ⟨lwsn_3, lwcg_0.2.2.2.1, lwcg_2.2.2.2.2.1, lwcg_2.2.2.2.2.2.1⟩
theorem lw_p20 : lw_okq (⟨"DotPress$Setting", "setTurn", "(LDotPress$Row;I)I"⟩, 12) := ⟨lwsn_3, lwcg_0.2.2.2.1, lwcg_2.2.2.2.2.2.2.1, lwcg_2.2.2.2.2.2.2.2.1⟩
theorem lw_p21 : lw_okq (⟨"DotPress", "publish", "()I"⟩, 19) := ⟨lwsn_0, lwcg_0.1, lwcg_2.2.2.2.2.2.2.2.2.1, lwcg_2.2.2.2.2.2.2.2.2.2.1⟩
theorem lw_p22 : lw_okq (⟨"DotPress", "refuseAt", "(II)I"⟩, 19) := ⟨lwsn_0, lwcg_0.1, lwcg_2.2.2.2.2.2.2.2.2.2.2.1, lwcg_2.2.2.2.2.2.2.2.2.2.2.2.1⟩
theorem lw_p23 : lw_okq (⟨"DotPress", "linesOfPage", "()I"⟩, 19) := ⟨lwsn_0, lwcg_0.1, lwcg_2.2.2.2.2.2.2.2.2.2.2.2.2.1, lwcg_2.2.2.2.2.2.2.2.2.2.2.2.2.2.1⟩
theorem lw_p24 : lw_okq (⟨"DotPress", "pagesHaveHeader", "()Z"⟩, 19) := ⟨lwsn_0, lwcg_0.1, lwcg_2.2.2.2.2.2.2.2.2.2.2.2.2.2.2.1, lwcg_2.2.2.2.2.2.2.2.2.2.2.2.2.2.2.2.1⟩
theorem lw_p25 : lw_okq (⟨"DotPress", "cellOfLine", "(II)I"⟩, 19) := ⟨lwsn_0, lwcg_0.1, lwcg_2.2.2.2.2.2.2.2.2.2.2.2.2.2.2.2.2.1, lwcg_2.2.2.2.2.2.2.2.2.2.2.2.2.2.2.2.2.2.1⟩
theorem lw_p26 : lw_okq (⟨"DotPress", "chainLines", "(II)V"⟩, 19) := ⟨lwsn_0, lwcg_0.1, lwcg_2.2.2.2.2.2.2.2.2.2.2.2.2.2.2.2.2.2.2.1, lwcg_2.2.2.2.2.2.2.2.2.2.2.2.2.2.2.2.2.2.2.2.1⟩
theorem lw_p27 : lw_okq (⟨"DotPress$Reader", "decodeWord", "(I)I"⟩, 8) := ⟨lwsn_4, lwcg_0.2.2.2.2.1, lwcg_3.1, lwcg_3.2.1⟩
theorem lw_p28 : lw_okq (⟨"DotPress$Reader", "longestAt", "(ZI)LDotPress$Row;"⟩, 8) := ⟨lwsn_4, lwcg_0.2.2.2.2.1, lwcg_3.2.2.1, lwcg_3.2.2.2.1⟩
theorem lw_p29 : lw_okq (⟨"DotPress$Readings", "markEnds", "()V"⟩, 11) := ⟨lwsn_5, lwcg_0.2.2.2.2.2.1, lwcg_3.2.2.2.2.1, lwcg_3.2.2.2.2.2.1⟩
theorem lw_p30 : lw_okq (⟨"DotPress$Readings", "nextChoice", "(II)I"⟩, 11) := ⟨lwsn_5, lwcg_0.2.2.2.2.2.1, lwcg_3.2.2.2.2.2.2.1, lwcg_3.2.2.2.2.2.2.2.1⟩
theorem lw_p31 : lw_okq (⟨"DotPress$Readings", "nodeBehind", "(II)I"⟩, 11) := ⟨lwsn_5, lwcg_0.2.2.2.2.2.1, lwcg_3.2.2.2.2.2.2.2.2.1, lwcg_3.2.2.2.2.2.2.2.2.2.1⟩
def lw_privs_2 : List (MethodName × Nat) := [(⟨"DotPress$Setting", "findOwn", "(LDotPress$Table;IILDotPress$Row;)LDotPress$Row;"⟩, 12), (⟨"DotPress$Setting", "fits", "(LDotPress$Row;I)Z"⟩, 12), (⟨"DotPress$Setting", "markStart", "(II)V"⟩, 12), (⟨"DotPress$Setting", "push", "(LDotPress$Row;)V"⟩, 12), (⟨"DotPress$Setting", "setTurn", "(LDotPress$Row;I)I"⟩, 12), (⟨"DotPress", "publish", "()I"⟩, 19), (⟨"DotPress", "refuseAt", "(II)I"⟩, 19), (⟨"DotPress", "linesOfPage", "()I"⟩, 19), (⟨"DotPress", "pagesHaveHeader", "()Z"⟩, 19), (⟨"DotPress", "cellOfLine", "(II)I"⟩, 19), (⟨"DotPress", "chainLines", "(II)V"⟩, 19), (⟨"DotPress$Reader", "decodeWord", "(I)I"⟩, 8), (⟨"DotPress$Reader", "longestAt", "(ZI)LDotPress$Row;"⟩, 8), (⟨"DotPress$Readings", "markEnds", "()V"⟩, 11), (⟨"DotPress$Readings", "nextChoice", "(II)I"⟩, 11), (⟨"DotPress$Readings", "nodeBehind", "(II)I"⟩, 11)]
theorem lw_r2 : ∀ q ∈ lw_privs_2, lw_okq q := List.forall_mem_cons.mpr ⟨lw_p16, List.forall_mem_cons.mpr ⟨lw_p17, List.forall_mem_cons.mpr ⟨lw_p18, List.forall_mem_cons.mpr ⟨lw_p19, List.forall_mem_cons.mpr ⟨lw_p20, List.forall_mem_cons.mpr ⟨lw_p21, List.forall_mem_cons.mpr ⟨lw_p22, List.forall_mem_cons.mpr ⟨lw_p23, List.forall_mem_cons.mpr ⟨lw_p24, List.forall_mem_cons.mpr ⟨lw_p25, List.forall_mem_cons.mpr ⟨lw_p26, List.forall_mem_cons.mpr ⟨lw_p27, List.forall_mem_cons.mpr ⟨lw_p28, List.forall_mem_cons.mpr ⟨lw_p29, List.forall_mem_cons.mpr ⟨lw_p30, List.forall_mem_cons.mpr ⟨lw_p31, fun _ h => absurd h List.not_mem_nil⟩⟩⟩⟩⟩⟩⟩⟩⟩⟩⟩⟩⟩⟩⟩⟩
theorem lw_p32 : lw_okq (⟨"DotPress$Readings", "looksLike", "(II)Z"⟩, 11) := ⟨lwsn_5, lwcg_0.2.2.2.2.2.1, lwcg_3.2.2.2.2.2.2.2.2.2.2.1, lwcg_3.2.2.2.2.2.2.2.2.2.2.2.1⟩
theorem lw_p33 : lw_okq (⟨"DotPress$Readings", "looksLikeRow", "(LDotPress$Row;I)Z"⟩, 11) := ⟨lwsn_5, lwcg_0.2.2.2.2.2.1, lwcg_3.2.2.2.2.2.2.2.2.2.2.2.2.1, lwcg_3.2.2.2.2.2.2.2.2.2.2.2.2.2.1⟩
theorem lw_p34 : lw_okq (⟨"DotPress$Readings", "walk", "(I)V"⟩, 11) := ⟨lwsn_5, lwcg_0.2.2.2.2.2.1, lwcg_3.2.2.2.2.2.2.2.2.2.2.2.2.2.2.1, lwcg_3.2.2.2.2.2.2.2.2.2.2.2.2.2.2.2.1⟩
theorem lw_p35 : lw_okq (⟨"DotPress$Readings", "write", "(I)V"⟩, 11) := ⟨lwsn_5, lwcg_0.2.2.2.2.2.1, lwcg_3.2.2.2.2.2.2.2.2.2.2.2.2.2.2.2.2.1, lwcg_3.2.2.2.2.2.2.2.2.2.2.2.2.2.2.2.2.2.1⟩
theorem lw_p36 : lw_okq (⟨"DotPress$Source", "markLetters", "(Ljava/util/ArrayList;)V"⟩, 8) := ⟨lwsn_2, lwcg_0.2.2.1, lwcg_3.2.2.2.2.2.2.2.2.2.2.2.2.2.2.2.2.2.2.1, lwcg_3.2.2.2.2.2.2.2.2.2.2.2.2.2.2.2.2.2.2.2.1⟩
theorem lw_p37 : lw_okq (⟨"DotPress$Source", "lengthen", "(I)Z"⟩, 8) := ⟨lwsn_2, lwcg_0.2.2.1, lwcg_4.1, lwcg_4.2.1⟩
theorem lw_p38 : lw_okq (⟨"DotPress", "isReadBack", "()Z"⟩, 19) := ⟨lwsn_0, lwcg_0.1, lwcg_4.2.2.1, lwcg_4.2.2.2.1⟩
theorem lw_p39 : lw_okq (⟨"DotPressModel", "bad", "(I)I"⟩, 67) := ⟨lwsn_6, lwcg_4.2.2.2.2.1, lwcg_4.2.2.2.2.2.1, lwcg_4.2.2.2.2.2.2.1⟩
theorem lw_p40 : lw_okq (⟨"DotPressModel", "fine", "(I)I"⟩, 67) := ⟨lwsn_6, lwcg_4.2.2.2.2.1, lwcg_4.2.2.2.2.2.2.2.1, lwcg_4.2.2.2.2.2.2.2.2.1⟩
theorem lw_p41 : lw_okq (⟨"DotPressModel", "isTable", "(I)Z"⟩, 67) := ⟨lwsn_6, lwcg_4.2.2.2.2.1, lwcg_4.2.2.2.2.2.2.2.2.2.1, lwcg_4.2.2.2.2.2.2.2.2.2.2.1⟩
theorem lw_p42 : lw_okq (⟨"DotPressModel", "newTable", "(IIII)I"⟩, 67) := ⟨lwsn_6, lwcg_4.2.2.2.2.1, lwcg_4.2.2.2.2.2.2.2.2.2.2.2.1, lwcg_4.2.2.2.2.2.2.2.2.2.2.2.2.1⟩
theorem lw_p43 : lw_okq (⟨"DotPressModel", "step", "(IIII)V"⟩, 67) := ⟨lwsn_6, lwcg_4.2.2.2.2.1, lwcg_4.2.2.2.2.2.2.2.2.2.2.2.2.2.1, lwcg_4.2.2.2.2.2.2.2.2.2.2.2.2.2.2.1⟩
theorem lw_p44 : lw_okq (⟨"DotPressModel", "taken", "()I"⟩, 67) := ⟨lwsn_6, lwcg_4.2.2.2.2.1, lwcg_4.2.2.2.2.2.2.2.2.2.2.2.2.2.2.2.1, lwcg_4.2.2.2.2.2.2.2.2.2.2.2.2.2.2.2.2.1⟩
theorem lw_p45 : lw_okq (⟨"DotPressModel", "areCells", "(III)Z"⟩, 67) := ⟨lwsn_6, lwcg_4.2.2.2.2.1, lwcg_4.2.2.2.2.2.2.2.2.2.2.2.2.2.2.2.2.2.1, lwcg_4.2.2.2.2.2.2.2.2.2.2.2.2.2.2.2.2.2.2.1⟩
theorem lw_p46 : lw_okq (⟨"DotPressModel", "isWhole", "(I)Z"⟩, 67) := ⟨lwsn_6, lwcg_4.2.2.2.2.1, lwcg_4.2.2.2.2.2.2.2.2.2.2.2.2.2.2.2.2.2.2.2.1, lwcg_5.1⟩
theorem lw_p47 : lw_okq (⟨"DotPressModel", "lineEnd", "(I)I"⟩, 67) := ⟨lwsn_6, lwcg_4.2.2.2.2.1, lwcg_5.2.1, lwcg_5.2.2.1⟩
def lw_privs_3 : List (MethodName × Nat) := [(⟨"DotPress$Readings", "looksLike", "(II)Z"⟩, 11), (⟨"DotPress$Readings", "looksLikeRow", "(LDotPress$Row;I)Z"⟩, 11), (⟨"DotPress$Readings", "walk", "(I)V"⟩, 11), (⟨"DotPress$Readings", "write", "(I)V"⟩, 11), (⟨"DotPress$Source", "markLetters", "(Ljava/util/ArrayList;)V"⟩, 8), (⟨"DotPress$Source", "lengthen", "(I)Z"⟩, 8), (⟨"DotPress", "isReadBack", "()Z"⟩, 19), (⟨"DotPressModel", "bad", "(I)I"⟩, 67), (⟨"DotPressModel", "fine", "(I)I"⟩, 67), (⟨"DotPressModel", "isTable", "(I)Z"⟩, 67), (⟨"DotPressModel", "newTable", "(IIII)I"⟩, 67), (⟨"DotPressModel", "step", "(IIII)V"⟩, 67), (⟨"DotPressModel", "taken", "()I"⟩, 67), (⟨"DotPressModel", "areCells", "(III)Z"⟩, 67), (⟨"DotPressModel", "isWhole", "(I)Z"⟩, 67), (⟨"DotPressModel", "lineEnd", "(I)I"⟩, 67)]
theorem lw_r3 : ∀ q ∈ lw_privs_3, lw_okq q := List.forall_mem_cons.mpr ⟨lw_p32, List.forall_mem_cons.mpr ⟨lw_p33, List.forall_mem_cons.mpr ⟨lw_p34, List.forall_mem_cons.mpr ⟨lw_p35, List.forall_mem_cons.mpr ⟨lw_p36, List.forall_mem_cons.mpr ⟨lw_p37, List.forall_mem_cons.mpr ⟨lw_p38, List.forall_mem_cons.mpr ⟨lw_p39, List.forall_mem_cons.mpr ⟨lw_p40, List.forall_mem_cons.mpr ⟨lw_p41, List.forall_mem_cons.mpr ⟨lw_p42, List.forall_mem_cons.mpr ⟨lw_p43, List.forall_mem_cons.mpr ⟨lw_p44, List.forall_mem_cons.mpr ⟨lw_p45, List.forall_mem_cons.mpr ⟨lw_p46, List.forall_mem_cons.mpr ⟨lw_p47, fun _ h => absurd h List.not_mem_nil⟩⟩⟩⟩⟩⟩⟩⟩⟩⟩⟩⟩⟩⟩⟩⟩
theorem lw_p48 : lw_okq (⟨"DotPressModel", "newLine", "()Z"⟩, 67) := ⟨lwsn_6, lwcg_4.2.2.2.2.1, lwcg_5.2.2.2.1, lwcg_5.2.2.2.2.1⟩
theorem lw_p49 : lw_okq (⟨"DotPressModel", "takeWord", "(II)I"⟩, 67) := ⟨lwsn_6, lwcg_4.2.2.2.2.1, lwcg_5.2.2.2.2.2.1, lwcg_5.2.2.2.2.2.2.1⟩
theorem lw_p50 : lw_okq (⟨"DotPressModel", "setWord", "(I)Z"⟩, 67) := ⟨lwsn_6, lwcg_4.2.2.2.2.1, lwcg_5.2.2.2.2.2.2.2.1, lwcg_5.2.2.2.2.2.2.2.2.1⟩
theorem lw_p51 : lw_okq (⟨"DotPressModel", "setPart", "(III)Z"⟩, 67) := ⟨lwsn_6, lwcg_4.2.2.2.2.1, lwcg_5.2.2.2.2.2.2.2.2.2.1, lwcg_5.2.2.2.2.2.2.2.2.2.2.1⟩
theorem lw_p52 : lw_okq (⟨"DotPressModel", "putIndicator", "(II)V"⟩, 67) := ⟨lwsn_6, lwcg_4.2.2.2.2.1, lwcg_5.2.2.2.2.2.2.2.2.2.2.2.1, lwcg_5.2.2.2.2.2.2.2.2.2.2.2.2.1⟩
theorem lw_p53 : lw_okq (⟨"DotPressModel", "find", "(IIII)I"⟩, 67) := ⟨lwsn_6, lwcg_4.2.2.2.2.1, lwcg_5.2.2.2.2.2.2.2.2.2.2.2.2.2.1, lwcg_5.2.2.2.2.2.2.2.2.2.2.2.2.2.2.1⟩
theorem lw_p54 : lw_okq (⟨"DotPressModel", "contracted", "(IIII)I"⟩, 67) := ⟨lwsn_6, lwcg_4.2.2.2.2.1, lwcg_5.2.2.2.2.2.2.2.2.2.2.2.2.2.2.2.1, lwcg_5.2.2.2.2.2.2.2.2.2.2.2.2.2.2.2.2.1⟩
theorem lw_p55 : lw_okq (⟨"DotPressModel", "own", "(IIII)I"⟩, 67) := ⟨lwsn_6, lwcg_4.2.2.2.2.1, lwcg_5.2.2.2.2.2.2.2.2.2.2.2.2.2.2.2.2.2.1, lwcg_5.2.2.2.2.2.2.2.2.2.2.2.2.2.2.2.2.2.2.1⟩
theorem lw_p56 : lw_okq (⟨"DotPressModel", "fits", "(IIII)Z"⟩, 67) := ⟨lwsn_6, lwcg_4.2.2.2.2.1, lwcg_5.2.2.2.2.2.2.2.2.2.2.2.2.2.2.2.2.2.2.2.1, lwcg_6.1⟩
theorem lw_p57 : lw_okq (⟨"DotPressModel", "notSet", "()I"⟩, 67) := ⟨lwsn_6, lwcg_4.2.2.2.2.1, lwcg_6.2.1, lwcg_6.2.2.1⟩
theorem lw_p58 : lw_okq (⟨"DotPressModel", "badAt", "(II)I"⟩, 67) := ⟨lwsn_6, lwcg_4.2.2.2.2.1, lwcg_6.2.2.2.1, lwcg_6.2.2.2.2.1⟩
theorem lw_p59 : lw_okq (⟨"DotPressModel", "flow", "(I)Z"⟩, 67) := ⟨lwsn_6, lwcg_4.2.2.2.2.1, lwcg_6.2.2.2.2.2.1, lwcg_6.2.2.2.2.2.2.1⟩
theorem lw_p60 : lw_okq (⟨"DotPressModel", "breakOf", "(III)I"⟩, 67) := ⟨lwsn_6, lwcg_4.2.2.2.2.1, lwcg_6.2.2.2.2.2.2.2.1, lwcg_6.2.2.2.2.2.2.2.2.1⟩
theorem lw_p61 : lw_okq (⟨"DotPressModel", "putCell", "(I)V"⟩, 67) := ⟨lwsn_6, lwcg_4.2.2.2.2.1, lwcg_6.2.2.2.2.2.2.2.2.2.1, lwcg_6.2.2.2.2.2.2.2.2.2.2.1⟩
theorem lw_p62 : lw_okq (⟨"DotPressModel", "centre", "(I)V"⟩, 67) := ⟨lwsn_6, lwcg_4.2.2.2.2.1, lwcg_6.2.2.2.2.2.2.2.2.2.2.2.1, lwcg_6.2.2.2.2.2.2.2.2.2.2.2.2.1⟩
theorem lw_p63 : lw_okq (⟨"DotPressModel", "onPage", "()I"⟩, 67) := ⟨lwsn_6, lwcg_4.2.2.2.2.1, lwcg_6.2.2.2.2.2.2.2.2.2.2.2.2.2.1, lwcg_6.2.2.2.2.2.2.2.2.2.2.2.2.2.2.1⟩
def lw_privs_4 : List (MethodName × Nat) := [(⟨"DotPressModel", "newLine", "()Z"⟩, 67), (⟨"DotPressModel", "takeWord", "(II)I"⟩, 67), (⟨"DotPressModel", "setWord", "(I)Z"⟩, 67), (⟨"DotPressModel", "setPart", "(III)Z"⟩, 67), (⟨"DotPressModel", "putIndicator", "(II)V"⟩, 67), (⟨"DotPressModel", "find", "(IIII)I"⟩, 67), (⟨"DotPressModel", "contracted", "(IIII)I"⟩, 67), (⟨"DotPressModel", "own", "(IIII)I"⟩, 67), (⟨"DotPressModel", "fits", "(IIII)Z"⟩, 67), (⟨"DotPressModel", "notSet", "()I"⟩, 67), (⟨"DotPressModel", "badAt", "(II)I"⟩, 67), (⟨"DotPressModel", "flow", "(I)Z"⟩, 67), (⟨"DotPressModel", "breakOf", "(III)I"⟩, 67), (⟨"DotPressModel", "putCell", "(I)V"⟩, 67), (⟨"DotPressModel", "centre", "(I)V"⟩, 67), (⟨"DotPressModel", "onPage", "()I"⟩, 67)]
theorem lw_r4 : ∀ q ∈ lw_privs_4, lw_okq q := List.forall_mem_cons.mpr ⟨lw_p48, List.forall_mem_cons.mpr ⟨lw_p49, List.forall_mem_cons.mpr ⟨lw_p50, List.forall_mem_cons.mpr ⟨lw_p51, List.forall_mem_cons.mpr ⟨lw_p52, List.forall_mem_cons.mpr ⟨lw_p53, List.forall_mem_cons.mpr ⟨lw_p54, List.forall_mem_cons.mpr ⟨lw_p55, List.forall_mem_cons.mpr ⟨lw_p56, List.forall_mem_cons.mpr ⟨lw_p57, List.forall_mem_cons.mpr ⟨lw_p58, List.forall_mem_cons.mpr ⟨lw_p59, List.forall_mem_cons.mpr ⟨lw_p60, List.forall_mem_cons.mpr ⟨lw_p61, List.forall_mem_cons.mpr ⟨lw_p62, List.forall_mem_cons.mpr ⟨lw_p63, fun _ h => absurd h List.not_mem_nil⟩⟩⟩⟩⟩⟩⟩⟩⟩⟩⟩⟩⟩⟩⟩⟩
theorem lw_p64 : lw_okq (⟨"DotPressModel", "hasHead", "()Z"⟩, 67) := ⟨lwsn_6, lwcg_4.2.2.2.2.1, lwcg_6.2.2.2.2.2.2.2.2.2.2.2.2.2.2.2.1, lwcg_6.2.2.2.2.2.2.2.2.2.2.2.2.2.2.2.2.1⟩
theorem lw_p65 : lw_okq (⟨"DotPressModel", "lineFault", "(I)I"⟩, 67) := ⟨lwsn_6, lwcg_4.2.2.2.2.1, lwcg_6.2.2.2.2.2.2.2.2.2.2.2.2.2.2.2.2.2.1, lwcg_6.2.2.2.2.2.2.2.2.2.2.2.2.2.2.2.2.2.2.1⟩
theorem lw_p66 : lw_okq (⟨"DotPressModel", "putRow", "(II)V"⟩, 67) := ⟨lwsn_6, lwcg_4.2.2.2.2.1, lwcg_6.2.2.2.2.2.2.2.2.2.2.2.2.2.2.2.2.2.2.2.1, lwcg_7.1⟩
theorem lw_p67 : lw_okq (⟨"DotPressModel", "gather", "(I)V"⟩, 67) := ⟨lwsn_6, lwcg_4.2.2.2.2.1, lwcg_7.2.1, lwcg_7.2.2.1⟩
theorem lw_p68 : lw_okq (⟨"DotPressModel", "addRows", "(II)V"⟩, 67) := ⟨lwsn_6, lwcg_4.2.2.2.2.1, lwcg_7.2.2.2.1, lwcg_7.2.2.2.2.1⟩
theorem lw_p69 : lw_okq (⟨"DotPressModel", "addRow", "(IIII)V"⟩, 67) := ⟨lwsn_6, lwcg_4.2.2.2.2.1, lwcg_7.2.2.2.2.2.1, lwcg_7.2.2.2.2.2.2.1⟩
theorem lw_p70 : lw_okq (⟨"DotPressModel", "addIndicator", "(III)V"⟩, 67) := ⟨lwsn_6, lwcg_4.2.2.2.2.1, lwcg_7.2.2.2.2.2.2.2.1, lwcg_7.2.2.2.2.2.2.2.2.1⟩
theorem lw_p71 : lw_okq (⟨"DotPressModel", "readAll", "()I"⟩, 67) := ⟨lwsn_6, lwcg_4.2.2.2.2.1, lwcg_7.2.2.2.2.2.2.2.2.2.1, lwcg_7.2.2.2.2.2.2.2.2.2.2.1⟩
theorem lw_p72 : lw_okq (⟨"DotPressModel", "tell", "(I)Z"⟩, 67) := ⟨lwsn_6, lwcg_4.2.2.2.2.1, lwcg_7.2.2.2.2.2.2.2.2.2.2.2.1, lwcg_7.2.2.2.2.2.2.2.2.2.2.2.2.1⟩
theorem lw_p73 : lw_okq (⟨"DotPressModel", "readWord", "(II)I"⟩, 67) := ⟨lwsn_6, lwcg_4.2.2.2.2.1, lwcg_7.2.2.2.2.2.2.2.2.2.2.2.2.2.1, lwcg_7.2.2.2.2.2.2.2.2.2.2.2.2.2.2.1⟩
theorem lw_p74 : lw_okq (⟨"DotPressModel", "longest", "(III)I"⟩, 67) := ⟨lwsn_6, lwcg_4.2.2.2.2.1, lwcg_7.2.2.2.2.2.2.2.2.2.2.2.2.2.2.2.1, lwcg_7.2.2.2.2.2.2.2.2.2.2.2.2.2.2.2.2.1⟩
theorem lw_p75 : lw_okq (⟨"DotPressModel", "stands", "(III)Z"⟩, 67) := ⟨lwsn_6, lwcg_4.2.2.2.2.1, lwcg_7.2.2.2.2.2.2.2.2.2.2.2.2.2.2.2.2.2.1, lwcg_7.2.2.2.2.2.2.2.2.2.2.2.2.2.2.2.2.2.2.1⟩
theorem lw_p76 : lw_okq (⟨"DotPressModel", "rowCell", "(II)I"⟩, 67) := ⟨lwsn_6, lwcg_4.2.2.2.2.1, lwcg_7.2.2.2.2.2.2.2.2.2.2.2.2.2.2.2.2.2.2.2.1, lwcg_8.1⟩
theorem lw_p77 : lw_okq (⟨"DotPressModel", "isSmallRule", "(I)Z"⟩, 67) := ⟨lwsn_6, lwcg_4.2.2.2.2.1, lwcg_8.2.1, lwcg_8.2.2.1⟩
theorem lw_p78 : lw_okq (⟨"DotPressModel", "findCan", "()V"⟩, 67) := ⟨lwsn_6, lwcg_4.2.2.2.2.1, lwcg_8.2.2.2.1, lwcg_8.2.2.2.2.1⟩
theorem lw_p79 : lw_okq (⟨"DotPressModel", "mayBlank", "(IZ)Z"⟩, 67) := ⟨lwsn_6, lwcg_4.2.2.2.2.1, lwcg_8.2.2.2.2.2.1, lwcg_8.2.2.2.2.2.2.1⟩
def lw_privs_5 : List (MethodName × Nat) := [(⟨"DotPressModel", "hasHead", "()Z"⟩, 67), (⟨"DotPressModel", "lineFault", "(I)I"⟩, 67), (⟨"DotPressModel", "putRow", "(II)V"⟩, 67), (⟨"DotPressModel", "gather", "(I)V"⟩, 67), (⟨"DotPressModel", "addRows", "(II)V"⟩, 67), (⟨"DotPressModel", "addRow", "(IIII)V"⟩, 67), (⟨"DotPressModel", "addIndicator", "(III)V"⟩, 67), (⟨"DotPressModel", "readAll", "()I"⟩, 67), (⟨"DotPressModel", "tell", "(I)Z"⟩, 67), (⟨"DotPressModel", "readWord", "(II)I"⟩, 67), (⟨"DotPressModel", "longest", "(III)I"⟩, 67), (⟨"DotPressModel", "stands", "(III)Z"⟩, 67), (⟨"DotPressModel", "rowCell", "(II)I"⟩, 67), (⟨"DotPressModel", "isSmallRule", "(I)Z"⟩, 67), (⟨"DotPressModel", "findCan", "()V"⟩, 67), (⟨"DotPressModel", "mayBlank", "(IZ)Z"⟩, 67)]
theorem lw_r5 : ∀ q ∈ lw_privs_5, lw_okq q := List.forall_mem_cons.mpr ⟨lw_p64, List.forall_mem_cons.mpr ⟨lw_p65, List.forall_mem_cons.mpr ⟨lw_p66, List.forall_mem_cons.mpr ⟨lw_p67, List.forall_mem_cons.mpr ⟨lw_p68, List.forall_mem_cons.mpr ⟨lw_p69, List.forall_mem_cons.mpr ⟨lw_p70, List.forall_mem_cons.mpr ⟨lw_p71, List.forall_mem_cons.mpr ⟨lw_p72, List.forall_mem_cons.mpr ⟨lw_p73, List.forall_mem_cons.mpr ⟨lw_p74, List.forall_mem_cons.mpr ⟨lw_p75, List.forall_mem_cons.mpr ⟨lw_p76, List.forall_mem_cons.mpr ⟨lw_p77, List.forall_mem_cons.mpr ⟨lw_p78, List.forall_mem_cons.mpr ⟨lw_p79, fun _ h => absurd h List.not_mem_nil⟩⟩⟩⟩⟩⟩⟩⟩⟩⟩⟩⟩⟩⟩⟩⟩
theorem lw_p80 : lw_okq (⟨"DotPressModel", "looksLike", "(II)Z"⟩, 67) := ⟨lwsn_6, lwcg_4.2.2.2.2.1, lwcg_8.2.2.2.2.2.2.2.1, lwcg_8.2.2.2.2.2.2.2.2.1⟩
theorem lw_p81 : lw_okq (⟨"DotPressModel", "may", "(IIIZ)Z"⟩, 67) := ⟨lwsn_6, lwcg_4.2.2.2.2.1, lwcg_8.2.2.2.2.2.2.2.2.2.1, lwcg_8.2.2.2.2.2.2.2.2.2.2.1⟩
theorem lw_p82 : lw_okq (⟨"DotPressModel", "next", "(II)I"⟩, 67) := ⟨lwsn_6, lwcg_4.2.2.2.2.1, lwcg_8.2.2.2.2.2.2.2.2.2.2.2.1, lwcg_8.2.2.2.2.2.2.2.2.2.2.2.2.1⟩
theorem lw_p83 : lw_okq (⟨"DotPressModel", "go", "(IIZ)V"⟩, 67) := ⟨lwsn_6, lwcg_4.2.2.2.2.1, lwcg_8.2.2.2.2.2.2.2.2.2.2.2.2.2.1, lwcg_8.2.2.2.2.2.2.2.2.2.2.2.2.2.2.1⟩
theorem lw_p84 : lw_okq (⟨"DotPressModel", "keep", "()V"⟩, 67) := ⟨lwsn_6, lwcg_4.2.2.2.2.1, lwcg_8.2.2.2.2.2.2.2.2.2.2.2.2.2.2.2.1, lwcg_8.2.2.2.2.2.2.2.2.2.2.2.2.2.2.2.2.1⟩
theorem lw_p85 : lw_okq (⟨"DotPressModel", "isShort", "(I)Z"⟩, 67) := ⟨lwsn_6, lwcg_4.2.2.2.2.1, lwcg_8.2.2.2.2.2.2.2.2.2.2.2.2.2.2.2.2.2.1, lwcg_8.2.2.2.2.2.2.2.2.2.2.2.2.2.2.2.2.2.2.1⟩
theorem lw_p86 : lw_okq (⟨"DotPressModel", "isReadable", "(I)Z"⟩, 67) := ⟨lwsn_6, lwcg_4.2.2.2.2.1, lwcg_8.2.2.2.2.2.2.2.2.2.2.2.2.2.2.2.2.2.2.2.1, lwcg_9.1⟩
theorem lw_p87 : lw_okq (⟨"DotPressModel", "alike", "(II)I"⟩, 67) := ⟨lwsn_6, lwcg_4.2.2.2.2.1, lwcg_9.2.1, lwcg_9.2.2.1⟩
theorem lw_p88 : lw_okq (⟨"DotPressModel", "gatherSigns", "(I)V"⟩, 67) := ⟨lwsn_6, lwcg_4.2.2.2.2.1, lwcg_9.2.2.2.1, lwcg_9.2.2.2.2.1⟩
theorem lw_p89 : lw_okq (⟨"DotPressModel", "putBack", "()V"⟩, 67) := ⟨lwsn_6, lwcg_4.2.2.2.2.1, lwcg_9.2.2.2.2.2.1, lwcg_9.2.2.2.2.2.2.1⟩
theorem lw_p90 : lw_okq (⟨"DotPressModel", "isUnreadable", "(I)Z"⟩, 67) := ⟨lwsn_6, lwcg_4.2.2.2.2.1, lwcg_9.2.2.2.2.2.2.2.1, lwcg_9.2.2.2.2.2.2.2.2.1⟩
def lw_privs_6 : List (MethodName × Nat) := [(⟨"DotPressModel", "looksLike", "(II)Z"⟩, 67), (⟨"DotPressModel", "may", "(IIIZ)Z"⟩, 67), (⟨"DotPressModel", "next", "(II)I"⟩, 67), (⟨"DotPressModel", "go", "(IIZ)V"⟩, 67), (⟨"DotPressModel", "keep", "()V"⟩, 67), (⟨"DotPressModel", "isShort", "(I)Z"⟩, 67), (⟨"DotPressModel", "isReadable", "(I)Z"⟩, 67), (⟨"DotPressModel", "alike", "(II)I"⟩, 67), (⟨"DotPressModel", "gatherSigns", "(I)V"⟩, 67), (⟨"DotPressModel", "putBack", "()V"⟩, 67), (⟨"DotPressModel", "isUnreadable", "(I)Z"⟩, 67)]
theorem lw_r6 : ∀ q ∈ lw_privs_6, lw_okq q := List.forall_mem_cons.mpr ⟨lw_p80, List.forall_mem_cons.mpr ⟨lw_p81, List.forall_mem_cons.mpr ⟨lw_p82, List.forall_mem_cons.mpr ⟨lw_p83, List.forall_mem_cons.mpr ⟨lw_p84, List.forall_mem_cons.mpr ⟨lw_p85, List.forall_mem_cons.mpr ⟨lw_p86, List.forall_mem_cons.mpr ⟨lw_p87, List.forall_mem_cons.mpr ⟨lw_p88, List.forall_mem_cons.mpr ⟨lw_p89, List.forall_mem_cons.mpr ⟨lw_p90, fun _ h => absurd h List.not_mem_nil⟩⟩⟩⟩⟩⟩⟩⟩⟩⟩⟩
def lw_privs : List (MethodName × Nat) := lw_privs_1 ++ (lw_privs_2 ++ (lw_privs_3 ++ (lw_privs_4 ++ (lw_privs_5 ++ (lw_privs_6)))))
def lw_tbl : List Cond := k2_sels lw_privs ++ tables_1
theorem lw_privs_ok : ∀ q ∈ lw_privs, lw_okq q := by
  show ∀ q ∈ lw_privs_1 ++ (lw_privs_2 ++ (lw_privs_3 ++ (lw_privs_4 ++ (lw_privs_5 ++ (lw_privs_6))))), lw_okq q
  exact List.forall_mem_append.mpr ⟨lw_r1, List.forall_mem_append.mpr ⟨lw_r2, List.forall_mem_append.mpr ⟨lw_r3, List.forall_mem_append.mpr ⟨lw_r4, List.forall_mem_append.mpr ⟨lw_r5, lw_r6⟩⟩⟩⟩⟩
end
section
def RX0 : String := "DotPress$Change"
def TX0 : u_T := fun k => match k with
  | 0 => ("DotPress$Change", "what", "I", true)
  | 1 => ("DotPress$Change", "table", "LDotPress$Table;", true)
  | 2 => ("DotPress$Change", "row", "LDotPress$Row;", true)
  | _ => ("DotPress$Change", "number", "I", true)
def tyX0 : Nat → FieldType := fun k => match k with
  | 0 => .int
  | 1 => .object "DotPress$Table"
  | 2 => .object "DotPress$Row"
  | _ => .int
theorem nmX0 : ∀ a, a < 4 → ∀ b, b < 4 → a ≠ b → (TX0 a).2.1 ≠ (TX0 b).2.1 := by decide +kernel
theorem tyX0_ok : ∀ k, k < 4 → parseFieldDescriptor (TX0 k).2.2.1 = some (tyX0 k) := by decide +kernel
abbrev cX0_init : ByteArray := prog_2_method_1_code
def yX0_init : MethodName := ⟨RX0, "<init>", "(ILDotPress$Table;LDotPress$Row;I)V"⟩
def RX1 : String := "DotPress$Ints"
def TX1 : u_T := fun k => match k with
  | 0 => ("DotPress$Ints", "limit", "I", true)
  | 1 => ("DotPress$Ints", "items", "[I", false)
  | _ => ("DotPress$Ints", "size", "I", false)
def tyX1 : Nat → FieldType := fun k => match k with
  | 0 => .int
  | 1 => .array .int
  | _ => .int
theorem nmX1 : ∀ a, a < 3 → ∀ b, b < 3 → a ≠ b → (TX1 a).2.1 ≠ (TX1 b).2.1 := by decide +kernel
theorem tyX1_ok : ∀ k, k < 3 → parseFieldDescriptor (TX1 k).2.2.1 = some (tyX1 k) := by decide +kernel
abbrev cX1_init : ByteArray := prog_3_method_1_code
def yX1_init : MethodName := ⟨RX1, "<init>", "(I)V"⟩
abbrev cX1_add : ByteArray := prog_3_method_2_code
def yX1_add : MethodName := ⟨RX1, "add", "(I)V"⟩
abbrev cX1_addAll : ByteArray := prog_3_method_3_code
def yX1_addAll : MethodName := ⟨RX1, "addAll", "(LDotPress$Ints;)V"⟩
abbrev cX1_at : ByteArray := prog_3_method_4_code
def yX1_at : MethodName := ⟨RX1, "at", "(I)I"⟩
abbrev cX1_clear : ByteArray := prog_3_method_5_code
def yX1_clear : MethodName := ⟨RX1, "clear", "()V"⟩
abbrev cX1_keep : ByteArray := prog_3_method_6_code
def yX1_keep : MethodName := ⟨RX1, "keep", "(I)V"⟩
abbrev cX1_isWithin : ByteArray := prog_3_method_7_code
def yX1_isWithin : MethodName := ⟨RX1, "isWithin", "(IIII)Z"⟩
abbrev cX1_slice : ByteArray := prog_3_method_8_code
def yX1_slice : MethodName := ⟨RX1, "slice", "(II)[I"⟩
def RX2 : String := "DotPress$Line"
def TX2 : u_T := fun k => match k with
  | 0 => ("DotPress$Line", "cells", "[I", true)
  | 1 => ("DotPress$Line", "size", "I", false)
  | _ => ("DotPress$Line", "lacking", "Z", false)
def tyX2 : Nat → FieldType := fun k => match k with
  | 0 => .array .int
  | 1 => .int
  | _ => .boolean
theorem nmX2 : ∀ a, a < 3 → ∀ b, b < 3 → a ≠ b → (TX2 a).2.1 ≠ (TX2 b).2.1 := by decide +kernel
theorem tyX2_ok : ∀ k, k < 3 → parseFieldDescriptor (TX2 k).2.2.1 = some (tyX2 k) := by decide +kernel
abbrev cX2_init : ByteArray := prog_4_method_1_code
def yX2_init : MethodName := ⟨RX2, "<init>", "()V"⟩
abbrev cX2_clear : ByteArray := prog_4_method_2_code
def yX2_clear : MethodName := ⟨RX2, "clear", "()V"⟩
abbrev cX2_add : ByteArray := prog_4_method_3_code
def yX2_add : MethodName := ⟨RX2, "add", "(I)V"⟩
abbrev cX2_addPart : ByteArray := prog_4_method_4_code
def yX2_addPart : MethodName := ⟨RX2, "addPart", "(LDotPress$Setting;II)V"⟩
abbrev cX2_resize : ByteArray := prog_4_method_5_code
def yX2_resize : MethodName := ⟨RX2, "resize", "(I)V"⟩
abbrev cX2_indent : ByteArray := prog_4_method_6_code
def yX2_indent : MethodName := ⟨RX2, "indent", "(I)V"⟩
abbrev cX2_become : ByteArray := prog_4_method_7_code
def yX2_become : MethodName := ⟨RX2, "become", "(LDotPress$Line;)V"⟩
abbrev cX2_hasCells : ByteArray := prog_4_method_8_code
def yX2_hasCells : MethodName := ⟨RX2, "hasCells", "(II)Z"⟩
abbrev cX2_endsWith : ByteArray := prog_4_method_9_code
def yX2_endsWith : MethodName := ⟨RX2, "endsWith", "(I)Z"⟩
abbrev cX2_dots : ByteArray := prog_4_method_10_code
def yX2_dots : MethodName := ⟨RX2, "dots", "()I"⟩
def RX3 : String := "DotPress$Reader"
def TX3 : u_T := fun k => match k with
  | 0 => ("DotPress$Reader", "first", "Ljava/util/ArrayList;", true)
  | 1 => ("DotPress$Reader", "second", "Ljava/util/ArrayList;", true)
  | 2 => ("DotPress$Reader", "firstBegins", "LDotPress$Ints;", true)
  | 3 => ("DotPress$Reader", "secondBegins", "LDotPress$Ints;", true)
  | 4 => ("DotPress$Reader", "cells", "LDotPress$Ints;", true)
  | 5 => ("DotPress$Reader", "places", "LDotPress$Ints;", true)
  | 6 => ("DotPress$Reader", "bytes", "LDotPress$Ints;", true)
  | _ => ("DotPress$Reader", "wrong", "I", false)
def tyX3 : Nat → FieldType := fun k => match k with
  | 0 => .object "java/util/ArrayList"
  | 1 => .object "java/util/ArrayList"
  | 2 => .object "DotPress$Ints"
  | 3 => .object "DotPress$Ints"
  | 4 => .object "DotPress$Ints"
  | 5 => .object "DotPress$Ints"
  | 6 => .object "DotPress$Ints"
  | _ => .int
theorem nmX3 : ∀ a, a < 8 → ∀ b, b < 8 → a ≠ b → (TX3 a).2.1 ≠ (TX3 b).2.1 := by decide +kernel
theorem tyX3_ok : ∀ k, k < 8 → parseFieldDescriptor (TX3 k).2.2.1 = some (tyX3 k) := by decide +kernel
abbrev cX3_init : ByteArray := prog_5_method_1_code
def yX3_init : MethodName := ⟨RX3, "<init>", "()V"⟩
abbrev cX3_gather : ByteArray := prog_5_method_2_code
def yX3_gather : MethodName := ⟨RX3, "gather", "(LDotPress$Table;)V"⟩
abbrev cX3_markBegins : ByteArray := prog_5_method_3_code
def yX3_markBegins : MethodName := ⟨RX3, "markBegins", "(Ljava/util/ArrayList;LDotPress$Ints;)V"⟩
abbrev cX3_gatherPart : ByteArray := prog_5_method_4_code
def yX3_gatherPart : MethodName := ⟨RX3, "gatherPart", "(Ljava/util/ArrayList;LDotPress$Table;)V"⟩
abbrev cX3_addIndicator : ByteArray := prog_5_method_5_code
def yX3_addIndicator : MethodName := ⟨RX3, "addIndicator", "(Ljava/util/ArrayList;LDotPress$Row;)V"⟩
abbrev cX3_rowsOf : ByteArray := prog_5_method_6_code
def yX3_rowsOf : MethodName := ⟨RX3, "rowsOf", "(Z)Ljava/util/ArrayList;"⟩
abbrev cX3_isReadable : ByteArray := prog_5_method_7_code
def yX3_isReadable : MethodName := ⟨RX3, "isReadable", "(Ljava/util/ArrayList;I)Z"⟩
abbrev cX3_clearCells : ByteArray := prog_5_method_8_code
def yX3_clearCells : MethodName := ⟨RX3, "clearCells", "()V"⟩
abbrev cX3_addCell : ByteArray := prog_5_method_9_code
def yX3_addCell : MethodName := ⟨RX3, "addCell", "(II)V"⟩
abbrev cX3_chain : ByteArray := prog_5_method_10_code
def yX3_chain : MethodName := ⟨RX3, "chain", "(LDotPress$Line;IIZ)V"⟩
abbrev cX3_decode : ByteArray := prog_5_method_11_code
def yX3_decode : MethodName := ⟨RX3, "decode", "()Z"⟩
abbrev cX3_decodeWord : ByteArray := prog_5_method_12_code
def yX3_decodeWord : MethodName := ⟨RX3, "decodeWord", "(I)I"⟩
abbrev cX3_longestAt : ByteArray := prog_5_method_13_code
def yX3_longestAt : MethodName := ⟨RX3, "longestAt", "(ZI)LDotPress$Row;"⟩
abbrev cX3_placeOfWrong : ByteArray := prog_5_method_14_code
def yX3_placeOfWrong : MethodName := ⟨RX3, "placeOfWrong", "()I"⟩
def RX4 : String := "DotPress$Readings"
def TX4 : u_T := fun k => match k with
  | 0 => ("DotPress$Readings", "canEnd", "[Z", true)
  | 1 => ("DotPress$Readings", "nodes", "[I", true)
  | 2 => ("DotPress$Readings", "choices", "[I", true)
  | 3 => ("DotPress$Readings", "ends", "[I", true)
  | 4 => ("DotPress$Readings", "bytes", "LDotPress$Ints;", true)
  | 5 => ("DotPress$Readings", "count", "I", false)
  | 6 => ("DotPress$Readings", "leftSome", "Z", false)
  | 7 => ("DotPress$Readings", "rows", "LDotPress$Reader;", true)
  | 8 => ("DotPress$Readings", "cells", "[I", true)
  | 9 => ("DotPress$Readings", "size", "I", false)
  | _ => ("DotPress$Readings", "seen", "I", false)
def tyX4 : Nat → FieldType := fun k => match k with
  | 0 => .array .boolean
  | 1 => .array .int
  | 2 => .array .int
  | 3 => .array .int
  | 4 => .object "DotPress$Ints"
  | 5 => .int
  | 6 => .boolean
  | 7 => .object "DotPress$Reader"
  | 8 => .array .int
  | 9 => .int
  | _ => .int
theorem nmX4 : ∀ a, a < 11 → ∀ b, b < 11 → a ≠ b → (TX4 a).2.1 ≠ (TX4 b).2.1 := by decide +kernel
theorem tyX4_ok : ∀ k, k < 11 → parseFieldDescriptor (TX4 k).2.2.1 = some (tyX4 k) := by decide +kernel
abbrev cX4_init : ByteArray := prog_6_method_1_code
def yX4_init : MethodName := ⟨RX4, "<init>", "(LDotPress$Reader;)V"⟩
abbrev cX4_byteOf : ByteArray := prog_6_method_2_code
def yX4_byteOf : MethodName := ⟨RX4, "byteOf", "(II)I"⟩
abbrev cX4_collect : ByteArray := prog_6_method_3_code
def yX4_collect : MethodName := ⟨RX4, "collect", "(LDotPress$Line;II)V"⟩
abbrev cX4_markEnds : ByteArray := prog_6_method_4_code
def yX4_markEnds : MethodName := ⟨RX4, "markEnds", "()V"⟩
abbrev cX4_walk : ByteArray := prog_6_method_5_code
def yX4_walk : MethodName := ⟨RX4, "walk", "(I)V"⟩
abbrev cX4_nextChoice : ByteArray := prog_6_method_6_code
def yX4_nextChoice : MethodName := ⟨RX4, "nextChoice", "(II)I"⟩
abbrev cX4_nodeBehind : ByteArray := prog_6_method_7_code
def yX4_nodeBehind : MethodName := ⟨RX4, "nodeBehind", "(II)I"⟩
abbrev cX4_looksLike : ByteArray := prog_6_method_8_code
def yX4_looksLike : MethodName := ⟨RX4, "looksLike", "(II)Z"⟩
abbrev cX4_looksLikeRow : ByteArray := prog_6_method_9_code
def yX4_looksLikeRow : MethodName := ⟨RX4, "looksLikeRow", "(LDotPress$Row;I)Z"⟩
abbrev cX4_write : ByteArray := prog_6_method_10_code
def yX4_write : MethodName := ⟨RX4, "write", "(I)V"⟩
def RX5 : String := "DotPress$Row"
def TX5 : u_T := fun k => match k with
  | 0 => ("DotPress$Row", "role", "I", true)
  | 1 => ("DotPress$Row", "letters", "[I", true)
  | 2 => ("DotPress$Row", "cells", "[I", true)
  | _ => ("DotPress$Row", "condition", "I", false)
def tyX5 : Nat → FieldType := fun k => match k with
  | 0 => .int
  | 1 => .array .int
  | 2 => .array .int
  | _ => .int
theorem nmX5 : ∀ a, a < 4 → ∀ b, b < 4 → a ≠ b → (TX5 a).2.1 ≠ (TX5 b).2.1 := by decide +kernel
theorem tyX5_ok : ∀ k, k < 4 → parseFieldDescriptor (TX5 k).2.2.1 = some (tyX5 k) := by decide +kernel
abbrev cX5_init : ByteArray := prog_7_method_1_code
def yX5_init : MethodName := ⟨RX5, "<init>", "(I[I[I)V"⟩
abbrev cX5_beginsSmall : ByteArray := prog_7_method_2_code
def yX5_beginsSmall : MethodName := ⟨RX5, "beginsSmall", "()Z"⟩
abbrev cX5_alike : ByteArray := prog_7_method_3_code
def yX5_alike : MethodName := ⟨RX5, "alike", "(LDotPress$Row;)I"⟩
abbrev cX5_isAtBeginOf : ByteArray := prog_7_method_4_code
def yX5_isAtBeginOf : MethodName := ⟨RX5, "isAtBeginOf", "(LDotPress$Row;)Z"⟩
abbrev cX5_endsWith : ByteArray := prog_7_method_5_code
def yX5_endsWith : MethodName := ⟨RX5, "endsWith", "(I)Z"⟩
abbrev cX5_standsAt : ByteArray := prog_7_method_6_code
def yX5_standsAt : MethodName := ⟨RX5, "standsAt", "(LDotPress$Ints;I)Z"⟩
abbrev cX5_writeLetters : ByteArray := prog_7_method_7_code
def yX5_writeLetters : MethodName := ⟨RX5, "writeLetters", "(LDotPress$Ints;Z)V"⟩
def RX6 : String := "DotPress$Setting"
def TX6 : u_T := fun k => match k with
  | 0 => ("DotPress$Setting", "letters", "[I", true)
  | 1 => ("DotPress$Setting", "places", "[I", true)
  | 2 => ("DotPress$Setting", "breaks", "[Z", true)
  | 3 => ("DotPress$Setting", "starts", "[I", true)
  | 4 => ("DotPress$Setting", "size", "I", false)
  | 5 => ("DotPress$Setting", "breakComes", "Z", false)
  | 6 => ("DotPress$Setting", "cells", "[I", true)
  | 7 => ("DotPress$Setting", "count", "I", false)
  | 8 => ("DotPress$Setting", "finds", "[I", true)
  | 9 => ("DotPress$Setting", "unknown", "I", false)
  | 10 => ("DotPress$Setting", "partBegin", "I", false)
  | _ => ("DotPress$Setting", "partEnd", "I", false)
def tyX6 : Nat → FieldType := fun k => match k with
  | 0 => .array .int
  | 1 => .array .int
  | 2 => .array .boolean
  | 3 => .array .int
  | 4 => .int
  | 5 => .boolean
  | 6 => .array .int
  | 7 => .int
  | 8 => .array .int
  | 9 => .int
  | 10 => .int
  | _ => .int
theorem nmX6 : ∀ a, a < 12 → ∀ b, b < 12 → a ≠ b → (TX6 a).2.1 ≠ (TX6 b).2.1 := by decide +kernel
theorem tyX6_ok : ∀ k, k < 12 → parseFieldDescriptor (TX6 k).2.2.1 = some (tyX6 k) := by decide +kernel
abbrev cX6_init : ByteArray := prog_8_method_1_code
def yX6_init : MethodName := ⟨RX6, "<init>", "()V"⟩
abbrev cX6_clear : ByteArray := prog_8_method_2_code
def yX6_clear : MethodName := ⟨RX6, "clear", "()V"⟩
abbrev cX6_put : ByteArray := prog_8_method_3_code
def yX6_put : MethodName := ⟨RX6, "put", "(II)V"⟩
abbrev cX6_putBreak : ByteArray := prog_8_method_4_code
def yX6_putBreak : MethodName := ⟨RX6, "putBreak", "()V"⟩
abbrev cX6_placeOfUnknown : ByteArray := prog_8_method_5_code
def yX6_placeOfUnknown : MethodName := ⟨RX6, "placeOfUnknown", "()I"⟩
abbrev cX6_findsOf : ByteArray := prog_8_method_6_code
def yX6_findsOf : MethodName := ⟨RX6, "findsOf", "(I)I"⟩
abbrev cX6_hasLetters : ByteArray := prog_8_method_7_code
def yX6_hasLetters : MethodName := ⟨RX6, "hasLetters", "(LDotPress$Ints;)Z"⟩
abbrev cX6_writeLetters : ByteArray := prog_8_method_8_code
def yX6_writeLetters : MethodName := ⟨RX6, "writeLetters", "(LDotPress$Ints;)V"⟩
abbrev cX6_setBy : ByteArray := prog_8_method_9_code
def yX6_setBy : MethodName := ⟨RX6, "setBy", "(LDotPress$Table;)I"⟩
abbrev cX6_setTurn : ByteArray := prog_8_method_10_code
def yX6_setTurn : MethodName := ⟨RX6, "setTurn", "(LDotPress$Row;I)I"⟩
abbrev cX6_setPart : ByteArray := prog_8_method_11_code
def yX6_setPart : MethodName := ⟨RX6, "setPart", "(LDotPress$Table;II)I"⟩
abbrev cX6_markStart : ByteArray := prog_8_method_12_code
def yX6_markStart : MethodName := ⟨RX6, "markStart", "(II)V"⟩
abbrev cX6_numberAhead : ByteArray := prog_8_method_13_code
def yX6_numberAhead : MethodName := ⟨RX6, "numberAhead", "(LDotPress$Table;I)LDotPress$Row;"⟩
abbrev cX6_push : ByteArray := prog_8_method_14_code
def yX6_push : MethodName := ⟨RX6, "push", "(LDotPress$Row;)V"⟩
abbrev cX6_find : ByteArray := prog_8_method_15_code
def yX6_find : MethodName := ⟨RX6, "find", "(LDotPress$Table;II)LDotPress$Row;"⟩
abbrev cX6_countFind : ByteArray := prog_8_method_16_code
def yX6_countFind : MethodName := ⟨RX6, "countFind", "(I)V"⟩
abbrev cX6_findOwn : ByteArray := prog_8_method_17_code
def yX6_findOwn : MethodName := ⟨RX6, "findOwn", "(LDotPress$Table;IILDotPress$Row;)LDotPress$Row;"⟩
abbrev cX6_fits : ByteArray := prog_8_method_18_code
def yX6_fits : MethodName := ⟨RX6, "fits", "(LDotPress$Row;I)Z"⟩
abbrev cX6_isSign : ByteArray := prog_8_method_19_code
def yX6_isSign : MethodName := ⟨RX6, "isSign", "(I)Z"⟩
abbrev cX6_lastBreak : ByteArray := prog_8_method_20_code
def yX6_lastBreak : MethodName := ⟨RX6, "lastBreak", "(III)I"⟩
def RX7 : String := "DotPress$Sheet"
def TX7 : u_T := fun k => match k with
  | 0 => ("DotPress$Sheet", "rows", "[LDotPress$Line;", true)
  | 1 => ("DotPress$Sheet", "count", "I", false)
  | _ => ("DotPress$Sheet", "textBegin", "I", false)
def tyX7 : Nat → FieldType := fun k => match k with
  | 0 => .array (.object "DotPress$Line")
  | 1 => .int
  | _ => .int
theorem nmX7 : ∀ a, a < 3 → ∀ b, b < 3 → a ≠ b → (TX7 a).2.1 ≠ (TX7 b).2.1 := by decide +kernel
theorem tyX7_ok : ∀ k, k < 3 → parseFieldDescriptor (TX7 k).2.2.1 = some (tyX7 k) := by decide +kernel
abbrev cX7_init : ByteArray := prog_9_method_1_code
def yX7_init : MethodName := ⟨RX7, "<init>", "()V"⟩
abbrev cX7_clear : ByteArray := prog_9_method_2_code
def yX7_clear : MethodName := ⟨RX7, "clear", "()V"⟩
abbrev cX7_at : ByteArray := prog_9_method_3_code
def yX7_at : MethodName := ⟨RX7, "at", "(I)LDotPress$Line;"⟩
abbrev cX7_present : ByteArray := prog_9_method_4_code
def yX7_present : MethodName := ⟨RX7, "present", "(I)LDotPress$Line;"⟩
abbrev cX7_whyNone : ByteArray := prog_9_method_5_code
def yX7_whyNone : MethodName := ⟨RX7, "whyNone", "(I)I"⟩
abbrev cX7_begin : ByteArray := prog_9_method_6_code
def yX7_begin : MethodName := ⟨RX7, "begin", "()Z"⟩
abbrev cX7_take : ByteArray := prog_9_method_7_code
def yX7_take : MethodName := ⟨RX7, "take", "(LDotPress$Setting;III)Z"⟩
abbrev cX7_beginText : ByteArray := prog_9_method_8_code
def yX7_beginText : MethodName := ⟨RX7, "beginText", "()Z"⟩
abbrev cX7_endText : ByteArray := prog_9_method_9_code
def yX7_endText : MethodName := ⟨RX7, "endText", "(ZI)V"⟩
abbrev cX7_goOver : ByteArray := prog_9_method_10_code
def yX7_goOver : MethodName := ⟨RX7, "goOver", "(I)I"⟩
def RX8 : String := "DotPress$Source"
def TX8 : u_T := fun k => match k with
  | 0 => ("DotPress$Source", "at", "I", false)
  | 1 => ("DotPress$Source", "inLine", "Z", false)
  | 2 => ("DotPress$Source", "centred", "Z", false)
  | 3 => ("DotPress$Source", "isSpelt", "[Z", true)
  | 4 => ("DotPress$Source", "alphabet", "[I", true)
  | 5 => ("DotPress$Source", "alphabetSize", "I", false)
  | 6 => ("DotPress$Source", "turns", "[I", true)
  | _ => ("DotPress$Source", "spelling", "I", false)
def tyX8 : Nat → FieldType := fun k => match k with
  | 0 => .int
  | 1 => .boolean
  | 2 => .boolean
  | 3 => .array .boolean
  | 4 => .array .int
  | 5 => .int
  | 6 => .array .int
  | _ => .int
theorem nmX8 : ∀ a, a < 8 → ∀ b, b < 8 → a ≠ b → (TX8 a).2.1 ≠ (TX8 b).2.1 := by decide +kernel
theorem tyX8_ok : ∀ k, k < 8 → parseFieldDescriptor (TX8 k).2.2.1 = some (tyX8 k) := by decide +kernel
abbrev cX8_init : ByteArray := prog_10_method_1_code
def yX8_init : MethodName := ⟨RX8, "<init>", "()V"⟩
abbrev cX8_restart : ByteArray := prog_10_method_2_code
def yX8_restart : MethodName := ⟨RX8, "restart", "()V"⟩
abbrev cX8_step : ByteArray := prog_10_method_3_code
def yX8_step : MethodName := ⟨RX8, "step", "(LDotPress$Ints;LDotPress$Setting;)I"⟩
abbrev cX8_enterLine : ByteArray := prog_10_method_4_code
def yX8_enterLine : MethodName := ⟨RX8, "enterLine", "(LDotPress$Ints;)I"⟩
abbrev cX8_gatherAlphabet : ByteArray := prog_10_method_5_code
def yX8_gatherAlphabet : MethodName := ⟨RX8, "gatherAlphabet", "(LDotPress$Reader;Z)V"⟩
abbrev cX8_markLetters : ByteArray := prog_10_method_6_code
def yX8_markLetters : MethodName := ⟨RX8, "markLetters", "(Ljava/util/ArrayList;)V"⟩
abbrev cX8_startSpelling : ByteArray := prog_10_method_7_code
def yX8_startSpelling : MethodName := ⟨RX8, "startSpelling", "(I)Z"⟩
abbrev cX8_lengthen : ByteArray := prog_10_method_8_code
def yX8_lengthen : MethodName := ⟨RX8, "lengthen", "(I)Z"⟩
abbrev cX8_spell : ByteArray := prog_10_method_9_code
def yX8_spell : MethodName := ⟨RX8, "spell", "(LDotPress$Setting;)V"⟩
abbrev cX8_spellNext : ByteArray := prog_10_method_10_code
def yX8_spellNext : MethodName := ⟨RX8, "spellNext", "(I)Z"⟩
def RX9 : String := "DotPress$Table"
def TX9 : u_T := fun k => match k with
  | 0 => ("DotPress$Table", "kind", "I", true)
  | 1 => ("DotPress$Table", "dots", "I", true)
  | 2 => ("DotPress$Table", "base", "LDotPress$Table;", true)
  | 3 => ("DotPress$Table", "second", "LDotPress$Table;", true)
  | 4 => ("DotPress$Table", "rules", "Ljava/util/ArrayList;", true)
  | 5 => ("DotPress$Table", "initials", "LDotPress$Ints;", true)
  | 6 => ("DotPress$Table", "indicators", "[LDotPress$Row;", true)
  | _ => ("DotPress$Table", "dropped", "Z", false)
def tyX9 : Nat → FieldType := fun k => match k with
  | 0 => .int
  | 1 => .int
  | 2 => .object "DotPress$Table"
  | 3 => .object "DotPress$Table"
  | 4 => .object "java/util/ArrayList"
  | 5 => .object "DotPress$Ints"
  | 6 => .array (.object "DotPress$Row")
  | _ => .boolean
theorem nmX9 : ∀ a, a < 8 → ∀ b, b < 8 → a ≠ b → (TX9 a).2.1 ≠ (TX9 b).2.1 := by decide +kernel
theorem tyX9_ok : ∀ k, k < 8 → parseFieldDescriptor (TX9 k).2.2.1 = some (tyX9 k) := by decide +kernel
abbrev cX9_init : ByteArray := prog_11_method_1_code
def yX9_init : MethodName := ⟨RX9, "<init>", "(IILDotPress$Table;LDotPress$Table;)V"⟩
abbrev cX9_append : ByteArray := prog_11_method_2_code
def yX9_append : MethodName := ⟨RX9, "append", "(LDotPress$Row;)V"⟩
abbrev cX9_removeLast : ByteArray := prog_11_method_3_code
def yX9_removeLast : MethodName := ⟨RX9, "removeLast", "()V"⟩
abbrev cX9_mayHave : ByteArray := prog_11_method_4_code
def yX9_mayHave : MethodName := ⟨RX9, "mayHave", "(I)Z"⟩
abbrev cX9_isWhole : ByteArray := prog_11_method_5_code
def yX9_isWhole : MethodName := ⟨RX9, "isWhole", "()Z"⟩
abbrev cX9_isUpright : ByteArray := prog_11_method_6_code
def yX9_isUpright : MethodName := ⟨RX9, "isUpright", "(LDotPress$Table;)Z"⟩
abbrev cX9_hasShort : ByteArray := prog_11_method_7_code
def yX9_hasShort : MethodName := ⟨RX9, "hasShort", "()Z"⟩
abbrev cX9_isOverShort : ByteArray := prog_11_method_8_code
def yX9_isOverShort : MethodName := ⟨RX9, "isOverShort", "(LDotPress$Table;)Z"⟩
def RX10 : String := "DotPress$Tables"
def TX10 : u_T := fun k => match k with
  | 0 => ("DotPress$Tables", "made", "Ljava/util/ArrayList;", true)
  | _ => ("DotPress$Tables", "changes", "Ljava/util/ArrayList;", true)
def tyX10 : Nat → FieldType := fun k => match k with
  | 0 => .object "java/util/ArrayList"
  | _ => .object "java/util/ArrayList"
theorem nmX10 : ∀ a, a < 2 → ∀ b, b < 2 → a ≠ b → (TX10 a).2.1 ≠ (TX10 b).2.1 := by decide +kernel
theorem tyX10_ok : ∀ k, k < 2 → parseFieldDescriptor (TX10 k).2.2.1 = some (tyX10 k) := by decide +kernel
abbrev cX10_init : ByteArray := prog_12_method_1_code
def yX10_init : MethodName := ⟨RX10, "<init>", "()V"⟩
abbrev cX10_isFull : ByteArray := prog_12_method_2_code
def yX10_isFull : MethodName := ⟨RX10, "isFull", "()Z"⟩
abbrev cX10_alive : ByteArray := prog_12_method_3_code
def yX10_alive : MethodName := ⟨RX10, "alive", "(I)LDotPress$Table;"⟩
abbrev cX10_whole : ByteArray := prog_12_method_4_code
def yX10_whole : MethodName := ⟨RX10, "whole", "(I)LDotPress$Table;"⟩
abbrev cX10_make : ByteArray := prog_12_method_5_code
def yX10_make : MethodName := ⟨RX10, "make", "(LDotPress$Table;)I"⟩
abbrev cX10_remember : ByteArray := prog_12_method_6_code
def yX10_remember : MethodName := ⟨RX10, "remember", "(LDotPress$Change;)V"⟩
abbrev cX10_takeBack : ByteArray := prog_12_method_7_code
def yX10_takeBack : MethodName := ⟨RX10, "takeBack", "()Z"⟩
def RX11 : String := "DotPress"
def TX11 : u_T := fun k => match k with
  | 0 => ("DotPress", "tape", "LDotPress$Ints;", true)
  | 1 => ("DotPress", "written", "LDotPress$Ints;", true)
  | 2 => ("DotPress", "bytesRead", "LDotPress$Ints;", true)
  | 3 => ("DotPress", "header", "LDotPress$Ints;", true)
  | 4 => ("DotPress", "tables", "LDotPress$Tables;", true)
  | 5 => ("DotPress", "source", "LDotPress$Source;", true)
  | 6 => ("DotPress", "word", "LDotPress$Setting;", true)
  | 7 => ("DotPress", "reader", "LDotPress$Reader;", true)
  | 8 => ("DotPress", "found", "LDotPress$Readings;", true)
  | 9 => ("DotPress", "sheet", "LDotPress$Sheet;", false)
  | 10 => ("DotPress", "draft", "LDotPress$Sheet;", false)
  | 11 => ("DotPress", "width", "I", false)
  | 12 => ("DotPress", "height", "I", false)
  | 13 => ("DotPress", "hyphen", "I", false)
  | 14 => ("DotPress", "failedDots", "I", false)
  | 15 => ("DotPress", "linesCopied", "I", false)
  | 16 => ("DotPress", "linesClosed", "I", false)
  | 17 => ("DotPress", "latestStatus", "I", false)
  | _ => ("DotPress", "latestPlace", "I", false)
def tyX11 : Nat → FieldType := fun k => match k with
  | 0 => .object "DotPress$Ints"
  | 1 => .object "DotPress$Ints"
  | 2 => .object "DotPress$Ints"
  | 3 => .object "DotPress$Ints"
  | 4 => .object "DotPress$Tables"
  | 5 => .object "DotPress$Source"
  | 6 => .object "DotPress$Setting"
  | 7 => .object "DotPress$Reader"
  | 8 => .object "DotPress$Readings"
  | 9 => .object "DotPress$Sheet"
  | 10 => .object "DotPress$Sheet"
  | 11 => .int
  | 12 => .int
  | 13 => .int
  | 14 => .int
  | 15 => .int
  | 16 => .int
  | 17 => .int
  | _ => .int
theorem nmX11 : ∀ a, a < 19 → ∀ b, b < 19 → a ≠ b → (TX11 a).2.1 ≠ (TX11 b).2.1 := by decide +kernel
theorem tyX11_ok : ∀ k, k < 19 → parseFieldDescriptor (TX11 k).2.2.1 = some (tyX11 k) := by decide +kernel
abbrev cX11_init : ByteArray := prog_1_method_1_code
def yX11_init : MethodName := ⟨RX11, "<init>", "()V"⟩
abbrev cX11_feed : ByteArray := prog_1_method_2_code
def yX11_feed : MethodName := ⟨RX11, "feed", "(IIIII)I"⟩
abbrev cX11_feedFour : ByteArray := prog_1_method_3_code
def yX11_feedFour : MethodName := ⟨RX11, "feedFour", "(I)V"⟩
abbrev cX11_end : ByteArray := prog_1_method_4_code
def yX11_end : MethodName := ⟨RX11, "end", "(I)I"⟩
abbrev cX11_table : ByteArray := prog_1_method_5_code
def yX11_table : MethodName := ⟨RX11, "table", "(III)I"⟩
abbrev cX11_join : ByteArray := prog_1_method_6_code
def yX11_join : MethodName := ⟨RX11, "join", "(II)I"⟩
abbrev cX11_drop : ByteArray := prog_1_method_7_code
def yX11_drop : MethodName := ⟨RX11, "drop", "(I)I"⟩
abbrev cX11_rule : ByteArray := prog_1_method_8_code
def yX11_rule : MethodName := ⟨RX11, "rule", "(III)I"⟩
abbrev cX11_addRule : ByteArray := prog_1_method_9_code
def yX11_addRule : MethodName := ⟨RX11, "addRule", "(III)I"⟩
abbrev cX11_isCondition : ByteArray := prog_1_method_10_code
def yX11_isCondition : MethodName := ⟨RX11, "isCondition", "(I)Z"⟩
abbrev cX11_isRowOfCells : ByteArray := prog_1_method_11_code
def yX11_isRowOfCells : MethodName := ⟨RX11, "isRowOfCells", "(II)Z"⟩
abbrev cX11_condition : ByteArray := prog_1_method_12_code
def yX11_condition : MethodName := ⟨RX11, "condition", "(III)I"⟩
abbrev cX11_indicator : ByteArray := prog_1_method_13_code
def yX11_indicator : MethodName := ⟨RX11, "indicator", "(II)I"⟩
abbrev cX11_changeIndicator : ByteArray := prog_1_method_14_code
def yX11_changeIndicator : MethodName := ⟨RX11, "changeIndicator", "(II)I"⟩
abbrev cX11_undo : ByteArray := prog_1_method_15_code
def yX11_undo : MethodName := ⟨RX11, "undo", "()I"⟩
abbrev cX11_text : ByteArray := prog_1_method_16_code
def yX11_text : MethodName := ⟨RX11, "text", "()I"⟩
abbrev cX11_addText : ByteArray := prog_1_method_17_code
def yX11_addText : MethodName := ⟨RX11, "addText", "()I"⟩
abbrev cX11_measure : ByteArray := prog_1_method_18_code
def yX11_measure : MethodName := ⟨RX11, "measure", "(III)I"⟩
abbrev cX11_set : ByteArray := prog_1_method_19_code
def yX11_set : MethodName := ⟨RX11, "set", "(I)I"⟩
abbrev cX11_publish : ByteArray := prog_1_method_20_code
def yX11_publish : MethodName := ⟨RX11, "publish", "()I"⟩
abbrev cX11_head : ByteArray := prog_1_method_21_code
def yX11_head : MethodName := ⟨RX11, "head", "(I)I"⟩
abbrev cX11_lines : ByteArray := prog_1_method_22_code
def yX11_lines : MethodName := ⟨RX11, "lines", "()I"⟩
abbrev cX11_pages : ByteArray := prog_1_method_23_code
def yX11_pages : MethodName := ⟨RX11, "pages", "()I"⟩
abbrev cX11_pagesHaveHeader : ByteArray := prog_1_method_24_code
def yX11_pagesHaveHeader : MethodName := ⟨RX11, "pagesHaveHeader", "()Z"⟩
abbrev cX11_linesOfPage : ByteArray := prog_1_method_25_code
def yX11_linesOfPage : MethodName := ⟨RX11, "linesOfPage", "()I"⟩
abbrev cX11_length : ByteArray := prog_1_method_26_code
def yX11_length : MethodName := ⟨RX11, "length", "(I)I"⟩
abbrev cX11_cell : ByteArray := prog_1_method_27_code
def yX11_cell : MethodName := ⟨RX11, "cell", "(II)I"⟩
abbrev cX11_cellOfLine : ByteArray := prog_1_method_28_code
def yX11_cellOfLine : MethodName := ⟨RX11, "cellOfLine", "(II)I"⟩
abbrev cX11_page : ByteArray := prog_1_method_29_code
def yX11_page : MethodName := ⟨RX11, "page", "(III)I"⟩
abbrev cX11_cut : ByteArray := prog_1_method_30_code
def yX11_cut : MethodName := ⟨RX11, "cut", "(II)I"⟩
abbrev cX11_lose : ByteArray := prog_1_method_31_code
def yX11_lose : MethodName := ⟨RX11, "lose", "(I)I"⟩
abbrev cX11_copyRow : ByteArray := prog_1_method_32_code
def yX11_copyRow : MethodName := ⟨RX11, "copyRow", "(IIIII)I"⟩
abbrev cX11_copyLines : ByteArray := prog_1_method_33_code
def yX11_copyLines : MethodName := ⟨RX11, "copyLines", "(III)I"⟩
abbrev cX11_copied : ByteArray := prog_1_method_34_code
def yX11_copied : MethodName := ⟨RX11, "copied", "()I"⟩
abbrev cX11_emboss : ByteArray := prog_1_method_35_code
def yX11_emboss : MethodName := ⟨RX11, "emboss", "(II)I"⟩
abbrev cX11_closed : ByteArray := prog_1_method_36_code
def yX11_closed : MethodName := ⟨RX11, "closed", "()I"⟩
abbrev cX11_read : ByteArray := prog_1_method_37_code
def yX11_read : MethodName := ⟨RX11, "read", "(III)I"⟩
abbrev cX11_chainLines : ByteArray := prog_1_method_38_code
def yX11_chainLines : MethodName := ⟨RX11, "chainLines", "(II)V"⟩
abbrev cX11_letter : ByteArray := prog_1_method_39_code
def yX11_letter : MethodName := ⟨RX11, "letter", "(I)I"⟩
abbrev cX11_failed : ByteArray := prog_1_method_40_code
def yX11_failed : MethodName := ⟨RX11, "failed", "(IZ)I"⟩
abbrev cX11_readings : ByteArray := prog_1_method_41_code
def yX11_readings : MethodName := ⟨RX11, "readings", "(III)I"⟩
abbrev cX11_more : ByteArray := prog_1_method_42_code
def yX11_more : MethodName := ⟨RX11, "more", "()I"⟩
abbrev cX11_reading : ByteArray := prog_1_method_43_code
def yX11_reading : MethodName := ⟨RX11, "reading", "(II)I"⟩
abbrev cX11_judge : ByteArray := prog_1_method_44_code
def yX11_judge : MethodName := ⟨RX11, "judge", "(I)I"⟩
abbrev cX11_parts : ByteArray := prog_1_method_45_code
def yX11_parts : MethodName := ⟨RX11, "parts", "(III)I"⟩
abbrev cX11_unreadable : ByteArray := prog_1_method_46_code
def yX11_unreadable : MethodName := ⟨RX11, "unreadable", "(III)I"⟩
abbrev cX11_isReadBack : ByteArray := prog_1_method_47_code
def yX11_isReadBack : MethodName := ⟨RX11, "isReadBack", "()Z"⟩
abbrev cX11_saved : ByteArray := prog_1_method_48_code
def yX11_saved : MethodName := ⟨RX11, "saved", "(II)I"⟩
abbrev cX11_place : ByteArray := prog_1_method_49_code
def yX11_place : MethodName := ⟨RX11, "place", "()I"⟩
abbrev cX11_finds : ByteArray := prog_1_method_50_code
def yX11_finds : MethodName := ⟨RX11, "finds", "(I)I"⟩
abbrev cX11_status : ByteArray := prog_1_method_51_code
def yX11_status : MethodName := ⟨RX11, "status", "()I"⟩
abbrev cX11_digest : ByteArray := prog_1_method_52_code
def yX11_digest : MethodName := ⟨RX11, "digest", "()I"⟩
abbrev cX11_done : ByteArray := prog_1_method_53_code
def yX11_done : MethodName := ⟨RX11, "done", "(I)I"⟩
abbrev cX11_refuse : ByteArray := prog_1_method_54_code
def yX11_refuse : MethodName := ⟨RX11, "refuse", "(I)I"⟩
abbrev cX11_refuseAt : ByteArray := prog_1_method_55_code
def yX11_refuseAt : MethodName := ⟨RX11, "refuseAt", "(II)I"⟩
abbrev cX11_isDigit : ByteArray := prog_1_method_56_code
def yX11_isDigit : MethodName := ⟨RX11, "isDigit", "(I)Z"⟩
abbrev cX11_isGreat : ByteArray := prog_1_method_57_code
def yX11_isGreat : MethodName := ⟨RX11, "isGreat", "(I)Z"⟩
abbrev cX11_isSmall : ByteArray := prog_1_method_58_code
def yX11_isSmall : MethodName := ⟨RX11, "isSmall", "(I)Z"⟩
def RX12 : String := "DotPressModel"
def TX12 : u_T := fun k => match k with
  | 0 => ("DotPressModel", "status", "I", false)
  | 1 => ("DotPressModel", "place", "I", false)
  | 2 => ("DotPressModel", "tape", "[I", true)
  | 3 => ("DotPressModel", "taped", "I", false)
  | 4 => ("DotPressModel", "tables", "I", false)
  | 5 => ("DotPressModel", "isThere", "[Z", true)
  | 6 => ("DotPressModel", "kind", "[I", true)
  | 7 => ("DotPressModel", "dots", "[I", true)
  | 8 => ("DotPressModel", "base", "[I", true)
  | 9 => ("DotPressModel", "second", "[I", true)
  | 10 => ("DotPressModel", "ruleMany", "[I", true)
  | 11 => ("DotPressModel", "conditions", "[I", true)
  | 12 => ("DotPressModel", "letterMany", "[I", true)
  | 13 => ("DotPressModel", "cellMany", "[I", true)
  | 14 => ("DotPressModel", "letters", "[I", true)
  | 15 => ("DotPressModel", "cells", "[I", true)
  | 16 => ("DotPressModel", "indicatorMany", "[I", true)
  | 17 => ("DotPressModel", "indicatorCells", "[I", true)
  | 18 => ("DotPressModel", "steps", "[I", false)
  | 19 => ("DotPressModel", "stepMany", "I", false)
  | 20 => ("DotPressModel", "word", "[I", true)
  | 21 => ("DotPressModel", "wordPlace", "[I", true)
  | 22 => ("DotPressModel", "mayBreak", "[Z", true)
  | 23 => ("DotPressModel", "wordLong", "I", false)
  | 24 => ("DotPressModel", "made", "[I", true)
  | 25 => ("DotPressModel", "madeMany", "I", false)
  | 26 => ("DotPressModel", "begins", "[I", true)
  | 27 => ("DotPressModel", "finds", "[I", true)
  | 28 => ("DotPressModel", "unknown", "I", false)
  | 29 => ("DotPressModel", "text", "[I", true)
  | 30 => ("DotPressModel", "textLong", "I", false)
  | 31 => ("DotPressModel", "width", "I", false)
  | 32 => ("DotPressModel", "height", "I", false)
  | 33 => ("DotPressModel", "hyphen", "I", false)
  | 34 => ("DotPressModel", "long0", "[I", true)
  | 35 => ("DotPressModel", "lineCells", "[I", true)
  | 36 => ("DotPressModel", "lines", "I", false)
  | 37 => ("DotPressModel", "newLong", "[I", true)
  | 38 => ("DotPressModel", "newCells", "[I", true)
  | 39 => ("DotPressModel", "newMany", "I", false)
  | 40 => ("DotPressModel", "head", "[I", true)
  | 41 => ("DotPressModel", "headMany", "I", false)
  | 42 => ("DotPressModel", "copied", "I", false)
  | 43 => ("DotPressModel", "closed", "I", false)
  | 44 => ("DotPressModel", "rowIs", "[I", true)
  | 45 => ("DotPressModel", "rowAt", "[I", true)
  | 46 => ("DotPressModel", "rowLong", "[I", true)
  | 47 => ("DotPressModel", "rowMany", "[I", true)
  | 48 => ("DotPressModel", "row", "[I", true)
  | 49 => ("DotPressModel", "rowPlace", "[I", true)
  | 50 => ("DotPressModel", "rowEnd", "I", false)
  | 51 => ("DotPressModel", "out", "[I", true)
  | 52 => ("DotPressModel", "outs", "I", false)
  | 53 => ("DotPressModel", "wrongAt", "I", false)
  | 54 => ("DotPressModel", "was", "[I", true)
  | 55 => ("DotPressModel", "wasMany", "I", false)
  | 56 => ("DotPressModel", "failed", "I", false)
  | 57 => ("DotPressModel", "can", "[Z", true)
  | 58 => ("DotPressModel", "kept", "[I", true)
  | 59 => ("DotPressModel", "keptLong", "[I", true)
  | 60 => ("DotPressModel", "keptMany", "I", false)
  | 61 => ("DotPressModel", "more", "I", false)
  | 62 => ("DotPressModel", "now", "[I", true)
  | 63 => ("DotPressModel", "nowLong", "I", false)
  | 64 => ("DotPressModel", "wanted", "I", false)
  | 65 => ("DotPressModel", "signs", "[I", true)
  | _ => ("DotPressModel", "signMany", "I", false)
def tyX12 : Nat → FieldType := fun k => match k with
  | 0 => .int
  | 1 => .int
  | 2 => .array .int
  | 3 => .int
  | 4 => .int
  | 5 => .array .boolean
  | 6 => .array .int
  | 7 => .array .int
  | 8 => .array .int
  | 9 => .array .int
  | 10 => .array .int
  | 11 => .array .int
  | 12 => .array .int
  | 13 => .array .int
  | 14 => .array .int
  | 15 => .array .int
  | 16 => .array .int
  | 17 => .array .int
  | 18 => .array .int
  | 19 => .int
  | 20 => .array .int
  | 21 => .array .int
  | 22 => .array .boolean
  | 23 => .int
  | 24 => .array .int
  | 25 => .int
  | 26 => .array .int
  | 27 => .array .int
  | 28 => .int
  | 29 => .array .int
  | 30 => .int
  | 31 => .int
  | 32 => .int
  | 33 => .int
  | 34 => .array .int
  | 35 => .array .int
  | 36 => .int
  | 37 => .array .int
  | 38 => .array .int
  | 39 => .int
  | 40 => .array .int
  | 41 => .int
  | 42 => .int
  | 43 => .int
  | 44 => .array .int
  | 45 => .array .int
  | 46 => .array .int
  | 47 => .array .int
  | 48 => .array .int
  | 49 => .array .int
  | 50 => .int
  | 51 => .array .int
  | 52 => .int
  | 53 => .int
  | 54 => .array .int
  | 55 => .int
  | 56 => .int
  | 57 => .array .boolean
  | 58 => .array .int
  | 59 => .array .int
  | 60 => .int
  | 61 => .int
  | 62 => .array .int
  | 63 => .int
  | 64 => .int
  | 65 => .array .int
  | _ => .int
theorem nmX12 : ∀ a, a < 67 → ∀ b, b < 67 → a ≠ b → (TX12 a).2.1 ≠ (TX12 b).2.1 := by decide +kernel
theorem tyX12_ok : ∀ k, k < 67 → parseFieldDescriptor (TX12 k).2.2.1 = some (tyX12 k) := by decide +kernel
abbrev cX12_init : ByteArray := prog_14_method_1_code
def yX12_init : MethodName := ⟨RX12, "<init>", "()V"⟩
abbrev cX12_fine : ByteArray := prog_14_method_2_code
def yX12_fine : MethodName := ⟨RX12, "fine", "(I)I"⟩
abbrev cX12_bad : ByteArray := prog_14_method_3_code
def yX12_bad : MethodName := ⟨RX12, "bad", "(I)I"⟩
abbrev cX12_badAt : ByteArray := prog_14_method_4_code
def yX12_badAt : MethodName := ⟨RX12, "badAt", "(II)I"⟩
abbrev cX12_feed : ByteArray := prog_14_method_5_code
def yX12_feed : MethodName := ⟨RX12, "feed", "(IIIII)I"⟩
abbrev cX12_end : ByteArray := prog_14_method_6_code
def yX12_end : MethodName := ⟨RX12, "end", "(I)I"⟩
abbrev cX12_taken : ByteArray := prog_14_method_7_code
def yX12_taken : MethodName := ⟨RX12, "taken", "()I"⟩
abbrev cX12_step : ByteArray := prog_14_method_8_code
def yX12_step : MethodName := ⟨RX12, "step", "(IIII)V"⟩
abbrev cX12_isTable : ByteArray := prog_14_method_9_code
def yX12_isTable : MethodName := ⟨RX12, "isTable", "(I)Z"⟩
abbrev cX12_isWhole : ByteArray := prog_14_method_10_code
def yX12_isWhole : MethodName := ⟨RX12, "isWhole", "(I)Z"⟩
abbrev cX12_isIn : ByteArray := prog_14_method_11_code
def yX12_isIn : MethodName := ⟨RX12, "isIn", "(III)Z"⟩
abbrev cX12_table : ByteArray := prog_14_method_12_code
def yX12_table : MethodName := ⟨RX12, "table", "(III)I"⟩
abbrev cX12_newTable : ByteArray := prog_14_method_13_code
def yX12_newTable : MethodName := ⟨RX12, "newTable", "(IIII)I"⟩
abbrev cX12_join : ByteArray := prog_14_method_14_code
def yX12_join : MethodName := ⟨RX12, "join", "(II)I"⟩
abbrev cX12_drop : ByteArray := prog_14_method_15_code
def yX12_drop : MethodName := ⟨RX12, "drop", "(I)I"⟩
abbrev cX12_isLetter : ByteArray := prog_14_method_16_code
def yX12_isLetter : MethodName := ⟨RX12, "isLetter", "(I)Z"⟩
abbrev cX12_areCells : ByteArray := prog_14_method_17_code
def yX12_areCells : MethodName := ⟨RX12, "areCells", "(III)Z"⟩
abbrev cX12_rule : ByteArray := prog_14_method_18_code
def yX12_rule : MethodName := ⟨RX12, "rule", "(III)I"⟩
abbrev cX12_condition : ByteArray := prog_14_method_19_code
def yX12_condition : MethodName := ⟨RX12, "condition", "(III)I"⟩
abbrev cX12_indicator : ByteArray := prog_14_method_20_code
def yX12_indicator : MethodName := ⟨RX12, "indicator", "(II)I"⟩
abbrev cX12_undo : ByteArray := prog_14_method_21_code
def yX12_undo : MethodName := ⟨RX12, "undo", "()I"⟩
abbrev cX12_finds : ByteArray := prog_14_method_22_code
def yX12_finds : MethodName := ⟨RX12, "finds", "(I)I"⟩
abbrev cX12_isDigit : ByteArray := prog_14_method_23_code
def yX12_isDigit : MethodName := ⟨RX12, "isDigit", "(I)Z"⟩
abbrev cX12_isGreat : ByteArray := prog_14_method_24_code
def yX12_isGreat : MethodName := ⟨RX12, "isGreat", "(I)Z"⟩
abbrev cX12_isSmall : ByteArray := prog_14_method_25_code
def yX12_isSmall : MethodName := ⟨RX12, "isSmall", "(I)Z"⟩
abbrev cX12_fits : ByteArray := prog_14_method_26_code
def yX12_fits : MethodName := ⟨RX12, "fits", "(IIII)Z"⟩
abbrev cX12_own : ByteArray := prog_14_method_27_code
def yX12_own : MethodName := ⟨RX12, "own", "(IIII)I"⟩
abbrev cX12_find : ByteArray := prog_14_method_28_code
def yX12_find : MethodName := ⟨RX12, "find", "(IIII)I"⟩
abbrev cX12_contracted : ByteArray := prog_14_method_29_code
def yX12_contracted : MethodName := ⟨RX12, "contracted", "(IIII)I"⟩
abbrev cX12_putIndicator : ByteArray := prog_14_method_30_code
def yX12_putIndicator : MethodName := ⟨RX12, "putIndicator", "(II)V"⟩
abbrev cX12_setPart : ByteArray := prog_14_method_31_code
def yX12_setPart : MethodName := ⟨RX12, "setPart", "(III)Z"⟩
abbrev cX12_setWord : ByteArray := prog_14_method_32_code
def yX12_setWord : MethodName := ⟨RX12, "setWord", "(I)Z"⟩
abbrev cX12_notSet : ByteArray := prog_14_method_33_code
def yX12_notSet : MethodName := ⟨RX12, "notSet", "()I"⟩
abbrev cX12_text : ByteArray := prog_14_method_34_code
def yX12_text : MethodName := ⟨RX12, "text", "()I"⟩
abbrev cX12_measure : ByteArray := prog_14_method_35_code
def yX12_measure : MethodName := ⟨RX12, "measure", "(III)I"⟩
abbrev cX12_takeWord : ByteArray := prog_14_method_36_code
def yX12_takeWord : MethodName := ⟨RX12, "takeWord", "(II)I"⟩
abbrev cX12_lineEnd : ByteArray := prog_14_method_37_code
def yX12_lineEnd : MethodName := ⟨RX12, "lineEnd", "(I)I"⟩
abbrev cX12_newLine : ByteArray := prog_14_method_38_code
def yX12_newLine : MethodName := ⟨RX12, "newLine", "()Z"⟩
abbrev cX12_putCell : ByteArray := prog_14_method_39_code
def yX12_putCell : MethodName := ⟨RX12, "putCell", "(I)V"⟩
abbrev cX12_breakOf : ByteArray := prog_14_method_40_code
def yX12_breakOf : MethodName := ⟨RX12, "breakOf", "(III)I"⟩
abbrev cX12_flow : ByteArray := prog_14_method_41_code
def yX12_flow : MethodName := ⟨RX12, "flow", "(I)Z"⟩
abbrev cX12_centre : ByteArray := prog_14_method_42_code
def yX12_centre : MethodName := ⟨RX12, "centre", "(I)V"⟩
abbrev cX12_set : ByteArray := prog_14_method_43_code
def yX12_set : MethodName := ⟨RX12, "set", "(I)I"⟩
abbrev cX12_head : ByteArray := prog_14_method_44_code
def yX12_head : MethodName := ⟨RX12, "head", "(I)I"⟩
abbrev cX12_lines : ByteArray := prog_14_method_45_code
def yX12_lines : MethodName := ⟨RX12, "lines", "()I"⟩
abbrev cX12_hasHead : ByteArray := prog_14_method_46_code
def yX12_hasHead : MethodName := ⟨RX12, "hasHead", "()Z"⟩
abbrev cX12_onPage : ByteArray := prog_14_method_47_code
def yX12_onPage : MethodName := ⟨RX12, "onPage", "()I"⟩
abbrev cX12_pages : ByteArray := prog_14_method_48_code
def yX12_pages : MethodName := ⟨RX12, "pages", "()I"⟩
abbrev cX12_lineFault : ByteArray := prog_14_method_49_code
def yX12_lineFault : MethodName := ⟨RX12, "lineFault", "(I)I"⟩
abbrev cX12_length : ByteArray := prog_14_method_50_code
def yX12_length : MethodName := ⟨RX12, "length", "(I)I"⟩
abbrev cX12_cell : ByteArray := prog_14_method_51_code
def yX12_cell : MethodName := ⟨RX12, "cell", "(II)I"⟩
abbrev cX12_page : ByteArray := prog_14_method_52_code
def yX12_page : MethodName := ⟨RX12, "page", "(III)I"⟩
abbrev cX12_cut : ByteArray := prog_14_method_53_code
def yX12_cut : MethodName := ⟨RX12, "cut", "(II)I"⟩
abbrev cX12_lose : ByteArray := prog_14_method_54_code
def yX12_lose : MethodName := ⟨RX12, "lose", "(I)I"⟩
abbrev cX12_copyRow : ByteArray := prog_14_method_55_code
def yX12_copyRow : MethodName := ⟨RX12, "copyRow", "(IIIII)I"⟩
abbrev cX12_copyLines : ByteArray := prog_14_method_56_code
def yX12_copyLines : MethodName := ⟨RX12, "copyLines", "(III)I"⟩
abbrev cX12_copied : ByteArray := prog_14_method_57_code
def yX12_copied : MethodName := ⟨RX12, "copied", "()I"⟩
abbrev cX12_emboss : ByteArray := prog_14_method_58_code
def yX12_emboss : MethodName := ⟨RX12, "emboss", "(II)I"⟩
abbrev cX12_closed : ByteArray := prog_14_method_59_code
def yX12_closed : MethodName := ⟨RX12, "closed", "()I"⟩
abbrev cX12_saved : ByteArray := prog_14_method_60_code
def yX12_saved : MethodName := ⟨RX12, "saved", "(II)I"⟩
abbrev cX12_addRow : ByteArray := prog_14_method_61_code
def yX12_addRow : MethodName := ⟨RX12, "addRow", "(IIII)V"⟩
abbrev cX12_addIndicator : ByteArray := prog_14_method_62_code
def yX12_addIndicator : MethodName := ⟨RX12, "addIndicator", "(III)V"⟩
abbrev cX12_addRows : ByteArray := prog_14_method_63_code
def yX12_addRows : MethodName := ⟨RX12, "addRows", "(II)V"⟩
abbrev cX12_gather : ByteArray := prog_14_method_64_code
def yX12_gather : MethodName := ⟨RX12, "gather", "(I)V"⟩
abbrev cX12_rowCell : ByteArray := prog_14_method_65_code
def yX12_rowCell : MethodName := ⟨RX12, "rowCell", "(II)I"⟩
abbrev cX12_isSmallRule : ByteArray := prog_14_method_66_code
def yX12_isSmallRule : MethodName := ⟨RX12, "isSmallRule", "(I)Z"⟩
abbrev cX12_stands : ByteArray := prog_14_method_67_code
def yX12_stands : MethodName := ⟨RX12, "stands", "(III)Z"⟩
abbrev cX12_longest : ByteArray := prog_14_method_68_code
def yX12_longest : MethodName := ⟨RX12, "longest", "(III)I"⟩
abbrev cX12_tell : ByteArray := prog_14_method_69_code
def yX12_tell : MethodName := ⟨RX12, "tell", "(I)Z"⟩
abbrev cX12_readAll : ByteArray := prog_14_method_70_code
def yX12_readAll : MethodName := ⟨RX12, "readAll", "()I"⟩
abbrev cX12_readWord : ByteArray := prog_14_method_71_code
def yX12_readWord : MethodName := ⟨RX12, "readWord", "(II)I"⟩
abbrev cX12_read : ByteArray := prog_14_method_72_code
def yX12_read : MethodName := ⟨RX12, "read", "(III)I"⟩
abbrev cX12_putRow : ByteArray := prog_14_method_73_code
def yX12_putRow : MethodName := ⟨RX12, "putRow", "(II)V"⟩
abbrev cX12_letter : ByteArray := prog_14_method_74_code
def yX12_letter : MethodName := ⟨RX12, "letter", "(I)I"⟩
abbrev cX12_failed : ByteArray := prog_14_method_75_code
def yX12_failed : MethodName := ⟨RX12, "failed", "(IZ)I"⟩
abbrev cX12_looksLike : ByteArray := prog_14_method_76_code
def yX12_looksLike : MethodName := ⟨RX12, "looksLike", "(II)Z"⟩
abbrev cX12_next : ByteArray := prog_14_method_77_code
def yX12_next : MethodName := ⟨RX12, "next", "(II)I"⟩
abbrev cX12_state : ByteArray := prog_14_method_78_code
def yX12_state : MethodName := ⟨RX12, "state", "(IIZ)I"⟩
abbrev cX12_may : ByteArray := prog_14_method_79_code
def yX12_may : MethodName := ⟨RX12, "may", "(IIIZ)Z"⟩
abbrev cX12_mayBlank : ByteArray := prog_14_method_80_code
def yX12_mayBlank : MethodName := ⟨RX12, "mayBlank", "(IZ)Z"⟩
abbrev cX12_findCan : ByteArray := prog_14_method_81_code
def yX12_findCan : MethodName := ⟨RX12, "findCan", "()V"⟩
abbrev cX12_go : ByteArray := prog_14_method_82_code
def yX12_go : MethodName := ⟨RX12, "go", "(IIZ)V"⟩
abbrev cX12_keep : ByteArray := prog_14_method_83_code
def yX12_keep : MethodName := ⟨RX12, "keep", "()V"⟩
abbrev cX12_readings : ByteArray := prog_14_method_84_code
def yX12_readings : MethodName := ⟨RX12, "readings", "(III)I"⟩
abbrev cX12_more : ByteArray := prog_14_method_85_code
def yX12_more : MethodName := ⟨RX12, "more", "()I"⟩
abbrev cX12_reading : ByteArray := prog_14_method_86_code
def yX12_reading : MethodName := ⟨RX12, "reading", "(II)I"⟩
abbrev cX12_isShort : ByteArray := prog_14_method_87_code
def yX12_isShort : MethodName := ⟨RX12, "isShort", "(I)Z"⟩
abbrev cX12_alike : ByteArray := prog_14_method_88_code
def yX12_alike : MethodName := ⟨RX12, "alike", "(II)I"⟩
abbrev cX12_isReadable : ByteArray := prog_14_method_89_code
def yX12_isReadable : MethodName := ⟨RX12, "isReadable", "(I)Z"⟩
abbrev cX12_judge : ByteArray := prog_14_method_90_code
def yX12_judge : MethodName := ⟨RX12, "judge", "(I)I"⟩
abbrev cX12_parts : ByteArray := prog_14_method_91_code
def yX12_parts : MethodName := ⟨RX12, "parts", "(III)I"⟩
abbrev cX12_gatherSigns : ByteArray := prog_14_method_92_code
def yX12_gatherSigns : MethodName := ⟨RX12, "gatherSigns", "(I)V"⟩
abbrev cX12_isUnreadable : ByteArray := prog_14_method_93_code
def yX12_isUnreadable : MethodName := ⟨RX12, "isUnreadable", "(I)Z"⟩
abbrev cX12_unreadable : ByteArray := prog_14_method_94_code
def yX12_unreadable : MethodName := ⟨RX12, "unreadable", "(III)I"⟩
abbrev cX12_putBack : ByteArray := prog_14_method_95_code
def yX12_putBack : MethodName := ⟨RX12, "putBack", "()V"⟩
abbrev cX12_place : ByteArray := prog_14_method_96_code
def yX12_place : MethodName := ⟨RX12, "place", "()I"⟩
abbrev cX12_status : ByteArray := prog_14_method_97_code
def yX12_status : MethodName := ⟨RX12, "status", "()I"⟩
abbrev cX12_digest : ByteArray := prog_14_method_98_code
def yX12_digest : MethodName := ⟨RX12, "digest", "()I"⟩
def RJ6 : String := "java/lang/Integer"
abbrev cJ6_bitCount_0f7a4 : ByteArray := prog_17_method_49_code
def yJ6_bitCount_0f7a4 : MethodName := ⟨RJ6, "bitCount", "(I)I"⟩
def RJxa1e45 : String := "java/util/AbstractCollection"
abbrev cJxa1e45_init_da8c8 : ByteArray := prog_21_method_1_code
def yJxa1e45_init_da8c8 : MethodName := ⟨RJxa1e45, "<init>", "()V"⟩
def RJxc12de : String := "java/util/AbstractList"
abbrev cJxc12de_init_da8c8 : ByteArray := prog_22_method_1_code
def yJxc12de_init_da8c8 : MethodName := ⟨RJxc12de, "<init>", "()V"⟩
def RJx4a65c : String := "java/util/ArrayList"
def TJx4a65c : u_T := fun k => match k with
  | 0 => ("java/util/AbstractList", "modCount", "I", false)
  | 1 => ("java/util/ArrayList", "elementData", "[Ljava/lang/Object;", false)
  | _ => ("java/util/ArrayList", "size", "I", false)
def tyJx4a65c : Nat → FieldType := fun k => match k with
  | 0 => .int
  | 1 => .array (.object "java/lang/Object")
  | _ => .int
theorem nmJx4a65c : ∀ a, a < 3 → ∀ b, b < 3 → a ≠ b → (TJx4a65c a).2.1 ≠ (TJx4a65c b).2.1 := by decide +kernel
theorem tyJx4a65c_ok : ∀ k, k < 3 → parseFieldDescriptor (TJx4a65c k).2.2.1 = some (tyJx4a65c k) := by decide +kernel
abbrev cJx4a65c_init_da8c8 : ByteArray := prog_23_method_2_code
def yJx4a65c_init_da8c8 : MethodName := ⟨RJx4a65c, "<init>", "()V"⟩
abbrev cJx4a65c_grow_92f84 : ByteArray := prog_23_method_6_code
def yJx4a65c_grow_92f84 : MethodName := ⟨RJx4a65c, "grow", "(I)[Ljava/lang/Object;"⟩
abbrev cJx4a65c_grow_d5877 : ByteArray := prog_23_method_7_code
def yJx4a65c_grow_d5877 : MethodName := ⟨RJx4a65c, "grow", "()[Ljava/lang/Object;"⟩
abbrev cJx4a65c_size_8abf5 : ByteArray := prog_23_method_8_code
def yJx4a65c_size_8abf5 : MethodName := ⟨RJx4a65c, "size", "()I"⟩
abbrev cJx4a65c_isEmpty_aae02 : ByteArray := prog_23_method_9_code
def yJx4a65c_isEmpty_aae02 : MethodName := ⟨RJx4a65c, "isEmpty", "()Z"⟩
abbrev cJx4a65c_elementData_915e3 : ByteArray := prog_23_method_18_code
def yJx4a65c_elementData_915e3 : MethodName := ⟨RJx4a65c, "elementData", "(I)Ljava/lang/Object;"⟩
abbrev cJx4a65c_get_915e3 : ByteArray := prog_23_method_20_code
def yJx4a65c_get_915e3 : MethodName := ⟨RJx4a65c, "get", "(I)Ljava/lang/Object;"⟩
abbrev cJx4a65c_add_72be8 : ByteArray := prog_23_method_24_code
def yJx4a65c_add_72be8 : MethodName := ⟨RJx4a65c, "add", "(Ljava/lang/Object;[Ljava/lang/Object;I)V"⟩
abbrev cJx4a65c_add_9ea2d : ByteArray := prog_23_method_25_code
def yJx4a65c_add_9ea2d : MethodName := ⟨RJx4a65c, "add", "(Ljava/lang/Object;)Z"⟩
abbrev cJx4a65c_remove_915e3 : ByteArray := prog_23_method_29_code
def yJx4a65c_remove_915e3 : MethodName := ⟨RJx4a65c, "remove", "(I)Ljava/lang/Object;"⟩
abbrev cJx4a65c_fastRemove_b59b0 : ByteArray := prog_23_method_39_code
def yJx4a65c_fastRemove_b59b0 : MethodName := ⟨RJx4a65c, "fastRemove", "([Ljava/lang/Object;I)V"⟩
abbrev cJx4a65c_clear_da8c8 : ByteArray := prog_23_method_40_code
def yJx4a65c_clear_da8c8 : MethodName := ⟨RJx4a65c, "clear", "()V"⟩
def RJ7 : String := "java/util/Arrays"
abbrev cJ7_fill_53178 : ByteArray := prog_24_method_103_code
def yJ7_fill_53178 : MethodName := ⟨RJ7, "fill", "([II)V"⟩
abbrev cJ7_copyOf_1904c : ByteArray := prog_24_method_119_code
def yJ7_copyOf_1904c : MethodName := ⟨RJ7, "copyOf", "([Ljava/lang/Object;I)[Ljava/lang/Object;"⟩
abbrev cJ7_copyOf_6403c : ByteArray := prog_24_method_120_code
def yJ7_copyOf_6403c : MethodName := ⟨RJ7, "copyOf", "([Ljava/lang/Object;ILjava/lang/Class;)[Ljava/lang/Object;"⟩
abbrev cJ7_copyOf_59c91 : ByteArray := prog_24_method_123_code
def yJ7_copyOf_59c91 : MethodName := ⟨RJ7, "copyOf", "([II)[I"⟩
def RJ15 : String := "java/util/Objects"
abbrev cJ15_checkIndex_7cf53 : ByteArray := prog_27_method_17_code
def yJ15_checkIndex_7cf53 : MethodName := ⟨RJ15, "checkIndex", "(II)I"⟩
def RJ8 : String := "jdk/internal/util/ArraysSupport"
abbrev cJ8_newLength_cabcc : ByteArray := prog_30_method_27_code
def yJ8_newLength_cabcc : MethodName := ⟨RJ8, "newLength", "(III)I"⟩
def RJ3 : String := "jdk/internal/util/Preconditions"
abbrev cJ3_checkIndex_8e157 : ByteArray := prog_31_method_11_code
def yJ3_checkIndex_8e157 : MethodName := ⟨RJ3, "checkIndex", "(IILjava/util/function/BiFunction;)I"⟩
def RL : String := "DotPressLaw"
abbrev cL_law : ByteArray := code
abbrev vwCl : List vw_C := [(RJx4a65c, TJx4a65c, 3), (RX0, TX0, 4), (RX1, TX1, 3), (RX2, TX2, 3), (RX3, TX3, 8), (RX4, TX4, 11), (RX5, TX5, 4), (RX6, TX6, 12), (RX7, TX7, 3), (RX8, TX8, 8), (RX9, TX9, 8), (RX10, TX10, 2), (RX11, TX11, 19), (RX12, TX12, 67)]
end
section
def dkb (c : ByteArray) : List (Nat × Instr × Nat) → Bool
  | [] => true
  | x :: r => (decide (decode c x.1 = .ok (x.2.1, x.2.2))) && dkb c r
def dkp (c : ByteArray) : List (Nat × Instr × Nat) → Prop
  | [] => True
  | (p, i, n) :: r => decode c p = .ok (i, n) ∧ dkp c r
theorem dkq {c : ByteArray} : ∀ {l : List (Nat × Instr × Nat)}, dkb c l = true → dkp c l := by
  intro l
  induction l with
  | nil => intro _; trivial
  | cons y r ih =>
    intro h1
    have g0 : ((decide (decode c y.1 = .ok (y.2.1, y.2.2))) && dkb c r) = true := h1
    have g : (decide (decode c y.1 = .ok (y.2.1, y.2.2))) = true ∧ dkb c r = true := by simpa using g0
    show decode c y.1 = .ok (y.2.1, y.2.2) ∧ dkp c r
    exact ⟨of_decide_eq_true g.1, ih g.2⟩
def rdb (c : ByteArray) (p b : Nat) : Prop := ∃ h : p < c.size, (c[p]'h).toNat = b
theorem rdb_u1 {c : ByteArray} {p b : Nat} (h : rdb c p b) : (Jvm.ClassFile.Reader.u1 : Jvm.ClassFile.Decoder Nat) c p = .ok (b, p + 1) := by
  obtain ⟨h1, h2⟩ := h
  have e : (Jvm.ClassFile.Reader.u1 : Jvm.ClassFile.Decoder Nat) c p = (dite (p < c.size) (fun h => (do set (p + 1); pure (c[p]'h).toNat : Jvm.ClassFile.Decoder Nat)) (fun _ => throw (Jvm.ClassFile.HasTruncated.truncated p))) c p := rfl
  rw [e, dif_pos h1, h2]
  rfl
theorem dkbd {α β : Type} {m : Jvm.ClassFile.Decoder α} {f : α → Jvm.ClassFile.Decoder β} {c : ByteArray} {p q : Nat} {a : α} (h : m c p = .ok (a, q)) : (m >>= f) c p = f a c q := by
  have e : (m >>= f) c p = Except.bind (m c p) (fun x => f x.1 c x.2) := rfl
  rw [e, h]
  rfl
theorem dkmp {α β : Type} {m : Jvm.ClassFile.Decoder α} {f : α → β} {c : ByteArray} {p q : Nat} {a : α} (h : m c p = .ok (a, q)) : (f <$> m) c p = .ok (f a, q) := by
  have e : (f <$> m) c p = Except.bind (m c p) (fun x => .ok (f x.1, x.2)) := rfl
  rw [e, h]
  rfl
theorem rdb_u2 {c : ByteArray} {p a b : Nat} (h : rdb c p a) (h1 : rdb c (p + 1) b) : (Jvm.ClassFile.Reader.u2 : Jvm.ClassFile.Decoder Nat) c p = .ok (a * 256 + b, p + 1 + 1) := by
  unfold Jvm.ClassFile.Reader.u2
  refine (dkbd (rdb_u1 h)).trans ?_
  exact dkbd (rdb_u1 h1)
theorem rdb_s1 {c : ByteArray} {p a : Nat} (h : rdb c p a) : (Jvm.ClassFile.Reader.s1 : Jvm.ClassFile.Decoder Int) c p = .ok (Jvm.ClassFile.Reader.signed 8 a, p + 1) := dkmp (rdb_u1 h)
theorem rdb_s2 {c : ByteArray} {p a b : Nat} (h : rdb c p a) (h1 : rdb c (p + 1) b) : (Jvm.ClassFile.Reader.s2 : Jvm.ClassFile.Decoder Int) c p = .ok (Jvm.ClassFile.Reader.signed 16 (a * 256 + b), p + 1 + 1) := dkmp (rdb_u2 h h1)
theorem dkcd {c : ByteArray} {pc n : Nat} {i : Instr} (h : Jvm.ClassFile.Decoder.instr pc c pc = .ok (i, pc + n)) : decode c pc = .ok (i, n) := by
  unfold decode
  have e : Jvm.ClassFile.Reader.runAt (Jvm.ClassFile.Decoder.instr pc) c pc = .ok (i, pc + n) := h
  rw [e]
  show (Except.ok (i, pc + n - pc) : Except Jvm.ClassFile.DecodeError (Instr × Nat)) = _
  rw [Nat.add_sub_cancel_left]
def oh0 (i : Instr) : List UInt8 → Option (Instr × Nat) := fun _ => some (i, 1)
def oh1 (f : Nat → Instr) : List UInt8 → Option (Instr × Nat)
  | a :: _ => some (f a.toNat, 2)
  | [] => none
def oh2 (f : Nat → Instr) : List UInt8 → Option (Instr × Nat)
  | a :: b :: _ => some (f (a.toNat * 256 + b.toNat), 3)
  | _ => none
def ohq1 (f : Int → Instr) : List UInt8 → Option (Instr × Nat)
  | a :: _ => some (f (Jvm.ClassFile.Reader.signed 8 a.toNat), 2)
  | [] => none
def ohq2 (f : Int → Instr) : List UInt8 → Option (Instr × Nat)
  | a :: b :: _ => some (f (Jvm.ClassFile.Reader.signed 16 (a.toNat * 256 + b.toNat)), 3)
  | _ => none
def ohii : List UInt8 → Option (Instr × Nat)
  | a :: b :: _ => some (.iinc a.toNat (Jvm.ClassFile.Reader.signed 8 b.toNat), 3)
  | _ => none
def ohgood (k : Nat) (s : List UInt8 → Option (Instr × Nat)) : Prop := ∀ (c : ByteArray) (pc : Nat) (r : List UInt8) (y : Instr × Nat), rdb c pc k → (∀ j b, r[j]? = some b → rdb c (pc + 1 + j) b.toNat) → s r = some y → decode c pc = .ok y
theorem good_o0 {k : Nat} {i : Instr} (g : ∀ c pc, rdb c pc k → Jvm.ClassFile.Decoder.instr pc c pc = .ok (i, pc + 1)) : ohgood k (oh0 i) := fun c pc r y h _ e => by
  cases e
  exact dkcd (g c pc h)
theorem good_o1 {k : Nat} {f : Nat → Instr} (g : ∀ c pc a, rdb c pc k → rdb c (pc + 1) a → Jvm.ClassFile.Decoder.instr pc c pc = .ok (f a, pc + 2)) : ohgood k (oh1 f) := fun c pc r y h hr e => by
  cases r with
  | nil => cases e
  | cons a r =>
    cases e
    exact dkcd (g c pc a.toNat h (hr 0 a rfl))
theorem good_q1 {k : Nat} {f : Int → Instr} (g : ∀ c pc a, rdb c pc k → rdb c (pc + 1) a → Jvm.ClassFile.Decoder.instr pc c pc = .ok (f (Jvm.ClassFile.Reader.signed 8 a), pc + 2)) : ohgood k (ohq1 f) := fun c pc r y h hr e => by
  cases r with
  | nil => cases e
  | cons a r =>
    cases e
    exact dkcd (g c pc a.toNat h (hr 0 a rfl))
theorem good_o2 {k : Nat} {f : Nat → Instr} (g : ∀ c pc a b, rdb c pc k → rdb c (pc + 1) a → rdb c (pc + 1 + 1) b → Jvm.ClassFile.Decoder.instr pc c pc = .ok (f (a * 256 + b), pc + 3)) : ohgood k (oh2 f) := fun c pc r y h hr e => by
  cases r with
  | nil => cases e
  | cons a r =>
    cases r with
    | nil => cases e
    | cons b r =>
      cases e
      exact dkcd (g c pc a.toNat b.toNat h (hr 0 a rfl) (hr 1 b rfl))
theorem good_q2 {k : Nat} {f : Int → Instr} (g : ∀ c pc a b, rdb c pc k → rdb c (pc + 1) a → rdb c (pc + 1 + 1) b → Jvm.ClassFile.Decoder.instr pc c pc = .ok (f (Jvm.ClassFile.Reader.signed 16 (a * 256 + b)), pc + 3)) : ohgood k (ohq2 f) := fun c pc r y h hr e => by
  cases r with
  | nil => cases e
  | cons a r =>
    cases r with
    | nil => cases e
    | cons b r =>
      cases e
      exact dkcd (g c pc a.toNat b.toNat h (hr 0 a rfl) (hr 1 b rfl))
theorem good_ii {k : Nat} (g : ∀ c pc a b, rdb c pc k → rdb c (pc + 1) a → rdb c (pc + 1 + 1) b → Jvm.ClassFile.Decoder.instr pc c pc = .ok (.iinc a (Jvm.ClassFile.Reader.signed 8 b), pc + 3)) : ohgood k ohii := fun c pc r y h hr e => by
  cases r with
  | nil => cases e
  | cons a r =>
    cases r with
    | nil => cases e
    | cons b r =>
      cases e
      exact dkcd (g c pc a.toNat b.toNat h (hr 0 a rfl) (hr 1 b rfl))
theorem dko_42 : ohgood 42 (oh0 (.aload_n 0)) := good_o0 fun c pc h => by
  unfold Jvm.ClassFile.Decoder.instr
  refine Eq.trans (dkbd (rdb_u1 h)) ?_
  rfl
theorem dko_180 : ohgood 180 (oh2 (fun x => .getfield x)) := good_o2 fun c pc a b h h1 h2 => by
  unfold Jvm.ClassFile.Decoder.instr
  refine Eq.trans (dkbd (rdb_u1 h)) ?_
  exact dkbd (rdb_u2 h1 h2)
theorem dko_27 : ohgood 27 (oh0 (.iload_n 1)) := good_o0 fun c pc h => by
  unfold Jvm.ClassFile.Decoder.instr
  refine Eq.trans (dkbd (rdb_u1 h)) ?_
  rfl
theorem dko_3 : ohgood 3 (oh0 (.iconst 0)) := good_o0 fun c pc h => by
  unfold Jvm.ClassFile.Decoder.instr
  refine Eq.trans (dkbd (rdb_u1 h)) ?_
  rfl
theorem dko_182 : ohgood 182 (oh2 (fun x => .invokevirtual x)) := good_o2 fun c pc a b h h1 h2 => by
  unfold Jvm.ClassFile.Decoder.instr
  refine Eq.trans (dkbd (rdb_u1 h)) ?_
  exact dkbd (rdb_u2 h1 h2)
theorem dko_21 : ohgood 21 (oh1 (fun x => .iload x)) := good_o1 fun c pc a h h1 => by
  unfold Jvm.ClassFile.Decoder.instr
  refine Eq.trans (dkbd (rdb_u1 h)) ?_
  exact dkbd (rdb_u1 h1)
theorem dko_28 : ohgood 28 (oh0 (.iload_n 2)) := good_o0 fun c pc h => by
  unfold Jvm.ClassFile.Decoder.instr
  refine Eq.trans (dkbd (rdb_u1 h)) ?_
  rfl
theorem dko_29 : ohgood 29 (oh0 (.iload_n 3)) := good_o0 fun c pc h => by
  unfold Jvm.ClassFile.Decoder.instr
  refine Eq.trans (dkbd (rdb_u1 h)) ?_
  rfl
theorem dko_43 : ohgood 43 (oh0 (.aload_n 1)) := good_o0 fun c pc h => by
  unfold Jvm.ClassFile.Decoder.instr
  refine Eq.trans (dkbd (rdb_u1 h)) ?_
  rfl
theorem dko_4 : ohgood 4 (oh0 (.iconst 1)) := good_o0 fun c pc h => by
  unfold Jvm.ClassFile.Decoder.instr
  refine Eq.trans (dkbd (rdb_u1 h)) ?_
  rfl
theorem dko_167 : ohgood 167 (ohq2 (fun x => .goto x)) := good_q2 fun c pc a b h h1 h2 => by
  unfold Jvm.ClassFile.Decoder.instr
  refine Eq.trans (dkbd (rdb_u1 h)) ?_
  exact dkbd (rdb_s2 h1 h2)
theorem dko_46 : ohgood 46 (oh0 (.iaload)) := good_o0 fun c pc h => by
  unfold Jvm.ClassFile.Decoder.instr
  refine Eq.trans (dkbd (rdb_u1 h)) ?_
  rfl
theorem dko_172 : ohgood 172 (oh0 (.ireturn)) := good_o0 fun c pc h => by
  unfold Jvm.ClassFile.Decoder.instr
  refine Eq.trans (dkbd (rdb_u1 h)) ?_
  rfl
theorem dko_96 : ohgood 96 (oh0 (.iadd)) := good_o0 fun c pc h => by
  unfold Jvm.ClassFile.Decoder.instr
  refine Eq.trans (dkbd (rdb_u1 h)) ?_
  rfl
theorem dko_181 : ohgood 181 (oh2 (fun x => .putfield x)) := good_o2 fun c pc a b h h1 h2 => by
  unfold Jvm.ClassFile.Decoder.instr
  refine Eq.trans (dkbd (rdb_u1 h)) ?_
  exact dkbd (rdb_u2 h1 h2)
theorem dko_16 : ohgood 16 (ohq1 (fun x => .bipush x)) := good_q1 fun c pc a h h1 => by
  unfold Jvm.ClassFile.Decoder.instr
  refine Eq.trans (dkbd (rdb_u1 h)) ?_
  exact dkbd (rdb_s1 h1)
theorem dko_54 : ohgood 54 (oh1 (fun x => .istore x)) := good_o1 fun c pc a h h1 => by
  unfold Jvm.ClassFile.Decoder.instr
  refine Eq.trans (dkbd (rdb_u1 h)) ?_
  exact dkbd (rdb_u1 h1)
theorem dko_25 : ohgood 25 (oh1 (fun x => .aload x)) := good_o1 fun c pc a h h1 => by
  unfold Jvm.ClassFile.Decoder.instr
  refine Eq.trans (dkbd (rdb_u1 h)) ?_
  exact dkbd (rdb_u1 h1)
theorem dko_132 : ohgood 132 (ohii) := good_ii fun c pc a b h h1 h2 => by
  unfold Jvm.ClassFile.Decoder.instr
  refine Eq.trans (dkbd (rdb_u1 h)) ?_
  refine Eq.trans (dkbd (rdb_u1 h1)) ?_
  exact dkbd (rdb_s1 h2)
theorem dko_17 : ohgood 17 (ohq2 (fun x => .sipush x)) := good_q2 fun c pc a b h h1 h2 => by
  unfold Jvm.ClassFile.Decoder.instr
  refine Eq.trans (dkbd (rdb_u1 h)) ?_
  exact dkbd (rdb_s2 h1 h2)
theorem dko_1 : ohgood 1 (oh0 (.aconst_null)) := good_o0 fun c pc h => by
  unfold Jvm.ClassFile.Decoder.instr
  refine Eq.trans (dkbd (rdb_u1 h)) ?_
  rfl
theorem dko_2 : ohgood 2 (oh0 (.iconst (-1))) := good_o0 fun c pc h => by
  unfold Jvm.ClassFile.Decoder.instr
  refine Eq.trans (dkbd (rdb_u1 h)) ?_
  rfl
theorem dko_5 : ohgood 5 (oh0 (.iconst 2)) := good_o0 fun c pc h => by
  unfold Jvm.ClassFile.Decoder.instr
  refine Eq.trans (dkbd (rdb_u1 h)) ?_
  rfl
theorem dko_6 : ohgood 6 (oh0 (.iconst 3)) := good_o0 fun c pc h => by
  unfold Jvm.ClassFile.Decoder.instr
  refine Eq.trans (dkbd (rdb_u1 h)) ?_
  rfl
theorem dko_7 : ohgood 7 (oh0 (.iconst 4)) := good_o0 fun c pc h => by
  unfold Jvm.ClassFile.Decoder.instr
  refine Eq.trans (dkbd (rdb_u1 h)) ?_
  rfl
theorem dko_8 : ohgood 8 (oh0 (.iconst 5)) := good_o0 fun c pc h => by
  unfold Jvm.ClassFile.Decoder.instr
  refine Eq.trans (dkbd (rdb_u1 h)) ?_
  rfl
theorem dko_9 : ohgood 9 (oh0 (.lconst 0)) := good_o0 fun c pc h => by
  unfold Jvm.ClassFile.Decoder.instr
  refine Eq.trans (dkbd (rdb_u1 h)) ?_
  rfl
theorem dko_10 : ohgood 10 (oh0 (.lconst 1)) := good_o0 fun c pc h => by
  unfold Jvm.ClassFile.Decoder.instr
  refine Eq.trans (dkbd (rdb_u1 h)) ?_
  rfl
theorem dko_18 : ohgood 18 (oh1 (fun x => .ldc x)) := good_o1 fun c pc a h h1 => by
  unfold Jvm.ClassFile.Decoder.instr
  refine Eq.trans (dkbd (rdb_u1 h)) ?_
  exact dkbd (rdb_u1 h1)
theorem dko_19 : ohgood 19 (oh2 (fun x => .ldc_w x)) := good_o2 fun c pc a b h h1 h2 => by
  unfold Jvm.ClassFile.Decoder.instr
  refine Eq.trans (dkbd (rdb_u1 h)) ?_
  exact dkbd (rdb_u2 h1 h2)
theorem dko_22 : ohgood 22 (oh1 (fun x => .lload x)) := good_o1 fun c pc a h h1 => by
  unfold Jvm.ClassFile.Decoder.instr
  refine Eq.trans (dkbd (rdb_u1 h)) ?_
  exact dkbd (rdb_u1 h1)
theorem dko_26 : ohgood 26 (oh0 (.iload_n 0)) := good_o0 fun c pc h => by
  unfold Jvm.ClassFile.Decoder.instr
  refine Eq.trans (dkbd (rdb_u1 h)) ?_
  rfl
theorem dko_44 : ohgood 44 (oh0 (.aload_n 2)) := good_o0 fun c pc h => by
  unfold Jvm.ClassFile.Decoder.instr
  refine Eq.trans (dkbd (rdb_u1 h)) ?_
  rfl
theorem dko_45 : ohgood 45 (oh0 (.aload_n 3)) := good_o0 fun c pc h => by
  unfold Jvm.ClassFile.Decoder.instr
  refine Eq.trans (dkbd (rdb_u1 h)) ?_
  rfl
theorem dko_50 : ohgood 50 (oh0 (.aaload)) := good_o0 fun c pc h => by
  unfold Jvm.ClassFile.Decoder.instr
  refine Eq.trans (dkbd (rdb_u1 h)) ?_
  rfl
theorem dko_51 : ohgood 51 (oh0 (.baload)) := good_o0 fun c pc h => by
  unfold Jvm.ClassFile.Decoder.instr
  refine Eq.trans (dkbd (rdb_u1 h)) ?_
  rfl
theorem dko_55 : ohgood 55 (oh1 (fun x => .lstore x)) := good_o1 fun c pc a h h1 => by
  unfold Jvm.ClassFile.Decoder.instr
  refine Eq.trans (dkbd (rdb_u1 h)) ?_
  exact dkbd (rdb_u1 h1)
theorem dko_58 : ohgood 58 (oh1 (fun x => .astore x)) := good_o1 fun c pc a h h1 => by
  unfold Jvm.ClassFile.Decoder.instr
  refine Eq.trans (dkbd (rdb_u1 h)) ?_
  exact dkbd (rdb_u1 h1)
theorem dko_59 : ohgood 59 (oh0 (.istore_n 0)) := good_o0 fun c pc h => by
  unfold Jvm.ClassFile.Decoder.instr
  refine Eq.trans (dkbd (rdb_u1 h)) ?_
  rfl
theorem dko_60 : ohgood 60 (oh0 (.istore_n 1)) := good_o0 fun c pc h => by
  unfold Jvm.ClassFile.Decoder.instr
  refine Eq.trans (dkbd (rdb_u1 h)) ?_
  rfl
theorem dko_61 : ohgood 61 (oh0 (.istore_n 2)) := good_o0 fun c pc h => by
  unfold Jvm.ClassFile.Decoder.instr
  refine Eq.trans (dkbd (rdb_u1 h)) ?_
  rfl
theorem dko_62 : ohgood 62 (oh0 (.istore_n 3)) := good_o0 fun c pc h => by
  unfold Jvm.ClassFile.Decoder.instr
  refine Eq.trans (dkbd (rdb_u1 h)) ?_
  rfl
theorem dko_75 : ohgood 75 (oh0 (.astore_n 0)) := good_o0 fun c pc h => by
  unfold Jvm.ClassFile.Decoder.instr
  refine Eq.trans (dkbd (rdb_u1 h)) ?_
  rfl
theorem dko_76 : ohgood 76 (oh0 (.astore_n 1)) := good_o0 fun c pc h => by
  unfold Jvm.ClassFile.Decoder.instr
  refine Eq.trans (dkbd (rdb_u1 h)) ?_
  rfl
theorem dko_77 : ohgood 77 (oh0 (.astore_n 2)) := good_o0 fun c pc h => by
  unfold Jvm.ClassFile.Decoder.instr
  refine Eq.trans (dkbd (rdb_u1 h)) ?_
  rfl
theorem dko_78 : ohgood 78 (oh0 (.astore_n 3)) := good_o0 fun c pc h => by
  unfold Jvm.ClassFile.Decoder.instr
  refine Eq.trans (dkbd (rdb_u1 h)) ?_
  rfl
theorem dko_79 : ohgood 79 (oh0 (.iastore)) := good_o0 fun c pc h => by
  unfold Jvm.ClassFile.Decoder.instr
  refine Eq.trans (dkbd (rdb_u1 h)) ?_
  rfl
theorem dko_83 : ohgood 83 (oh0 (.aastore)) := good_o0 fun c pc h => by
  unfold Jvm.ClassFile.Decoder.instr
  refine Eq.trans (dkbd (rdb_u1 h)) ?_
  rfl
theorem dko_84 : ohgood 84 (oh0 (.bastore)) := good_o0 fun c pc h => by
  unfold Jvm.ClassFile.Decoder.instr
  refine Eq.trans (dkbd (rdb_u1 h)) ?_
  rfl
theorem dko_87 : ohgood 87 (oh0 (.pop)) := good_o0 fun c pc h => by
  unfold Jvm.ClassFile.Decoder.instr
  refine Eq.trans (dkbd (rdb_u1 h)) ?_
  rfl
theorem dko_89 : ohgood 89 (oh0 (.dup)) := good_o0 fun c pc h => by
  unfold Jvm.ClassFile.Decoder.instr
  refine Eq.trans (dkbd (rdb_u1 h)) ?_
  rfl
theorem dko_90 : ohgood 90 (oh0 (.dup_x1)) := good_o0 fun c pc h => by
  unfold Jvm.ClassFile.Decoder.instr
  refine Eq.trans (dkbd (rdb_u1 h)) ?_
  rfl
theorem dko_92 : ohgood 92 (oh0 (.dup2)) := good_o0 fun c pc h => by
  unfold Jvm.ClassFile.Decoder.instr
  refine Eq.trans (dkbd (rdb_u1 h)) ?_
  rfl
theorem dko_97 : ohgood 97 (oh0 (.ladd)) := good_o0 fun c pc h => by
  unfold Jvm.ClassFile.Decoder.instr
  refine Eq.trans (dkbd (rdb_u1 h)) ?_
  rfl
theorem dko_100 : ohgood 100 (oh0 (.isub)) := good_o0 fun c pc h => by
  unfold Jvm.ClassFile.Decoder.instr
  refine Eq.trans (dkbd (rdb_u1 h)) ?_
  rfl
theorem dko_104 : ohgood 104 (oh0 (.imul)) := good_o0 fun c pc h => by
  unfold Jvm.ClassFile.Decoder.instr
  refine Eq.trans (dkbd (rdb_u1 h)) ?_
  rfl
theorem dko_108 : ohgood 108 (oh0 (.idiv)) := good_o0 fun c pc h => by
  unfold Jvm.ClassFile.Decoder.instr
  refine Eq.trans (dkbd (rdb_u1 h)) ?_
  rfl
theorem dko_112 : ohgood 112 (oh0 (.irem)) := good_o0 fun c pc h => by
  unfold Jvm.ClassFile.Decoder.instr
  refine Eq.trans (dkbd (rdb_u1 h)) ?_
  rfl
theorem dko_116 : ohgood 116 (oh0 (.ineg)) := good_o0 fun c pc h => by
  unfold Jvm.ClassFile.Decoder.instr
  refine Eq.trans (dkbd (rdb_u1 h)) ?_
  rfl
theorem dko_120 : ohgood 120 (oh0 (.ishl)) := good_o0 fun c pc h => by
  unfold Jvm.ClassFile.Decoder.instr
  refine Eq.trans (dkbd (rdb_u1 h)) ?_
  rfl
theorem dko_122 : ohgood 122 (oh0 (.ishr)) := good_o0 fun c pc h => by
  unfold Jvm.ClassFile.Decoder.instr
  refine Eq.trans (dkbd (rdb_u1 h)) ?_
  rfl
theorem dko_124 : ohgood 124 (oh0 (.iushr)) := good_o0 fun c pc h => by
  unfold Jvm.ClassFile.Decoder.instr
  refine Eq.trans (dkbd (rdb_u1 h)) ?_
  rfl
theorem dko_126 : ohgood 126 (oh0 (.iand)) := good_o0 fun c pc h => by
  unfold Jvm.ClassFile.Decoder.instr
  refine Eq.trans (dkbd (rdb_u1 h)) ?_
  rfl
theorem dko_128 : ohgood 128 (oh0 (.ior)) := good_o0 fun c pc h => by
  unfold Jvm.ClassFile.Decoder.instr
  refine Eq.trans (dkbd (rdb_u1 h)) ?_
  rfl
theorem dko_130 : ohgood 130 (oh0 (.ixor)) := good_o0 fun c pc h => by
  unfold Jvm.ClassFile.Decoder.instr
  refine Eq.trans (dkbd (rdb_u1 h)) ?_
  rfl
theorem dko_133 : ohgood 133 (oh0 (.i2l)) := good_o0 fun c pc h => by
  unfold Jvm.ClassFile.Decoder.instr
  refine Eq.trans (dkbd (rdb_u1 h)) ?_
  rfl
theorem dko_136 : ohgood 136 (oh0 (.l2i)) := good_o0 fun c pc h => by
  unfold Jvm.ClassFile.Decoder.instr
  refine Eq.trans (dkbd (rdb_u1 h)) ?_
  rfl
theorem dko_148 : ohgood 148 (oh0 (.lcmp)) := good_o0 fun c pc h => by
  unfold Jvm.ClassFile.Decoder.instr
  refine Eq.trans (dkbd (rdb_u1 h)) ?_
  rfl
theorem dko_153 : ohgood 153 (ohq2 (fun x => .ifCond .eq x)) := good_q2 fun c pc a b h h1 h2 => by
  unfold Jvm.ClassFile.Decoder.instr
  refine Eq.trans (dkbd (rdb_u1 h)) ?_
  exact dkbd (rdb_s2 h1 h2)
theorem dko_154 : ohgood 154 (ohq2 (fun x => .ifCond .ne x)) := good_q2 fun c pc a b h h1 h2 => by
  unfold Jvm.ClassFile.Decoder.instr
  refine Eq.trans (dkbd (rdb_u1 h)) ?_
  exact dkbd (rdb_s2 h1 h2)
theorem dko_155 : ohgood 155 (ohq2 (fun x => .ifCond .lt x)) := good_q2 fun c pc a b h h1 h2 => by
  unfold Jvm.ClassFile.Decoder.instr
  refine Eq.trans (dkbd (rdb_u1 h)) ?_
  exact dkbd (rdb_s2 h1 h2)
theorem dko_156 : ohgood 156 (ohq2 (fun x => .ifCond .ge x)) := good_q2 fun c pc a b h h1 h2 => by
  unfold Jvm.ClassFile.Decoder.instr
  refine Eq.trans (dkbd (rdb_u1 h)) ?_
  exact dkbd (rdb_s2 h1 h2)
theorem dko_157 : ohgood 157 (ohq2 (fun x => .ifCond .gt x)) := good_q2 fun c pc a b h h1 h2 => by
  unfold Jvm.ClassFile.Decoder.instr
  refine Eq.trans (dkbd (rdb_u1 h)) ?_
  exact dkbd (rdb_s2 h1 h2)
theorem dko_158 : ohgood 158 (ohq2 (fun x => .ifCond .le x)) := good_q2 fun c pc a b h h1 h2 => by
  unfold Jvm.ClassFile.Decoder.instr
  refine Eq.trans (dkbd (rdb_u1 h)) ?_
  exact dkbd (rdb_s2 h1 h2)
theorem dko_159 : ohgood 159 (ohq2 (fun x => .if_icmp .eq x)) := good_q2 fun c pc a b h h1 h2 => by
  unfold Jvm.ClassFile.Decoder.instr
  refine Eq.trans (dkbd (rdb_u1 h)) ?_
  exact dkbd (rdb_s2 h1 h2)
theorem dko_160 : ohgood 160 (ohq2 (fun x => .if_icmp .ne x)) := good_q2 fun c pc a b h h1 h2 => by
  unfold Jvm.ClassFile.Decoder.instr
  refine Eq.trans (dkbd (rdb_u1 h)) ?_
  exact dkbd (rdb_s2 h1 h2)
theorem dko_161 : ohgood 161 (ohq2 (fun x => .if_icmp .lt x)) := good_q2 fun c pc a b h h1 h2 => by
  unfold Jvm.ClassFile.Decoder.instr
  refine Eq.trans (dkbd (rdb_u1 h)) ?_
  exact dkbd (rdb_s2 h1 h2)
theorem dko_162 : ohgood 162 (ohq2 (fun x => .if_icmp .ge x)) := good_q2 fun c pc a b h h1 h2 => by
  unfold Jvm.ClassFile.Decoder.instr
  refine Eq.trans (dkbd (rdb_u1 h)) ?_
  exact dkbd (rdb_s2 h1 h2)
theorem dko_163 : ohgood 163 (ohq2 (fun x => .if_icmp .gt x)) := good_q2 fun c pc a b h h1 h2 => by
  unfold Jvm.ClassFile.Decoder.instr
  refine Eq.trans (dkbd (rdb_u1 h)) ?_
  exact dkbd (rdb_s2 h1 h2)
theorem dko_164 : ohgood 164 (ohq2 (fun x => .if_icmp .le x)) := good_q2 fun c pc a b h h1 h2 => by
  unfold Jvm.ClassFile.Decoder.instr
  refine Eq.trans (dkbd (rdb_u1 h)) ?_
  exact dkbd (rdb_s2 h1 h2)
theorem dko_165 : ohgood 165 (ohq2 (fun x => .if_acmp .eq x)) := good_q2 fun c pc a b h h1 h2 => by
  unfold Jvm.ClassFile.Decoder.instr
  refine Eq.trans (dkbd (rdb_u1 h)) ?_
  exact dkbd (rdb_s2 h1 h2)
theorem dko_166 : ohgood 166 (ohq2 (fun x => .if_acmp .ne x)) := good_q2 fun c pc a b h h1 h2 => by
  unfold Jvm.ClassFile.Decoder.instr
  refine Eq.trans (dkbd (rdb_u1 h)) ?_
  exact dkbd (rdb_s2 h1 h2)
theorem dko_176 : ohgood 176 (oh0 (.areturn)) := good_o0 fun c pc h => by
  unfold Jvm.ClassFile.Decoder.instr
  refine Eq.trans (dkbd (rdb_u1 h)) ?_
  rfl
theorem dko_177 : ohgood 177 (oh0 (.return_)) := good_o0 fun c pc h => by
  unfold Jvm.ClassFile.Decoder.instr
  refine Eq.trans (dkbd (rdb_u1 h)) ?_
  rfl
theorem dko_178 : ohgood 178 (oh2 (fun x => .getstatic x)) := good_o2 fun c pc a b h h1 h2 => by
  unfold Jvm.ClassFile.Decoder.instr
  refine Eq.trans (dkbd (rdb_u1 h)) ?_
  exact dkbd (rdb_u2 h1 h2)
theorem dko_183 : ohgood 183 (oh2 (fun x => .invokespecial x)) := good_o2 fun c pc a b h h1 h2 => by
  unfold Jvm.ClassFile.Decoder.instr
  refine Eq.trans (dkbd (rdb_u1 h)) ?_
  exact dkbd (rdb_u2 h1 h2)
theorem dko_184 : ohgood 184 (oh2 (fun x => .invokestatic x)) := good_o2 fun c pc a b h h1 h2 => by
  unfold Jvm.ClassFile.Decoder.instr
  refine Eq.trans (dkbd (rdb_u1 h)) ?_
  exact dkbd (rdb_u2 h1 h2)
theorem dko_187 : ohgood 187 (oh2 (fun x => .new x)) := good_o2 fun c pc a b h h1 h2 => by
  unfold Jvm.ClassFile.Decoder.instr
  refine Eq.trans (dkbd (rdb_u1 h)) ?_
  exact dkbd (rdb_u2 h1 h2)
theorem dko_189 : ohgood 189 (oh2 (fun x => .anewarray x)) := good_o2 fun c pc a b h h1 h2 => by
  unfold Jvm.ClassFile.Decoder.instr
  refine Eq.trans (dkbd (rdb_u1 h)) ?_
  exact dkbd (rdb_u2 h1 h2)
theorem dko_190 : ohgood 190 (oh0 (.arraylength)) := good_o0 fun c pc h => by
  unfold Jvm.ClassFile.Decoder.instr
  refine Eq.trans (dkbd (rdb_u1 h)) ?_
  rfl
theorem dko_192 : ohgood 192 (oh2 (fun x => .checkcast x)) := good_o2 fun c pc a b h h1 h2 => by
  unfold Jvm.ClassFile.Decoder.instr
  refine Eq.trans (dkbd (rdb_u1 h)) ?_
  exact dkbd (rdb_u2 h1 h2)
theorem dko_198 : ohgood 198 (ohq2 (fun x => .ifnull x)) := good_q2 fun c pc a b h h1 h2 => by
  unfold Jvm.ClassFile.Decoder.instr
  refine Eq.trans (dkbd (rdb_u1 h)) ?_
  exact dkbd (rdb_s2 h1 h2)
theorem dko_199 : ohgood 199 (ohq2 (fun x => .ifnonnull x)) := good_q2 fun c pc a b h h1 h2 => by
  unfold Jvm.ClassFile.Decoder.instr
  refine Eq.trans (dkbd (rdb_u1 h)) ?_
  exact dkbd (rdb_s2 h1 h2)
def dktab : List (Nat × (List UInt8 → Option (Instr × Nat))) := [(42, oh0 (.aload_n 0)), (180, oh2 (fun x => .getfield x)), (27, oh0 (.iload_n 1)), (3, oh0 (.iconst 0)), (182, oh2 (fun x => .invokevirtual x)), (21, oh1 (fun x => .iload x)), (28, oh0 (.iload_n 2)), (29, oh0 (.iload_n 3)), (43, oh0 (.aload_n 1)), (4, oh0 (.iconst 1)), (167, ohq2 (fun x => .goto x)), (46, oh0 (.iaload)), (172, oh0 (.ireturn)), (96, oh0 (.iadd)), (181, oh2 (fun x => .putfield x)), (16, ohq1 (fun x => .bipush x)), (54, oh1 (fun x => .istore x)), (25, oh1 (fun x => .aload x)), (132, ohii), (17, ohq2 (fun x => .sipush x)), (1, oh0 (.aconst_null)), (2, oh0 (.iconst (-1))), (5, oh0 (.iconst 2)), (6, oh0 (.iconst 3)), (7, oh0 (.iconst 4)), (8, oh0 (.iconst 5)), (9, oh0 (.lconst 0)), (10, oh0 (.lconst 1)), (18, oh1 (fun x => .ldc x)), (19, oh2 (fun x => .ldc_w x)), (22, oh1 (fun x => .lload x)), (26, oh0 (.iload_n 0)), (44, oh0 (.aload_n 2)), (45, oh0 (.aload_n 3)), (50, oh0 (.aaload)), (51, oh0 (.baload)), (55, oh1 (fun x => .lstore x)), (58, oh1 (fun x => .astore x)), (59, oh0 (.istore_n 0)), (60, oh0 (.istore_n 1)), (61, oh0 (.istore_n 2)), (62, oh0 (.istore_n 3)), (75, oh0 (.astore_n 0)), (76, oh0 (.astore_n 1)), (77, oh0 (.astore_n 2)), (78, oh0 (.astore_n 3)), (79, oh0 (.iastore)), (83, oh0 (.aastore)), (84, oh0 (.bastore)), (87, oh0 (.pop)), (89, oh0 (.dup)), (90, oh0 (.dup_x1)), (92, oh0 (.dup2)), (97, oh0 (.ladd)), (100, oh0 (.isub)), (104, oh0 (.imul)), (108, oh0 (.idiv)), (112, oh0 (.irem)), (116, oh0 (.ineg)), (120, oh0 (.ishl)), (122, oh0 (.ishr)), (124, oh0 (.iushr)), (126, oh0 (.iand)), (128, oh0 (.ior)), (130, oh0 (.ixor)), (133, oh0 (.i2l)), (136, oh0 (.l2i)), (148, oh0 (.lcmp)), (153, ohq2 (fun x => .ifCond .eq x)), (154, ohq2 (fun x => .ifCond .ne x)), (155, ohq2 (fun x => .ifCond .lt x)), (156, ohq2 (fun x => .ifCond .ge x)), (157, ohq2 (fun x => .ifCond .gt x)), (158, ohq2 (fun x => .ifCond .le x)), (159, ohq2 (fun x => .if_icmp .eq x)), (160, ohq2 (fun x => .if_icmp .ne x)), (161, ohq2 (fun x => .if_icmp .lt x)), (162, ohq2 (fun x => .if_icmp .ge x)), (163, ohq2 (fun x => .if_icmp .gt x)), (164, ohq2 (fun x => .if_icmp .le x)), (165, ohq2 (fun x => .if_acmp .eq x)), (166, ohq2 (fun x => .if_acmp .ne x)), (176, oh0 (.areturn)), (177, oh0 (.return_)), (178, oh2 (fun x => .getstatic x)), (183, oh2 (fun x => .invokespecial x)), (184, oh2 (fun x => .invokestatic x)), (187, oh2 (fun x => .new x)), (189, oh2 (fun x => .anewarray x)), (190, oh0 (.arraylength)), (192, oh2 (fun x => .checkcast x)), (198, ohq2 (fun x => .ifnull x)), (199, ohq2 (fun x => .ifnonnull x))]
def dkall : List (Nat × (List UInt8 → Option (Instr × Nat))) → Prop
  | [] => True
  | x :: r => ohgood x.1 x.2 ∧ dkall r
theorem dktab_ok : dkall dktab := ⟨dko_42, dko_180, dko_27, dko_3, dko_182, dko_21, dko_28, dko_29, dko_43, dko_4, dko_167, dko_46, dko_172, dko_96, dko_181, dko_16, dko_54, dko_25, dko_132, dko_17, dko_1, dko_2, dko_5, dko_6, dko_7, dko_8, dko_9, dko_10, dko_18, dko_19, dko_22, dko_26, dko_44, dko_45, dko_50, dko_51, dko_55, dko_58, dko_59, dko_60, dko_61, dko_62, dko_75, dko_76, dko_77, dko_78, dko_79, dko_83, dko_84, dko_87, dko_89, dko_90, dko_92, dko_97, dko_100, dko_104, dko_108, dko_112, dko_116, dko_120, dko_122, dko_124, dko_126, dko_128, dko_130, dko_133, dko_136, dko_148, dko_153, dko_154, dko_155, dko_156, dko_157, dko_158, dko_159, dko_160, dko_161, dko_162, dko_163, dko_164, dko_165, dko_166, dko_176, dko_177, dko_178, dko_183, dko_184, dko_187, dko_189, dko_190, dko_192, dko_198, dko_199, trivial⟩
def dkfind (k : Nat) : List (Nat × (List UInt8 → Option (Instr × Nat))) → Option (List UInt8 → Option (Instr × Nat))
  | [] => none
  | x :: r => bif Nat.beq k x.1 then some x.2 else dkfind k r
theorem dkfind_ok {k : Nat} {s : List UInt8 → Option (Instr × Nat)} : ∀ {l : List (Nat × (List UInt8 → Option (Instr × Nat)))}, dkall l → dkfind k l = some s → ohgood k s
  | [], _, e => by cases e
  | x :: r, h, e => by
    have e2 : (bif Nat.beq k x.1 then some x.2 else dkfind k r) = some s := e
    cases q : Nat.beq k x.1 with
    | true =>
      rw [q] at e2
      cases e2
      rw [Nat.eq_of_beq_eq_true q]
      exact h.1
    | false =>
      rw [q] at e2
      exact dkfind_ok h.2 e2
def dkone (l : List UInt8) : Option (Instr × Nat) :=
  match l with
  | [] => none
  | a :: r => match dkfind a.toNat dktab with
    | none => none
    | some s => s r
def dkl : List UInt8 → Nat → List (Nat × Instr × Nat) → Bool
  | _, _, [] => true
  | l, pc, x :: r => (Nat.ble pc x.1 && decide (dkone (l.drop (x.1 - pc)) = some x.2)) && dkl (l.drop (x.1 - pc)) x.1 r
theorem rdb_of {c : ByteArray} {p : Nat} {b : UInt8} (h : c.data.toList[p]? = some b) : rdb c p b.toNat := by
  obtain ⟨⟨l⟩⟩ := c
  obtain ⟨h1, h2⟩ := List.getElem?_eq_some_iff.mp h
  exact ⟨h1, congrArg UInt8.toNat h2⟩
theorem dkone_ok {c : ByteArray} {p : Nat} {y : Instr × Nat} (h : dkone (c.data.toList.drop p) = some y) : decode c p = .ok y := by
  cases q : c.data.toList.drop p with
  | nil =>
    rw [q] at h
    cases h
  | cons a r =>
    rw [q] at h
    have ha : c.data.toList[p]? = some a := by
      have w := List.getElem?_drop (xs := c.data.toList) (i := p) (j := 0)
      rw [q] at w
      exact w.symm
    have hr : ∀ j b, r[j]? = some b → rdb c (p + 1 + j) b.toNat := fun j b e => rdb_of (by
      have w := List.getElem?_drop (xs := c.data.toList) (i := p) (j := j + 1)
      rw [q] at w
      rw [show p + 1 + j = p + (j + 1) by omega, ← w]
      exact e)
    have h2 : (match dkfind a.toNat dktab with | none => none | some s => s r) = some y := h
    cases q2 : dkfind a.toNat dktab with
    | none =>
      rw [q2] at h2
      cases h2
    | some s =>
      rw [q2] at h2
      exact dkfind_ok dktab_ok q2 c p r y (rdb_of ha) hr h2
theorem dkl_ok {c : ByteArray} : ∀ (rows : List (Nat × Instr × Nat)) (l : List UInt8) (pc : Nat), l = c.data.toList.drop pc → dkl l pc rows = true → dkp c rows
  | [], _, _, _, _ => trivial
  | x :: r, l, pc, e, h => by
    have g0 : ((Nat.ble pc x.1 && decide (dkone (l.drop (x.1 - pc)) = some x.2)) && dkl (l.drop (x.1 - pc)) x.1 r) = true := h
    rw [Bool.and_eq_true, Bool.and_eq_true] at g0
    obtain ⟨⟨g1, g2⟩, g3⟩ := g0
    have le : pc ≤ x.1 := Nat.le_of_ble_eq_true g1
    have ed : l.drop (x.1 - pc) = c.data.toList.drop x.1 := by
      rw [e, List.drop_drop, show pc + (x.1 - pc) = x.1 by omega]
    rw [ed] at g2 g3
    show decode c x.1 = .ok (x.2.1, x.2.2) ∧ dkp c r
    exact ⟨dkone_ok (of_decide_eq_true g2), dkl_ok r _ _ rfl g3⟩
theorem dkf {c : ByteArray} {rows : List (Nat × Instr × Nat)} (h : dkl c.data.toList 0 rows = true) : dkp c rows := dkl_ok rows _ 0 (List.drop_zero).symm h
end
section
theorem dkg_J_0 : dkp cJ6_bitCount_0f7a4 [(0, .iload_n 0, 1), (1, .iload_n 0, 1), (2, .iconst 1, 1), (3, .iushr, 1), (4, .ldc_w 265, 3), (7, .iand, 1), (8, .isub, 1), (9, .istore_n 0, 1), (10, .iload_n 0, 1), (11, .ldc_w 266, 3)] := dkf (by decide +kernel)
def dJ6_bitCount_0f7a4_0 := dkg_J_0.1
def dJ6_bitCount_0f7a4_1 := dkg_J_0.2.1
def dJ6_bitCount_0f7a4_2 := dkg_J_0.2.2.1
def dJ6_bitCount_0f7a4_3 := dkg_J_0.2.2.2.1
def dJ6_bitCount_0f7a4_4 := dkg_J_0.2.2.2.2.1
def dJ6_bitCount_0f7a4_7 := dkg_J_0.2.2.2.2.2.1
def dJ6_bitCount_0f7a4_8 := dkg_J_0.2.2.2.2.2.2.1
def dJ6_bitCount_0f7a4_9 := dkg_J_0.2.2.2.2.2.2.2.1
def dJ6_bitCount_0f7a4_10 := dkg_J_0.2.2.2.2.2.2.2.2.1
def dJ6_bitCount_0f7a4_11 := dkg_J_0.2.2.2.2.2.2.2.2.2.1
theorem dkg_J_1 : dkp cJ6_bitCount_0f7a4 [(14, .iand, 1), (15, .iload_n 0, 1), (16, .iconst 2, 1), (17, .iushr, 1), (18, .ldc_w 266, 3), (21, .iand, 1), (22, .iadd, 1), (23, .istore_n 0, 1), (24, .iload_n 0, 1), (25, .iload_n 0, 1)] := dkf (by decide +kernel)
def dJ6_bitCount_0f7a4_14 := dkg_J_1.1
def dJ6_bitCount_0f7a4_15 := dkg_J_1.2.1
def dJ6_bitCount_0f7a4_16 := dkg_J_1.2.2.1
def dJ6_bitCount_0f7a4_17 := dkg_J_1.2.2.2.1
def dJ6_bitCount_0f7a4_18 := dkg_J_1.2.2.2.2.1
def dJ6_bitCount_0f7a4_21 := dkg_J_1.2.2.2.2.2.1
def dJ6_bitCount_0f7a4_22 := dkg_J_1.2.2.2.2.2.2.1
def dJ6_bitCount_0f7a4_23 := dkg_J_1.2.2.2.2.2.2.2.1
def dJ6_bitCount_0f7a4_24 := dkg_J_1.2.2.2.2.2.2.2.2.1
def dJ6_bitCount_0f7a4_25 := dkg_J_1.2.2.2.2.2.2.2.2.2.1
theorem dkg_J_2 : dkp cJ6_bitCount_0f7a4 [(26, .iconst 4, 1), (27, .iushr, 1), (28, .iadd, 1), (29, .ldc_w 267, 3), (32, .iand, 1), (33, .istore_n 0, 1), (34, .iload_n 0, 1), (35, .iload_n 0, 1), (36, .bipush 8, 2), (38, .iushr, 1)] := dkf (by decide +kernel)
def dJ6_bitCount_0f7a4_26 := dkg_J_2.1
def dJ6_bitCount_0f7a4_27 := dkg_J_2.2.1
def dJ6_bitCount_0f7a4_28 := dkg_J_2.2.2.1
def dJ6_bitCount_0f7a4_29 := dkg_J_2.2.2.2.1
def dJ6_bitCount_0f7a4_32 := dkg_J_2.2.2.2.2.1
def dJ6_bitCount_0f7a4_33 := dkg_J_2.2.2.2.2.2.1
def dJ6_bitCount_0f7a4_34 := dkg_J_2.2.2.2.2.2.2.1
def dJ6_bitCount_0f7a4_35 := dkg_J_2.2.2.2.2.2.2.2.1
def dJ6_bitCount_0f7a4_36 := dkg_J_2.2.2.2.2.2.2.2.2.1
def dJ6_bitCount_0f7a4_38 := dkg_J_2.2.2.2.2.2.2.2.2.2.1
theorem dkg_J_3 : dkp cJ6_bitCount_0f7a4 [(39, .iadd, 1), (40, .istore_n 0, 1), (41, .iload_n 0, 1), (42, .iload_n 0, 1), (43, .bipush 16, 2), (45, .iushr, 1), (46, .iadd, 1), (47, .istore_n 0, 1), (48, .iload_n 0, 1), (49, .bipush 63, 2)] := dkf (by decide +kernel)
def dJ6_bitCount_0f7a4_39 := dkg_J_3.1
def dJ6_bitCount_0f7a4_40 := dkg_J_3.2.1
def dJ6_bitCount_0f7a4_41 := dkg_J_3.2.2.1
def dJ6_bitCount_0f7a4_42 := dkg_J_3.2.2.2.1
def dJ6_bitCount_0f7a4_43 := dkg_J_3.2.2.2.2.1
def dJ6_bitCount_0f7a4_45 := dkg_J_3.2.2.2.2.2.1
def dJ6_bitCount_0f7a4_46 := dkg_J_3.2.2.2.2.2.2.1
def dJ6_bitCount_0f7a4_47 := dkg_J_3.2.2.2.2.2.2.2.1
def dJ6_bitCount_0f7a4_48 := dkg_J_3.2.2.2.2.2.2.2.2.1
def dJ6_bitCount_0f7a4_49 := dkg_J_3.2.2.2.2.2.2.2.2.2.1
theorem dkg_J_4 : dkp cJ6_bitCount_0f7a4 [(51, .iand, 1), (52, .ireturn, 1)] := dkf (by decide +kernel)
def dJ6_bitCount_0f7a4_51 := dkg_J_4.1
def dJ6_bitCount_0f7a4_52 := dkg_J_4.2.1
theorem dkg_J_7 : dkp cJxa1e45_init_da8c8 [(0, .aload_n 0, 1), (1, .invokespecial 1, 3), (4, .return_, 1)] := dkf (by decide +kernel)
def dJxa1e45_init_da8c8_0 := dkg_J_7.1
def dJxa1e45_init_da8c8_1 := dkg_J_7.2.1
def dJxa1e45_init_da8c8_4 := dkg_J_7.2.2.1
theorem dkg_J_8 : dkp cJxc12de_init_da8c8 [(0, .aload_n 0, 1), (1, .invokespecial 1, 3), (4, .aload_n 0, 1), (5, .iconst 0, 1), (6, .putfield 7, 3), (9, .return_, 1)] := dkf (by decide +kernel)
def dJxc12de_init_da8c8_0 := dkg_J_8.1
def dJxc12de_init_da8c8_1 := dkg_J_8.2.1
def dJxc12de_init_da8c8_4 := dkg_J_8.2.2.1
def dJxc12de_init_da8c8_5 := dkg_J_8.2.2.2.1
def dJxc12de_init_da8c8_6 := dkg_J_8.2.2.2.2.1
def dJxc12de_init_da8c8_9 := dkg_J_8.2.2.2.2.2.1
theorem dkg_J_9 : dkp cJx4a65c_init_da8c8 [(0, .aload_n 0, 1), (1, .invokespecial 1, 3), (4, .aload_n 0, 1), (5, .getstatic 39, 3), (8, .putfield 9, 3), (11, .return_, 1)] := dkf (by decide +kernel)
def dJx4a65c_init_da8c8_0 := dkg_J_9.1
def dJx4a65c_init_da8c8_1 := dkg_J_9.2.1
def dJx4a65c_init_da8c8_4 := dkg_J_9.2.2.1
def dJx4a65c_init_da8c8_5 := dkg_J_9.2.2.2.1
def dJx4a65c_init_da8c8_8 := dkg_J_9.2.2.2.2.1
def dJx4a65c_init_da8c8_11 := dkg_J_9.2.2.2.2.2.1
theorem dkg_J_10 : dkp cJx4a65c_grow_92f84 [(0, .aload_n 0, 1), (1, .getfield 9, 3), (4, .arraylength, 1), (5, .istore_n 2, 1), (6, .iload_n 2, 1), (7, .ifCond .gt 13, 3), (10, .aload_n 0, 1), (11, .getfield 9, 3), (14, .getstatic 39, 3), (17, .if_acmp .eq 28, 3)] := dkf (by decide +kernel)
def dJx4a65c_grow_92f84_0 := dkg_J_10.1
def dJx4a65c_grow_92f84_1 := dkg_J_10.2.1
def dJx4a65c_grow_92f84_4 := dkg_J_10.2.2.1
def dJx4a65c_grow_92f84_5 := dkg_J_10.2.2.2.1
def dJx4a65c_grow_92f84_6 := dkg_J_10.2.2.2.2.1
def dJx4a65c_grow_92f84_7 := dkg_J_10.2.2.2.2.2.1
def dJx4a65c_grow_92f84_10 := dkg_J_10.2.2.2.2.2.2.1
def dJx4a65c_grow_92f84_11 := dkg_J_10.2.2.2.2.2.2.2.1
def dJx4a65c_grow_92f84_14 := dkg_J_10.2.2.2.2.2.2.2.2.1
def dJx4a65c_grow_92f84_17 := dkg_J_10.2.2.2.2.2.2.2.2.2.1
theorem dkg_J_11 : dkp cJx4a65c_grow_92f84 [(20, .iload_n 2, 1), (21, .iload_n 1, 1), (22, .iload_n 2, 1), (23, .isub, 1), (24, .iload_n 2, 1), (25, .iconst 1, 1), (26, .ishr, 1), (27, .invokestatic 73, 3), (30, .istore_n 3, 1), (31, .aload_n 0, 1)] := dkf (by decide +kernel)
def dJx4a65c_grow_92f84_20 := dkg_J_11.1
def dJx4a65c_grow_92f84_21 := dkg_J_11.2.1
def dJx4a65c_grow_92f84_22 := dkg_J_11.2.2.1
def dJx4a65c_grow_92f84_23 := dkg_J_11.2.2.2.1
def dJx4a65c_grow_92f84_24 := dkg_J_11.2.2.2.2.1
def dJx4a65c_grow_92f84_25 := dkg_J_11.2.2.2.2.2.1
def dJx4a65c_grow_92f84_26 := dkg_J_11.2.2.2.2.2.2.1
def dJx4a65c_grow_92f84_27 := dkg_J_11.2.2.2.2.2.2.2.1
def dJx4a65c_grow_92f84_30 := dkg_J_11.2.2.2.2.2.2.2.2.1
def dJx4a65c_grow_92f84_31 := dkg_J_11.2.2.2.2.2.2.2.2.2.1
theorem dkg_J_12 : dkp cJx4a65c_grow_92f84 [(32, .aload_n 0, 1), (33, .getfield 9, 3), (36, .iload_n 3, 1), (37, .invokestatic 66, 3), (40, .dup_x1, 1), (41, .putfield 9, 3), (44, .areturn, 1), (45, .aload_n 0, 1), (46, .bipush 10, 2), (48, .iload_n 1, 1)] := dkf (by decide +kernel)
def dJx4a65c_grow_92f84_32 := dkg_J_12.1
def dJx4a65c_grow_92f84_33 := dkg_J_12.2.1
def dJx4a65c_grow_92f84_36 := dkg_J_12.2.2.1
def dJx4a65c_grow_92f84_37 := dkg_J_12.2.2.2.1
def dJx4a65c_grow_92f84_40 := dkg_J_12.2.2.2.2.1
def dJx4a65c_grow_92f84_41 := dkg_J_12.2.2.2.2.2.1
def dJx4a65c_grow_92f84_44 := dkg_J_12.2.2.2.2.2.2.1
def dJx4a65c_grow_92f84_45 := dkg_J_12.2.2.2.2.2.2.2.1
def dJx4a65c_grow_92f84_46 := dkg_J_12.2.2.2.2.2.2.2.2.1
def dJx4a65c_grow_92f84_48 := dkg_J_12.2.2.2.2.2.2.2.2.2.1
theorem dkg_J_13 : dkp cJx4a65c_grow_92f84 [(49, .invokestatic 79, 3), (52, .anewarray 7, 3), (55, .dup_x1, 1), (56, .putfield 9, 3), (59, .areturn, 1)] := dkf (by decide +kernel)
def dJx4a65c_grow_92f84_49 := dkg_J_13.1
def dJx4a65c_grow_92f84_52 := dkg_J_13.2.1
def dJx4a65c_grow_92f84_55 := dkg_J_13.2.2.1
def dJx4a65c_grow_92f84_56 := dkg_J_13.2.2.2.1
def dJx4a65c_grow_92f84_59 := dkg_J_13.2.2.2.2.1
theorem dkg_J_14 : dkp cJx4a65c_grow_d5877 [(0, .aload_n 0, 1), (1, .aload_n 0, 1), (2, .getfield 48, 3), (5, .iconst 1, 1), (6, .iadd, 1), (7, .invokevirtual 69, 3), (10, .areturn, 1)] := dkf (by decide +kernel)
def dJx4a65c_grow_d5877_0 := dkg_J_14.1
def dJx4a65c_grow_d5877_1 := dkg_J_14.2.1
def dJx4a65c_grow_d5877_2 := dkg_J_14.2.2.1
def dJx4a65c_grow_d5877_5 := dkg_J_14.2.2.2.1
def dJx4a65c_grow_d5877_6 := dkg_J_14.2.2.2.2.1
def dJx4a65c_grow_d5877_7 := dkg_J_14.2.2.2.2.2.1
def dJx4a65c_grow_d5877_10 := dkg_J_14.2.2.2.2.2.2.1
theorem dkg_J_15 : dkp cJx4a65c_size_8abf5 [(0, .aload_n 0, 1), (1, .getfield 48, 3), (4, .ireturn, 1)] := dkf (by decide +kernel)
def dJx4a65c_size_8abf5_0 := dkg_J_15.1
def dJx4a65c_size_8abf5_1 := dkg_J_15.2.1
def dJx4a65c_size_8abf5_4 := dkg_J_15.2.2.1
theorem dkg_J_16 : dkp cJx4a65c_isEmpty_aae02 [(0, .aload_n 0, 1), (1, .getfield 48, 3), (4, .ifCond .ne 7, 3), (7, .iconst 1, 1), (8, .goto 4, 3), (11, .iconst 0, 1), (12, .ireturn, 1)] := dkf (by decide +kernel)
def dJx4a65c_isEmpty_aae02_0 := dkg_J_16.1
def dJx4a65c_isEmpty_aae02_1 := dkg_J_16.2.1
def dJx4a65c_isEmpty_aae02_4 := dkg_J_16.2.2.1
def dJx4a65c_isEmpty_aae02_7 := dkg_J_16.2.2.2.1
def dJx4a65c_isEmpty_aae02_8 := dkg_J_16.2.2.2.2.1
def dJx4a65c_isEmpty_aae02_11 := dkg_J_16.2.2.2.2.2.1
def dJx4a65c_isEmpty_aae02_12 := dkg_J_16.2.2.2.2.2.2.1
theorem dkg_J_17 : dkp cJx4a65c_elementData_915e3 [(0, .aload_n 0, 1), (1, .getfield 9, 3), (4, .iload_n 1, 1), (5, .aaload, 1), (6, .areturn, 1)] := dkf (by decide +kernel)
def dJx4a65c_elementData_915e3_0 := dkg_J_17.1
def dJx4a65c_elementData_915e3_1 := dkg_J_17.2.1
def dJx4a65c_elementData_915e3_4 := dkg_J_17.2.2.1
def dJx4a65c_elementData_915e3_5 := dkg_J_17.2.2.2.1
def dJx4a65c_elementData_915e3_6 := dkg_J_17.2.2.2.2.1
theorem dkg_J_18 : dkp cJx4a65c_get_915e3 [(0, .iload_n 1, 1), (1, .aload_n 0, 1), (2, .getfield 48, 3), (5, .invokestatic 118, 3), (8, .pop, 1), (9, .aload_n 0, 1), (10, .iload_n 1, 1), (11, .invokevirtual 123, 3), (14, .areturn, 1)] := dkf (by decide +kernel)
def dJx4a65c_get_915e3_0 := dkg_J_18.1
def dJx4a65c_get_915e3_1 := dkg_J_18.2.1
def dJx4a65c_get_915e3_2 := dkg_J_18.2.2.1
def dJx4a65c_get_915e3_5 := dkg_J_18.2.2.2.1
def dJx4a65c_get_915e3_8 := dkg_J_18.2.2.2.2.1
def dJx4a65c_get_915e3_9 := dkg_J_18.2.2.2.2.2.1
def dJx4a65c_get_915e3_10 := dkg_J_18.2.2.2.2.2.2.1
def dJx4a65c_get_915e3_11 := dkg_J_18.2.2.2.2.2.2.2.1
def dJx4a65c_get_915e3_14 := dkg_J_18.2.2.2.2.2.2.2.2.1
theorem dkg_J_19 : dkp cJx4a65c_add_72be8 [(0, .iload_n 3, 1), (1, .aload_n 2, 1), (2, .arraylength, 1), (3, .if_icmp .ne 8, 3), (6, .aload_n 0, 1), (7, .invokevirtual 129, 3), (10, .astore_n 2, 1), (11, .aload_n 2, 1), (12, .iload_n 3, 1), (13, .aload_n 1, 1)] := dkf (by decide +kernel)
def dJx4a65c_add_72be8_0 := dkg_J_19.1
def dJx4a65c_add_72be8_1 := dkg_J_19.2.1
def dJx4a65c_add_72be8_2 := dkg_J_19.2.2.1
def dJx4a65c_add_72be8_3 := dkg_J_19.2.2.2.1
def dJx4a65c_add_72be8_6 := dkg_J_19.2.2.2.2.1
def dJx4a65c_add_72be8_7 := dkg_J_19.2.2.2.2.2.1
def dJx4a65c_add_72be8_10 := dkg_J_19.2.2.2.2.2.2.1
def dJx4a65c_add_72be8_11 := dkg_J_19.2.2.2.2.2.2.2.1
def dJx4a65c_add_72be8_12 := dkg_J_19.2.2.2.2.2.2.2.2.1
def dJx4a65c_add_72be8_13 := dkg_J_19.2.2.2.2.2.2.2.2.2.1
theorem dkg_J_20 : dkp cJx4a65c_add_72be8 [(14, .aastore, 1), (15, .aload_n 0, 1), (16, .iload_n 3, 1), (17, .iconst 1, 1), (18, .iadd, 1), (19, .putfield 48, 3), (22, .return_, 1)] := dkf (by decide +kernel)
def dJx4a65c_add_72be8_14 := dkg_J_20.1
def dJx4a65c_add_72be8_15 := dkg_J_20.2.1
def dJx4a65c_add_72be8_16 := dkg_J_20.2.2.1
def dJx4a65c_add_72be8_17 := dkg_J_20.2.2.2.1
def dJx4a65c_add_72be8_18 := dkg_J_20.2.2.2.2.1
def dJx4a65c_add_72be8_19 := dkg_J_20.2.2.2.2.2.1
def dJx4a65c_add_72be8_22 := dkg_J_20.2.2.2.2.2.2.1
theorem dkg_J_21 : dkp cJx4a65c_add_9ea2d [(0, .aload_n 0, 1), (1, .dup, 1), (2, .getfield 63, 3), (5, .iconst 1, 1), (6, .iadd, 1), (7, .putfield 63, 3), (10, .aload_n 0, 1), (11, .aload_n 1, 1), (12, .aload_n 0, 1), (13, .getfield 9, 3)] := dkf (by decide +kernel)
def dJx4a65c_add_9ea2d_0 := dkg_J_21.1
def dJx4a65c_add_9ea2d_1 := dkg_J_21.2.1
def dJx4a65c_add_9ea2d_2 := dkg_J_21.2.2.1
def dJx4a65c_add_9ea2d_5 := dkg_J_21.2.2.2.1
def dJx4a65c_add_9ea2d_6 := dkg_J_21.2.2.2.2.1
def dJx4a65c_add_9ea2d_7 := dkg_J_21.2.2.2.2.2.1
def dJx4a65c_add_9ea2d_10 := dkg_J_21.2.2.2.2.2.2.1
def dJx4a65c_add_9ea2d_11 := dkg_J_21.2.2.2.2.2.2.2.1
def dJx4a65c_add_9ea2d_12 := dkg_J_21.2.2.2.2.2.2.2.2.1
def dJx4a65c_add_9ea2d_13 := dkg_J_21.2.2.2.2.2.2.2.2.2.1
theorem dkg_J_22 : dkp cJx4a65c_add_9ea2d [(16, .aload_n 0, 1), (17, .getfield 48, 3), (20, .invokevirtual 131, 3), (23, .iconst 1, 1), (24, .ireturn, 1)] := dkf (by decide +kernel)
def dJx4a65c_add_9ea2d_16 := dkg_J_22.1
def dJx4a65c_add_9ea2d_17 := dkg_J_22.2.1
def dJx4a65c_add_9ea2d_20 := dkg_J_22.2.2.1
def dJx4a65c_add_9ea2d_23 := dkg_J_22.2.2.2.1
def dJx4a65c_add_9ea2d_24 := dkg_J_22.2.2.2.2.1
theorem dkg_J_23 : dkp cJx4a65c_remove_915e3 [(0, .iload_n 1, 1), (1, .aload_n 0, 1), (2, .getfield 48, 3), (5, .invokestatic 118, 3), (8, .pop, 1), (9, .aload_n 0, 1), (10, .getfield 9, 3), (13, .astore_n 2, 1), (14, .aload_n 2, 1), (15, .iload_n 1, 1)] := dkf (by decide +kernel)
def dJx4a65c_remove_915e3_0 := dkg_J_23.1
def dJx4a65c_remove_915e3_1 := dkg_J_23.2.1
def dJx4a65c_remove_915e3_2 := dkg_J_23.2.2.1
def dJx4a65c_remove_915e3_5 := dkg_J_23.2.2.2.1
def dJx4a65c_remove_915e3_8 := dkg_J_23.2.2.2.2.1
def dJx4a65c_remove_915e3_9 := dkg_J_23.2.2.2.2.2.1
def dJx4a65c_remove_915e3_10 := dkg_J_23.2.2.2.2.2.2.1
def dJx4a65c_remove_915e3_13 := dkg_J_23.2.2.2.2.2.2.2.1
def dJx4a65c_remove_915e3_14 := dkg_J_23.2.2.2.2.2.2.2.2.1
def dJx4a65c_remove_915e3_15 := dkg_J_23.2.2.2.2.2.2.2.2.2.1
theorem dkg_J_24 : dkp cJx4a65c_remove_915e3 [(16, .aaload, 1), (17, .astore_n 3, 1), (18, .aload_n 0, 1), (19, .aload_n 2, 1), (20, .iload_n 1, 1), (21, .invokevirtual 144, 3), (24, .aload_n 3, 1), (25, .areturn, 1)] := dkf (by decide +kernel)
def dJx4a65c_remove_915e3_16 := dkg_J_24.1
def dJx4a65c_remove_915e3_17 := dkg_J_24.2.1
def dJx4a65c_remove_915e3_18 := dkg_J_24.2.2.1
def dJx4a65c_remove_915e3_19 := dkg_J_24.2.2.2.1
def dJx4a65c_remove_915e3_20 := dkg_J_24.2.2.2.2.1
def dJx4a65c_remove_915e3_21 := dkg_J_24.2.2.2.2.2.1
def dJx4a65c_remove_915e3_24 := dkg_J_24.2.2.2.2.2.2.1
def dJx4a65c_remove_915e3_25 := dkg_J_24.2.2.2.2.2.2.2.1
theorem dkg_J_25 : dkp cJx4a65c_fastRemove_b59b0 [(0, .aload_n 0, 1), (1, .dup, 1), (2, .getfield 63, 3), (5, .iconst 1, 1), (6, .iadd, 1), (7, .putfield 63, 3), (10, .aload_n 0, 1), (11, .getfield 48, 3), (14, .iconst 1, 1), (15, .isub, 1)] := dkf (by decide +kernel)
def dJx4a65c_fastRemove_b59b0_0 := dkg_J_25.1
def dJx4a65c_fastRemove_b59b0_1 := dkg_J_25.2.1
def dJx4a65c_fastRemove_b59b0_2 := dkg_J_25.2.2.1
def dJx4a65c_fastRemove_b59b0_5 := dkg_J_25.2.2.2.1
def dJx4a65c_fastRemove_b59b0_6 := dkg_J_25.2.2.2.2.1
def dJx4a65c_fastRemove_b59b0_7 := dkg_J_25.2.2.2.2.2.1
def dJx4a65c_fastRemove_b59b0_10 := dkg_J_25.2.2.2.2.2.2.1
def dJx4a65c_fastRemove_b59b0_11 := dkg_J_25.2.2.2.2.2.2.2.1
def dJx4a65c_fastRemove_b59b0_14 := dkg_J_25.2.2.2.2.2.2.2.2.1
def dJx4a65c_fastRemove_b59b0_15 := dkg_J_25.2.2.2.2.2.2.2.2.2.1
theorem dkg_J_26 : dkp cJx4a65c_fastRemove_b59b0 [(16, .dup, 1), (17, .istore_n 3, 1), (18, .iload_n 2, 1), (19, .if_icmp .le 15, 3), (22, .aload_n 1, 1), (23, .iload_n 2, 1), (24, .iconst 1, 1), (25, .iadd, 1), (26, .aload_n 1, 1), (27, .iload_n 2, 1)] := dkf (by decide +kernel)
def dJx4a65c_fastRemove_b59b0_16 := dkg_J_26.1
def dJx4a65c_fastRemove_b59b0_17 := dkg_J_26.2.1
def dJx4a65c_fastRemove_b59b0_18 := dkg_J_26.2.2.1
def dJx4a65c_fastRemove_b59b0_19 := dkg_J_26.2.2.2.1
theorem dkg_J_27 : dkp cJx4a65c_fastRemove_b59b0 [(28, .iload_n 3, 1), (29, .iload_n 2, 1), (30, .isub, 1), (31, .invokestatic 112, 3), (34, .aload_n 1, 1), (35, .aload_n 0, 1), (36, .iload_n 3, 1), (37, .dup_x1, 1), (38, .putfield 48, 3), (41, .aconst_null, 1)] := dkf (by decide +kernel)
def dJx4a65c_fastRemove_b59b0_34 := dkg_J_27.2.2.2.2.1
def dJx4a65c_fastRemove_b59b0_35 := dkg_J_27.2.2.2.2.2.1
def dJx4a65c_fastRemove_b59b0_36 := dkg_J_27.2.2.2.2.2.2.1
def dJx4a65c_fastRemove_b59b0_37 := dkg_J_27.2.2.2.2.2.2.2.1
def dJx4a65c_fastRemove_b59b0_38 := dkg_J_27.2.2.2.2.2.2.2.2.1
def dJx4a65c_fastRemove_b59b0_41 := dkg_J_27.2.2.2.2.2.2.2.2.2.1
theorem dkg_J_28 : dkp cJx4a65c_fastRemove_b59b0 [(42, .aastore, 1), (43, .return_, 1)] := dkf (by decide +kernel)
def dJx4a65c_fastRemove_b59b0_42 := dkg_J_28.1
def dJx4a65c_fastRemove_b59b0_43 := dkg_J_28.2.1
theorem dkg_J_29 : dkp cJx4a65c_clear_da8c8 [(0, .aload_n 0, 1), (1, .dup, 1), (2, .getfield 63, 3), (5, .iconst 1, 1), (6, .iadd, 1), (7, .putfield 63, 3), (10, .aload_n 0, 1), (11, .getfield 9, 3), (14, .astore_n 1, 1), (15, .aload_n 0, 1)] := dkf (by decide +kernel)
def dJx4a65c_clear_da8c8_0 := dkg_J_29.1
def dJx4a65c_clear_da8c8_1 := dkg_J_29.2.1
def dJx4a65c_clear_da8c8_2 := dkg_J_29.2.2.1
def dJx4a65c_clear_da8c8_5 := dkg_J_29.2.2.2.1
def dJx4a65c_clear_da8c8_6 := dkg_J_29.2.2.2.2.1
def dJx4a65c_clear_da8c8_7 := dkg_J_29.2.2.2.2.2.1
def dJx4a65c_clear_da8c8_10 := dkg_J_29.2.2.2.2.2.2.1
def dJx4a65c_clear_da8c8_11 := dkg_J_29.2.2.2.2.2.2.2.1
def dJx4a65c_clear_da8c8_14 := dkg_J_29.2.2.2.2.2.2.2.2.1
def dJx4a65c_clear_da8c8_15 := dkg_J_29.2.2.2.2.2.2.2.2.2.1
theorem dkg_J_30 : dkp cJx4a65c_clear_da8c8 [(16, .getfield 48, 3), (19, .istore_n 2, 1), (20, .aload_n 0, 1), (21, .iconst 0, 1), (22, .dup_x1, 1), (23, .putfield 48, 3), (26, .istore_n 3, 1), (27, .iload_n 3, 1), (28, .iload_n 2, 1), (29, .if_icmp .ge 13, 3)] := dkf (by decide +kernel)
def dJx4a65c_clear_da8c8_16 := dkg_J_30.1
def dJx4a65c_clear_da8c8_19 := dkg_J_30.2.1
def dJx4a65c_clear_da8c8_20 := dkg_J_30.2.2.1
def dJx4a65c_clear_da8c8_21 := dkg_J_30.2.2.2.1
def dJx4a65c_clear_da8c8_22 := dkg_J_30.2.2.2.2.1
def dJx4a65c_clear_da8c8_23 := dkg_J_30.2.2.2.2.2.1
def dJx4a65c_clear_da8c8_26 := dkg_J_30.2.2.2.2.2.2.1
def dJx4a65c_clear_da8c8_27 := dkg_J_30.2.2.2.2.2.2.2.1
def dJx4a65c_clear_da8c8_28 := dkg_J_30.2.2.2.2.2.2.2.2.1
def dJx4a65c_clear_da8c8_29 := dkg_J_30.2.2.2.2.2.2.2.2.2.1
theorem dkg_J_31 : dkp cJx4a65c_clear_da8c8 [(32, .aload_n 1, 1), (33, .iload_n 3, 1), (34, .aconst_null, 1), (35, .aastore, 1), (36, .iinc 3 1, 3), (39, .goto (-12), 3), (42, .return_, 1)] := dkf (by decide +kernel)
def dJx4a65c_clear_da8c8_32 := dkg_J_31.1
def dJx4a65c_clear_da8c8_33 := dkg_J_31.2.1
def dJx4a65c_clear_da8c8_34 := dkg_J_31.2.2.1
def dJx4a65c_clear_da8c8_35 := dkg_J_31.2.2.2.1
def dJx4a65c_clear_da8c8_36 := dkg_J_31.2.2.2.2.1
def dJx4a65c_clear_da8c8_39 := dkg_J_31.2.2.2.2.2.1
def dJx4a65c_clear_da8c8_42 := dkg_J_31.2.2.2.2.2.2.1
theorem dkg_J_32 : dkp cJ7_fill_53178 [(0, .iconst 0, 1), (1, .istore_n 2, 1), (2, .aload_n 0, 1), (3, .arraylength, 1), (4, .istore_n 3, 1), (5, .iload_n 2, 1), (6, .iload_n 3, 1), (7, .if_icmp .ge 13, 3), (10, .aload_n 0, 1), (11, .iload_n 2, 1)] := dkf (by decide +kernel)
def dJ7_fill_53178_0 := dkg_J_32.1
def dJ7_fill_53178_1 := dkg_J_32.2.1
def dJ7_fill_53178_2 := dkg_J_32.2.2.1
def dJ7_fill_53178_3 := dkg_J_32.2.2.2.1
def dJ7_fill_53178_4 := dkg_J_32.2.2.2.2.1
def dJ7_fill_53178_5 := dkg_J_32.2.2.2.2.2.1
def dJ7_fill_53178_6 := dkg_J_32.2.2.2.2.2.2.1
def dJ7_fill_53178_7 := dkg_J_32.2.2.2.2.2.2.2.1
def dJ7_fill_53178_10 := dkg_J_32.2.2.2.2.2.2.2.2.1
def dJ7_fill_53178_11 := dkg_J_32.2.2.2.2.2.2.2.2.2.1
theorem dkg_J_33 : dkp cJ7_fill_53178 [(12, .iload_n 1, 1), (13, .iastore, 1), (14, .iinc 2 1, 3), (17, .goto (-12), 3), (20, .return_, 1)] := dkf (by decide +kernel)
def dJ7_fill_53178_12 := dkg_J_33.1
def dJ7_fill_53178_13 := dkg_J_33.2.1
def dJ7_fill_53178_14 := dkg_J_33.2.2.1
def dJ7_fill_53178_17 := dkg_J_33.2.2.2.1
def dJ7_fill_53178_20 := dkg_J_33.2.2.2.2.1
theorem dkg_J_34 : dkp cJ7_copyOf_1904c [(0, .aload_n 0, 1), (1, .iload_n 1, 1), (2, .aload_n 0, 1), (3, .invokevirtual 86, 3), (6, .invokestatic 300, 3), (9, .areturn, 1)] := dkf (by decide +kernel)
def dJ7_copyOf_1904c_0 := dkg_J_34.1
def dJ7_copyOf_1904c_1 := dkg_J_34.2.1
def dJ7_copyOf_1904c_2 := dkg_J_34.2.2.1
def dJ7_copyOf_1904c_3 := dkg_J_34.2.2.2.1
def dJ7_copyOf_1904c_6 := dkg_J_34.2.2.2.2.1
def dJ7_copyOf_1904c_9 := dkg_J_34.2.2.2.2.2.1
theorem dkg_J_35 : dkp cJ7_copyOf_6403c [(0, .aload_n 2, 1), (1, .ldc 110, 2), (3, .if_acmp .ne 10, 3), (6, .iload_n 1, 1), (7, .anewarray 2, 3), (10, .goto 14, 3), (13, .aload_n 2, 1), (14, .invokevirtual 90, 3), (17, .iload_n 1, 1), (18, .invokestatic 95, 3)] := dkf (by decide +kernel)
def dJ7_copyOf_6403c_0 := dkg_J_35.1
def dJ7_copyOf_6403c_1 := dkg_J_35.2.1
def dJ7_copyOf_6403c_3 := dkg_J_35.2.2.1
def dJ7_copyOf_6403c_6 := dkg_J_35.2.2.2.1
def dJ7_copyOf_6403c_7 := dkg_J_35.2.2.2.2.1
def dJ7_copyOf_6403c_10 := dkg_J_35.2.2.2.2.2.1
theorem dkg_J_36 : dkp cJ7_copyOf_6403c [(21, .checkcast 110, 3), (24, .astore_n 3, 1), (25, .aload_n 0, 1), (26, .iconst 0, 1), (27, .aload_n 3, 1), (28, .iconst 0, 1), (29, .aload_n 0, 1), (30, .arraylength, 1), (31, .iload_n 1, 1), (32, .invokestatic 304, 3)] := dkf (by decide +kernel)
def dJ7_copyOf_6403c_24 := dkg_J_36.2.1
def dJ7_copyOf_6403c_25 := dkg_J_36.2.2.1
def dJ7_copyOf_6403c_26 := dkg_J_36.2.2.2.1
def dJ7_copyOf_6403c_27 := dkg_J_36.2.2.2.2.1
def dJ7_copyOf_6403c_28 := dkg_J_36.2.2.2.2.2.1
def dJ7_copyOf_6403c_29 := dkg_J_36.2.2.2.2.2.2.1
def dJ7_copyOf_6403c_30 := dkg_J_36.2.2.2.2.2.2.2.1
def dJ7_copyOf_6403c_31 := dkg_J_36.2.2.2.2.2.2.2.2.1
def dJ7_copyOf_6403c_32 := dkg_J_36.2.2.2.2.2.2.2.2.2.1
theorem dkg_J_37 : dkp cJ7_copyOf_6403c [(35, .invokestatic 150, 3), (38, .aload_n 3, 1), (39, .areturn, 1)] := dkf (by decide +kernel)
def dJ7_copyOf_6403c_35 := dkg_J_37.1
def dJ7_copyOf_6403c_38 := dkg_J_37.2.1
def dJ7_copyOf_6403c_39 := dkg_J_37.2.2.1
theorem dkg_J_38 : dkp cJ7_copyOf_59c91 [(0, .iload_n 1, 1), (1, .aload_n 0, 1), (2, .arraylength, 1), (3, .if_icmp .ne 11, 3), (6, .aload_n 0, 1), (7, .invokevirtual 316, 3), (10, .checkcast 317, 3), (13, .areturn, 1), (14, .iload_n 1, 1), (17, .astore_n 2, 1)] := dkf (by decide +kernel)
def dJ7_copyOf_59c91_0 := dkg_J_38.1
def dJ7_copyOf_59c91_1 := dkg_J_38.2.1
def dJ7_copyOf_59c91_2 := dkg_J_38.2.2.1
def dJ7_copyOf_59c91_3 := dkg_J_38.2.2.2.1
def dJ7_copyOf_59c91_14 := dkg_J_38.2.2.2.2.2.2.2.2.1
def dJ7_copyOf_59c91_17 := dkg_J_38.2.2.2.2.2.2.2.2.2.1
theorem dkg_J_39 : dkp cJ7_copyOf_59c91 [(18, .aload_n 0, 1), (19, .iconst 0, 1), (20, .aload_n 2, 1), (21, .iconst 0, 1), (22, .aload_n 0, 1), (23, .arraylength, 1), (24, .iload_n 1, 1), (25, .invokestatic 304, 3), (28, .invokestatic 150, 3), (31, .aload_n 2, 1)] := dkf (by decide +kernel)
def dJ7_copyOf_59c91_18 := dkg_J_39.1
def dJ7_copyOf_59c91_19 := dkg_J_39.2.1
def dJ7_copyOf_59c91_20 := dkg_J_39.2.2.1
def dJ7_copyOf_59c91_21 := dkg_J_39.2.2.2.1
def dJ7_copyOf_59c91_22 := dkg_J_39.2.2.2.2.1
def dJ7_copyOf_59c91_23 := dkg_J_39.2.2.2.2.2.1
def dJ7_copyOf_59c91_24 := dkg_J_39.2.2.2.2.2.2.1
def dJ7_copyOf_59c91_25 := dkg_J_39.2.2.2.2.2.2.2.1
def dJ7_copyOf_59c91_28 := dkg_J_39.2.2.2.2.2.2.2.2.1
def dJ7_copyOf_59c91_31 := dkg_J_39.2.2.2.2.2.2.2.2.2.1
theorem dkg_J_40 : dkp cJ7_copyOf_59c91 [(32, .areturn, 1)] := dkf (by decide +kernel)
def dJ7_copyOf_59c91_32 := dkg_J_40.1
theorem dkg_J_41 : dkp cJ7_copyOf_59c91 [(15, .newarray .int, 2)] := dkq (by decide +kernel)
def dJ7_copyOf_59c91_15 := dkg_J_41.1
theorem dkg_J_42 : dkp cJ15_checkIndex_7cf53 [(0, .iload_n 0, 1), (1, .iload_n 1, 1), (2, .aconst_null, 1), (3, .invokestatic 105, 3), (6, .ireturn, 1)] := dkf (by decide +kernel)
def dJ15_checkIndex_7cf53_0 := dkg_J_42.1
def dJ15_checkIndex_7cf53_1 := dkg_J_42.2.1
def dJ15_checkIndex_7cf53_2 := dkg_J_42.2.2.1
def dJ15_checkIndex_7cf53_3 := dkg_J_42.2.2.2.1
def dJ15_checkIndex_7cf53_6 := dkg_J_42.2.2.2.2.1
theorem dkg_J_43 : dkp cJ8_newLength_cabcc [(0, .iload_n 0, 1), (1, .iload_n 1, 1), (2, .iload_n 2, 1), (3, .invokestatic 194, 3), (6, .iadd, 1), (7, .istore_n 3, 1), (8, .iconst 0, 1), (9, .iload_n 3, 1), (10, .if_icmp .ge 11, 3), (13, .iload_n 3, 1)] := dkf (by decide +kernel)
def dJ8_newLength_cabcc_0 := dkg_J_43.1
def dJ8_newLength_cabcc_1 := dkg_J_43.2.1
def dJ8_newLength_cabcc_2 := dkg_J_43.2.2.1
def dJ8_newLength_cabcc_3 := dkg_J_43.2.2.2.1
def dJ8_newLength_cabcc_6 := dkg_J_43.2.2.2.2.1
def dJ8_newLength_cabcc_7 := dkg_J_43.2.2.2.2.2.1
def dJ8_newLength_cabcc_8 := dkg_J_43.2.2.2.2.2.2.1
def dJ8_newLength_cabcc_9 := dkg_J_43.2.2.2.2.2.2.2.1
def dJ8_newLength_cabcc_10 := dkg_J_43.2.2.2.2.2.2.2.2.1
def dJ8_newLength_cabcc_13 := dkg_J_43.2.2.2.2.2.2.2.2.2.1
theorem dkg_J_44 : dkp cJ8_newLength_cabcc [(14, .ldc 200, 2), (16, .if_icmp .gt 5, 3), (19, .iload_n 3, 1), (20, .ireturn, 1), (21, .iload_n 0, 1), (22, .iload_n 1, 1), (23, .invokestatic 201, 3), (26, .ireturn, 1)] := dkf (by decide +kernel)
def dJ8_newLength_cabcc_14 := dkg_J_44.1
def dJ8_newLength_cabcc_16 := dkg_J_44.2.1
def dJ8_newLength_cabcc_19 := dkg_J_44.2.2.1
def dJ8_newLength_cabcc_20 := dkg_J_44.2.2.2.1
theorem dkg_J_49 : dkp cJ3_checkIndex_8e157 [(0, .iload_n 0, 1), (1, .ifCond .lt 8, 3), (4, .iload_n 0, 1), (5, .iload_n 1, 1), (6, .if_icmp .lt 10, 3), (9, .aload_n 2, 1), (10, .iload_n 0, 1), (11, .iload_n 1, 1), (12, .invokestatic 95, 3), (16, .iload_n 0, 1)] := dkf (by decide +kernel)
def dJ3_checkIndex_8e157_0 := dkg_J_49.1
def dJ3_checkIndex_8e157_1 := dkg_J_49.2.1
def dJ3_checkIndex_8e157_4 := dkg_J_49.2.2.1
def dJ3_checkIndex_8e157_5 := dkg_J_49.2.2.2.1
def dJ3_checkIndex_8e157_6 := dkg_J_49.2.2.2.2.1
def dJ3_checkIndex_8e157_16 := dkg_J_49.2.2.2.2.2.2.2.2.2.1
theorem dkg_J_50 : dkp cJ3_checkIndex_8e157 [(17, .ireturn, 1)] := dkf (by decide +kernel)
def dJ3_checkIndex_8e157_17 := dkg_J_50.1
end
section
theorem dkg_L_0 : dkp cL_law [(0, .new 7, 3), (3, .dup, 1), (4, .invokespecial 9, 3), (7, .astore_n 1, 1), (8, .new 10, 3), (11, .dup, 1), (12, .invokespecial 12, 3), (15, .astore_n 2, 1), (16, .iconst 0, 1), (17, .istore_n 3, 1)] := dkf (by decide +kernel)
def dL_law_0 := dkg_L_0.1
def dL_law_3 := dkg_L_0.2.1
def dL_law_4 := dkg_L_0.2.2.1
def dL_law_7 := dkg_L_0.2.2.2.1
def dL_law_8 := dkg_L_0.2.2.2.2.1
def dL_law_11 := dkg_L_0.2.2.2.2.2.1
def dL_law_12 := dkg_L_0.2.2.2.2.2.2.1
def dL_law_15 := dkg_L_0.2.2.2.2.2.2.2.1
def dL_law_16 := dkg_L_0.2.2.2.2.2.2.2.2.1
def dL_law_17 := dkg_L_0.2.2.2.2.2.2.2.2.2.1
theorem dkg_L_1 : dkp cL_law [(18, .iload_n 3, 1), (19, .aload_n 0, 1), (20, .arraylength, 1), (21, .bipush 6, 2), (23, .isub, 1), (24, .if_icmp .gt 1359, 3), (27, .aload_n 0, 1), (28, .iload_n 3, 1), (29, .iaload, 1), (30, .bipush 63, 2)] := dkf (by decide +kernel)
def dL_law_18 := dkg_L_1.1
def dL_law_19 := dkg_L_1.2.1
def dL_law_20 := dkg_L_1.2.2.1
def dL_law_21 := dkg_L_1.2.2.2.1
def dL_law_23 := dkg_L_1.2.2.2.2.1
def dL_law_24 := dkg_L_1.2.2.2.2.2.1
def dL_law_27 := dkg_L_1.2.2.2.2.2.2.1
def dL_law_28 := dkg_L_1.2.2.2.2.2.2.2.1
def dL_law_29 := dkg_L_1.2.2.2.2.2.2.2.2.1
def dL_law_30 := dkg_L_1.2.2.2.2.2.2.2.2.2.1
theorem dkg_L_2 : dkp cL_law [(32, .iand, 1), (204, .aload_n 1, 1), (205, .aload_n 0, 1), (206, .iload_n 3, 1), (207, .iconst 1, 1), (208, .iadd, 1), (209, .iaload, 1), (210, .aload_n 0, 1), (211, .iload_n 3, 1), (212, .iconst 2, 1)] := dkf (by decide +kernel)
def dL_law_32 := dkg_L_2.1
def dL_law_204 := dkg_L_2.2.1
def dL_law_205 := dkg_L_2.2.2.1
def dL_law_206 := dkg_L_2.2.2.2.1
def dL_law_207 := dkg_L_2.2.2.2.2.1
def dL_law_208 := dkg_L_2.2.2.2.2.2.1
def dL_law_209 := dkg_L_2.2.2.2.2.2.2.1
def dL_law_210 := dkg_L_2.2.2.2.2.2.2.2.1
def dL_law_211 := dkg_L_2.2.2.2.2.2.2.2.2.1
def dL_law_212 := dkg_L_2.2.2.2.2.2.2.2.2.2.1
theorem dkg_L_3 : dkp cL_law [(213, .iadd, 1), (214, .iaload, 1), (215, .aload_n 0, 1), (216, .iload_n 3, 1), (217, .iconst 3, 1), (218, .iadd, 1), (219, .iaload, 1), (220, .aload_n 0, 1), (221, .iload_n 3, 1), (222, .iconst 4, 1)] := dkf (by decide +kernel)
def dL_law_213 := dkg_L_3.1
def dL_law_214 := dkg_L_3.2.1
def dL_law_215 := dkg_L_3.2.2.1
def dL_law_216 := dkg_L_3.2.2.2.1
def dL_law_217 := dkg_L_3.2.2.2.2.1
def dL_law_218 := dkg_L_3.2.2.2.2.2.1
def dL_law_219 := dkg_L_3.2.2.2.2.2.2.1
def dL_law_220 := dkg_L_3.2.2.2.2.2.2.2.1
def dL_law_221 := dkg_L_3.2.2.2.2.2.2.2.2.1
def dL_law_222 := dkg_L_3.2.2.2.2.2.2.2.2.2.1
theorem dkg_L_4 : dkp cL_law [(223, .iadd, 1), (224, .iaload, 1), (225, .aload_n 0, 1), (226, .iload_n 3, 1), (227, .iconst 5, 1), (228, .iadd, 1), (229, .iaload, 1), (230, .invokevirtual 13, 3), (233, .pop, 1), (234, .aload_n 2, 1)] := dkf (by decide +kernel)
def dL_law_223 := dkg_L_4.1
def dL_law_224 := dkg_L_4.2.1
def dL_law_225 := dkg_L_4.2.2.1
def dL_law_226 := dkg_L_4.2.2.2.1
def dL_law_227 := dkg_L_4.2.2.2.2.1
def dL_law_228 := dkg_L_4.2.2.2.2.2.1
def dL_law_229 := dkg_L_4.2.2.2.2.2.2.1
def dL_law_230 := dkg_L_4.2.2.2.2.2.2.2.1
def dL_law_233 := dkg_L_4.2.2.2.2.2.2.2.2.1
def dL_law_234 := dkg_L_4.2.2.2.2.2.2.2.2.2.1
theorem dkg_L_5 : dkp cL_law [(235, .aload_n 0, 1), (236, .iload_n 3, 1), (237, .iconst 1, 1), (238, .iadd, 1), (239, .iaload, 1), (240, .aload_n 0, 1), (241, .iload_n 3, 1), (242, .iconst 2, 1), (243, .iadd, 1), (244, .iaload, 1)] := dkf (by decide +kernel)
def dL_law_235 := dkg_L_5.1
def dL_law_236 := dkg_L_5.2.1
def dL_law_237 := dkg_L_5.2.2.1
def dL_law_238 := dkg_L_5.2.2.2.1
def dL_law_239 := dkg_L_5.2.2.2.2.1
def dL_law_240 := dkg_L_5.2.2.2.2.2.1
def dL_law_241 := dkg_L_5.2.2.2.2.2.2.1
def dL_law_242 := dkg_L_5.2.2.2.2.2.2.2.1
def dL_law_243 := dkg_L_5.2.2.2.2.2.2.2.2.1
def dL_law_244 := dkg_L_5.2.2.2.2.2.2.2.2.2.1
theorem dkg_L_6 : dkp cL_law [(245, .aload_n 0, 1), (246, .iload_n 3, 1), (247, .iconst 3, 1), (248, .iadd, 1), (249, .iaload, 1), (250, .aload_n 0, 1), (251, .iload_n 3, 1), (252, .iconst 4, 1), (253, .iadd, 1), (254, .iaload, 1)] := dkf (by decide +kernel)
def dL_law_245 := dkg_L_6.1
def dL_law_246 := dkg_L_6.2.1
def dL_law_247 := dkg_L_6.2.2.1
def dL_law_248 := dkg_L_6.2.2.2.1
def dL_law_249 := dkg_L_6.2.2.2.2.1
def dL_law_250 := dkg_L_6.2.2.2.2.2.1
def dL_law_251 := dkg_L_6.2.2.2.2.2.2.1
def dL_law_252 := dkg_L_6.2.2.2.2.2.2.2.1
def dL_law_253 := dkg_L_6.2.2.2.2.2.2.2.2.1
def dL_law_254 := dkg_L_6.2.2.2.2.2.2.2.2.2.1
theorem dkg_L_7 : dkp cL_law [(255, .aload_n 0, 1), (256, .iload_n 3, 1), (257, .iconst 5, 1), (258, .iadd, 1), (259, .iaload, 1), (260, .invokevirtual 17, 3), (263, .pop, 1), (264, .goto 1113, 3), (267, .aload_n 1, 1), (268, .aload_n 0, 1)] := dkf (by decide +kernel)
def dL_law_255 := dkg_L_7.1
def dL_law_256 := dkg_L_7.2.1
def dL_law_257 := dkg_L_7.2.2.1
def dL_law_258 := dkg_L_7.2.2.2.1
def dL_law_259 := dkg_L_7.2.2.2.2.1
def dL_law_260 := dkg_L_7.2.2.2.2.2.1
def dL_law_263 := dkg_L_7.2.2.2.2.2.2.1
def dL_law_264 := dkg_L_7.2.2.2.2.2.2.2.1
def dL_law_267 := dkg_L_7.2.2.2.2.2.2.2.2.1
def dL_law_268 := dkg_L_7.2.2.2.2.2.2.2.2.2.1
theorem dkg_L_8 : dkp cL_law [(269, .iload_n 3, 1), (270, .iconst 1, 1), (271, .iadd, 1), (272, .iaload, 1), (273, .invokevirtual 18, 3), (276, .pop, 1), (277, .aload_n 2, 1), (278, .aload_n 0, 1), (279, .iload_n 3, 1), (280, .iconst 1, 1)] := dkf (by decide +kernel)
def dL_law_269 := dkg_L_8.1
def dL_law_270 := dkg_L_8.2.1
def dL_law_271 := dkg_L_8.2.2.1
def dL_law_272 := dkg_L_8.2.2.2.1
def dL_law_273 := dkg_L_8.2.2.2.2.1
def dL_law_276 := dkg_L_8.2.2.2.2.2.1
def dL_law_277 := dkg_L_8.2.2.2.2.2.2.1
def dL_law_278 := dkg_L_8.2.2.2.2.2.2.2.1
def dL_law_279 := dkg_L_8.2.2.2.2.2.2.2.2.1
def dL_law_280 := dkg_L_8.2.2.2.2.2.2.2.2.2.1
theorem dkg_L_9 : dkp cL_law [(281, .iadd, 1), (282, .iaload, 1), (283, .invokevirtual 22, 3), (286, .pop, 1), (287, .goto 1090, 3), (290, .aload_n 1, 1), (291, .aload_n 0, 1), (292, .iload_n 3, 1), (293, .iconst 1, 1), (294, .iadd, 1)] := dkf (by decide +kernel)
def dL_law_281 := dkg_L_9.1
def dL_law_282 := dkg_L_9.2.1
def dL_law_283 := dkg_L_9.2.2.1
def dL_law_286 := dkg_L_9.2.2.2.1
def dL_law_287 := dkg_L_9.2.2.2.2.1
def dL_law_290 := dkg_L_9.2.2.2.2.2.1
def dL_law_291 := dkg_L_9.2.2.2.2.2.2.1
def dL_law_292 := dkg_L_9.2.2.2.2.2.2.2.1
def dL_law_293 := dkg_L_9.2.2.2.2.2.2.2.2.1
def dL_law_294 := dkg_L_9.2.2.2.2.2.2.2.2.2.1
theorem dkg_L_10 : dkp cL_law [(295, .iaload, 1), (296, .aload_n 0, 1), (297, .iload_n 3, 1), (298, .iconst 2, 1), (299, .iadd, 1), (300, .iaload, 1), (301, .aload_n 0, 1), (302, .iload_n 3, 1), (303, .iconst 3, 1), (304, .iadd, 1)] := dkf (by decide +kernel)
def dL_law_295 := dkg_L_10.1
def dL_law_296 := dkg_L_10.2.1
def dL_law_297 := dkg_L_10.2.2.1
def dL_law_298 := dkg_L_10.2.2.2.1
def dL_law_299 := dkg_L_10.2.2.2.2.1
def dL_law_300 := dkg_L_10.2.2.2.2.2.1
def dL_law_301 := dkg_L_10.2.2.2.2.2.2.1
def dL_law_302 := dkg_L_10.2.2.2.2.2.2.2.1
def dL_law_303 := dkg_L_10.2.2.2.2.2.2.2.2.1
def dL_law_304 := dkg_L_10.2.2.2.2.2.2.2.2.2.1
theorem dkg_L_11 : dkp cL_law [(305, .iaload, 1), (306, .invokevirtual 23, 3), (309, .pop, 1), (310, .aload_n 2, 1), (311, .aload_n 0, 1), (312, .iload_n 3, 1), (313, .iconst 1, 1), (314, .iadd, 1), (315, .iaload, 1), (316, .aload_n 0, 1)] := dkf (by decide +kernel)
def dL_law_305 := dkg_L_11.1
def dL_law_306 := dkg_L_11.2.1
def dL_law_309 := dkg_L_11.2.2.1
def dL_law_310 := dkg_L_11.2.2.2.1
def dL_law_311 := dkg_L_11.2.2.2.2.1
def dL_law_312 := dkg_L_11.2.2.2.2.2.1
def dL_law_313 := dkg_L_11.2.2.2.2.2.2.1
def dL_law_314 := dkg_L_11.2.2.2.2.2.2.2.1
def dL_law_315 := dkg_L_11.2.2.2.2.2.2.2.2.1
def dL_law_316 := dkg_L_11.2.2.2.2.2.2.2.2.2.1
theorem dkg_L_12 : dkp cL_law [(317, .iload_n 3, 1), (318, .iconst 2, 1), (319, .iadd, 1), (320, .iaload, 1), (321, .aload_n 0, 1), (322, .iload_n 3, 1), (323, .iconst 3, 1), (324, .iadd, 1), (325, .iaload, 1), (326, .invokevirtual 27, 3)] := dkf (by decide +kernel)
def dL_law_317 := dkg_L_12.1
def dL_law_318 := dkg_L_12.2.1
def dL_law_319 := dkg_L_12.2.2.1
def dL_law_320 := dkg_L_12.2.2.2.1
def dL_law_321 := dkg_L_12.2.2.2.2.1
def dL_law_322 := dkg_L_12.2.2.2.2.2.1
def dL_law_323 := dkg_L_12.2.2.2.2.2.2.1
def dL_law_324 := dkg_L_12.2.2.2.2.2.2.2.1
def dL_law_325 := dkg_L_12.2.2.2.2.2.2.2.2.1
def dL_law_326 := dkg_L_12.2.2.2.2.2.2.2.2.2.1
theorem dkg_L_13 : dkp cL_law [(329, .pop, 1), (330, .goto 1047, 3), (333, .aload_n 1, 1), (334, .aload_n 0, 1), (335, .iload_n 3, 1), (336, .iconst 1, 1), (337, .iadd, 1), (338, .iaload, 1), (339, .aload_n 0, 1), (340, .iload_n 3, 1)] := dkf (by decide +kernel)
def dL_law_329 := dkg_L_13.1
def dL_law_330 := dkg_L_13.2.1
def dL_law_333 := dkg_L_13.2.2.1
def dL_law_334 := dkg_L_13.2.2.2.1
def dL_law_335 := dkg_L_13.2.2.2.2.1
def dL_law_336 := dkg_L_13.2.2.2.2.2.1
def dL_law_337 := dkg_L_13.2.2.2.2.2.2.1
def dL_law_338 := dkg_L_13.2.2.2.2.2.2.2.1
def dL_law_339 := dkg_L_13.2.2.2.2.2.2.2.2.1
def dL_law_340 := dkg_L_13.2.2.2.2.2.2.2.2.2.1
theorem dkg_L_14 : dkp cL_law [(341, .iconst 2, 1), (342, .iadd, 1), (343, .iaload, 1), (344, .invokevirtual 28, 3), (347, .pop, 1), (348, .aload_n 2, 1), (349, .aload_n 0, 1), (350, .iload_n 3, 1), (351, .iconst 1, 1), (352, .iadd, 1)] := dkf (by decide +kernel)
def dL_law_341 := dkg_L_14.1
def dL_law_342 := dkg_L_14.2.1
def dL_law_343 := dkg_L_14.2.2.1
def dL_law_344 := dkg_L_14.2.2.2.1
def dL_law_347 := dkg_L_14.2.2.2.2.1
def dL_law_348 := dkg_L_14.2.2.2.2.2.1
def dL_law_349 := dkg_L_14.2.2.2.2.2.2.1
def dL_law_350 := dkg_L_14.2.2.2.2.2.2.2.1
def dL_law_351 := dkg_L_14.2.2.2.2.2.2.2.2.1
def dL_law_352 := dkg_L_14.2.2.2.2.2.2.2.2.2.1
theorem dkg_L_15 : dkp cL_law [(353, .iaload, 1), (354, .aload_n 0, 1), (355, .iload_n 3, 1), (356, .iconst 2, 1), (357, .iadd, 1), (358, .iaload, 1), (359, .invokevirtual 32, 3), (362, .pop, 1), (363, .goto 1014, 3), (366, .aload_n 1, 1)] := dkf (by decide +kernel)
def dL_law_353 := dkg_L_15.1
def dL_law_354 := dkg_L_15.2.1
def dL_law_355 := dkg_L_15.2.2.1
def dL_law_356 := dkg_L_15.2.2.2.1
def dL_law_357 := dkg_L_15.2.2.2.2.1
def dL_law_358 := dkg_L_15.2.2.2.2.2.1
def dL_law_359 := dkg_L_15.2.2.2.2.2.2.1
def dL_law_362 := dkg_L_15.2.2.2.2.2.2.2.1
def dL_law_363 := dkg_L_15.2.2.2.2.2.2.2.2.1
def dL_law_366 := dkg_L_15.2.2.2.2.2.2.2.2.2.1
theorem dkg_L_16 : dkp cL_law [(367, .aload_n 0, 1), (368, .iload_n 3, 1), (369, .iconst 1, 1), (370, .iadd, 1), (371, .iaload, 1), (372, .invokevirtual 33, 3), (375, .pop, 1), (376, .aload_n 2, 1), (377, .aload_n 0, 1), (378, .iload_n 3, 1)] := dkf (by decide +kernel)
def dL_law_367 := dkg_L_16.1
def dL_law_368 := dkg_L_16.2.1
def dL_law_369 := dkg_L_16.2.2.1
def dL_law_370 := dkg_L_16.2.2.2.1
def dL_law_371 := dkg_L_16.2.2.2.2.1
def dL_law_372 := dkg_L_16.2.2.2.2.2.1
def dL_law_375 := dkg_L_16.2.2.2.2.2.2.1
def dL_law_376 := dkg_L_16.2.2.2.2.2.2.2.1
def dL_law_377 := dkg_L_16.2.2.2.2.2.2.2.2.1
def dL_law_378 := dkg_L_16.2.2.2.2.2.2.2.2.2.1
theorem dkg_L_17 : dkp cL_law [(379, .iconst 1, 1), (380, .iadd, 1), (381, .iaload, 1), (382, .invokevirtual 36, 3), (385, .pop, 1), (386, .goto 991, 3), (389, .aload_n 1, 1), (390, .aload_n 0, 1), (391, .iload_n 3, 1), (392, .iconst 1, 1)] := dkf (by decide +kernel)
def dL_law_379 := dkg_L_17.1
def dL_law_380 := dkg_L_17.2.1
def dL_law_381 := dkg_L_17.2.2.1
def dL_law_382 := dkg_L_17.2.2.2.1
def dL_law_385 := dkg_L_17.2.2.2.2.1
def dL_law_386 := dkg_L_17.2.2.2.2.2.1
def dL_law_389 := dkg_L_17.2.2.2.2.2.2.1
def dL_law_390 := dkg_L_17.2.2.2.2.2.2.2.1
def dL_law_391 := dkg_L_17.2.2.2.2.2.2.2.2.1
def dL_law_392 := dkg_L_17.2.2.2.2.2.2.2.2.2.1
theorem dkg_L_18 : dkp cL_law [(393, .iadd, 1), (394, .iaload, 1), (395, .aload_n 0, 1), (396, .iload_n 3, 1), (397, .iconst 2, 1), (398, .iadd, 1), (399, .iaload, 1), (400, .aload_n 0, 1), (401, .iload_n 3, 1), (402, .iconst 3, 1)] := dkf (by decide +kernel)
def dL_law_393 := dkg_L_18.1
def dL_law_394 := dkg_L_18.2.1
def dL_law_395 := dkg_L_18.2.2.1
def dL_law_396 := dkg_L_18.2.2.2.1
def dL_law_397 := dkg_L_18.2.2.2.2.1
def dL_law_398 := dkg_L_18.2.2.2.2.2.1
def dL_law_399 := dkg_L_18.2.2.2.2.2.2.1
def dL_law_400 := dkg_L_18.2.2.2.2.2.2.2.1
def dL_law_401 := dkg_L_18.2.2.2.2.2.2.2.2.1
def dL_law_402 := dkg_L_18.2.2.2.2.2.2.2.2.2.1
theorem dkg_L_19 : dkp cL_law [(403, .iadd, 1), (404, .iaload, 1), (405, .invokevirtual 37, 3), (408, .pop, 1), (409, .aload_n 2, 1), (410, .aload_n 0, 1), (411, .iload_n 3, 1), (412, .iconst 1, 1), (413, .iadd, 1), (414, .iaload, 1)] := dkf (by decide +kernel)
def dL_law_403 := dkg_L_19.1
def dL_law_404 := dkg_L_19.2.1
def dL_law_405 := dkg_L_19.2.2.1
def dL_law_408 := dkg_L_19.2.2.2.1
def dL_law_409 := dkg_L_19.2.2.2.2.1
def dL_law_410 := dkg_L_19.2.2.2.2.2.1
def dL_law_411 := dkg_L_19.2.2.2.2.2.2.1
def dL_law_412 := dkg_L_19.2.2.2.2.2.2.2.1
def dL_law_413 := dkg_L_19.2.2.2.2.2.2.2.2.1
def dL_law_414 := dkg_L_19.2.2.2.2.2.2.2.2.2.1
theorem dkg_L_20 : dkp cL_law [(415, .aload_n 0, 1), (416, .iload_n 3, 1), (417, .iconst 2, 1), (418, .iadd, 1), (419, .iaload, 1), (420, .aload_n 0, 1), (421, .iload_n 3, 1), (422, .iconst 3, 1), (423, .iadd, 1), (424, .iaload, 1)] := dkf (by decide +kernel)
def dL_law_415 := dkg_L_20.1
def dL_law_416 := dkg_L_20.2.1
def dL_law_417 := dkg_L_20.2.2.1
def dL_law_418 := dkg_L_20.2.2.2.1
def dL_law_419 := dkg_L_20.2.2.2.2.1
def dL_law_420 := dkg_L_20.2.2.2.2.2.1
def dL_law_421 := dkg_L_20.2.2.2.2.2.2.1
def dL_law_422 := dkg_L_20.2.2.2.2.2.2.2.1
def dL_law_423 := dkg_L_20.2.2.2.2.2.2.2.2.1
def dL_law_424 := dkg_L_20.2.2.2.2.2.2.2.2.2.1
theorem dkg_L_21 : dkp cL_law [(425, .invokevirtual 40, 3), (428, .pop, 1), (429, .goto 948, 3), (432, .aload_n 1, 1), (433, .aload_n 0, 1), (434, .iload_n 3, 1), (435, .iconst 1, 1), (436, .iadd, 1), (437, .iaload, 1), (438, .aload_n 0, 1)] := dkf (by decide +kernel)
def dL_law_425 := dkg_L_21.1
def dL_law_428 := dkg_L_21.2.1
def dL_law_429 := dkg_L_21.2.2.1
def dL_law_432 := dkg_L_21.2.2.2.1
def dL_law_433 := dkg_L_21.2.2.2.2.1
def dL_law_434 := dkg_L_21.2.2.2.2.2.1
def dL_law_435 := dkg_L_21.2.2.2.2.2.2.1
def dL_law_436 := dkg_L_21.2.2.2.2.2.2.2.1
def dL_law_437 := dkg_L_21.2.2.2.2.2.2.2.2.1
def dL_law_438 := dkg_L_21.2.2.2.2.2.2.2.2.2.1
theorem dkg_L_22 : dkp cL_law [(439, .iload_n 3, 1), (440, .iconst 2, 1), (441, .iadd, 1), (442, .iaload, 1), (443, .aload_n 0, 1), (444, .iload_n 3, 1), (445, .iconst 3, 1), (446, .iadd, 1), (447, .iaload, 1), (448, .invokevirtual 41, 3)] := dkf (by decide +kernel)
def dL_law_439 := dkg_L_22.1
def dL_law_440 := dkg_L_22.2.1
def dL_law_441 := dkg_L_22.2.2.1
def dL_law_442 := dkg_L_22.2.2.2.1
def dL_law_443 := dkg_L_22.2.2.2.2.1
def dL_law_444 := dkg_L_22.2.2.2.2.2.1
def dL_law_445 := dkg_L_22.2.2.2.2.2.2.1
def dL_law_446 := dkg_L_22.2.2.2.2.2.2.2.1
def dL_law_447 := dkg_L_22.2.2.2.2.2.2.2.2.1
def dL_law_448 := dkg_L_22.2.2.2.2.2.2.2.2.2.1
theorem dkg_L_23 : dkp cL_law [(451, .pop, 1), (452, .aload_n 2, 1), (453, .aload_n 0, 1), (454, .iload_n 3, 1), (455, .iconst 1, 1), (456, .iadd, 1), (457, .iaload, 1), (458, .aload_n 0, 1), (459, .iload_n 3, 1), (460, .iconst 2, 1)] := dkf (by decide +kernel)
def dL_law_451 := dkg_L_23.1
def dL_law_452 := dkg_L_23.2.1
def dL_law_453 := dkg_L_23.2.2.1
def dL_law_454 := dkg_L_23.2.2.2.1
def dL_law_455 := dkg_L_23.2.2.2.2.1
def dL_law_456 := dkg_L_23.2.2.2.2.2.1
def dL_law_457 := dkg_L_23.2.2.2.2.2.2.1
def dL_law_458 := dkg_L_23.2.2.2.2.2.2.2.1
def dL_law_459 := dkg_L_23.2.2.2.2.2.2.2.2.1
def dL_law_460 := dkg_L_23.2.2.2.2.2.2.2.2.2.1
theorem dkg_L_24 : dkp cL_law [(461, .iadd, 1), (462, .iaload, 1), (463, .aload_n 0, 1), (464, .iload_n 3, 1), (465, .iconst 3, 1), (466, .iadd, 1), (467, .iaload, 1), (468, .invokevirtual 44, 3), (471, .pop, 1), (472, .goto 905, 3)] := dkf (by decide +kernel)
def dL_law_461 := dkg_L_24.1
def dL_law_462 := dkg_L_24.2.1
def dL_law_463 := dkg_L_24.2.2.1
def dL_law_464 := dkg_L_24.2.2.2.1
def dL_law_465 := dkg_L_24.2.2.2.2.1
def dL_law_466 := dkg_L_24.2.2.2.2.2.1
def dL_law_467 := dkg_L_24.2.2.2.2.2.2.1
def dL_law_468 := dkg_L_24.2.2.2.2.2.2.2.1
def dL_law_471 := dkg_L_24.2.2.2.2.2.2.2.2.1
def dL_law_472 := dkg_L_24.2.2.2.2.2.2.2.2.2.1
theorem dkg_L_25 : dkp cL_law [(475, .aload_n 1, 1), (476, .aload_n 0, 1), (477, .iload_n 3, 1), (478, .iconst 1, 1), (479, .iadd, 1), (480, .iaload, 1), (481, .aload_n 0, 1), (482, .iload_n 3, 1), (483, .iconst 2, 1), (484, .iadd, 1)] := dkf (by decide +kernel)
def dL_law_475 := dkg_L_25.1
def dL_law_476 := dkg_L_25.2.1
def dL_law_477 := dkg_L_25.2.2.1
def dL_law_478 := dkg_L_25.2.2.2.1
def dL_law_479 := dkg_L_25.2.2.2.2.1
def dL_law_480 := dkg_L_25.2.2.2.2.2.1
def dL_law_481 := dkg_L_25.2.2.2.2.2.2.1
def dL_law_482 := dkg_L_25.2.2.2.2.2.2.2.1
def dL_law_483 := dkg_L_25.2.2.2.2.2.2.2.2.1
def dL_law_484 := dkg_L_25.2.2.2.2.2.2.2.2.2.1
theorem dkg_L_26 : dkp cL_law [(485, .iaload, 1), (486, .invokevirtual 45, 3), (489, .pop, 1), (490, .aload_n 2, 1), (491, .aload_n 0, 1), (492, .iload_n 3, 1), (493, .iconst 1, 1), (494, .iadd, 1), (495, .iaload, 1), (496, .aload_n 0, 1)] := dkf (by decide +kernel)
def dL_law_485 := dkg_L_26.1
def dL_law_486 := dkg_L_26.2.1
def dL_law_489 := dkg_L_26.2.2.1
def dL_law_490 := dkg_L_26.2.2.2.1
def dL_law_491 := dkg_L_26.2.2.2.2.1
def dL_law_492 := dkg_L_26.2.2.2.2.2.1
def dL_law_493 := dkg_L_26.2.2.2.2.2.2.1
def dL_law_494 := dkg_L_26.2.2.2.2.2.2.2.1
def dL_law_495 := dkg_L_26.2.2.2.2.2.2.2.2.1
def dL_law_496 := dkg_L_26.2.2.2.2.2.2.2.2.2.1
theorem dkg_L_27 : dkp cL_law [(497, .iload_n 3, 1), (498, .iconst 2, 1), (499, .iadd, 1), (500, .iaload, 1), (501, .invokevirtual 48, 3), (504, .pop, 1), (505, .goto 872, 3), (508, .aload_n 1, 1), (509, .invokevirtual 49, 3), (512, .pop, 1)] := dkf (by decide +kernel)
def dL_law_497 := dkg_L_27.1
def dL_law_498 := dkg_L_27.2.1
def dL_law_499 := dkg_L_27.2.2.1
def dL_law_500 := dkg_L_27.2.2.2.1
def dL_law_501 := dkg_L_27.2.2.2.2.1
def dL_law_504 := dkg_L_27.2.2.2.2.2.1
def dL_law_505 := dkg_L_27.2.2.2.2.2.2.1
def dL_law_508 := dkg_L_27.2.2.2.2.2.2.2.1
def dL_law_509 := dkg_L_27.2.2.2.2.2.2.2.2.1
def dL_law_512 := dkg_L_27.2.2.2.2.2.2.2.2.2.1
theorem dkg_L_28 : dkp cL_law [(513, .aload_n 2, 1), (514, .invokevirtual 53, 3), (517, .pop, 1), (518, .goto 859, 3), (521, .aload_n 1, 1), (522, .invokevirtual 54, 3), (525, .pop, 1), (526, .aload_n 2, 1), (527, .invokevirtual 57, 3), (530, .pop, 1)] := dkf (by decide +kernel)
def dL_law_513 := dkg_L_28.1
def dL_law_514 := dkg_L_28.2.1
def dL_law_517 := dkg_L_28.2.2.1
def dL_law_518 := dkg_L_28.2.2.2.1
def dL_law_521 := dkg_L_28.2.2.2.2.1
def dL_law_522 := dkg_L_28.2.2.2.2.2.1
def dL_law_525 := dkg_L_28.2.2.2.2.2.2.1
def dL_law_526 := dkg_L_28.2.2.2.2.2.2.2.1
def dL_law_527 := dkg_L_28.2.2.2.2.2.2.2.2.1
def dL_law_530 := dkg_L_28.2.2.2.2.2.2.2.2.2.1
theorem dkg_L_29 : dkp cL_law [(531, .goto 846, 3), (534, .aload_n 1, 1), (535, .aload_n 0, 1), (536, .iload_n 3, 1), (537, .iconst 1, 1), (538, .iadd, 1), (539, .iaload, 1), (540, .aload_n 0, 1), (541, .iload_n 3, 1), (542, .iconst 2, 1)] := dkf (by decide +kernel)
def dL_law_531 := dkg_L_29.1
def dL_law_534 := dkg_L_29.2.1
def dL_law_535 := dkg_L_29.2.2.1
def dL_law_536 := dkg_L_29.2.2.2.1
def dL_law_537 := dkg_L_29.2.2.2.2.1
def dL_law_538 := dkg_L_29.2.2.2.2.2.1
def dL_law_539 := dkg_L_29.2.2.2.2.2.2.1
def dL_law_540 := dkg_L_29.2.2.2.2.2.2.2.1
def dL_law_541 := dkg_L_29.2.2.2.2.2.2.2.2.1
def dL_law_542 := dkg_L_29.2.2.2.2.2.2.2.2.2.1
theorem dkg_L_30 : dkp cL_law [(543, .iadd, 1), (544, .iaload, 1), (545, .aload_n 0, 1), (546, .iload_n 3, 1), (547, .iconst 3, 1), (548, .iadd, 1), (549, .iaload, 1), (550, .invokevirtual 58, 3), (553, .pop, 1), (554, .aload_n 2, 1)] := dkf (by decide +kernel)
def dL_law_543 := dkg_L_30.1
def dL_law_544 := dkg_L_30.2.1
def dL_law_545 := dkg_L_30.2.2.1
def dL_law_546 := dkg_L_30.2.2.2.1
def dL_law_547 := dkg_L_30.2.2.2.2.1
def dL_law_548 := dkg_L_30.2.2.2.2.2.1
def dL_law_549 := dkg_L_30.2.2.2.2.2.2.1
def dL_law_550 := dkg_L_30.2.2.2.2.2.2.2.1
def dL_law_553 := dkg_L_30.2.2.2.2.2.2.2.2.1
def dL_law_554 := dkg_L_30.2.2.2.2.2.2.2.2.2.1
theorem dkg_L_31 : dkp cL_law [(555, .aload_n 0, 1), (556, .iload_n 3, 1), (557, .iconst 1, 1), (558, .iadd, 1), (559, .iaload, 1), (560, .aload_n 0, 1), (561, .iload_n 3, 1), (562, .iconst 2, 1), (563, .iadd, 1), (564, .iaload, 1)] := dkf (by decide +kernel)
def dL_law_555 := dkg_L_31.1
def dL_law_556 := dkg_L_31.2.1
def dL_law_557 := dkg_L_31.2.2.1
def dL_law_558 := dkg_L_31.2.2.2.1
def dL_law_559 := dkg_L_31.2.2.2.2.1
def dL_law_560 := dkg_L_31.2.2.2.2.2.1
def dL_law_561 := dkg_L_31.2.2.2.2.2.2.1
def dL_law_562 := dkg_L_31.2.2.2.2.2.2.2.1
def dL_law_563 := dkg_L_31.2.2.2.2.2.2.2.2.1
def dL_law_564 := dkg_L_31.2.2.2.2.2.2.2.2.2.1
theorem dkg_L_32 : dkp cL_law [(565, .aload_n 0, 1), (566, .iload_n 3, 1), (567, .iconst 3, 1), (568, .iadd, 1), (569, .iaload, 1), (570, .invokevirtual 61, 3), (573, .pop, 1), (574, .goto 803, 3), (577, .aload_n 1, 1), (578, .aload_n 0, 1)] := dkf (by decide +kernel)
def dL_law_565 := dkg_L_32.1
def dL_law_566 := dkg_L_32.2.1
def dL_law_567 := dkg_L_32.2.2.1
def dL_law_568 := dkg_L_32.2.2.2.1
def dL_law_569 := dkg_L_32.2.2.2.2.1
def dL_law_570 := dkg_L_32.2.2.2.2.2.1
def dL_law_573 := dkg_L_32.2.2.2.2.2.2.1
def dL_law_574 := dkg_L_32.2.2.2.2.2.2.2.1
def dL_law_577 := dkg_L_32.2.2.2.2.2.2.2.2.1
def dL_law_578 := dkg_L_32.2.2.2.2.2.2.2.2.2.1
theorem dkg_L_33 : dkp cL_law [(579, .iload_n 3, 1), (580, .iconst 1, 1), (581, .iadd, 1), (582, .iaload, 1), (583, .invokevirtual 62, 3), (586, .pop, 1), (587, .aload_n 2, 1), (588, .aload_n 0, 1), (589, .iload_n 3, 1), (590, .iconst 1, 1)] := dkf (by decide +kernel)
def dL_law_579 := dkg_L_33.1
def dL_law_580 := dkg_L_33.2.1
def dL_law_581 := dkg_L_33.2.2.1
def dL_law_582 := dkg_L_33.2.2.2.1
def dL_law_583 := dkg_L_33.2.2.2.2.1
def dL_law_586 := dkg_L_33.2.2.2.2.2.1
def dL_law_587 := dkg_L_33.2.2.2.2.2.2.1
def dL_law_588 := dkg_L_33.2.2.2.2.2.2.2.1
def dL_law_589 := dkg_L_33.2.2.2.2.2.2.2.2.1
def dL_law_590 := dkg_L_33.2.2.2.2.2.2.2.2.2.1
theorem dkg_L_34 : dkp cL_law [(591, .iadd, 1), (592, .iaload, 1), (593, .invokevirtual 65, 3), (596, .pop, 1), (597, .goto 780, 3), (600, .aload_n 1, 1), (601, .aload_n 0, 1), (602, .iload_n 3, 1), (603, .iconst 1, 1), (604, .iadd, 1)] := dkf (by decide +kernel)
def dL_law_591 := dkg_L_34.1
def dL_law_592 := dkg_L_34.2.1
def dL_law_593 := dkg_L_34.2.2.1
def dL_law_596 := dkg_L_34.2.2.2.1
def dL_law_597 := dkg_L_34.2.2.2.2.1
def dL_law_600 := dkg_L_34.2.2.2.2.2.1
def dL_law_601 := dkg_L_34.2.2.2.2.2.2.1
def dL_law_602 := dkg_L_34.2.2.2.2.2.2.2.1
def dL_law_603 := dkg_L_34.2.2.2.2.2.2.2.2.1
def dL_law_604 := dkg_L_34.2.2.2.2.2.2.2.2.2.1
theorem dkg_L_35 : dkp cL_law [(605, .iaload, 1), (606, .invokevirtual 66, 3), (609, .pop, 1), (610, .aload_n 2, 1), (611, .aload_n 0, 1), (612, .iload_n 3, 1), (613, .iconst 1, 1), (614, .iadd, 1), (615, .iaload, 1), (616, .invokevirtual 69, 3)] := dkf (by decide +kernel)
def dL_law_605 := dkg_L_35.1
def dL_law_606 := dkg_L_35.2.1
def dL_law_609 := dkg_L_35.2.2.1
def dL_law_610 := dkg_L_35.2.2.2.1
def dL_law_611 := dkg_L_35.2.2.2.2.1
def dL_law_612 := dkg_L_35.2.2.2.2.2.1
def dL_law_613 := dkg_L_35.2.2.2.2.2.2.1
def dL_law_614 := dkg_L_35.2.2.2.2.2.2.2.1
def dL_law_615 := dkg_L_35.2.2.2.2.2.2.2.2.1
def dL_law_616 := dkg_L_35.2.2.2.2.2.2.2.2.2.1
theorem dkg_L_36 : dkp cL_law [(619, .pop, 1), (620, .goto 757, 3), (623, .aload_n 1, 1), (624, .invokevirtual 70, 3), (627, .pop, 1), (628, .aload_n 2, 1), (629, .invokevirtual 73, 3), (632, .pop, 1), (633, .goto 744, 3), (636, .aload_n 1, 1)] := dkf (by decide +kernel)
def dL_law_619 := dkg_L_36.1
def dL_law_620 := dkg_L_36.2.1
def dL_law_623 := dkg_L_36.2.2.1
def dL_law_624 := dkg_L_36.2.2.2.1
def dL_law_627 := dkg_L_36.2.2.2.2.1
def dL_law_628 := dkg_L_36.2.2.2.2.2.1
def dL_law_629 := dkg_L_36.2.2.2.2.2.2.1
def dL_law_632 := dkg_L_36.2.2.2.2.2.2.2.1
def dL_law_633 := dkg_L_36.2.2.2.2.2.2.2.2.1
def dL_law_636 := dkg_L_36.2.2.2.2.2.2.2.2.2.1
theorem dkg_L_37 : dkp cL_law [(637, .invokevirtual 74, 3), (640, .pop, 1), (641, .aload_n 2, 1), (642, .invokevirtual 77, 3), (645, .pop, 1), (646, .goto 731, 3), (649, .aload_n 1, 1), (650, .aload_n 0, 1), (651, .iload_n 3, 1), (652, .iconst 1, 1)] := dkf (by decide +kernel)
def dL_law_637 := dkg_L_37.1
def dL_law_640 := dkg_L_37.2.1
def dL_law_641 := dkg_L_37.2.2.1
def dL_law_642 := dkg_L_37.2.2.2.1
def dL_law_645 := dkg_L_37.2.2.2.2.1
def dL_law_646 := dkg_L_37.2.2.2.2.2.1
def dL_law_649 := dkg_L_37.2.2.2.2.2.2.1
def dL_law_650 := dkg_L_37.2.2.2.2.2.2.2.1
def dL_law_651 := dkg_L_37.2.2.2.2.2.2.2.2.1
def dL_law_652 := dkg_L_37.2.2.2.2.2.2.2.2.2.1
theorem dkg_L_38 : dkp cL_law [(653, .iadd, 1), (654, .iaload, 1), (655, .invokevirtual 78, 3), (658, .pop, 1), (659, .aload_n 2, 1), (660, .aload_n 0, 1), (661, .iload_n 3, 1), (662, .iconst 1, 1), (663, .iadd, 1), (664, .iaload, 1)] := dkf (by decide +kernel)
def dL_law_653 := dkg_L_38.1
def dL_law_654 := dkg_L_38.2.1
def dL_law_655 := dkg_L_38.2.2.1
def dL_law_658 := dkg_L_38.2.2.2.1
def dL_law_659 := dkg_L_38.2.2.2.2.1
def dL_law_660 := dkg_L_38.2.2.2.2.2.1
def dL_law_661 := dkg_L_38.2.2.2.2.2.2.1
def dL_law_662 := dkg_L_38.2.2.2.2.2.2.2.1
def dL_law_663 := dkg_L_38.2.2.2.2.2.2.2.2.1
def dL_law_664 := dkg_L_38.2.2.2.2.2.2.2.2.2.1
theorem dkg_L_39 : dkp cL_law [(665, .invokevirtual 81, 3), (668, .pop, 1), (669, .goto 708, 3), (672, .aload_n 1, 1), (673, .aload_n 0, 1), (674, .iload_n 3, 1), (675, .iconst 1, 1), (676, .iadd, 1), (677, .iaload, 1), (678, .aload_n 0, 1)] := dkf (by decide +kernel)
def dL_law_665 := dkg_L_39.1
def dL_law_668 := dkg_L_39.2.1
def dL_law_669 := dkg_L_39.2.2.1
def dL_law_672 := dkg_L_39.2.2.2.1
def dL_law_673 := dkg_L_39.2.2.2.2.1
def dL_law_674 := dkg_L_39.2.2.2.2.2.1
def dL_law_675 := dkg_L_39.2.2.2.2.2.2.1
def dL_law_676 := dkg_L_39.2.2.2.2.2.2.2.1
def dL_law_677 := dkg_L_39.2.2.2.2.2.2.2.2.1
def dL_law_678 := dkg_L_39.2.2.2.2.2.2.2.2.2.1
theorem dkg_L_40 : dkp cL_law [(679, .iload_n 3, 1), (680, .iconst 2, 1), (681, .iadd, 1), (682, .iaload, 1), (683, .invokevirtual 82, 3), (686, .pop, 1), (687, .aload_n 2, 1), (688, .aload_n 0, 1), (689, .iload_n 3, 1), (690, .iconst 1, 1)] := dkf (by decide +kernel)
def dL_law_679 := dkg_L_40.1
def dL_law_680 := dkg_L_40.2.1
def dL_law_681 := dkg_L_40.2.2.1
def dL_law_682 := dkg_L_40.2.2.2.1
def dL_law_683 := dkg_L_40.2.2.2.2.1
def dL_law_686 := dkg_L_40.2.2.2.2.2.1
def dL_law_687 := dkg_L_40.2.2.2.2.2.2.1
def dL_law_688 := dkg_L_40.2.2.2.2.2.2.2.1
def dL_law_689 := dkg_L_40.2.2.2.2.2.2.2.2.1
def dL_law_690 := dkg_L_40.2.2.2.2.2.2.2.2.2.1
theorem dkg_L_41 : dkp cL_law [(691, .iadd, 1), (692, .iaload, 1), (693, .aload_n 0, 1), (694, .iload_n 3, 1), (695, .iconst 2, 1), (696, .iadd, 1), (697, .iaload, 1), (698, .invokevirtual 85, 3), (701, .pop, 1), (702, .goto 675, 3)] := dkf (by decide +kernel)
def dL_law_691 := dkg_L_41.1
def dL_law_692 := dkg_L_41.2.1
def dL_law_693 := dkg_L_41.2.2.1
def dL_law_694 := dkg_L_41.2.2.2.1
def dL_law_695 := dkg_L_41.2.2.2.2.1
def dL_law_696 := dkg_L_41.2.2.2.2.2.1
def dL_law_697 := dkg_L_41.2.2.2.2.2.2.1
def dL_law_698 := dkg_L_41.2.2.2.2.2.2.2.1
def dL_law_701 := dkg_L_41.2.2.2.2.2.2.2.2.1
def dL_law_702 := dkg_L_41.2.2.2.2.2.2.2.2.2.1
theorem dkg_L_42 : dkp cL_law [(705, .aload_n 1, 1), (706, .aload_n 0, 1), (707, .iload_n 3, 1), (708, .iconst 1, 1), (709, .iadd, 1), (710, .iaload, 1), (711, .aload_n 0, 1), (712, .iload_n 3, 1), (713, .iconst 2, 1), (714, .iadd, 1)] := dkf (by decide +kernel)
def dL_law_705 := dkg_L_42.1
def dL_law_706 := dkg_L_42.2.1
def dL_law_707 := dkg_L_42.2.2.1
def dL_law_708 := dkg_L_42.2.2.2.1
def dL_law_709 := dkg_L_42.2.2.2.2.1
def dL_law_710 := dkg_L_42.2.2.2.2.2.1
def dL_law_711 := dkg_L_42.2.2.2.2.2.2.1
def dL_law_712 := dkg_L_42.2.2.2.2.2.2.2.1
def dL_law_713 := dkg_L_42.2.2.2.2.2.2.2.2.1
def dL_law_714 := dkg_L_42.2.2.2.2.2.2.2.2.2.1
theorem dkg_L_43 : dkp cL_law [(715, .iaload, 1), (716, .aload_n 0, 1), (717, .iload_n 3, 1), (718, .iconst 3, 1), (719, .iadd, 1), (720, .iaload, 1), (721, .invokevirtual 86, 3), (724, .pop, 1), (725, .aload_n 2, 1), (726, .aload_n 0, 1)] := dkf (by decide +kernel)
def dL_law_715 := dkg_L_43.1
def dL_law_716 := dkg_L_43.2.1
def dL_law_717 := dkg_L_43.2.2.1
def dL_law_718 := dkg_L_43.2.2.2.1
def dL_law_719 := dkg_L_43.2.2.2.2.1
def dL_law_720 := dkg_L_43.2.2.2.2.2.1
def dL_law_721 := dkg_L_43.2.2.2.2.2.2.1
def dL_law_724 := dkg_L_43.2.2.2.2.2.2.2.1
def dL_law_725 := dkg_L_43.2.2.2.2.2.2.2.2.1
def dL_law_726 := dkg_L_43.2.2.2.2.2.2.2.2.2.1
theorem dkg_L_44 : dkp cL_law [(727, .iload_n 3, 1), (728, .iconst 1, 1), (729, .iadd, 1), (730, .iaload, 1), (731, .aload_n 0, 1), (732, .iload_n 3, 1), (733, .iconst 2, 1), (734, .iadd, 1), (735, .iaload, 1), (736, .aload_n 0, 1)] := dkf (by decide +kernel)
def dL_law_727 := dkg_L_44.1
def dL_law_728 := dkg_L_44.2.1
def dL_law_729 := dkg_L_44.2.2.1
def dL_law_730 := dkg_L_44.2.2.2.1
def dL_law_731 := dkg_L_44.2.2.2.2.1
def dL_law_732 := dkg_L_44.2.2.2.2.2.1
def dL_law_733 := dkg_L_44.2.2.2.2.2.2.1
def dL_law_734 := dkg_L_44.2.2.2.2.2.2.2.1
def dL_law_735 := dkg_L_44.2.2.2.2.2.2.2.2.1
def dL_law_736 := dkg_L_44.2.2.2.2.2.2.2.2.2.1
theorem dkg_L_45 : dkp cL_law [(737, .iload_n 3, 1), (738, .iconst 3, 1), (739, .iadd, 1), (740, .iaload, 1), (741, .invokevirtual 89, 3), (744, .pop, 1), (745, .goto 632, 3), (748, .aload_n 1, 1), (749, .aload_n 0, 1), (750, .iload_n 3, 1)] := dkf (by decide +kernel)
def dL_law_737 := dkg_L_45.1
def dL_law_738 := dkg_L_45.2.1
def dL_law_739 := dkg_L_45.2.2.1
def dL_law_740 := dkg_L_45.2.2.2.1
def dL_law_741 := dkg_L_45.2.2.2.2.1
def dL_law_744 := dkg_L_45.2.2.2.2.2.1
def dL_law_745 := dkg_L_45.2.2.2.2.2.2.1
def dL_law_748 := dkg_L_45.2.2.2.2.2.2.2.1
def dL_law_749 := dkg_L_45.2.2.2.2.2.2.2.2.1
def dL_law_750 := dkg_L_45.2.2.2.2.2.2.2.2.2.1
theorem dkg_L_46 : dkp cL_law [(751, .iconst 1, 1), (752, .iadd, 1), (753, .iaload, 1), (754, .aload_n 0, 1), (755, .iload_n 3, 1), (756, .iconst 2, 1), (757, .iadd, 1), (758, .iaload, 1), (759, .invokevirtual 90, 3), (762, .pop, 1)] := dkf (by decide +kernel)
def dL_law_751 := dkg_L_46.1
def dL_law_752 := dkg_L_46.2.1
def dL_law_753 := dkg_L_46.2.2.1
def dL_law_754 := dkg_L_46.2.2.2.1
def dL_law_755 := dkg_L_46.2.2.2.2.1
def dL_law_756 := dkg_L_46.2.2.2.2.2.1
def dL_law_757 := dkg_L_46.2.2.2.2.2.2.1
def dL_law_758 := dkg_L_46.2.2.2.2.2.2.2.1
def dL_law_759 := dkg_L_46.2.2.2.2.2.2.2.2.1
def dL_law_762 := dkg_L_46.2.2.2.2.2.2.2.2.2.1
theorem dkg_L_47 : dkp cL_law [(763, .aload_n 2, 1), (764, .aload_n 0, 1), (765, .iload_n 3, 1), (766, .iconst 1, 1), (767, .iadd, 1), (768, .iaload, 1), (769, .aload_n 0, 1), (770, .iload_n 3, 1), (771, .iconst 2, 1), (772, .iadd, 1)] := dkf (by decide +kernel)
def dL_law_763 := dkg_L_47.1
def dL_law_764 := dkg_L_47.2.1
def dL_law_765 := dkg_L_47.2.2.1
def dL_law_766 := dkg_L_47.2.2.2.1
def dL_law_767 := dkg_L_47.2.2.2.2.1
def dL_law_768 := dkg_L_47.2.2.2.2.2.1
def dL_law_769 := dkg_L_47.2.2.2.2.2.2.1
def dL_law_770 := dkg_L_47.2.2.2.2.2.2.2.1
def dL_law_771 := dkg_L_47.2.2.2.2.2.2.2.2.1
def dL_law_772 := dkg_L_47.2.2.2.2.2.2.2.2.2.1
theorem dkg_L_48 : dkp cL_law [(773, .iaload, 1), (774, .invokevirtual 93, 3), (777, .pop, 1), (778, .goto 599, 3), (781, .aload_n 1, 1), (782, .aload_n 0, 1), (783, .iload_n 3, 1), (784, .iconst 1, 1), (785, .iadd, 1), (786, .iaload, 1)] := dkf (by decide +kernel)
def dL_law_773 := dkg_L_48.1
def dL_law_774 := dkg_L_48.2.1
def dL_law_777 := dkg_L_48.2.2.1
def dL_law_778 := dkg_L_48.2.2.2.1
def dL_law_781 := dkg_L_48.2.2.2.2.1
def dL_law_782 := dkg_L_48.2.2.2.2.2.1
def dL_law_783 := dkg_L_48.2.2.2.2.2.2.1
def dL_law_784 := dkg_L_48.2.2.2.2.2.2.2.1
def dL_law_785 := dkg_L_48.2.2.2.2.2.2.2.2.1
def dL_law_786 := dkg_L_48.2.2.2.2.2.2.2.2.2.1
theorem dkg_L_49 : dkp cL_law [(787, .invokevirtual 94, 3), (790, .pop, 1), (791, .aload_n 2, 1), (792, .aload_n 0, 1), (793, .iload_n 3, 1), (794, .iconst 1, 1), (795, .iadd, 1), (796, .iaload, 1), (797, .invokevirtual 97, 3), (800, .pop, 1)] := dkf (by decide +kernel)
def dL_law_787 := dkg_L_49.1
def dL_law_790 := dkg_L_49.2.1
def dL_law_791 := dkg_L_49.2.2.1
def dL_law_792 := dkg_L_49.2.2.2.1
def dL_law_793 := dkg_L_49.2.2.2.2.1
def dL_law_794 := dkg_L_49.2.2.2.2.2.1
def dL_law_795 := dkg_L_49.2.2.2.2.2.2.1
def dL_law_796 := dkg_L_49.2.2.2.2.2.2.2.1
def dL_law_797 := dkg_L_49.2.2.2.2.2.2.2.2.1
def dL_law_800 := dkg_L_49.2.2.2.2.2.2.2.2.2.1
theorem dkg_L_50 : dkp cL_law [(801, .goto 576, 3), (804, .aload_n 1, 1), (805, .aload_n 0, 1), (806, .iload_n 3, 1), (807, .iconst 1, 1), (808, .iadd, 1), (809, .iaload, 1), (810, .aload_n 0, 1), (811, .iload_n 3, 1), (812, .iconst 2, 1)] := dkf (by decide +kernel)
def dL_law_801 := dkg_L_50.1
def dL_law_804 := dkg_L_50.2.1
def dL_law_805 := dkg_L_50.2.2.1
def dL_law_806 := dkg_L_50.2.2.2.1
def dL_law_807 := dkg_L_50.2.2.2.2.1
def dL_law_808 := dkg_L_50.2.2.2.2.2.1
def dL_law_809 := dkg_L_50.2.2.2.2.2.2.1
def dL_law_810 := dkg_L_50.2.2.2.2.2.2.2.1
def dL_law_811 := dkg_L_50.2.2.2.2.2.2.2.2.1
def dL_law_812 := dkg_L_50.2.2.2.2.2.2.2.2.2.1
theorem dkg_L_51 : dkp cL_law [(813, .iadd, 1), (814, .iaload, 1), (815, .aload_n 0, 1), (816, .iload_n 3, 1), (817, .iconst 3, 1), (818, .iadd, 1), (819, .iaload, 1), (820, .aload_n 0, 1), (821, .iload_n 3, 1), (822, .iconst 4, 1)] := dkf (by decide +kernel)
def dL_law_813 := dkg_L_51.1
def dL_law_814 := dkg_L_51.2.1
def dL_law_815 := dkg_L_51.2.2.1
def dL_law_816 := dkg_L_51.2.2.2.1
def dL_law_817 := dkg_L_51.2.2.2.2.1
def dL_law_818 := dkg_L_51.2.2.2.2.2.1
def dL_law_819 := dkg_L_51.2.2.2.2.2.2.1
def dL_law_820 := dkg_L_51.2.2.2.2.2.2.2.1
def dL_law_821 := dkg_L_51.2.2.2.2.2.2.2.2.1
def dL_law_822 := dkg_L_51.2.2.2.2.2.2.2.2.2.1
theorem dkg_L_52 : dkp cL_law [(823, .iadd, 1), (824, .iaload, 1), (825, .aload_n 0, 1), (826, .iload_n 3, 1), (827, .iconst 5, 1), (828, .iadd, 1), (829, .iaload, 1), (830, .invokevirtual 98, 3), (833, .pop, 1), (834, .aload_n 2, 1)] := dkf (by decide +kernel)
def dL_law_823 := dkg_L_52.1
def dL_law_824 := dkg_L_52.2.1
def dL_law_825 := dkg_L_52.2.2.1
def dL_law_826 := dkg_L_52.2.2.2.1
def dL_law_827 := dkg_L_52.2.2.2.2.1
def dL_law_828 := dkg_L_52.2.2.2.2.2.1
def dL_law_829 := dkg_L_52.2.2.2.2.2.2.1
def dL_law_830 := dkg_L_52.2.2.2.2.2.2.2.1
def dL_law_833 := dkg_L_52.2.2.2.2.2.2.2.2.1
def dL_law_834 := dkg_L_52.2.2.2.2.2.2.2.2.2.1
theorem dkg_L_53 : dkp cL_law [(835, .aload_n 0, 1), (836, .iload_n 3, 1), (837, .iconst 1, 1), (838, .iadd, 1), (839, .iaload, 1), (840, .aload_n 0, 1), (841, .iload_n 3, 1), (842, .iconst 2, 1), (843, .iadd, 1), (844, .iaload, 1)] := dkf (by decide +kernel)
def dL_law_835 := dkg_L_53.1
def dL_law_836 := dkg_L_53.2.1
def dL_law_837 := dkg_L_53.2.2.1
def dL_law_838 := dkg_L_53.2.2.2.1
def dL_law_839 := dkg_L_53.2.2.2.2.1
def dL_law_840 := dkg_L_53.2.2.2.2.2.1
def dL_law_841 := dkg_L_53.2.2.2.2.2.2.1
def dL_law_842 := dkg_L_53.2.2.2.2.2.2.2.1
def dL_law_843 := dkg_L_53.2.2.2.2.2.2.2.2.1
def dL_law_844 := dkg_L_53.2.2.2.2.2.2.2.2.2.1
theorem dkg_L_54 : dkp cL_law [(845, .aload_n 0, 1), (846, .iload_n 3, 1), (847, .iconst 3, 1), (848, .iadd, 1), (849, .iaload, 1), (850, .aload_n 0, 1), (851, .iload_n 3, 1), (852, .iconst 4, 1), (853, .iadd, 1), (854, .iaload, 1)] := dkf (by decide +kernel)
def dL_law_845 := dkg_L_54.1
def dL_law_846 := dkg_L_54.2.1
def dL_law_847 := dkg_L_54.2.2.1
def dL_law_848 := dkg_L_54.2.2.2.1
def dL_law_849 := dkg_L_54.2.2.2.2.1
def dL_law_850 := dkg_L_54.2.2.2.2.2.1
def dL_law_851 := dkg_L_54.2.2.2.2.2.2.1
def dL_law_852 := dkg_L_54.2.2.2.2.2.2.2.1
def dL_law_853 := dkg_L_54.2.2.2.2.2.2.2.2.1
def dL_law_854 := dkg_L_54.2.2.2.2.2.2.2.2.2.1
theorem dkg_L_55 : dkp cL_law [(855, .aload_n 0, 1), (856, .iload_n 3, 1), (857, .iconst 5, 1), (858, .iadd, 1), (859, .iaload, 1), (860, .invokevirtual 101, 3), (863, .pop, 1), (864, .goto 513, 3), (867, .aload_n 1, 1), (868, .aload_n 0, 1)] := dkf (by decide +kernel)
def dL_law_855 := dkg_L_55.1
def dL_law_856 := dkg_L_55.2.1
def dL_law_857 := dkg_L_55.2.2.1
def dL_law_858 := dkg_L_55.2.2.2.1
def dL_law_859 := dkg_L_55.2.2.2.2.1
def dL_law_860 := dkg_L_55.2.2.2.2.2.1
def dL_law_863 := dkg_L_55.2.2.2.2.2.2.1
def dL_law_864 := dkg_L_55.2.2.2.2.2.2.2.1
def dL_law_867 := dkg_L_55.2.2.2.2.2.2.2.2.1
def dL_law_868 := dkg_L_55.2.2.2.2.2.2.2.2.2.1
theorem dkg_L_56 : dkp cL_law [(869, .iload_n 3, 1), (870, .iconst 1, 1), (871, .iadd, 1), (872, .iaload, 1), (873, .aload_n 0, 1), (874, .iload_n 3, 1), (875, .iconst 2, 1), (876, .iadd, 1), (877, .iaload, 1), (878, .aload_n 0, 1)] := dkf (by decide +kernel)
def dL_law_869 := dkg_L_56.1
def dL_law_870 := dkg_L_56.2.1
def dL_law_871 := dkg_L_56.2.2.1
def dL_law_872 := dkg_L_56.2.2.2.1
def dL_law_873 := dkg_L_56.2.2.2.2.1
def dL_law_874 := dkg_L_56.2.2.2.2.2.1
def dL_law_875 := dkg_L_56.2.2.2.2.2.2.1
def dL_law_876 := dkg_L_56.2.2.2.2.2.2.2.1
def dL_law_877 := dkg_L_56.2.2.2.2.2.2.2.2.1
def dL_law_878 := dkg_L_56.2.2.2.2.2.2.2.2.2.1
theorem dkg_L_57 : dkp cL_law [(879, .iload_n 3, 1), (880, .iconst 3, 1), (881, .iadd, 1), (882, .iaload, 1), (883, .invokevirtual 102, 3), (886, .pop, 1), (887, .aload_n 2, 1), (888, .aload_n 0, 1), (889, .iload_n 3, 1), (890, .iconst 1, 1)] := dkf (by decide +kernel)
def dL_law_879 := dkg_L_57.1
def dL_law_880 := dkg_L_57.2.1
def dL_law_881 := dkg_L_57.2.2.1
def dL_law_882 := dkg_L_57.2.2.2.1
def dL_law_883 := dkg_L_57.2.2.2.2.1
def dL_law_886 := dkg_L_57.2.2.2.2.2.1
def dL_law_887 := dkg_L_57.2.2.2.2.2.2.1
def dL_law_888 := dkg_L_57.2.2.2.2.2.2.2.1
def dL_law_889 := dkg_L_57.2.2.2.2.2.2.2.2.1
def dL_law_890 := dkg_L_57.2.2.2.2.2.2.2.2.2.1
theorem dkg_L_58 : dkp cL_law [(891, .iadd, 1), (892, .iaload, 1), (893, .aload_n 0, 1), (894, .iload_n 3, 1), (895, .iconst 2, 1), (896, .iadd, 1), (897, .iaload, 1), (898, .aload_n 0, 1), (899, .iload_n 3, 1), (900, .iconst 3, 1)] := dkf (by decide +kernel)
def dL_law_891 := dkg_L_58.1
def dL_law_892 := dkg_L_58.2.1
def dL_law_893 := dkg_L_58.2.2.1
def dL_law_894 := dkg_L_58.2.2.2.1
def dL_law_895 := dkg_L_58.2.2.2.2.1
def dL_law_896 := dkg_L_58.2.2.2.2.2.1
def dL_law_897 := dkg_L_58.2.2.2.2.2.2.1
def dL_law_898 := dkg_L_58.2.2.2.2.2.2.2.1
def dL_law_899 := dkg_L_58.2.2.2.2.2.2.2.2.1
def dL_law_900 := dkg_L_58.2.2.2.2.2.2.2.2.2.1
theorem dkg_L_59 : dkp cL_law [(901, .iadd, 1), (902, .iaload, 1), (903, .invokevirtual 105, 3), (906, .pop, 1), (907, .goto 470, 3), (910, .aload_n 1, 1), (911, .invokevirtual 106, 3), (914, .aload_n 2, 1), (915, .invokevirtual 109, 3), (918, .if_icmp .eq 459, 3)] := dkf (by decide +kernel)
def dL_law_901 := dkg_L_59.1
def dL_law_902 := dkg_L_59.2.1
def dL_law_903 := dkg_L_59.2.2.1
def dL_law_906 := dkg_L_59.2.2.2.1
def dL_law_907 := dkg_L_59.2.2.2.2.1
def dL_law_910 := dkg_L_59.2.2.2.2.2.1
def dL_law_911 := dkg_L_59.2.2.2.2.2.2.1
def dL_law_914 := dkg_L_59.2.2.2.2.2.2.2.1
def dL_law_915 := dkg_L_59.2.2.2.2.2.2.2.2.1
def dL_law_918 := dkg_L_59.2.2.2.2.2.2.2.2.2.1
theorem dkg_L_60 : dkp cL_law [(921, .iconst 0, 1), (922, .ireturn, 1), (923, .aload_n 1, 1), (924, .aload_n 0, 1), (925, .iload_n 3, 1), (926, .iconst 1, 1), (927, .iadd, 1), (928, .iaload, 1), (929, .aload_n 0, 1), (930, .iload_n 3, 1)] := dkf (by decide +kernel)
def dL_law_923 := dkg_L_60.2.2.1
def dL_law_924 := dkg_L_60.2.2.2.1
def dL_law_925 := dkg_L_60.2.2.2.2.1
def dL_law_926 := dkg_L_60.2.2.2.2.2.1
def dL_law_927 := dkg_L_60.2.2.2.2.2.2.1
def dL_law_928 := dkg_L_60.2.2.2.2.2.2.2.1
def dL_law_929 := dkg_L_60.2.2.2.2.2.2.2.2.1
def dL_law_930 := dkg_L_60.2.2.2.2.2.2.2.2.2.1
theorem dkg_L_61 : dkp cL_law [(931, .iconst 2, 1), (932, .iadd, 1), (933, .iaload, 1), (934, .invokevirtual 110, 3), (937, .pop, 1), (938, .aload_n 2, 1), (939, .aload_n 0, 1), (940, .iload_n 3, 1), (941, .iconst 1, 1), (942, .iadd, 1)] := dkf (by decide +kernel)
def dL_law_931 := dkg_L_61.1
def dL_law_932 := dkg_L_61.2.1
def dL_law_933 := dkg_L_61.2.2.1
def dL_law_934 := dkg_L_61.2.2.2.1
def dL_law_937 := dkg_L_61.2.2.2.2.1
def dL_law_938 := dkg_L_61.2.2.2.2.2.1
def dL_law_939 := dkg_L_61.2.2.2.2.2.2.1
def dL_law_940 := dkg_L_61.2.2.2.2.2.2.2.1
def dL_law_941 := dkg_L_61.2.2.2.2.2.2.2.2.1
def dL_law_942 := dkg_L_61.2.2.2.2.2.2.2.2.2.1
theorem dkg_L_62 : dkp cL_law [(943, .iaload, 1), (944, .aload_n 0, 1), (945, .iload_n 3, 1), (946, .iconst 2, 1), (947, .iadd, 1), (948, .iaload, 1), (949, .invokevirtual 113, 3), (952, .pop, 1), (953, .goto 424, 3), (956, .aload_n 1, 1)] := dkf (by decide +kernel)
def dL_law_943 := dkg_L_62.1
def dL_law_944 := dkg_L_62.2.1
def dL_law_945 := dkg_L_62.2.2.1
def dL_law_946 := dkg_L_62.2.2.2.1
def dL_law_947 := dkg_L_62.2.2.2.2.1
def dL_law_948 := dkg_L_62.2.2.2.2.2.1
def dL_law_949 := dkg_L_62.2.2.2.2.2.2.1
def dL_law_952 := dkg_L_62.2.2.2.2.2.2.2.1
def dL_law_953 := dkg_L_62.2.2.2.2.2.2.2.2.1
def dL_law_956 := dkg_L_62.2.2.2.2.2.2.2.2.2.1
theorem dkg_L_63 : dkp cL_law [(957, .invokevirtual 114, 3), (960, .pop, 1), (961, .aload_n 2, 1), (962, .invokevirtual 117, 3), (965, .pop, 1), (966, .goto 411, 3), (969, .aload_n 1, 1), (970, .aload_n 0, 1), (971, .iload_n 3, 1), (972, .iconst 1, 1)] := dkf (by decide +kernel)
def dL_law_957 := dkg_L_63.1
def dL_law_960 := dkg_L_63.2.1
def dL_law_961 := dkg_L_63.2.2.1
def dL_law_962 := dkg_L_63.2.2.2.1
def dL_law_965 := dkg_L_63.2.2.2.2.1
def dL_law_966 := dkg_L_63.2.2.2.2.2.1
def dL_law_969 := dkg_L_63.2.2.2.2.2.2.1
def dL_law_970 := dkg_L_63.2.2.2.2.2.2.2.1
def dL_law_971 := dkg_L_63.2.2.2.2.2.2.2.2.1
def dL_law_972 := dkg_L_63.2.2.2.2.2.2.2.2.2.1
theorem dkg_L_64 : dkp cL_law [(973, .iadd, 1), (974, .iaload, 1), (975, .aload_n 0, 1), (976, .iload_n 3, 1), (977, .iconst 2, 1), (978, .iadd, 1), (979, .iaload, 1), (980, .aload_n 0, 1), (981, .iload_n 3, 1), (982, .iconst 3, 1)] := dkf (by decide +kernel)
def dL_law_973 := dkg_L_64.1
def dL_law_974 := dkg_L_64.2.1
def dL_law_975 := dkg_L_64.2.2.1
def dL_law_976 := dkg_L_64.2.2.2.1
def dL_law_977 := dkg_L_64.2.2.2.2.1
def dL_law_978 := dkg_L_64.2.2.2.2.2.1
def dL_law_979 := dkg_L_64.2.2.2.2.2.2.1
def dL_law_980 := dkg_L_64.2.2.2.2.2.2.2.1
def dL_law_981 := dkg_L_64.2.2.2.2.2.2.2.2.1
def dL_law_982 := dkg_L_64.2.2.2.2.2.2.2.2.2.1
theorem dkg_L_65 : dkp cL_law [(983, .iadd, 1), (984, .iaload, 1), (985, .invokevirtual 118, 3), (988, .pop, 1), (989, .aload_n 2, 1), (990, .aload_n 0, 1), (991, .iload_n 3, 1), (992, .iconst 1, 1), (993, .iadd, 1), (994, .iaload, 1)] := dkf (by decide +kernel)
def dL_law_983 := dkg_L_65.1
def dL_law_984 := dkg_L_65.2.1
def dL_law_985 := dkg_L_65.2.2.1
def dL_law_988 := dkg_L_65.2.2.2.1
def dL_law_989 := dkg_L_65.2.2.2.2.1
def dL_law_990 := dkg_L_65.2.2.2.2.2.1
def dL_law_991 := dkg_L_65.2.2.2.2.2.2.1
def dL_law_992 := dkg_L_65.2.2.2.2.2.2.2.1
def dL_law_993 := dkg_L_65.2.2.2.2.2.2.2.2.1
def dL_law_994 := dkg_L_65.2.2.2.2.2.2.2.2.2.1
theorem dkg_L_66 : dkp cL_law [(995, .aload_n 0, 1), (996, .iload_n 3, 1), (997, .iconst 2, 1), (998, .iadd, 1), (999, .iaload, 1), (1000, .aload_n 0, 1), (1001, .iload_n 3, 1), (1002, .iconst 3, 1), (1003, .iadd, 1), (1004, .iaload, 1)] := dkf (by decide +kernel)
def dL_law_995 := dkg_L_66.1
def dL_law_996 := dkg_L_66.2.1
def dL_law_997 := dkg_L_66.2.2.1
def dL_law_998 := dkg_L_66.2.2.2.1
def dL_law_999 := dkg_L_66.2.2.2.2.1
def dL_law_1000 := dkg_L_66.2.2.2.2.2.1
def dL_law_1001 := dkg_L_66.2.2.2.2.2.2.1
def dL_law_1002 := dkg_L_66.2.2.2.2.2.2.2.1
def dL_law_1003 := dkg_L_66.2.2.2.2.2.2.2.2.1
def dL_law_1004 := dkg_L_66.2.2.2.2.2.2.2.2.2.1
theorem dkg_L_67 : dkp cL_law [(1005, .invokevirtual 121, 3), (1008, .pop, 1), (1009, .goto 368, 3), (1012, .aload_n 1, 1), (1013, .aload_n 0, 1), (1014, .iload_n 3, 1), (1015, .iconst 1, 1), (1016, .iadd, 1), (1017, .iaload, 1), (1018, .invokevirtual 122, 3)] := dkf (by decide +kernel)
def dL_law_1005 := dkg_L_67.1
def dL_law_1008 := dkg_L_67.2.1
def dL_law_1009 := dkg_L_67.2.2.1
def dL_law_1012 := dkg_L_67.2.2.2.1
def dL_law_1013 := dkg_L_67.2.2.2.2.1
def dL_law_1014 := dkg_L_67.2.2.2.2.2.1
def dL_law_1015 := dkg_L_67.2.2.2.2.2.2.1
def dL_law_1016 := dkg_L_67.2.2.2.2.2.2.2.1
def dL_law_1017 := dkg_L_67.2.2.2.2.2.2.2.2.1
def dL_law_1018 := dkg_L_67.2.2.2.2.2.2.2.2.2.1
theorem dkg_L_68 : dkp cL_law [(1021, .pop, 1), (1022, .aload_n 2, 1), (1023, .aload_n 0, 1), (1024, .iload_n 3, 1), (1025, .iconst 1, 1), (1026, .iadd, 1), (1027, .iaload, 1), (1028, .invokevirtual 125, 3), (1031, .pop, 1), (1032, .goto 345, 3)] := dkf (by decide +kernel)
def dL_law_1021 := dkg_L_68.1
def dL_law_1022 := dkg_L_68.2.1
def dL_law_1023 := dkg_L_68.2.2.1
def dL_law_1024 := dkg_L_68.2.2.2.1
def dL_law_1025 := dkg_L_68.2.2.2.2.1
def dL_law_1026 := dkg_L_68.2.2.2.2.2.1
def dL_law_1027 := dkg_L_68.2.2.2.2.2.2.1
def dL_law_1028 := dkg_L_68.2.2.2.2.2.2.2.1
def dL_law_1031 := dkg_L_68.2.2.2.2.2.2.2.2.1
def dL_law_1032 := dkg_L_68.2.2.2.2.2.2.2.2.2.1
theorem dkg_L_69 : dkp cL_law [(1035, .aload_n 1, 1), (1036, .aload_n 0, 1), (1037, .iload_n 3, 1), (1038, .iconst 1, 1), (1039, .iadd, 1), (1040, .iaload, 1), (1041, .aload_n 0, 1), (1042, .iload_n 3, 1), (1043, .iconst 2, 1), (1044, .iadd, 1)] := dkf (by decide +kernel)
def dL_law_1035 := dkg_L_69.1
def dL_law_1036 := dkg_L_69.2.1
def dL_law_1037 := dkg_L_69.2.2.1
def dL_law_1038 := dkg_L_69.2.2.2.1
def dL_law_1039 := dkg_L_69.2.2.2.2.1
def dL_law_1040 := dkg_L_69.2.2.2.2.2.1
def dL_law_1041 := dkg_L_69.2.2.2.2.2.2.1
def dL_law_1042 := dkg_L_69.2.2.2.2.2.2.2.1
def dL_law_1043 := dkg_L_69.2.2.2.2.2.2.2.2.1
def dL_law_1044 := dkg_L_69.2.2.2.2.2.2.2.2.2.1
theorem dkg_L_70 : dkp cL_law [(1045, .iaload, 1), (1046, .ifCond .eq 7, 3), (1049, .iconst 1, 1), (1050, .goto 4, 3), (1053, .iconst 0, 1), (1054, .invokevirtual 126, 3), (1057, .pop, 1), (1058, .aload_n 2, 1), (1059, .aload_n 0, 1), (1060, .iload_n 3, 1)] := dkf (by decide +kernel)
def dL_law_1045 := dkg_L_70.1
def dL_law_1046 := dkg_L_70.2.1
def dL_law_1049 := dkg_L_70.2.2.1
def dL_law_1050 := dkg_L_70.2.2.2.1
def dL_law_1053 := dkg_L_70.2.2.2.2.1
def dL_law_1054 := dkg_L_70.2.2.2.2.2.1
def dL_law_1057 := dkg_L_70.2.2.2.2.2.2.1
def dL_law_1058 := dkg_L_70.2.2.2.2.2.2.2.1
def dL_law_1059 := dkg_L_70.2.2.2.2.2.2.2.2.1
def dL_law_1060 := dkg_L_70.2.2.2.2.2.2.2.2.2.1
theorem dkg_L_71 : dkp cL_law [(1061, .iconst 1, 1), (1062, .iadd, 1), (1063, .iaload, 1), (1064, .aload_n 0, 1), (1065, .iload_n 3, 1), (1066, .iconst 2, 1), (1067, .iadd, 1), (1068, .iaload, 1), (1069, .ifCond .eq 7, 3), (1072, .iconst 1, 1)] := dkf (by decide +kernel)
def dL_law_1061 := dkg_L_71.1
def dL_law_1062 := dkg_L_71.2.1
def dL_law_1063 := dkg_L_71.2.2.1
def dL_law_1064 := dkg_L_71.2.2.2.1
def dL_law_1065 := dkg_L_71.2.2.2.2.1
def dL_law_1066 := dkg_L_71.2.2.2.2.2.1
def dL_law_1067 := dkg_L_71.2.2.2.2.2.2.1
def dL_law_1068 := dkg_L_71.2.2.2.2.2.2.2.1
def dL_law_1069 := dkg_L_71.2.2.2.2.2.2.2.2.1
def dL_law_1072 := dkg_L_71.2.2.2.2.2.2.2.2.2.1
theorem dkg_L_72 : dkp cL_law [(1073, .goto 4, 3), (1076, .iconst 0, 1), (1077, .invokevirtual 130, 3), (1080, .pop, 1), (1081, .goto 296, 3), (1084, .aload_n 1, 1), (1085, .aload_n 0, 1), (1086, .iload_n 3, 1), (1087, .iconst 1, 1), (1088, .iadd, 1)] := dkf (by decide +kernel)
def dL_law_1073 := dkg_L_72.1
def dL_law_1076 := dkg_L_72.2.1
def dL_law_1077 := dkg_L_72.2.2.1
def dL_law_1080 := dkg_L_72.2.2.2.1
def dL_law_1081 := dkg_L_72.2.2.2.2.1
def dL_law_1084 := dkg_L_72.2.2.2.2.2.1
def dL_law_1085 := dkg_L_72.2.2.2.2.2.2.1
def dL_law_1086 := dkg_L_72.2.2.2.2.2.2.2.1
def dL_law_1087 := dkg_L_72.2.2.2.2.2.2.2.2.1
def dL_law_1088 := dkg_L_72.2.2.2.2.2.2.2.2.2.1
theorem dkg_L_73 : dkp cL_law [(1089, .iaload, 1), (1090, .aload_n 0, 1), (1091, .iload_n 3, 1), (1092, .iconst 2, 1), (1093, .iadd, 1), (1094, .iaload, 1), (1095, .aload_n 0, 1), (1096, .iload_n 3, 1), (1097, .iconst 3, 1), (1098, .iadd, 1)] := dkf (by decide +kernel)
def dL_law_1089 := dkg_L_73.1
def dL_law_1090 := dkg_L_73.2.1
def dL_law_1091 := dkg_L_73.2.2.1
def dL_law_1092 := dkg_L_73.2.2.2.1
def dL_law_1093 := dkg_L_73.2.2.2.2.1
def dL_law_1094 := dkg_L_73.2.2.2.2.2.1
def dL_law_1095 := dkg_L_73.2.2.2.2.2.2.1
def dL_law_1096 := dkg_L_73.2.2.2.2.2.2.2.1
def dL_law_1097 := dkg_L_73.2.2.2.2.2.2.2.2.1
def dL_law_1098 := dkg_L_73.2.2.2.2.2.2.2.2.2.1
theorem dkg_L_74 : dkp cL_law [(1099, .iaload, 1), (1100, .invokevirtual 131, 3), (1103, .pop, 1), (1104, .aload_n 2, 1), (1105, .aload_n 0, 1), (1106, .iload_n 3, 1), (1107, .iconst 1, 1), (1108, .iadd, 1), (1109, .iaload, 1), (1110, .aload_n 0, 1)] := dkf (by decide +kernel)
def dL_law_1099 := dkg_L_74.1
def dL_law_1100 := dkg_L_74.2.1
def dL_law_1103 := dkg_L_74.2.2.1
def dL_law_1104 := dkg_L_74.2.2.2.1
def dL_law_1105 := dkg_L_74.2.2.2.2.1
def dL_law_1106 := dkg_L_74.2.2.2.2.2.1
def dL_law_1107 := dkg_L_74.2.2.2.2.2.2.1
def dL_law_1108 := dkg_L_74.2.2.2.2.2.2.2.1
def dL_law_1109 := dkg_L_74.2.2.2.2.2.2.2.2.1
def dL_law_1110 := dkg_L_74.2.2.2.2.2.2.2.2.2.1
theorem dkg_L_75 : dkp cL_law [(1111, .iload_n 3, 1), (1112, .iconst 2, 1), (1113, .iadd, 1), (1114, .iaload, 1), (1115, .aload_n 0, 1), (1116, .iload_n 3, 1), (1117, .iconst 3, 1), (1118, .iadd, 1), (1119, .iaload, 1), (1120, .invokevirtual 134, 3)] := dkf (by decide +kernel)
def dL_law_1111 := dkg_L_75.1
def dL_law_1112 := dkg_L_75.2.1
def dL_law_1113 := dkg_L_75.2.2.1
def dL_law_1114 := dkg_L_75.2.2.2.1
def dL_law_1115 := dkg_L_75.2.2.2.2.1
def dL_law_1116 := dkg_L_75.2.2.2.2.2.1
def dL_law_1117 := dkg_L_75.2.2.2.2.2.2.1
def dL_law_1118 := dkg_L_75.2.2.2.2.2.2.2.1
def dL_law_1119 := dkg_L_75.2.2.2.2.2.2.2.2.1
def dL_law_1120 := dkg_L_75.2.2.2.2.2.2.2.2.2.1
theorem dkg_L_76 : dkp cL_law [(1123, .pop, 1), (1124, .goto 253, 3), (1127, .aload_n 1, 1), (1128, .invokevirtual 135, 3), (1131, .pop, 1), (1132, .aload_n 2, 1), (1133, .invokevirtual 138, 3), (1136, .pop, 1), (1137, .goto 240, 3), (1140, .aload_n 1, 1)] := dkf (by decide +kernel)
def dL_law_1123 := dkg_L_76.1
def dL_law_1124 := dkg_L_76.2.1
def dL_law_1127 := dkg_L_76.2.2.1
def dL_law_1128 := dkg_L_76.2.2.2.1
def dL_law_1131 := dkg_L_76.2.2.2.2.1
def dL_law_1132 := dkg_L_76.2.2.2.2.2.1
def dL_law_1133 := dkg_L_76.2.2.2.2.2.2.1
def dL_law_1136 := dkg_L_76.2.2.2.2.2.2.2.1
def dL_law_1137 := dkg_L_76.2.2.2.2.2.2.2.2.1
def dL_law_1140 := dkg_L_76.2.2.2.2.2.2.2.2.2.1
theorem dkg_L_77 : dkp cL_law [(1141, .aload_n 0, 1), (1142, .iload_n 3, 1), (1143, .iconst 1, 1), (1144, .iadd, 1), (1145, .iaload, 1), (1146, .aload_n 0, 1), (1147, .iload_n 3, 1), (1148, .iconst 2, 1), (1149, .iadd, 1), (1150, .iaload, 1)] := dkf (by decide +kernel)
def dL_law_1141 := dkg_L_77.1
def dL_law_1142 := dkg_L_77.2.1
def dL_law_1143 := dkg_L_77.2.2.1
def dL_law_1144 := dkg_L_77.2.2.2.1
def dL_law_1145 := dkg_L_77.2.2.2.2.1
def dL_law_1146 := dkg_L_77.2.2.2.2.2.1
def dL_law_1147 := dkg_L_77.2.2.2.2.2.2.1
def dL_law_1148 := dkg_L_77.2.2.2.2.2.2.2.1
def dL_law_1149 := dkg_L_77.2.2.2.2.2.2.2.2.1
def dL_law_1150 := dkg_L_77.2.2.2.2.2.2.2.2.2.1
theorem dkg_L_78 : dkp cL_law [(1151, .invokevirtual 139, 3), (1154, .pop, 1), (1155, .aload_n 2, 1), (1156, .aload_n 0, 1), (1157, .iload_n 3, 1), (1158, .iconst 1, 1), (1159, .iadd, 1), (1160, .iaload, 1), (1161, .aload_n 0, 1), (1162, .iload_n 3, 1)] := dkf (by decide +kernel)
def dL_law_1151 := dkg_L_78.1
def dL_law_1154 := dkg_L_78.2.1
def dL_law_1155 := dkg_L_78.2.2.1
def dL_law_1156 := dkg_L_78.2.2.2.1
def dL_law_1157 := dkg_L_78.2.2.2.2.1
def dL_law_1158 := dkg_L_78.2.2.2.2.2.1
def dL_law_1159 := dkg_L_78.2.2.2.2.2.2.1
def dL_law_1160 := dkg_L_78.2.2.2.2.2.2.2.1
def dL_law_1161 := dkg_L_78.2.2.2.2.2.2.2.2.1
def dL_law_1162 := dkg_L_78.2.2.2.2.2.2.2.2.2.1
theorem dkg_L_79 : dkp cL_law [(1163, .iconst 2, 1), (1164, .iadd, 1), (1165, .iaload, 1), (1166, .invokevirtual 142, 3), (1169, .pop, 1), (1170, .goto 207, 3), (1173, .aload_n 1, 1), (1174, .aload_n 0, 1), (1175, .iload_n 3, 1), (1176, .iconst 1, 1)] := dkf (by decide +kernel)
def dL_law_1163 := dkg_L_79.1
def dL_law_1164 := dkg_L_79.2.1
def dL_law_1165 := dkg_L_79.2.2.1
def dL_law_1166 := dkg_L_79.2.2.2.1
def dL_law_1169 := dkg_L_79.2.2.2.2.1
def dL_law_1170 := dkg_L_79.2.2.2.2.2.1
def dL_law_1173 := dkg_L_79.2.2.2.2.2.2.1
def dL_law_1174 := dkg_L_79.2.2.2.2.2.2.2.1
def dL_law_1175 := dkg_L_79.2.2.2.2.2.2.2.2.1
def dL_law_1176 := dkg_L_79.2.2.2.2.2.2.2.2.2.1
theorem dkg_L_80 : dkp cL_law [(1177, .iadd, 1), (1178, .iaload, 1), (1179, .invokevirtual 143, 3), (1182, .pop, 1), (1183, .aload_n 2, 1), (1184, .aload_n 0, 1), (1185, .iload_n 3, 1), (1186, .iconst 1, 1), (1187, .iadd, 1), (1188, .iaload, 1)] := dkf (by decide +kernel)
def dL_law_1177 := dkg_L_80.1
def dL_law_1178 := dkg_L_80.2.1
def dL_law_1179 := dkg_L_80.2.2.1
def dL_law_1182 := dkg_L_80.2.2.2.1
def dL_law_1183 := dkg_L_80.2.2.2.2.1
def dL_law_1184 := dkg_L_80.2.2.2.2.2.1
def dL_law_1185 := dkg_L_80.2.2.2.2.2.2.1
def dL_law_1186 := dkg_L_80.2.2.2.2.2.2.2.1
def dL_law_1187 := dkg_L_80.2.2.2.2.2.2.2.2.1
def dL_law_1188 := dkg_L_80.2.2.2.2.2.2.2.2.2.1
theorem dkg_L_81 : dkp cL_law [(1189, .invokevirtual 146, 3), (1192, .pop, 1), (1193, .goto 184, 3), (1196, .aload_n 1, 1), (1197, .aload_n 0, 1), (1198, .iload_n 3, 1), (1199, .iconst 1, 1), (1200, .iadd, 1), (1201, .iaload, 1), (1202, .aload_n 0, 1)] := dkf (by decide +kernel)
def dL_law_1189 := dkg_L_81.1
def dL_law_1192 := dkg_L_81.2.1
def dL_law_1193 := dkg_L_81.2.2.1
def dL_law_1196 := dkg_L_81.2.2.2.1
def dL_law_1197 := dkg_L_81.2.2.2.2.1
def dL_law_1198 := dkg_L_81.2.2.2.2.2.1
def dL_law_1199 := dkg_L_81.2.2.2.2.2.2.1
def dL_law_1200 := dkg_L_81.2.2.2.2.2.2.2.1
def dL_law_1201 := dkg_L_81.2.2.2.2.2.2.2.2.1
def dL_law_1202 := dkg_L_81.2.2.2.2.2.2.2.2.2.1
theorem dkg_L_82 : dkp cL_law [(1203, .iload_n 3, 1), (1204, .iconst 2, 1), (1205, .iadd, 1), (1206, .iaload, 1), (1207, .aload_n 0, 1), (1208, .iload_n 3, 1), (1209, .iconst 3, 1), (1210, .iadd, 1), (1211, .iaload, 1), (1212, .invokevirtual 147, 3)] := dkf (by decide +kernel)
def dL_law_1203 := dkg_L_82.1
def dL_law_1204 := dkg_L_82.2.1
def dL_law_1205 := dkg_L_82.2.2.1
def dL_law_1206 := dkg_L_82.2.2.2.1
def dL_law_1207 := dkg_L_82.2.2.2.2.1
def dL_law_1208 := dkg_L_82.2.2.2.2.2.1
def dL_law_1209 := dkg_L_82.2.2.2.2.2.2.1
def dL_law_1210 := dkg_L_82.2.2.2.2.2.2.2.1
def dL_law_1211 := dkg_L_82.2.2.2.2.2.2.2.2.1
def dL_law_1212 := dkg_L_82.2.2.2.2.2.2.2.2.2.1
theorem dkg_L_83 : dkp cL_law [(1215, .pop, 1), (1216, .aload_n 2, 1), (1217, .aload_n 0, 1), (1218, .iload_n 3, 1), (1219, .iconst 1, 1), (1220, .iadd, 1), (1221, .iaload, 1), (1222, .aload_n 0, 1), (1223, .iload_n 3, 1), (1224, .iconst 2, 1)] := dkf (by decide +kernel)
def dL_law_1215 := dkg_L_83.1
def dL_law_1216 := dkg_L_83.2.1
def dL_law_1217 := dkg_L_83.2.2.1
def dL_law_1218 := dkg_L_83.2.2.2.1
def dL_law_1219 := dkg_L_83.2.2.2.2.1
def dL_law_1220 := dkg_L_83.2.2.2.2.2.1
def dL_law_1221 := dkg_L_83.2.2.2.2.2.2.1
def dL_law_1222 := dkg_L_83.2.2.2.2.2.2.2.1
def dL_law_1223 := dkg_L_83.2.2.2.2.2.2.2.2.1
def dL_law_1224 := dkg_L_83.2.2.2.2.2.2.2.2.2.1
theorem dkg_L_84 : dkp cL_law [(1225, .iadd, 1), (1226, .iaload, 1), (1227, .aload_n 0, 1), (1228, .iload_n 3, 1), (1229, .iconst 3, 1), (1230, .iadd, 1), (1231, .iaload, 1), (1232, .invokevirtual 150, 3), (1235, .pop, 1), (1236, .goto 141, 3)] := dkf (by decide +kernel)
def dL_law_1225 := dkg_L_84.1
def dL_law_1226 := dkg_L_84.2.1
def dL_law_1227 := dkg_L_84.2.2.1
def dL_law_1228 := dkg_L_84.2.2.2.1
def dL_law_1229 := dkg_L_84.2.2.2.2.1
def dL_law_1230 := dkg_L_84.2.2.2.2.2.1
def dL_law_1231 := dkg_L_84.2.2.2.2.2.2.1
def dL_law_1232 := dkg_L_84.2.2.2.2.2.2.2.1
def dL_law_1235 := dkg_L_84.2.2.2.2.2.2.2.2.1
def dL_law_1236 := dkg_L_84.2.2.2.2.2.2.2.2.2.1
theorem dkg_L_85 : dkp cL_law [(1239, .aload_n 1, 1), (1240, .aload_n 0, 1), (1241, .iload_n 3, 1), (1242, .iconst 1, 1), (1243, .iadd, 1), (1244, .iaload, 1), (1245, .aload_n 0, 1), (1246, .iload_n 3, 1), (1247, .iconst 2, 1), (1248, .iadd, 1)] := dkf (by decide +kernel)
def dL_law_1239 := dkg_L_85.1
def dL_law_1240 := dkg_L_85.2.1
def dL_law_1241 := dkg_L_85.2.2.1
def dL_law_1242 := dkg_L_85.2.2.2.1
def dL_law_1243 := dkg_L_85.2.2.2.2.1
def dL_law_1244 := dkg_L_85.2.2.2.2.2.1
def dL_law_1245 := dkg_L_85.2.2.2.2.2.2.1
def dL_law_1246 := dkg_L_85.2.2.2.2.2.2.2.1
def dL_law_1247 := dkg_L_85.2.2.2.2.2.2.2.2.1
def dL_law_1248 := dkg_L_85.2.2.2.2.2.2.2.2.2.1
theorem dkg_L_86 : dkp cL_law [(1249, .iaload, 1), (1250, .aload_n 0, 1), (1251, .iload_n 3, 1), (1252, .iconst 3, 1), (1253, .iadd, 1), (1254, .iaload, 1), (1255, .invokevirtual 151, 3), (1258, .pop, 1), (1259, .aload_n 2, 1), (1260, .aload_n 0, 1)] := dkf (by decide +kernel)
def dL_law_1249 := dkg_L_86.1
def dL_law_1250 := dkg_L_86.2.1
def dL_law_1251 := dkg_L_86.2.2.1
def dL_law_1252 := dkg_L_86.2.2.2.1
def dL_law_1253 := dkg_L_86.2.2.2.2.1
def dL_law_1254 := dkg_L_86.2.2.2.2.2.1
def dL_law_1255 := dkg_L_86.2.2.2.2.2.2.1
def dL_law_1258 := dkg_L_86.2.2.2.2.2.2.2.1
def dL_law_1259 := dkg_L_86.2.2.2.2.2.2.2.2.1
def dL_law_1260 := dkg_L_86.2.2.2.2.2.2.2.2.2.1
theorem dkg_L_87 : dkp cL_law [(1261, .iload_n 3, 1), (1262, .iconst 1, 1), (1263, .iadd, 1), (1264, .iaload, 1), (1265, .aload_n 0, 1), (1266, .iload_n 3, 1), (1267, .iconst 2, 1), (1268, .iadd, 1), (1269, .iaload, 1), (1270, .aload_n 0, 1)] := dkf (by decide +kernel)
def dL_law_1261 := dkg_L_87.1
def dL_law_1262 := dkg_L_87.2.1
def dL_law_1263 := dkg_L_87.2.2.1
def dL_law_1264 := dkg_L_87.2.2.2.1
def dL_law_1265 := dkg_L_87.2.2.2.2.1
def dL_law_1266 := dkg_L_87.2.2.2.2.2.1
def dL_law_1267 := dkg_L_87.2.2.2.2.2.2.1
def dL_law_1268 := dkg_L_87.2.2.2.2.2.2.2.1
def dL_law_1269 := dkg_L_87.2.2.2.2.2.2.2.2.1
def dL_law_1270 := dkg_L_87.2.2.2.2.2.2.2.2.2.1
theorem dkg_L_88 : dkp cL_law [(1271, .iload_n 3, 1), (1272, .iconst 3, 1), (1273, .iadd, 1), (1274, .iaload, 1), (1275, .invokevirtual 154, 3), (1278, .pop, 1), (1279, .goto 98, 3), (1282, .aload_n 1, 1), (1283, .aload_n 0, 1), (1284, .iload_n 3, 1)] := dkf (by decide +kernel)
def dL_law_1271 := dkg_L_88.1
def dL_law_1272 := dkg_L_88.2.1
def dL_law_1273 := dkg_L_88.2.2.1
def dL_law_1274 := dkg_L_88.2.2.2.1
def dL_law_1275 := dkg_L_88.2.2.2.2.1
def dL_law_1278 := dkg_L_88.2.2.2.2.2.1
def dL_law_1279 := dkg_L_88.2.2.2.2.2.2.1
def dL_law_1282 := dkg_L_88.2.2.2.2.2.2.2.1
def dL_law_1283 := dkg_L_88.2.2.2.2.2.2.2.2.1
def dL_law_1284 := dkg_L_88.2.2.2.2.2.2.2.2.2.1
theorem dkg_L_89 : dkp cL_law [(1285, .iconst 1, 1), (1286, .iadd, 1), (1287, .iaload, 1), (1288, .aload_n 0, 1), (1289, .iload_n 3, 1), (1290, .iconst 2, 1), (1291, .iadd, 1), (1292, .iaload, 1), (1293, .invokevirtual 155, 3), (1296, .pop, 1)] := dkf (by decide +kernel)
def dL_law_1285 := dkg_L_89.1
def dL_law_1286 := dkg_L_89.2.1
def dL_law_1287 := dkg_L_89.2.2.1
def dL_law_1288 := dkg_L_89.2.2.2.1
def dL_law_1289 := dkg_L_89.2.2.2.2.1
def dL_law_1290 := dkg_L_89.2.2.2.2.2.1
def dL_law_1291 := dkg_L_89.2.2.2.2.2.2.1
def dL_law_1292 := dkg_L_89.2.2.2.2.2.2.2.1
def dL_law_1293 := dkg_L_89.2.2.2.2.2.2.2.2.1
def dL_law_1296 := dkg_L_89.2.2.2.2.2.2.2.2.2.1
theorem dkg_L_90 : dkp cL_law [(1297, .aload_n 2, 1), (1298, .aload_n 0, 1), (1299, .iload_n 3, 1), (1300, .iconst 1, 1), (1301, .iadd, 1), (1302, .iaload, 1), (1303, .aload_n 0, 1), (1304, .iload_n 3, 1), (1305, .iconst 2, 1), (1306, .iadd, 1)] := dkf (by decide +kernel)
def dL_law_1297 := dkg_L_90.1
def dL_law_1298 := dkg_L_90.2.1
def dL_law_1299 := dkg_L_90.2.2.1
def dL_law_1300 := dkg_L_90.2.2.2.1
def dL_law_1301 := dkg_L_90.2.2.2.2.1
def dL_law_1302 := dkg_L_90.2.2.2.2.2.1
def dL_law_1303 := dkg_L_90.2.2.2.2.2.2.1
def dL_law_1304 := dkg_L_90.2.2.2.2.2.2.2.1
def dL_law_1305 := dkg_L_90.2.2.2.2.2.2.2.2.1
def dL_law_1306 := dkg_L_90.2.2.2.2.2.2.2.2.2.1
theorem dkg_L_91 : dkp cL_law [(1307, .iaload, 1), (1308, .invokevirtual 158, 3), (1311, .pop, 1), (1312, .goto 65, 3), (1315, .aload_n 1, 1), (1316, .invokevirtual 159, 3), (1319, .pop, 1), (1320, .aload_n 2, 1), (1321, .invokevirtual 162, 3), (1324, .pop, 1)] := dkf (by decide +kernel)
def dL_law_1307 := dkg_L_91.1
def dL_law_1308 := dkg_L_91.2.1
def dL_law_1311 := dkg_L_91.2.2.1
def dL_law_1312 := dkg_L_91.2.2.2.1
def dL_law_1315 := dkg_L_91.2.2.2.2.1
def dL_law_1316 := dkg_L_91.2.2.2.2.2.1
def dL_law_1319 := dkg_L_91.2.2.2.2.2.2.1
def dL_law_1320 := dkg_L_91.2.2.2.2.2.2.2.1
def dL_law_1321 := dkg_L_91.2.2.2.2.2.2.2.2.1
def dL_law_1324 := dkg_L_91.2.2.2.2.2.2.2.2.2.1
theorem dkg_L_92 : dkp cL_law [(1325, .goto 52, 3), (1328, .aload_n 1, 1), (1329, .aload_n 0, 1), (1330, .iload_n 3, 1), (1331, .iconst 1, 1), (1332, .iadd, 1), (1333, .iaload, 1), (1334, .invokevirtual 163, 3), (1337, .pop, 1), (1338, .aload_n 2, 1)] := dkf (by decide +kernel)
def dL_law_1325 := dkg_L_92.1
def dL_law_1328 := dkg_L_92.2.1
def dL_law_1329 := dkg_L_92.2.2.1
def dL_law_1330 := dkg_L_92.2.2.2.1
def dL_law_1331 := dkg_L_92.2.2.2.2.1
def dL_law_1332 := dkg_L_92.2.2.2.2.2.1
def dL_law_1333 := dkg_L_92.2.2.2.2.2.2.1
def dL_law_1334 := dkg_L_92.2.2.2.2.2.2.2.1
def dL_law_1337 := dkg_L_92.2.2.2.2.2.2.2.2.1
def dL_law_1338 := dkg_L_92.2.2.2.2.2.2.2.2.2.1
theorem dkg_L_93 : dkp cL_law [(1339, .aload_n 0, 1), (1340, .iload_n 3, 1), (1341, .iconst 1, 1), (1342, .iadd, 1), (1343, .iaload, 1), (1344, .invokevirtual 166, 3), (1347, .pop, 1), (1348, .goto 29, 3), (1351, .aload_n 1, 1), (1352, .invokevirtual 167, 3)] := dkf (by decide +kernel)
def dL_law_1339 := dkg_L_93.1
def dL_law_1340 := dkg_L_93.2.1
def dL_law_1341 := dkg_L_93.2.2.1
def dL_law_1342 := dkg_L_93.2.2.2.1
def dL_law_1343 := dkg_L_93.2.2.2.2.1
def dL_law_1344 := dkg_L_93.2.2.2.2.2.1
def dL_law_1347 := dkg_L_93.2.2.2.2.2.2.1
def dL_law_1348 := dkg_L_93.2.2.2.2.2.2.2.1
def dL_law_1351 := dkg_L_93.2.2.2.2.2.2.2.2.1
def dL_law_1352 := dkg_L_93.2.2.2.2.2.2.2.2.2.1
theorem dkg_L_94 : dkp cL_law [(1355, .pop, 1), (1356, .aload_n 2, 1), (1357, .invokevirtual 170, 3), (1360, .pop, 1), (1361, .goto 16, 3), (1364, .aload_n 1, 1), (1365, .invokevirtual 171, 3), (1368, .pop, 1), (1369, .aload_n 2, 1), (1370, .invokevirtual 174, 3)] := dkf (by decide +kernel)
def dL_law_1355 := dkg_L_94.1
def dL_law_1356 := dkg_L_94.2.1
def dL_law_1357 := dkg_L_94.2.2.1
def dL_law_1360 := dkg_L_94.2.2.2.1
def dL_law_1361 := dkg_L_94.2.2.2.2.1
def dL_law_1364 := dkg_L_94.2.2.2.2.2.1
def dL_law_1365 := dkg_L_94.2.2.2.2.2.2.1
def dL_law_1368 := dkg_L_94.2.2.2.2.2.2.2.1
def dL_law_1369 := dkg_L_94.2.2.2.2.2.2.2.2.1
def dL_law_1370 := dkg_L_94.2.2.2.2.2.2.2.2.2.1
theorem dkg_L_95 : dkp cL_law [(1373, .pop, 1), (1374, .goto 3, 3), (1377, .iinc 3 6, 3), (1380, .goto (-1362), 3), (1383, .iconst 1, 1), (1384, .ireturn, 1)] := dkf (by decide +kernel)
def dL_law_1373 := dkg_L_95.1
def dL_law_1374 := dkg_L_95.2.1
def dL_law_1377 := dkg_L_95.2.2.1
def dL_law_1380 := dkg_L_95.2.2.2.1
def dL_law_1383 := dkg_L_95.2.2.2.2.1
def dL_law_1384 := dkg_L_95.2.2.2.2.2.1
theorem dkg_L_96 : dkp cL_law [(33, .tableswitch 1344 0 38 #[171, 234, 257, 300, 333, 356, 399, 442, 475, 488, 501, 544, 567, 590, 603, 616, 639, 672, 715, 748, 771, 834, 877, 890, 923, 936, 979, 1002, 1051, 1094, 1107, 1140, 1163, 1206, 1249, 1282, 1295, 1318, 1331], 171)] := dkq (by decide +kernel)
def dL_law_33 := dkg_L_96.1
end
section
theorem dkg_X0_0 : dkp cX0_init [(0, .aload_n 0, 1), (1, .invokespecial 1, 3), (4, .aload_n 0, 1), (5, .iload_n 1, 1), (6, .putfield 7, 3), (9, .aload_n 0, 1), (10, .aload_n 2, 1), (11, .putfield 13, 3), (14, .aload_n 0, 1), (15, .aload_n 3, 1)] := dkf (by decide +kernel)
def dX0_init_0 := dkg_X0_0.1
def dX0_init_1 := dkg_X0_0.2.1
def dX0_init_4 := dkg_X0_0.2.2.1
def dX0_init_5 := dkg_X0_0.2.2.2.1
def dX0_init_6 := dkg_X0_0.2.2.2.2.1
def dX0_init_9 := dkg_X0_0.2.2.2.2.2.1
def dX0_init_10 := dkg_X0_0.2.2.2.2.2.2.1
def dX0_init_11 := dkg_X0_0.2.2.2.2.2.2.2.1
def dX0_init_14 := dkg_X0_0.2.2.2.2.2.2.2.2.1
def dX0_init_15 := dkg_X0_0.2.2.2.2.2.2.2.2.2.1
theorem dkg_X0_1 : dkp cX0_init [(16, .putfield 17, 3), (19, .aload_n 0, 1), (20, .iload 4, 2), (22, .putfield 21, 3), (25, .return_, 1)] := dkf (by decide +kernel)
def dX0_init_16 := dkg_X0_1.1
def dX0_init_19 := dkg_X0_1.2.1
def dX0_init_20 := dkg_X0_1.2.2.1
def dX0_init_22 := dkg_X0_1.2.2.2.1
def dX0_init_25 := dkg_X0_1.2.2.2.2.1
end
section
theorem dkg_X1_0 : dkp cX1_init [(0, .aload_n 0, 1), (1, .invokespecial 1, 3), (4, .aload_n 0, 1), (5, .iconst 0, 1), (6, .putfield 7, 3), (9, .aload_n 0, 1), (10, .iload_n 1, 1), (11, .putfield 13, 3), (14, .aload_n 0, 1), (15, .bipush 16, 2)] := dkf (by decide +kernel)
def dX1_init_0 := dkg_X1_0.1
def dX1_init_1 := dkg_X1_0.2.1
def dX1_init_4 := dkg_X1_0.2.2.1
def dX1_init_5 := dkg_X1_0.2.2.2.1
def dX1_init_6 := dkg_X1_0.2.2.2.2.1
def dX1_init_9 := dkg_X1_0.2.2.2.2.2.1
def dX1_init_10 := dkg_X1_0.2.2.2.2.2.2.1
def dX1_init_11 := dkg_X1_0.2.2.2.2.2.2.2.1
def dX1_init_14 := dkg_X1_0.2.2.2.2.2.2.2.2.1
def dX1_init_15 := dkg_X1_0.2.2.2.2.2.2.2.2.2.1
theorem dkg_X1_1 : dkp cX1_init [(19, .putfield 16, 3), (22, .return_, 1)] := dkf (by decide +kernel)
def dX1_init_19 := dkg_X1_1.1
def dX1_init_22 := dkg_X1_1.2.1
theorem dkg_X1_2 : dkp cX1_init [(17, .newarray .int, 2)] := dkq (by decide +kernel)
def dX1_init_17 := dkg_X1_2.1
theorem dkg_X1_3 : dkp cX1_add [(0, .aload_n 0, 1), (1, .getfield 7, 3), (4, .aload_n 0, 1), (5, .getfield 13, 3), (8, .if_icmp .lt 4, 3), (11, .return_, 1), (12, .aload_n 0, 1), (13, .getfield 7, 3), (16, .aload_n 0, 1), (17, .getfield 16, 3)] := dkf (by decide +kernel)
def dX1_add_0 := dkg_X1_3.1
def dX1_add_1 := dkg_X1_3.2.1
def dX1_add_4 := dkg_X1_3.2.2.1
def dX1_add_5 := dkg_X1_3.2.2.2.1
def dX1_add_8 := dkg_X1_3.2.2.2.2.1
def dX1_add_11 := dkg_X1_3.2.2.2.2.2.1
def dX1_add_12 := dkg_X1_3.2.2.2.2.2.2.1
def dX1_add_13 := dkg_X1_3.2.2.2.2.2.2.2.1
def dX1_add_16 := dkg_X1_3.2.2.2.2.2.2.2.2.1
def dX1_add_17 := dkg_X1_3.2.2.2.2.2.2.2.2.2.1
theorem dkg_X1_4 : dkp cX1_add [(20, .arraylength, 1), (21, .if_icmp .lt 21, 3), (24, .aload_n 0, 1), (25, .aload_n 0, 1), (26, .getfield 16, 3), (29, .aload_n 0, 1), (30, .getfield 16, 3), (33, .arraylength, 1), (34, .iconst 2, 1), (35, .imul, 1)] := dkf (by decide +kernel)
def dX1_add_20 := dkg_X1_4.1
def dX1_add_21 := dkg_X1_4.2.1
def dX1_add_24 := dkg_X1_4.2.2.1
def dX1_add_25 := dkg_X1_4.2.2.2.1
def dX1_add_26 := dkg_X1_4.2.2.2.2.1
def dX1_add_29 := dkg_X1_4.2.2.2.2.2.1
def dX1_add_30 := dkg_X1_4.2.2.2.2.2.2.1
def dX1_add_33 := dkg_X1_4.2.2.2.2.2.2.2.1
def dX1_add_34 := dkg_X1_4.2.2.2.2.2.2.2.2.1
def dX1_add_35 := dkg_X1_4.2.2.2.2.2.2.2.2.2.1
theorem dkg_X1_5 : dkp cX1_add [(36, .invokestatic 20, 3), (39, .putfield 16, 3), (42, .aload_n 0, 1), (43, .getfield 16, 3), (46, .aload_n 0, 1), (47, .getfield 7, 3), (50, .iload_n 1, 1), (51, .iastore, 1), (52, .aload_n 0, 1), (53, .dup, 1)] := dkf (by decide +kernel)
def dX1_add_36 := dkg_X1_5.1
def dX1_add_39 := dkg_X1_5.2.1
def dX1_add_42 := dkg_X1_5.2.2.1
def dX1_add_43 := dkg_X1_5.2.2.2.1
def dX1_add_46 := dkg_X1_5.2.2.2.2.1
def dX1_add_47 := dkg_X1_5.2.2.2.2.2.1
def dX1_add_50 := dkg_X1_5.2.2.2.2.2.2.1
def dX1_add_51 := dkg_X1_5.2.2.2.2.2.2.2.1
def dX1_add_52 := dkg_X1_5.2.2.2.2.2.2.2.2.1
def dX1_add_53 := dkg_X1_5.2.2.2.2.2.2.2.2.2.1
theorem dkg_X1_6 : dkp cX1_add [(54, .getfield 7, 3), (57, .iconst 1, 1), (58, .iadd, 1), (59, .putfield 7, 3), (62, .return_, 1)] := dkf (by decide +kernel)
def dX1_add_54 := dkg_X1_6.1
def dX1_add_57 := dkg_X1_6.2.1
def dX1_add_58 := dkg_X1_6.2.2.1
def dX1_add_59 := dkg_X1_6.2.2.2.1
def dX1_add_62 := dkg_X1_6.2.2.2.2.1
theorem dkg_X1_7 : dkp cX1_addAll [(0, .iconst 0, 1), (1, .istore_n 2, 1), (2, .iload_n 2, 1), (3, .aload_n 1, 1), (4, .getfield 7, 3), (7, .if_icmp .ge 19, 3), (10, .aload_n 0, 1), (11, .aload_n 1, 1), (12, .getfield 16, 3), (15, .iload_n 2, 1)] := dkf (by decide +kernel)
def dX1_addAll_0 := dkg_X1_7.1
def dX1_addAll_1 := dkg_X1_7.2.1
def dX1_addAll_2 := dkg_X1_7.2.2.1
def dX1_addAll_3 := dkg_X1_7.2.2.2.1
def dX1_addAll_4 := dkg_X1_7.2.2.2.2.1
def dX1_addAll_7 := dkg_X1_7.2.2.2.2.2.1
def dX1_addAll_10 := dkg_X1_7.2.2.2.2.2.2.1
def dX1_addAll_11 := dkg_X1_7.2.2.2.2.2.2.2.1
def dX1_addAll_12 := dkg_X1_7.2.2.2.2.2.2.2.2.1
def dX1_addAll_15 := dkg_X1_7.2.2.2.2.2.2.2.2.2.1
theorem dkg_X1_8 : dkp cX1_addAll [(16, .iaload, 1), (17, .invokevirtual 26, 3), (20, .iinc 2 1, 3), (23, .goto (-21), 3), (26, .return_, 1)] := dkf (by decide +kernel)
def dX1_addAll_16 := dkg_X1_8.1
def dX1_addAll_17 := dkg_X1_8.2.1
def dX1_addAll_20 := dkg_X1_8.2.2.1
def dX1_addAll_23 := dkg_X1_8.2.2.2.1
def dX1_addAll_26 := dkg_X1_8.2.2.2.2.1
theorem dkg_X1_9 : dkp cX1_at [(0, .iload_n 1, 1), (1, .ifCond .lt 20, 3), (4, .iload_n 1, 1), (5, .aload_n 0, 1), (6, .getfield 7, 3), (9, .if_icmp .ge 12, 3), (12, .aload_n 0, 1), (13, .getfield 16, 3), (16, .iload_n 1, 1), (17, .iaload, 1)] := dkf (by decide +kernel)
def dX1_at_0 := dkg_X1_9.1
def dX1_at_1 := dkg_X1_9.2.1
def dX1_at_4 := dkg_X1_9.2.2.1
def dX1_at_5 := dkg_X1_9.2.2.2.1
def dX1_at_6 := dkg_X1_9.2.2.2.2.1
def dX1_at_9 := dkg_X1_9.2.2.2.2.2.1
def dX1_at_12 := dkg_X1_9.2.2.2.2.2.2.1
def dX1_at_13 := dkg_X1_9.2.2.2.2.2.2.2.1
def dX1_at_16 := dkg_X1_9.2.2.2.2.2.2.2.2.1
def dX1_at_17 := dkg_X1_9.2.2.2.2.2.2.2.2.2.1
theorem dkg_X1_10 : dkp cX1_at [(18, .goto 4, 3), (21, .iconst 0, 1), (22, .ireturn, 1)] := dkf (by decide +kernel)
def dX1_at_18 := dkg_X1_10.1
def dX1_at_21 := dkg_X1_10.2.1
def dX1_at_22 := dkg_X1_10.2.2.1
theorem dkg_X1_11 : dkp cX1_clear [(0, .aload_n 0, 1), (1, .iconst 0, 1), (2, .putfield 7, 3), (5, .return_, 1)] := dkf (by decide +kernel)
def dX1_clear_0 := dkg_X1_11.1
def dX1_clear_1 := dkg_X1_11.2.1
def dX1_clear_2 := dkg_X1_11.2.2.1
def dX1_clear_5 := dkg_X1_11.2.2.2.1
theorem dkg_X1_12 : dkp cX1_keep [(0, .aload_n 0, 1), (1, .iconst 0, 1), (2, .aload_n 0, 1), (3, .getfield 7, 3), (6, .iload_n 1, 1), (7, .invokestatic 30, 3), (10, .invokestatic 36, 3), (13, .putfield 7, 3), (16, .return_, 1)] := dkf (by decide +kernel)
def dX1_keep_0 := dkg_X1_12.1
def dX1_keep_1 := dkg_X1_12.2.1
def dX1_keep_2 := dkg_X1_12.2.2.1
def dX1_keep_3 := dkg_X1_12.2.2.2.1
def dX1_keep_6 := dkg_X1_12.2.2.2.2.1
def dX1_keep_7 := dkg_X1_12.2.2.2.2.2.1
def dX1_keep_10 := dkg_X1_12.2.2.2.2.2.2.1
def dX1_keep_13 := dkg_X1_12.2.2.2.2.2.2.2.1
def dX1_keep_16 := dkg_X1_12.2.2.2.2.2.2.2.2.1
theorem dkg_X1_13 : dkp cX1_isWithin [(0, .iload_n 1, 1), (1, .istore 5, 2), (3, .iload 5, 2), (5, .iload_n 2, 1), (6, .if_icmp .ge 32, 3), (9, .aload_n 0, 1), (10, .iload 5, 2), (12, .invokevirtual 39, 3), (15, .iload_n 3, 1), (16, .if_icmp .lt 14, 3)] := dkf (by decide +kernel)
def dX1_isWithin_0 := dkg_X1_13.1
def dX1_isWithin_1 := dkg_X1_13.2.1
def dX1_isWithin_3 := dkg_X1_13.2.2.1
def dX1_isWithin_5 := dkg_X1_13.2.2.2.1
def dX1_isWithin_6 := dkg_X1_13.2.2.2.2.1
def dX1_isWithin_9 := dkg_X1_13.2.2.2.2.2.1
def dX1_isWithin_10 := dkg_X1_13.2.2.2.2.2.2.1
def dX1_isWithin_12 := dkg_X1_13.2.2.2.2.2.2.2.1
def dX1_isWithin_15 := dkg_X1_13.2.2.2.2.2.2.2.2.1
def dX1_isWithin_16 := dkg_X1_13.2.2.2.2.2.2.2.2.2.1
theorem dkg_X1_14 : dkp cX1_isWithin [(19, .aload_n 0, 1), (20, .iload 5, 2), (22, .invokevirtual 39, 3), (25, .iload 4, 2), (27, .if_icmp .le 5, 3), (30, .iconst 0, 1), (31, .ireturn, 1), (32, .iinc 5 1, 3), (35, .goto (-32), 3), (38, .iconst 1, 1)] := dkf (by decide +kernel)
def dX1_isWithin_19 := dkg_X1_14.1
def dX1_isWithin_20 := dkg_X1_14.2.1
def dX1_isWithin_22 := dkg_X1_14.2.2.1
def dX1_isWithin_25 := dkg_X1_14.2.2.2.1
def dX1_isWithin_27 := dkg_X1_14.2.2.2.2.1
def dX1_isWithin_30 := dkg_X1_14.2.2.2.2.2.1
def dX1_isWithin_31 := dkg_X1_14.2.2.2.2.2.2.1
def dX1_isWithin_32 := dkg_X1_14.2.2.2.2.2.2.2.1
def dX1_isWithin_35 := dkg_X1_14.2.2.2.2.2.2.2.2.1
def dX1_isWithin_38 := dkg_X1_14.2.2.2.2.2.2.2.2.2.1
theorem dkg_X1_15 : dkp cX1_isWithin [(39, .ireturn, 1)] := dkf (by decide +kernel)
def dX1_isWithin_39 := dkg_X1_15.1
theorem dkg_X1_16 : dkp cX1_slice [(0, .iconst 0, 1), (1, .iload_n 2, 1), (2, .iload_n 1, 1), (3, .isub, 1), (4, .invokestatic 36, 3), (9, .astore_n 3, 1), (10, .iconst 0, 1), (11, .istore 4, 2), (13, .iload 4, 2), (15, .aload_n 3, 1)] := dkf (by decide +kernel)
def dX1_slice_0 := dkg_X1_16.1
def dX1_slice_1 := dkg_X1_16.2.1
def dX1_slice_2 := dkg_X1_16.2.2.1
def dX1_slice_3 := dkg_X1_16.2.2.2.1
def dX1_slice_4 := dkg_X1_16.2.2.2.2.1
def dX1_slice_9 := dkg_X1_16.2.2.2.2.2.1
def dX1_slice_10 := dkg_X1_16.2.2.2.2.2.2.1
def dX1_slice_11 := dkg_X1_16.2.2.2.2.2.2.2.1
def dX1_slice_13 := dkg_X1_16.2.2.2.2.2.2.2.2.1
def dX1_slice_15 := dkg_X1_16.2.2.2.2.2.2.2.2.2.1
theorem dkg_X1_17 : dkp cX1_slice [(16, .arraylength, 1), (17, .if_icmp .ge 21, 3), (20, .aload_n 3, 1), (21, .iload 4, 2), (23, .aload_n 0, 1), (24, .iload_n 1, 1), (25, .iload 4, 2), (27, .iadd, 1), (28, .invokevirtual 39, 3), (31, .iastore, 1)] := dkf (by decide +kernel)
def dX1_slice_16 := dkg_X1_17.1
def dX1_slice_17 := dkg_X1_17.2.1
def dX1_slice_20 := dkg_X1_17.2.2.1
def dX1_slice_21 := dkg_X1_17.2.2.2.1
def dX1_slice_23 := dkg_X1_17.2.2.2.2.1
def dX1_slice_24 := dkg_X1_17.2.2.2.2.2.1
def dX1_slice_25 := dkg_X1_17.2.2.2.2.2.2.1
def dX1_slice_27 := dkg_X1_17.2.2.2.2.2.2.2.1
def dX1_slice_28 := dkg_X1_17.2.2.2.2.2.2.2.2.1
def dX1_slice_31 := dkg_X1_17.2.2.2.2.2.2.2.2.2.1
theorem dkg_X1_18 : dkp cX1_slice [(32, .iinc 4 1, 3), (35, .goto (-22), 3), (38, .aload_n 3, 1), (39, .areturn, 1)] := dkf (by decide +kernel)
def dX1_slice_32 := dkg_X1_18.1
def dX1_slice_35 := dkg_X1_18.2.1
def dX1_slice_38 := dkg_X1_18.2.2.1
def dX1_slice_39 := dkg_X1_18.2.2.2.1
theorem dkg_X1_19 : dkp cX1_slice [(7, .newarray .int, 2)] := dkq (by decide +kernel)
def dX1_slice_7 := dkg_X1_19.1
end
section
theorem dkg_X10_0 : dkp cX10_init [(0, .aload_n 0, 1), (1, .invokespecial 3, 3), (4, .aload_n 0, 1), (5, .new 9, 3), (8, .dup, 1), (9, .invokespecial 11, 3), (12, .putfield 12, 3), (15, .aload_n 0, 1), (16, .new 9, 3), (19, .dup, 1)] := dkf (by decide +kernel)
def dX10_init_0 := dkg_X10_0.1
def dX10_init_1 := dkg_X10_0.2.1
def dX10_init_4 := dkg_X10_0.2.2.1
def dX10_init_5 := dkg_X10_0.2.2.2.1
def dX10_init_8 := dkg_X10_0.2.2.2.2.1
def dX10_init_9 := dkg_X10_0.2.2.2.2.2.1
def dX10_init_12 := dkg_X10_0.2.2.2.2.2.2.1
def dX10_init_15 := dkg_X10_0.2.2.2.2.2.2.2.1
def dX10_init_16 := dkg_X10_0.2.2.2.2.2.2.2.2.1
def dX10_init_19 := dkg_X10_0.2.2.2.2.2.2.2.2.2.1
theorem dkg_X10_1 : dkp cX10_init [(20, .invokespecial 11, 3), (23, .putfield 18, 3), (26, .return_, 1)] := dkf (by decide +kernel)
def dX10_init_20 := dkg_X10_1.1
def dX10_init_23 := dkg_X10_1.2.1
def dX10_init_26 := dkg_X10_1.2.2.1
theorem dkg_X10_2 : dkp cX10_isFull [(0, .aload_n 0, 1), (1, .getfield 12, 3), (4, .invokevirtual 21, 3), (7, .bipush 30, 2), (9, .if_icmp .lt 7, 3), (12, .iconst 1, 1), (13, .goto 4, 3), (16, .iconst 0, 1), (17, .ireturn, 1)] := dkf (by decide +kernel)
def dX10_isFull_0 := dkg_X10_2.1
def dX10_isFull_1 := dkg_X10_2.2.1
def dX10_isFull_4 := dkg_X10_2.2.2.1
def dX10_isFull_7 := dkg_X10_2.2.2.2.1
def dX10_isFull_9 := dkg_X10_2.2.2.2.2.1
def dX10_isFull_12 := dkg_X10_2.2.2.2.2.2.1
def dX10_isFull_13 := dkg_X10_2.2.2.2.2.2.2.1
def dX10_isFull_16 := dkg_X10_2.2.2.2.2.2.2.2.1
def dX10_isFull_17 := dkg_X10_2.2.2.2.2.2.2.2.2.1
theorem dkg_X10_3 : dkp cX10_alive [(0, .iload_n 1, 1), (1, .ifCond .lt 14, 3), (4, .iload_n 1, 1), (5, .aload_n 0, 1), (6, .getfield 12, 3), (9, .invokevirtual 21, 3), (12, .if_icmp .lt 5, 3), (15, .aconst_null, 1), (16, .areturn, 1), (17, .aload_n 0, 1)] := dkf (by decide +kernel)
def dX10_alive_0 := dkg_X10_3.1
def dX10_alive_1 := dkg_X10_3.2.1
def dX10_alive_4 := dkg_X10_3.2.2.1
def dX10_alive_5 := dkg_X10_3.2.2.2.1
def dX10_alive_6 := dkg_X10_3.2.2.2.2.1
def dX10_alive_9 := dkg_X10_3.2.2.2.2.2.1
def dX10_alive_12 := dkg_X10_3.2.2.2.2.2.2.1
def dX10_alive_15 := dkg_X10_3.2.2.2.2.2.2.2.1
def dX10_alive_16 := dkg_X10_3.2.2.2.2.2.2.2.2.1
def dX10_alive_17 := dkg_X10_3.2.2.2.2.2.2.2.2.2.1
theorem dkg_X10_4 : dkp cX10_alive [(18, .getfield 12, 3), (21, .iload_n 1, 1), (22, .invokevirtual 25, 3), (25, .checkcast 29, 3), (28, .astore_n 2, 1), (29, .aload_n 2, 1), (30, .getfield 31, 3), (33, .ifCond .eq 7, 3), (36, .aconst_null, 1), (37, .goto 4, 3)] := dkf (by decide +kernel)
def dX10_alive_18 := dkg_X10_4.1
def dX10_alive_21 := dkg_X10_4.2.1
def dX10_alive_22 := dkg_X10_4.2.2.1
def dX10_alive_25 := dkg_X10_4.2.2.2.1
def dX10_alive_28 := dkg_X10_4.2.2.2.2.1
def dX10_alive_29 := dkg_X10_4.2.2.2.2.2.1
def dX10_alive_30 := dkg_X10_4.2.2.2.2.2.2.1
def dX10_alive_33 := dkg_X10_4.2.2.2.2.2.2.2.1
def dX10_alive_36 := dkg_X10_4.2.2.2.2.2.2.2.2.1
def dX10_alive_37 := dkg_X10_4.2.2.2.2.2.2.2.2.2.1
theorem dkg_X10_5 : dkp cX10_alive [(40, .aload_n 2, 1), (41, .areturn, 1)] := dkf (by decide +kernel)
def dX10_alive_40 := dkg_X10_5.1
def dX10_alive_41 := dkg_X10_5.2.1
theorem dkg_X10_6 : dkp cX10_whole [(0, .aload_n 0, 1), (1, .iload_n 1, 1), (2, .invokevirtual 35, 3), (5, .astore_n 2, 1), (6, .aload_n 2, 1), (7, .ifnull 14, 3), (10, .aload_n 2, 1), (11, .invokevirtual 39, 3), (14, .ifCond .eq 7, 3), (17, .aload_n 2, 1)] := dkf (by decide +kernel)
def dX10_whole_0 := dkg_X10_6.1
def dX10_whole_1 := dkg_X10_6.2.1
def dX10_whole_2 := dkg_X10_6.2.2.1
def dX10_whole_5 := dkg_X10_6.2.2.2.1
def dX10_whole_6 := dkg_X10_6.2.2.2.2.1
def dX10_whole_7 := dkg_X10_6.2.2.2.2.2.1
def dX10_whole_10 := dkg_X10_6.2.2.2.2.2.2.1
def dX10_whole_11 := dkg_X10_6.2.2.2.2.2.2.2.1
def dX10_whole_14 := dkg_X10_6.2.2.2.2.2.2.2.2.1
def dX10_whole_17 := dkg_X10_6.2.2.2.2.2.2.2.2.2.1
theorem dkg_X10_7 : dkp cX10_whole [(18, .goto 4, 3), (21, .aconst_null, 1), (22, .areturn, 1)] := dkf (by decide +kernel)
def dX10_whole_18 := dkg_X10_7.1
def dX10_whole_21 := dkg_X10_7.2.1
def dX10_whole_22 := dkg_X10_7.2.2.1
theorem dkg_X10_8 : dkp cX10_make [(0, .aload_n 0, 1), (1, .getfield 12, 3), (4, .aload_n 1, 1), (5, .invokevirtual 43, 3), (8, .pop, 1), (9, .aload_n 0, 1), (10, .new 47, 3), (13, .dup, 1), (14, .iconst 0, 1), (15, .aload_n 1, 1)] := dkf (by decide +kernel)
def dX10_make_0 := dkg_X10_8.1
def dX10_make_1 := dkg_X10_8.2.1
def dX10_make_4 := dkg_X10_8.2.2.1
def dX10_make_5 := dkg_X10_8.2.2.2.1
def dX10_make_8 := dkg_X10_8.2.2.2.2.1
def dX10_make_9 := dkg_X10_8.2.2.2.2.2.1
def dX10_make_10 := dkg_X10_8.2.2.2.2.2.2.1
def dX10_make_13 := dkg_X10_8.2.2.2.2.2.2.2.1
def dX10_make_14 := dkg_X10_8.2.2.2.2.2.2.2.2.1
def dX10_make_15 := dkg_X10_8.2.2.2.2.2.2.2.2.2.1
theorem dkg_X10_9 : dkp cX10_make [(16, .aconst_null, 1), (17, .iconst 0, 1), (18, .invokespecial 49, 3), (21, .invokevirtual 52, 3), (24, .aload_n 0, 1), (25, .getfield 12, 3), (28, .invokevirtual 21, 3), (31, .iconst 1, 1), (32, .isub, 1), (33, .ireturn, 1)] := dkf (by decide +kernel)
def dX10_make_16 := dkg_X10_9.1
def dX10_make_17 := dkg_X10_9.2.1
def dX10_make_18 := dkg_X10_9.2.2.1
def dX10_make_21 := dkg_X10_9.2.2.2.1
def dX10_make_24 := dkg_X10_9.2.2.2.2.1
def dX10_make_25 := dkg_X10_9.2.2.2.2.2.1
def dX10_make_28 := dkg_X10_9.2.2.2.2.2.2.1
def dX10_make_31 := dkg_X10_9.2.2.2.2.2.2.2.1
def dX10_make_32 := dkg_X10_9.2.2.2.2.2.2.2.2.1
def dX10_make_33 := dkg_X10_9.2.2.2.2.2.2.2.2.2.1
theorem dkg_X10_10 : dkp cX10_remember [(0, .aload_n 0, 1), (1, .getfield 18, 3), (4, .invokevirtual 21, 3), (7, .sipush 512, 3), (10, .if_icmp .lt 12, 3), (13, .aload_n 0, 1), (14, .getfield 18, 3), (17, .iconst 0, 1), (18, .invokevirtual 56, 3), (21, .pop, 1)] := dkf (by decide +kernel)
def dX10_remember_0 := dkg_X10_10.1
def dX10_remember_1 := dkg_X10_10.2.1
def dX10_remember_4 := dkg_X10_10.2.2.1
def dX10_remember_7 := dkg_X10_10.2.2.2.1
def dX10_remember_10 := dkg_X10_10.2.2.2.2.1
theorem dkg_X10_11 : dkp cX10_remember [(22, .aload_n 0, 1), (23, .getfield 18, 3), (26, .aload_n 1, 1), (27, .invokevirtual 43, 3), (30, .pop, 1), (31, .return_, 1)] := dkf (by decide +kernel)
def dX10_remember_22 := dkg_X10_11.1
def dX10_remember_23 := dkg_X10_11.2.1
def dX10_remember_26 := dkg_X10_11.2.2.1
def dX10_remember_27 := dkg_X10_11.2.2.2.1
def dX10_remember_30 := dkg_X10_11.2.2.2.2.1
def dX10_remember_31 := dkg_X10_11.2.2.2.2.2.1
theorem dkg_X10_12 : dkp cX10_takeBack [(0, .aload_n 0, 1), (1, .getfield 18, 3), (4, .invokevirtual 59, 3), (7, .ifCond .eq 5, 3), (10, .iconst 0, 1), (11, .ireturn, 1), (12, .aload_n 0, 1), (13, .getfield 18, 3), (16, .aload_n 0, 1), (17, .getfield 18, 3)] := dkf (by decide +kernel)
def dX10_takeBack_0 := dkg_X10_12.1
def dX10_takeBack_1 := dkg_X10_12.2.1
def dX10_takeBack_4 := dkg_X10_12.2.2.1
def dX10_takeBack_7 := dkg_X10_12.2.2.2.1
def dX10_takeBack_10 := dkg_X10_12.2.2.2.2.1
def dX10_takeBack_11 := dkg_X10_12.2.2.2.2.2.1
def dX10_takeBack_12 := dkg_X10_12.2.2.2.2.2.2.1
def dX10_takeBack_13 := dkg_X10_12.2.2.2.2.2.2.2.1
def dX10_takeBack_16 := dkg_X10_12.2.2.2.2.2.2.2.2.1
def dX10_takeBack_17 := dkg_X10_12.2.2.2.2.2.2.2.2.2.1
theorem dkg_X10_13 : dkp cX10_takeBack [(20, .invokevirtual 21, 3), (23, .iconst 1, 1), (24, .isub, 1), (25, .invokevirtual 56, 3), (28, .checkcast 47, 3), (31, .astore_n 1, 1), (32, .aload_n 1, 1), (33, .getfield 62, 3), (68, .aload_n 0, 1), (69, .getfield 12, 3)] := dkf (by decide +kernel)
def dX10_takeBack_20 := dkg_X10_13.1
def dX10_takeBack_23 := dkg_X10_13.2.1
def dX10_takeBack_24 := dkg_X10_13.2.2.1
def dX10_takeBack_25 := dkg_X10_13.2.2.2.1
def dX10_takeBack_28 := dkg_X10_13.2.2.2.2.1
def dX10_takeBack_31 := dkg_X10_13.2.2.2.2.2.1
def dX10_takeBack_32 := dkg_X10_13.2.2.2.2.2.2.1
def dX10_takeBack_33 := dkg_X10_13.2.2.2.2.2.2.2.1
def dX10_takeBack_68 := dkg_X10_13.2.2.2.2.2.2.2.2.1
def dX10_takeBack_69 := dkg_X10_13.2.2.2.2.2.2.2.2.2.1
theorem dkg_X10_14 : dkp cX10_takeBack [(72, .invokevirtual 59, 3), (75, .ifCond .ne 96, 3), (78, .aload_n 0, 1), (79, .getfield 12, 3), (82, .aload_n 0, 1), (83, .getfield 12, 3), (86, .invokevirtual 21, 3), (89, .iconst 1, 1), (90, .isub, 1), (91, .invokevirtual 56, 3)] := dkf (by decide +kernel)
def dX10_takeBack_72 := dkg_X10_14.1
def dX10_takeBack_75 := dkg_X10_14.2.1
def dX10_takeBack_78 := dkg_X10_14.2.2.1
def dX10_takeBack_79 := dkg_X10_14.2.2.2.1
def dX10_takeBack_82 := dkg_X10_14.2.2.2.2.1
def dX10_takeBack_83 := dkg_X10_14.2.2.2.2.2.1
def dX10_takeBack_86 := dkg_X10_14.2.2.2.2.2.2.1
def dX10_takeBack_89 := dkg_X10_14.2.2.2.2.2.2.2.1
def dX10_takeBack_90 := dkg_X10_14.2.2.2.2.2.2.2.2.1
def dX10_takeBack_91 := dkg_X10_14.2.2.2.2.2.2.2.2.2.1
theorem dkg_X10_15 : dkp cX10_takeBack [(94, .pop, 1), (95, .goto 76, 3), (98, .aload_n 1, 1), (99, .getfield 66, 3), (102, .iconst 0, 1), (103, .putfield 31, 3), (106, .goto 65, 3), (109, .aload_n 1, 1), (110, .getfield 66, 3), (113, .invokevirtual 70, 3)] := dkf (by decide +kernel)
def dX10_takeBack_94 := dkg_X10_15.1
def dX10_takeBack_95 := dkg_X10_15.2.1
def dX10_takeBack_98 := dkg_X10_15.2.2.1
def dX10_takeBack_99 := dkg_X10_15.2.2.2.1
def dX10_takeBack_102 := dkg_X10_15.2.2.2.2.1
def dX10_takeBack_103 := dkg_X10_15.2.2.2.2.2.1
def dX10_takeBack_106 := dkg_X10_15.2.2.2.2.2.2.1
def dX10_takeBack_109 := dkg_X10_15.2.2.2.2.2.2.2.1
def dX10_takeBack_110 := dkg_X10_15.2.2.2.2.2.2.2.2.1
def dX10_takeBack_113 := dkg_X10_15.2.2.2.2.2.2.2.2.2.1
theorem dkg_X10_16 : dkp cX10_takeBack [(116, .goto 55, 3), (119, .aload_n 1, 1), (120, .getfield 73, 3), (123, .ifnull 48, 3), (126, .aload_n 1, 1), (127, .getfield 73, 3), (130, .aload_n 1, 1), (131, .getfield 77, 3), (134, .putfield 80, 3), (137, .goto 34, 3)] := dkf (by decide +kernel)
def dX10_takeBack_116 := dkg_X10_16.1
def dX10_takeBack_119 := dkg_X10_16.2.1
def dX10_takeBack_120 := dkg_X10_16.2.2.1
def dX10_takeBack_123 := dkg_X10_16.2.2.2.1
def dX10_takeBack_126 := dkg_X10_16.2.2.2.2.1
def dX10_takeBack_127 := dkg_X10_16.2.2.2.2.2.1
def dX10_takeBack_130 := dkg_X10_16.2.2.2.2.2.2.1
def dX10_takeBack_131 := dkg_X10_16.2.2.2.2.2.2.2.1
def dX10_takeBack_134 := dkg_X10_16.2.2.2.2.2.2.2.2.1
def dX10_takeBack_137 := dkg_X10_16.2.2.2.2.2.2.2.2.2.1
theorem dkg_X10_17 : dkp cX10_takeBack [(140, .aload_n 1, 1), (141, .getfield 77, 3), (144, .ifCond .lt 27, 3), (147, .aload_n 1, 1), (148, .getfield 77, 3), (151, .iconst 3, 1), (152, .if_icmp .gt 19, 3), (155, .aload_n 1, 1), (156, .getfield 66, 3), (159, .getfield 85, 3)] := dkf (by decide +kernel)
def dX10_takeBack_140 := dkg_X10_17.1
def dX10_takeBack_141 := dkg_X10_17.2.1
def dX10_takeBack_144 := dkg_X10_17.2.2.1
def dX10_takeBack_147 := dkg_X10_17.2.2.2.1
def dX10_takeBack_148 := dkg_X10_17.2.2.2.2.1
def dX10_takeBack_151 := dkg_X10_17.2.2.2.2.2.1
def dX10_takeBack_152 := dkg_X10_17.2.2.2.2.2.2.1
def dX10_takeBack_155 := dkg_X10_17.2.2.2.2.2.2.2.1
def dX10_takeBack_156 := dkg_X10_17.2.2.2.2.2.2.2.2.1
def dX10_takeBack_159 := dkg_X10_17.2.2.2.2.2.2.2.2.2.1
theorem dkg_X10_18 : dkp cX10_takeBack [(162, .aload_n 1, 1), (163, .getfield 77, 3), (166, .aload_n 1, 1), (167, .getfield 73, 3), (170, .aastore, 1), (171, .iconst 1, 1), (172, .ireturn, 1)] := dkf (by decide +kernel)
def dX10_takeBack_162 := dkg_X10_18.1
def dX10_takeBack_163 := dkg_X10_18.2.1
def dX10_takeBack_166 := dkg_X10_18.2.2.1
def dX10_takeBack_167 := dkg_X10_18.2.2.2.1
def dX10_takeBack_170 := dkg_X10_18.2.2.2.2.1
def dX10_takeBack_171 := dkg_X10_18.2.2.2.2.2.1
def dX10_takeBack_172 := dkg_X10_18.2.2.2.2.2.2.1
theorem dkg_X10_19 : dkp cX10_takeBack [(36, .tableswitch 104 0 3 #[32, 62, 73, 83], 32)] := dkq (by decide +kernel)
def dX10_takeBack_36 := dkg_X10_19.1
end
