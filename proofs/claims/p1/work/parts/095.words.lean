theorem w1_24t : (Jvm.Cond.classLink "DotPressLaw" (7 : Nat) "DotPress") ∈ lw_tbl := mT1 (List.mem_of_getElem? (i := 24) rfl)
theorem w1_24 : (Jvm.Cond.classLink "DotPressLaw" (7 : Nat) "DotPress") ∈ lw_g := lw_in w1_24t rfl
theorem w1_25t : (Jvm.Cond.instantiable "DotPress" (19 : Nat)) ∈ lw_tbl := mT1 (List.mem_of_getElem? (i := 25) rfl)
theorem w1_25 : (Jvm.Cond.instantiable "DotPress" (19 : Nat)) ∈ lw_g := lw_in w1_25t rfl
theorem w1_26t : (Jvm.Cond.methodLink "DotPressLaw" (9 : Nat) ({ cls := "DotPress", name := "<init>", desc := "()V" } : Jvm.MethodName)) ∈ lw_tbl := mT1 (List.mem_of_getElem? (i := 26) rfl)
theorem w1_26 : (Jvm.Cond.methodLink "DotPressLaw" (9 : Nat) ({ cls := "DotPress", name := "<init>", desc := "()V" } : Jvm.MethodName)) ∈ lw_g := lw_in w1_26t rfl
theorem w1_27t : (Jvm.Cond.instanceMethod ({ cls := "DotPress", name := "<init>", desc := "()V" } : Jvm.MethodName)) ∈ lw_tbl := mT1 (List.mem_of_getElem? (i := 27) rfl)
theorem w1_27 : (Jvm.Cond.instanceMethod ({ cls := "DotPress", name := "<init>", desc := "()V" } : Jvm.MethodName)) ∈ lw_g := lw_in w1_27t rfl
theorem w1_77t : (Jvm.Cond.laysStatic "java/util/ArrayList" "DEFAULTCAPACITY_EMPTY_ELEMENTDATA" "[Ljava/lang/Object;") ∈ lw_tbl := mT1 (List.mem_of_getElem? (i := 77) rfl)
theorem w2_102t : (Jvm.Cond.methodLink "DotPressLaw" (13 : Nat) ({ cls := "DotPress", name := "feed", desc := "(IIIII)I" } : Jvm.MethodName)) ∈ lw_tbl := mT2 (List.mem_of_getElem? (i := 102) rfl)
theorem w2_102 : (Jvm.Cond.methodLink "DotPressLaw" (13 : Nat) ({ cls := "DotPress", name := "feed", desc := "(IIIII)I" } : Jvm.MethodName)) ∈ lw_g := lw_in w2_102t rfl
theorem w2_103t : (Jvm.Cond.instanceMethod ({ cls := "DotPress", name := "feed", desc := "(IIIII)I" } : Jvm.MethodName)) ∈ lw_tbl := mT2 (List.mem_of_getElem? (i := 103) rfl)
theorem w2_103 : (Jvm.Cond.instanceMethod ({ cls := "DotPress", name := "feed", desc := "(IIIII)I" } : Jvm.MethodName)) ∈ lw_g := lw_in w2_103t rfl
theorem w2_104t : (Jvm.Cond.selects "DotPress" ({ cls := "DotPress", name := "feed", desc := "(IIIII)I" } : Jvm.MethodName) ({ cls := "DotPress", name := "feed", desc := "(IIIII)I" } : Jvm.MethodName)) ∈ lw_tbl := mT2 (List.mem_of_getElem? (i := 104) rfl)
theorem w2_104 : (Jvm.Cond.selects "DotPress" ({ cls := "DotPress", name := "feed", desc := "(IIIII)I" } : Jvm.MethodName) ({ cls := "DotPress", name := "feed", desc := "(IIIII)I" } : Jvm.MethodName)) ∈ lw_g := lw_in w2_104t rfl
theorem w2_138t : (Jvm.Cond.methodLink "DotPressLaw" (18 : Nat) ({ cls := "DotPress", name := "end", desc := "(I)I" } : Jvm.MethodName)) ∈ lw_tbl := mT2 (List.mem_of_getElem? (i := 138) rfl)
theorem w2_138 : (Jvm.Cond.methodLink "DotPressLaw" (18 : Nat) ({ cls := "DotPress", name := "end", desc := "(I)I" } : Jvm.MethodName)) ∈ lw_g := lw_in w2_138t rfl
theorem w2_139t : (Jvm.Cond.instanceMethod ({ cls := "DotPress", name := "end", desc := "(I)I" } : Jvm.MethodName)) ∈ lw_tbl := mT2 (List.mem_of_getElem? (i := 139) rfl)
theorem w2_139 : (Jvm.Cond.instanceMethod ({ cls := "DotPress", name := "end", desc := "(I)I" } : Jvm.MethodName)) ∈ lw_g := lw_in w2_139t rfl
theorem w2_140t : (Jvm.Cond.selects "DotPress" ({ cls := "DotPress", name := "end", desc := "(I)I" } : Jvm.MethodName) ({ cls := "DotPress", name := "end", desc := "(I)I" } : Jvm.MethodName)) ∈ lw_tbl := mT2 (List.mem_of_getElem? (i := 140) rfl)
theorem w2_140 : (Jvm.Cond.selects "DotPress" ({ cls := "DotPress", name := "end", desc := "(I)I" } : Jvm.MethodName) ({ cls := "DotPress", name := "end", desc := "(I)I" } : Jvm.MethodName)) ∈ lw_g := lw_in w2_140t rfl
theorem w2_150t : (Jvm.Cond.methodLink "DotPressLaw" (23 : Nat) ({ cls := "DotPress", name := "table", desc := "(III)I" } : Jvm.MethodName)) ∈ lw_tbl := mT2 (List.mem_of_getElem? (i := 150) rfl)
theorem w2_150 : (Jvm.Cond.methodLink "DotPressLaw" (23 : Nat) ({ cls := "DotPress", name := "table", desc := "(III)I" } : Jvm.MethodName)) ∈ lw_g := lw_in w2_150t rfl
theorem w2_151t : (Jvm.Cond.instanceMethod ({ cls := "DotPress", name := "table", desc := "(III)I" } : Jvm.MethodName)) ∈ lw_tbl := mT2 (List.mem_of_getElem? (i := 151) rfl)
theorem w2_151 : (Jvm.Cond.instanceMethod ({ cls := "DotPress", name := "table", desc := "(III)I" } : Jvm.MethodName)) ∈ lw_g := lw_in w2_151t rfl
theorem w2_152t : (Jvm.Cond.selects "DotPress" ({ cls := "DotPress", name := "table", desc := "(III)I" } : Jvm.MethodName) ({ cls := "DotPress", name := "table", desc := "(III)I" } : Jvm.MethodName)) ∈ lw_tbl := mT2 (List.mem_of_getElem? (i := 152) rfl)
theorem w2_152 : (Jvm.Cond.selects "DotPress" ({ cls := "DotPress", name := "table", desc := "(III)I" } : Jvm.MethodName) ({ cls := "DotPress", name := "table", desc := "(III)I" } : Jvm.MethodName)) ∈ lw_g := lw_in w2_152t rfl
theorem w3_101t : (Jvm.Cond.methodLink "DotPressLaw" (37 : Nat) ({ cls := "DotPress", name := "rule", desc := "(III)I" } : Jvm.MethodName)) ∈ lw_tbl := mT3 (List.mem_of_getElem? (i := 101) rfl)
theorem w3_101 : (Jvm.Cond.methodLink "DotPressLaw" (37 : Nat) ({ cls := "DotPress", name := "rule", desc := "(III)I" } : Jvm.MethodName)) ∈ lw_g := lw_in w3_101t rfl
theorem w3_102t : (Jvm.Cond.instanceMethod ({ cls := "DotPress", name := "rule", desc := "(III)I" } : Jvm.MethodName)) ∈ lw_tbl := mT3 (List.mem_of_getElem? (i := 102) rfl)
theorem w3_102 : (Jvm.Cond.instanceMethod ({ cls := "DotPress", name := "rule", desc := "(III)I" } : Jvm.MethodName)) ∈ lw_g := lw_in w3_102t rfl
theorem w3_103t : (Jvm.Cond.selects "DotPress" ({ cls := "DotPress", name := "rule", desc := "(III)I" } : Jvm.MethodName) ({ cls := "DotPress", name := "rule", desc := "(III)I" } : Jvm.MethodName)) ∈ lw_tbl := mT3 (List.mem_of_getElem? (i := 103) rfl)
theorem w3_103 : (Jvm.Cond.selects "DotPress" ({ cls := "DotPress", name := "rule", desc := "(III)I" } : Jvm.MethodName) ({ cls := "DotPress", name := "rule", desc := "(III)I" } : Jvm.MethodName)) ∈ lw_g := lw_in w3_103t rfl
theorem w3_126t : (Jvm.Cond.instantiable "DotPress$Row" (4 : Nat)) ∈ lw_tbl := mT3 (List.mem_of_getElem? (i := 126) rfl)
theorem w3_126 : (Jvm.Cond.instantiable "DotPress$Row" (4 : Nat)) ∈ lw_g := lw_in w3_126t rfl
theorem w3_170t : (Jvm.Cond.methodLink "DotPressLaw" (41 : Nat) ({ cls := "DotPress", name := "condition", desc := "(III)I" } : Jvm.MethodName)) ∈ lw_tbl := mT3 (List.mem_of_getElem? (i := 170) rfl)
theorem w3_170 : (Jvm.Cond.methodLink "DotPressLaw" (41 : Nat) ({ cls := "DotPress", name := "condition", desc := "(III)I" } : Jvm.MethodName)) ∈ lw_g := lw_in w3_170t rfl
theorem w3_171t : (Jvm.Cond.instanceMethod ({ cls := "DotPress", name := "condition", desc := "(III)I" } : Jvm.MethodName)) ∈ lw_tbl := mT3 (List.mem_of_getElem? (i := 171) rfl)
theorem w3_171 : (Jvm.Cond.instanceMethod ({ cls := "DotPress", name := "condition", desc := "(III)I" } : Jvm.MethodName)) ∈ lw_g := lw_in w3_171t rfl
theorem w3_172t : (Jvm.Cond.selects "DotPress" ({ cls := "DotPress", name := "condition", desc := "(III)I" } : Jvm.MethodName) ({ cls := "DotPress", name := "condition", desc := "(III)I" } : Jvm.MethodName)) ∈ lw_tbl := mT3 (List.mem_of_getElem? (i := 172) rfl)
theorem w3_172 : (Jvm.Cond.selects "DotPress" ({ cls := "DotPress", name := "condition", desc := "(III)I" } : Jvm.MethodName) ({ cls := "DotPress", name := "condition", desc := "(III)I" } : Jvm.MethodName)) ∈ lw_g := lw_in w3_172t rfl
theorem w3_175t : (Jvm.Cond.methodLink "DotPressLaw" (45 : Nat) ({ cls := "DotPress", name := "indicator", desc := "(II)I" } : Jvm.MethodName)) ∈ lw_tbl := mT3 (List.mem_of_getElem? (i := 175) rfl)
theorem w3_175 : (Jvm.Cond.methodLink "DotPressLaw" (45 : Nat) ({ cls := "DotPress", name := "indicator", desc := "(II)I" } : Jvm.MethodName)) ∈ lw_g := lw_in w3_175t rfl
theorem w3_176t : (Jvm.Cond.instanceMethod ({ cls := "DotPress", name := "indicator", desc := "(II)I" } : Jvm.MethodName)) ∈ lw_tbl := mT3 (List.mem_of_getElem? (i := 176) rfl)
theorem w3_176 : (Jvm.Cond.instanceMethod ({ cls := "DotPress", name := "indicator", desc := "(II)I" } : Jvm.MethodName)) ∈ lw_g := lw_in w3_176t rfl
theorem w3_177t : (Jvm.Cond.selects "DotPress" ({ cls := "DotPress", name := "indicator", desc := "(II)I" } : Jvm.MethodName) ({ cls := "DotPress", name := "indicator", desc := "(II)I" } : Jvm.MethodName)) ∈ lw_tbl := mT3 (List.mem_of_getElem? (i := 177) rfl)
theorem w3_177 : (Jvm.Cond.selects "DotPress" ({ cls := "DotPress", name := "indicator", desc := "(II)I" } : Jvm.MethodName) ({ cls := "DotPress", name := "indicator", desc := "(II)I" } : Jvm.MethodName)) ∈ lw_g := lw_in w3_177t rfl
theorem w3_187t : (Jvm.Cond.methodLink "DotPressLaw" (49 : Nat) ({ cls := "DotPress", name := "undo", desc := "()I" } : Jvm.MethodName)) ∈ lw_tbl := mT3 (List.mem_of_getElem? (i := 187) rfl)
theorem w3_187 : (Jvm.Cond.methodLink "DotPressLaw" (49 : Nat) ({ cls := "DotPress", name := "undo", desc := "()I" } : Jvm.MethodName)) ∈ lw_g := lw_in w3_187t rfl
theorem w3_188t : (Jvm.Cond.instanceMethod ({ cls := "DotPress", name := "undo", desc := "()I" } : Jvm.MethodName)) ∈ lw_tbl := mT3 (List.mem_of_getElem? (i := 188) rfl)
theorem w3_188 : (Jvm.Cond.instanceMethod ({ cls := "DotPress", name := "undo", desc := "()I" } : Jvm.MethodName)) ∈ lw_g := lw_in w3_188t rfl
theorem w3_189t : (Jvm.Cond.selects "DotPress" ({ cls := "DotPress", name := "undo", desc := "()I" } : Jvm.MethodName) ({ cls := "DotPress", name := "undo", desc := "()I" } : Jvm.MethodName)) ∈ lw_tbl := mT3 (List.mem_of_getElem? (i := 189) rfl)
theorem w3_189 : (Jvm.Cond.selects "DotPress" ({ cls := "DotPress", name := "undo", desc := "()I" } : Jvm.MethodName) ({ cls := "DotPress", name := "undo", desc := "()I" } : Jvm.MethodName)) ∈ lw_g := lw_in w3_189t rfl
theorem w3_207t : (Jvm.Cond.methodLink "DotPressLaw" (54 : Nat) ({ cls := "DotPress", name := "text", desc := "()I" } : Jvm.MethodName)) ∈ lw_tbl := mT3 (List.mem_of_getElem? (i := 207) rfl)
theorem w3_207 : (Jvm.Cond.methodLink "DotPressLaw" (54 : Nat) ({ cls := "DotPress", name := "text", desc := "()I" } : Jvm.MethodName)) ∈ lw_g := lw_in w3_207t rfl
theorem w3_208t : (Jvm.Cond.instanceMethod ({ cls := "DotPress", name := "text", desc := "()I" } : Jvm.MethodName)) ∈ lw_tbl := mT3 (List.mem_of_getElem? (i := 208) rfl)
theorem w3_208 : (Jvm.Cond.instanceMethod ({ cls := "DotPress", name := "text", desc := "()I" } : Jvm.MethodName)) ∈ lw_g := lw_in w3_208t rfl
theorem w3_209t : (Jvm.Cond.selects "DotPress" ({ cls := "DotPress", name := "text", desc := "()I" } : Jvm.MethodName) ({ cls := "DotPress", name := "text", desc := "()I" } : Jvm.MethodName)) ∈ lw_tbl := mT3 (List.mem_of_getElem? (i := 209) rfl)
theorem w3_209 : (Jvm.Cond.selects "DotPress" ({ cls := "DotPress", name := "text", desc := "()I" } : Jvm.MethodName) ({ cls := "DotPress", name := "text", desc := "()I" } : Jvm.MethodName)) ∈ lw_g := lw_in w3_209t rfl
theorem w3_221t : (Jvm.Cond.methodLink "DotPressLaw" (58 : Nat) ({ cls := "DotPress", name := "measure", desc := "(III)I" } : Jvm.MethodName)) ∈ lw_tbl := mT3 (List.mem_of_getElem? (i := 221) rfl)
theorem w3_221 : (Jvm.Cond.methodLink "DotPressLaw" (58 : Nat) ({ cls := "DotPress", name := "measure", desc := "(III)I" } : Jvm.MethodName)) ∈ lw_g := lw_in w3_221t rfl
theorem w3_222t : (Jvm.Cond.instanceMethod ({ cls := "DotPress", name := "measure", desc := "(III)I" } : Jvm.MethodName)) ∈ lw_tbl := mT3 (List.mem_of_getElem? (i := 222) rfl)
theorem w3_222 : (Jvm.Cond.instanceMethod ({ cls := "DotPress", name := "measure", desc := "(III)I" } : Jvm.MethodName)) ∈ lw_g := lw_in w3_222t rfl
theorem w3_223t : (Jvm.Cond.selects "DotPress" ({ cls := "DotPress", name := "measure", desc := "(III)I" } : Jvm.MethodName) ({ cls := "DotPress", name := "measure", desc := "(III)I" } : Jvm.MethodName)) ∈ lw_tbl := mT3 (List.mem_of_getElem? (i := 223) rfl)
theorem w3_223 : (Jvm.Cond.selects "DotPress" ({ cls := "DotPress", name := "measure", desc := "(III)I" } : Jvm.MethodName) ({ cls := "DotPress", name := "measure", desc := "(III)I" } : Jvm.MethodName)) ∈ lw_g := lw_in w3_223t rfl
theorem w3_225t : (Jvm.Cond.methodLink "DotPressLaw" (62 : Nat) ({ cls := "DotPress", name := "set", desc := "(I)I" } : Jvm.MethodName)) ∈ lw_tbl := mT3 (List.mem_of_getElem? (i := 225) rfl)
theorem w3_225 : (Jvm.Cond.methodLink "DotPressLaw" (62 : Nat) ({ cls := "DotPress", name := "set", desc := "(I)I" } : Jvm.MethodName)) ∈ lw_g := lw_in w3_225t rfl
theorem w3_226t : (Jvm.Cond.instanceMethod ({ cls := "DotPress", name := "set", desc := "(I)I" } : Jvm.MethodName)) ∈ lw_tbl := mT3 (List.mem_of_getElem? (i := 226) rfl)
theorem w3_226 : (Jvm.Cond.instanceMethod ({ cls := "DotPress", name := "set", desc := "(I)I" } : Jvm.MethodName)) ∈ lw_g := lw_in w3_226t rfl
theorem w3_227t : (Jvm.Cond.selects "DotPress" ({ cls := "DotPress", name := "set", desc := "(I)I" } : Jvm.MethodName) ({ cls := "DotPress", name := "set", desc := "(I)I" } : Jvm.MethodName)) ∈ lw_tbl := mT3 (List.mem_of_getElem? (i := 227) rfl)
theorem w3_227 : (Jvm.Cond.selects "DotPress" ({ cls := "DotPress", name := "set", desc := "(I)I" } : Jvm.MethodName) ({ cls := "DotPress", name := "set", desc := "(I)I" } : Jvm.MethodName)) ∈ lw_g := lw_in w3_227t rfl
theorem w3_89t : (Jvm.Cond.methodLink "DotPressLaw" (28 : Nat) ({ cls := "DotPress", name := "join", desc := "(II)I" } : Jvm.MethodName)) ∈ lw_tbl := mT3 (List.mem_of_getElem? (i := 89) rfl)
theorem w3_89 : (Jvm.Cond.methodLink "DotPressLaw" (28 : Nat) ({ cls := "DotPress", name := "join", desc := "(II)I" } : Jvm.MethodName)) ∈ lw_g := lw_in w3_89t rfl
theorem w3_90t : (Jvm.Cond.instanceMethod ({ cls := "DotPress", name := "join", desc := "(II)I" } : Jvm.MethodName)) ∈ lw_tbl := mT3 (List.mem_of_getElem? (i := 90) rfl)
theorem w3_90 : (Jvm.Cond.instanceMethod ({ cls := "DotPress", name := "join", desc := "(II)I" } : Jvm.MethodName)) ∈ lw_g := lw_in w3_90t rfl
theorem w3_91t : (Jvm.Cond.selects "DotPress" ({ cls := "DotPress", name := "join", desc := "(II)I" } : Jvm.MethodName) ({ cls := "DotPress", name := "join", desc := "(II)I" } : Jvm.MethodName)) ∈ lw_tbl := mT3 (List.mem_of_getElem? (i := 91) rfl)
theorem w3_91 : (Jvm.Cond.selects "DotPress" ({ cls := "DotPress", name := "join", desc := "(II)I" } : Jvm.MethodName) ({ cls := "DotPress", name := "join", desc := "(II)I" } : Jvm.MethodName)) ∈ lw_g := lw_in w3_91t rfl
theorem w3_94t : (Jvm.Cond.methodLink "DotPressLaw" (33 : Nat) ({ cls := "DotPress", name := "drop", desc := "(I)I" } : Jvm.MethodName)) ∈ lw_tbl := mT3 (List.mem_of_getElem? (i := 94) rfl)
theorem w3_94 : (Jvm.Cond.methodLink "DotPressLaw" (33 : Nat) ({ cls := "DotPress", name := "drop", desc := "(I)I" } : Jvm.MethodName)) ∈ lw_g := lw_in w3_94t rfl
theorem w3_95t : (Jvm.Cond.instanceMethod ({ cls := "DotPress", name := "drop", desc := "(I)I" } : Jvm.MethodName)) ∈ lw_tbl := mT3 (List.mem_of_getElem? (i := 95) rfl)
theorem w3_95 : (Jvm.Cond.instanceMethod ({ cls := "DotPress", name := "drop", desc := "(I)I" } : Jvm.MethodName)) ∈ lw_g := lw_in w3_95t rfl
theorem w3_96t : (Jvm.Cond.selects "DotPress" ({ cls := "DotPress", name := "drop", desc := "(I)I" } : Jvm.MethodName) ({ cls := "DotPress", name := "drop", desc := "(I)I" } : Jvm.MethodName)) ∈ lw_tbl := mT3 (List.mem_of_getElem? (i := 96) rfl)
theorem w3_96 : (Jvm.Cond.selects "DotPress" ({ cls := "DotPress", name := "drop", desc := "(I)I" } : Jvm.MethodName) ({ cls := "DotPress", name := "drop", desc := "(I)I" } : Jvm.MethodName)) ∈ lw_g := lw_in w3_96t rfl
theorem w4_164t : (Jvm.Cond.methodLink "DotPressLaw" (66 : Nat) ({ cls := "DotPress", name := "head", desc := "(I)I" } : Jvm.MethodName)) ∈ lw_tbl := mT4 (List.mem_of_getElem? (i := 164) rfl)
theorem w4_164 : (Jvm.Cond.methodLink "DotPressLaw" (66 : Nat) ({ cls := "DotPress", name := "head", desc := "(I)I" } : Jvm.MethodName)) ∈ lw_g := lw_in w4_164t rfl
theorem w4_165t : (Jvm.Cond.instanceMethod ({ cls := "DotPress", name := "head", desc := "(I)I" } : Jvm.MethodName)) ∈ lw_tbl := mT4 (List.mem_of_getElem? (i := 165) rfl)
theorem w4_165 : (Jvm.Cond.instanceMethod ({ cls := "DotPress", name := "head", desc := "(I)I" } : Jvm.MethodName)) ∈ lw_g := lw_in w4_165t rfl
theorem w4_166t : (Jvm.Cond.selects "DotPress" ({ cls := "DotPress", name := "head", desc := "(I)I" } : Jvm.MethodName) ({ cls := "DotPress", name := "head", desc := "(I)I" } : Jvm.MethodName)) ∈ lw_tbl := mT4 (List.mem_of_getElem? (i := 166) rfl)
theorem w4_166 : (Jvm.Cond.selects "DotPress" ({ cls := "DotPress", name := "head", desc := "(I)I" } : Jvm.MethodName) ({ cls := "DotPress", name := "head", desc := "(I)I" } : Jvm.MethodName)) ∈ lw_g := lw_in w4_166t rfl
theorem w4_170t : (Jvm.Cond.methodLink "DotPressLaw" (70 : Nat) ({ cls := "DotPress", name := "lines", desc := "()I" } : Jvm.MethodName)) ∈ lw_tbl := mT4 (List.mem_of_getElem? (i := 170) rfl)
theorem w4_170 : (Jvm.Cond.methodLink "DotPressLaw" (70 : Nat) ({ cls := "DotPress", name := "lines", desc := "()I" } : Jvm.MethodName)) ∈ lw_g := lw_in w4_170t rfl
theorem w4_171t : (Jvm.Cond.instanceMethod ({ cls := "DotPress", name := "lines", desc := "()I" } : Jvm.MethodName)) ∈ lw_tbl := mT4 (List.mem_of_getElem? (i := 171) rfl)
theorem w4_171 : (Jvm.Cond.instanceMethod ({ cls := "DotPress", name := "lines", desc := "()I" } : Jvm.MethodName)) ∈ lw_g := lw_in w4_171t rfl
theorem w4_172t : (Jvm.Cond.selects "DotPress" ({ cls := "DotPress", name := "lines", desc := "()I" } : Jvm.MethodName) ({ cls := "DotPress", name := "lines", desc := "()I" } : Jvm.MethodName)) ∈ lw_tbl := mT4 (List.mem_of_getElem? (i := 172) rfl)
theorem w4_172 : (Jvm.Cond.selects "DotPress" ({ cls := "DotPress", name := "lines", desc := "()I" } : Jvm.MethodName) ({ cls := "DotPress", name := "lines", desc := "()I" } : Jvm.MethodName)) ∈ lw_g := lw_in w4_172t rfl
theorem w4_174t : (Jvm.Cond.methodLink "DotPressLaw" (74 : Nat) ({ cls := "DotPress", name := "pages", desc := "()I" } : Jvm.MethodName)) ∈ lw_tbl := mT4 (List.mem_of_getElem? (i := 174) rfl)
theorem w4_174 : (Jvm.Cond.methodLink "DotPressLaw" (74 : Nat) ({ cls := "DotPress", name := "pages", desc := "()I" } : Jvm.MethodName)) ∈ lw_g := lw_in w4_174t rfl
theorem w4_186t : (Jvm.Cond.methodLink "DotPressLaw" (78 : Nat) ({ cls := "DotPress", name := "length", desc := "(I)I" } : Jvm.MethodName)) ∈ lw_tbl := mT4 (List.mem_of_getElem? (i := 186) rfl)
theorem w4_186 : (Jvm.Cond.methodLink "DotPressLaw" (78 : Nat) ({ cls := "DotPress", name := "length", desc := "(I)I" } : Jvm.MethodName)) ∈ lw_g := lw_in w4_186t rfl
theorem w4_187t : (Jvm.Cond.instanceMethod ({ cls := "DotPress", name := "length", desc := "(I)I" } : Jvm.MethodName)) ∈ lw_tbl := mT4 (List.mem_of_getElem? (i := 187) rfl)
theorem w4_187 : (Jvm.Cond.instanceMethod ({ cls := "DotPress", name := "length", desc := "(I)I" } : Jvm.MethodName)) ∈ lw_g := lw_in w4_187t rfl
theorem w4_188t : (Jvm.Cond.selects "DotPress" ({ cls := "DotPress", name := "length", desc := "(I)I" } : Jvm.MethodName) ({ cls := "DotPress", name := "length", desc := "(I)I" } : Jvm.MethodName)) ∈ lw_tbl := mT4 (List.mem_of_getElem? (i := 188) rfl)
theorem w4_188 : (Jvm.Cond.selects "DotPress" ({ cls := "DotPress", name := "length", desc := "(I)I" } : Jvm.MethodName) ({ cls := "DotPress", name := "length", desc := "(I)I" } : Jvm.MethodName)) ∈ lw_g := lw_in w4_188t rfl
theorem w4_198t : (Jvm.Cond.methodLink "DotPressLaw" (82 : Nat) ({ cls := "DotPress", name := "cell", desc := "(II)I" } : Jvm.MethodName)) ∈ lw_tbl := mT4 (List.mem_of_getElem? (i := 198) rfl)
theorem w4_198 : (Jvm.Cond.methodLink "DotPressLaw" (82 : Nat) ({ cls := "DotPress", name := "cell", desc := "(II)I" } : Jvm.MethodName)) ∈ lw_g := lw_in w4_198t rfl
theorem w4_199t : (Jvm.Cond.instanceMethod ({ cls := "DotPress", name := "cell", desc := "(II)I" } : Jvm.MethodName)) ∈ lw_tbl := mT4 (List.mem_of_getElem? (i := 199) rfl)
theorem w4_199 : (Jvm.Cond.instanceMethod ({ cls := "DotPress", name := "cell", desc := "(II)I" } : Jvm.MethodName)) ∈ lw_g := lw_in w4_199t rfl
theorem w4_200t : (Jvm.Cond.selects "DotPress" ({ cls := "DotPress", name := "cell", desc := "(II)I" } : Jvm.MethodName) ({ cls := "DotPress", name := "cell", desc := "(II)I" } : Jvm.MethodName)) ∈ lw_tbl := mT4 (List.mem_of_getElem? (i := 200) rfl)
theorem w4_200 : (Jvm.Cond.selects "DotPress" ({ cls := "DotPress", name := "cell", desc := "(II)I" } : Jvm.MethodName) ({ cls := "DotPress", name := "cell", desc := "(II)I" } : Jvm.MethodName)) ∈ lw_g := lw_in w4_200t rfl
theorem w4_206t : (Jvm.Cond.methodLink "DotPressLaw" (86 : Nat) ({ cls := "DotPress", name := "page", desc := "(III)I" } : Jvm.MethodName)) ∈ lw_tbl := mT4 (List.mem_of_getElem? (i := 206) rfl)
theorem w4_206 : (Jvm.Cond.methodLink "DotPressLaw" (86 : Nat) ({ cls := "DotPress", name := "page", desc := "(III)I" } : Jvm.MethodName)) ∈ lw_g := lw_in w4_206t rfl
theorem w4_207t : (Jvm.Cond.instanceMethod ({ cls := "DotPress", name := "page", desc := "(III)I" } : Jvm.MethodName)) ∈ lw_tbl := mT4 (List.mem_of_getElem? (i := 207) rfl)
theorem w4_207 : (Jvm.Cond.instanceMethod ({ cls := "DotPress", name := "page", desc := "(III)I" } : Jvm.MethodName)) ∈ lw_g := lw_in w4_207t rfl
theorem w4_208t : (Jvm.Cond.selects "DotPress" ({ cls := "DotPress", name := "page", desc := "(III)I" } : Jvm.MethodName) ({ cls := "DotPress", name := "page", desc := "(III)I" } : Jvm.MethodName)) ∈ lw_tbl := mT4 (List.mem_of_getElem? (i := 208) rfl)
theorem w4_208 : (Jvm.Cond.selects "DotPress" ({ cls := "DotPress", name := "page", desc := "(III)I" } : Jvm.MethodName) ({ cls := "DotPress", name := "page", desc := "(III)I" } : Jvm.MethodName)) ∈ lw_g := lw_in w4_208t rfl
theorem w4_211t : (Jvm.Cond.methodLink "DotPressLaw" (90 : Nat) ({ cls := "DotPress", name := "cut", desc := "(II)I" } : Jvm.MethodName)) ∈ lw_tbl := mT4 (List.mem_of_getElem? (i := 211) rfl)
theorem w4_211 : (Jvm.Cond.methodLink "DotPressLaw" (90 : Nat) ({ cls := "DotPress", name := "cut", desc := "(II)I" } : Jvm.MethodName)) ∈ lw_g := lw_in w4_211t rfl
theorem w4_212t : (Jvm.Cond.instanceMethod ({ cls := "DotPress", name := "cut", desc := "(II)I" } : Jvm.MethodName)) ∈ lw_tbl := mT4 (List.mem_of_getElem? (i := 212) rfl)
theorem w4_212 : (Jvm.Cond.instanceMethod ({ cls := "DotPress", name := "cut", desc := "(II)I" } : Jvm.MethodName)) ∈ lw_g := lw_in w4_212t rfl
theorem w4_213t : (Jvm.Cond.selects "DotPress" ({ cls := "DotPress", name := "cut", desc := "(II)I" } : Jvm.MethodName) ({ cls := "DotPress", name := "cut", desc := "(II)I" } : Jvm.MethodName)) ∈ lw_tbl := mT4 (List.mem_of_getElem? (i := 213) rfl)
theorem w4_213 : (Jvm.Cond.selects "DotPress" ({ cls := "DotPress", name := "cut", desc := "(II)I" } : Jvm.MethodName) ({ cls := "DotPress", name := "cut", desc := "(II)I" } : Jvm.MethodName)) ∈ lw_g := lw_in w4_213t rfl
theorem w4_220t : (Jvm.Cond.methodLink "DotPressLaw" (94 : Nat) ({ cls := "DotPress", name := "lose", desc := "(I)I" } : Jvm.MethodName)) ∈ lw_tbl := mT4 (List.mem_of_getElem? (i := 220) rfl)
theorem w4_220 : (Jvm.Cond.methodLink "DotPressLaw" (94 : Nat) ({ cls := "DotPress", name := "lose", desc := "(I)I" } : Jvm.MethodName)) ∈ lw_g := lw_in w4_220t rfl
theorem w4_221t : (Jvm.Cond.instanceMethod ({ cls := "DotPress", name := "lose", desc := "(I)I" } : Jvm.MethodName)) ∈ lw_tbl := mT4 (List.mem_of_getElem? (i := 221) rfl)
theorem w4_221 : (Jvm.Cond.instanceMethod ({ cls := "DotPress", name := "lose", desc := "(I)I" } : Jvm.MethodName)) ∈ lw_g := lw_in w4_221t rfl
theorem w4_222t : (Jvm.Cond.selects "DotPress" ({ cls := "DotPress", name := "lose", desc := "(I)I" } : Jvm.MethodName) ({ cls := "DotPress", name := "lose", desc := "(I)I" } : Jvm.MethodName)) ∈ lw_tbl := mT4 (List.mem_of_getElem? (i := 222) rfl)
theorem w4_222 : (Jvm.Cond.selects "DotPress" ({ cls := "DotPress", name := "lose", desc := "(I)I" } : Jvm.MethodName) ({ cls := "DotPress", name := "lose", desc := "(I)I" } : Jvm.MethodName)) ∈ lw_g := lw_in w4_222t rfl
theorem w4_225t : (Jvm.Cond.methodLink "DotPressLaw" (98 : Nat) ({ cls := "DotPress", name := "copyRow", desc := "(IIIII)I" } : Jvm.MethodName)) ∈ lw_tbl := mT4 (List.mem_of_getElem? (i := 225) rfl)
theorem w4_225 : (Jvm.Cond.methodLink "DotPressLaw" (98 : Nat) ({ cls := "DotPress", name := "copyRow", desc := "(IIIII)I" } : Jvm.MethodName)) ∈ lw_g := lw_in w4_225t rfl
theorem w4_226t : (Jvm.Cond.instanceMethod ({ cls := "DotPress", name := "copyRow", desc := "(IIIII)I" } : Jvm.MethodName)) ∈ lw_tbl := mT4 (List.mem_of_getElem? (i := 226) rfl)
theorem w4_226 : (Jvm.Cond.instanceMethod ({ cls := "DotPress", name := "copyRow", desc := "(IIIII)I" } : Jvm.MethodName)) ∈ lw_g := lw_in w4_226t rfl
theorem w4_227t : (Jvm.Cond.selects "DotPress" ({ cls := "DotPress", name := "copyRow", desc := "(IIIII)I" } : Jvm.MethodName) ({ cls := "DotPress", name := "copyRow", desc := "(IIIII)I" } : Jvm.MethodName)) ∈ lw_tbl := mT4 (List.mem_of_getElem? (i := 227) rfl)
theorem w4_227 : (Jvm.Cond.selects "DotPress" ({ cls := "DotPress", name := "copyRow", desc := "(IIIII)I" } : Jvm.MethodName) ({ cls := "DotPress", name := "copyRow", desc := "(IIIII)I" } : Jvm.MethodName)) ∈ lw_g := lw_in w4_227t rfl
theorem w4_234t : (Jvm.Cond.methodLink "DotPressLaw" (102 : Nat) ({ cls := "DotPress", name := "copyLines", desc := "(III)I" } : Jvm.MethodName)) ∈ lw_tbl := mT4 (List.mem_of_getElem? (i := 234) rfl)
theorem w4_234 : (Jvm.Cond.methodLink "DotPressLaw" (102 : Nat) ({ cls := "DotPress", name := "copyLines", desc := "(III)I" } : Jvm.MethodName)) ∈ lw_g := lw_in w4_234t rfl
theorem w4_235t : (Jvm.Cond.instanceMethod ({ cls := "DotPress", name := "copyLines", desc := "(III)I" } : Jvm.MethodName)) ∈ lw_tbl := mT4 (List.mem_of_getElem? (i := 235) rfl)
theorem w4_235 : (Jvm.Cond.instanceMethod ({ cls := "DotPress", name := "copyLines", desc := "(III)I" } : Jvm.MethodName)) ∈ lw_g := lw_in w4_235t rfl
theorem w4_236t : (Jvm.Cond.selects "DotPress" ({ cls := "DotPress", name := "copyLines", desc := "(III)I" } : Jvm.MethodName) ({ cls := "DotPress", name := "copyLines", desc := "(III)I" } : Jvm.MethodName)) ∈ lw_tbl := mT4 (List.mem_of_getElem? (i := 236) rfl)
theorem w4_236 : (Jvm.Cond.selects "DotPress" ({ cls := "DotPress", name := "copyLines", desc := "(III)I" } : Jvm.MethodName) ({ cls := "DotPress", name := "copyLines", desc := "(III)I" } : Jvm.MethodName)) ∈ lw_g := lw_in w4_236t rfl
theorem w4_39t : (Jvm.Cond.instantiable "DotPress$Line" (3 : Nat)) ∈ lw_tbl := mT4 (List.mem_of_getElem? (i := 39) rfl)
theorem w4_39 : (Jvm.Cond.instantiable "DotPress$Line" (3 : Nat)) ∈ lw_g := lw_in w4_39t rfl
theorem w5_110t : (Jvm.Cond.methodLink "DotPressLaw" (122 : Nat) ({ cls := "DotPress", name := "letter", desc := "(I)I" } : Jvm.MethodName)) ∈ lw_tbl := mT5 (List.mem_of_getElem? (i := 110) rfl)
theorem w5_110 : (Jvm.Cond.methodLink "DotPressLaw" (122 : Nat) ({ cls := "DotPress", name := "letter", desc := "(I)I" } : Jvm.MethodName)) ∈ lw_g := lw_in w5_110t rfl
theorem w5_111t : (Jvm.Cond.instanceMethod ({ cls := "DotPress", name := "letter", desc := "(I)I" } : Jvm.MethodName)) ∈ lw_tbl := mT5 (List.mem_of_getElem? (i := 111) rfl)
theorem w5_111 : (Jvm.Cond.instanceMethod ({ cls := "DotPress", name := "letter", desc := "(I)I" } : Jvm.MethodName)) ∈ lw_g := lw_in w5_111t rfl
theorem w5_112t : (Jvm.Cond.selects "DotPress" ({ cls := "DotPress", name := "letter", desc := "(I)I" } : Jvm.MethodName) ({ cls := "DotPress", name := "letter", desc := "(I)I" } : Jvm.MethodName)) ∈ lw_tbl := mT5 (List.mem_of_getElem? (i := 112) rfl)
theorem w5_112 : (Jvm.Cond.selects "DotPress" ({ cls := "DotPress", name := "letter", desc := "(I)I" } : Jvm.MethodName) ({ cls := "DotPress", name := "letter", desc := "(I)I" } : Jvm.MethodName)) ∈ lw_g := lw_in w5_112t rfl
theorem w5_114t : (Jvm.Cond.methodLink "DotPressLaw" (126 : Nat) ({ cls := "DotPress", name := "failed", desc := "(IZ)I" } : Jvm.MethodName)) ∈ lw_tbl := mT5 (List.mem_of_getElem? (i := 114) rfl)
theorem w5_114 : (Jvm.Cond.methodLink "DotPressLaw" (126 : Nat) ({ cls := "DotPress", name := "failed", desc := "(IZ)I" } : Jvm.MethodName)) ∈ lw_g := lw_in w5_114t rfl
theorem w5_115t : (Jvm.Cond.instanceMethod ({ cls := "DotPress", name := "failed", desc := "(IZ)I" } : Jvm.MethodName)) ∈ lw_tbl := mT5 (List.mem_of_getElem? (i := 115) rfl)
theorem w5_115 : (Jvm.Cond.instanceMethod ({ cls := "DotPress", name := "failed", desc := "(IZ)I" } : Jvm.MethodName)) ∈ lw_g := lw_in w5_115t rfl
theorem w5_116t : (Jvm.Cond.selects "DotPress" ({ cls := "DotPress", name := "failed", desc := "(IZ)I" } : Jvm.MethodName) ({ cls := "DotPress", name := "failed", desc := "(IZ)I" } : Jvm.MethodName)) ∈ lw_tbl := mT5 (List.mem_of_getElem? (i := 116) rfl)
theorem w5_116 : (Jvm.Cond.selects "DotPress" ({ cls := "DotPress", name := "failed", desc := "(IZ)I" } : Jvm.MethodName) ({ cls := "DotPress", name := "failed", desc := "(IZ)I" } : Jvm.MethodName)) ∈ lw_g := lw_in w5_116t rfl
theorem w5_119t : (Jvm.Cond.methodLink "DotPressLaw" (131 : Nat) ({ cls := "DotPress", name := "readings", desc := "(III)I" } : Jvm.MethodName)) ∈ lw_tbl := mT5 (List.mem_of_getElem? (i := 119) rfl)
theorem w5_119 : (Jvm.Cond.methodLink "DotPressLaw" (131 : Nat) ({ cls := "DotPress", name := "readings", desc := "(III)I" } : Jvm.MethodName)) ∈ lw_g := lw_in w5_119t rfl
theorem w5_120t : (Jvm.Cond.instanceMethod ({ cls := "DotPress", name := "readings", desc := "(III)I" } : Jvm.MethodName)) ∈ lw_tbl := mT5 (List.mem_of_getElem? (i := 120) rfl)
theorem w5_120 : (Jvm.Cond.instanceMethod ({ cls := "DotPress", name := "readings", desc := "(III)I" } : Jvm.MethodName)) ∈ lw_g := lw_in w5_120t rfl
theorem w5_121t : (Jvm.Cond.selects "DotPress" ({ cls := "DotPress", name := "readings", desc := "(III)I" } : Jvm.MethodName) ({ cls := "DotPress", name := "readings", desc := "(III)I" } : Jvm.MethodName)) ∈ lw_tbl := mT5 (List.mem_of_getElem? (i := 121) rfl)
theorem w5_121 : (Jvm.Cond.selects "DotPress" ({ cls := "DotPress", name := "readings", desc := "(III)I" } : Jvm.MethodName) ({ cls := "DotPress", name := "readings", desc := "(III)I" } : Jvm.MethodName)) ∈ lw_g := lw_in w5_121t rfl
theorem w5_166t : (Jvm.Cond.methodLink "DotPressLaw" (135 : Nat) ({ cls := "DotPress", name := "more", desc := "()I" } : Jvm.MethodName)) ∈ lw_tbl := mT5 (List.mem_of_getElem? (i := 166) rfl)
theorem w5_166 : (Jvm.Cond.methodLink "DotPressLaw" (135 : Nat) ({ cls := "DotPress", name := "more", desc := "()I" } : Jvm.MethodName)) ∈ lw_g := lw_in w5_166t rfl
theorem w5_167t : (Jvm.Cond.instanceMethod ({ cls := "DotPress", name := "more", desc := "()I" } : Jvm.MethodName)) ∈ lw_tbl := mT5 (List.mem_of_getElem? (i := 167) rfl)
theorem w5_167 : (Jvm.Cond.instanceMethod ({ cls := "DotPress", name := "more", desc := "()I" } : Jvm.MethodName)) ∈ lw_g := lw_in w5_167t rfl
theorem w5_168t : (Jvm.Cond.selects "DotPress" ({ cls := "DotPress", name := "more", desc := "()I" } : Jvm.MethodName) ({ cls := "DotPress", name := "more", desc := "()I" } : Jvm.MethodName)) ∈ lw_tbl := mT5 (List.mem_of_getElem? (i := 168) rfl)
theorem w5_168 : (Jvm.Cond.selects "DotPress" ({ cls := "DotPress", name := "more", desc := "()I" } : Jvm.MethodName) ({ cls := "DotPress", name := "more", desc := "()I" } : Jvm.MethodName)) ∈ lw_g := lw_in w5_168t rfl
theorem w5_170t : (Jvm.Cond.methodLink "DotPressLaw" (139 : Nat) ({ cls := "DotPress", name := "reading", desc := "(II)I" } : Jvm.MethodName)) ∈ lw_tbl := mT5 (List.mem_of_getElem? (i := 170) rfl)
theorem w5_170 : (Jvm.Cond.methodLink "DotPressLaw" (139 : Nat) ({ cls := "DotPress", name := "reading", desc := "(II)I" } : Jvm.MethodName)) ∈ lw_g := lw_in w5_170t rfl
theorem w5_171t : (Jvm.Cond.instanceMethod ({ cls := "DotPress", name := "reading", desc := "(II)I" } : Jvm.MethodName)) ∈ lw_tbl := mT5 (List.mem_of_getElem? (i := 171) rfl)
theorem w5_171 : (Jvm.Cond.instanceMethod ({ cls := "DotPress", name := "reading", desc := "(II)I" } : Jvm.MethodName)) ∈ lw_g := lw_in w5_171t rfl
theorem w5_172t : (Jvm.Cond.selects "DotPress" ({ cls := "DotPress", name := "reading", desc := "(II)I" } : Jvm.MethodName) ({ cls := "DotPress", name := "reading", desc := "(II)I" } : Jvm.MethodName)) ∈ lw_tbl := mT5 (List.mem_of_getElem? (i := 172) rfl)
theorem w5_172 : (Jvm.Cond.selects "DotPress" ({ cls := "DotPress", name := "reading", desc := "(II)I" } : Jvm.MethodName) ({ cls := "DotPress", name := "reading", desc := "(II)I" } : Jvm.MethodName)) ∈ lw_g := lw_in w5_172t rfl
theorem w5_179t : (Jvm.Cond.methodLink "DotPressLaw" (143 : Nat) ({ cls := "DotPress", name := "judge", desc := "(I)I" } : Jvm.MethodName)) ∈ lw_tbl := mT5 (List.mem_of_getElem? (i := 179) rfl)
theorem w5_179 : (Jvm.Cond.methodLink "DotPressLaw" (143 : Nat) ({ cls := "DotPress", name := "judge", desc := "(I)I" } : Jvm.MethodName)) ∈ lw_g := lw_in w5_179t rfl
theorem w5_180t : (Jvm.Cond.instanceMethod ({ cls := "DotPress", name := "judge", desc := "(I)I" } : Jvm.MethodName)) ∈ lw_tbl := mT5 (List.mem_of_getElem? (i := 180) rfl)
theorem w5_180 : (Jvm.Cond.instanceMethod ({ cls := "DotPress", name := "judge", desc := "(I)I" } : Jvm.MethodName)) ∈ lw_g := lw_in w5_180t rfl
theorem w5_181t : (Jvm.Cond.selects "DotPress" ({ cls := "DotPress", name := "judge", desc := "(I)I" } : Jvm.MethodName) ({ cls := "DotPress", name := "judge", desc := "(I)I" } : Jvm.MethodName)) ∈ lw_tbl := mT5 (List.mem_of_getElem? (i := 181) rfl)
theorem w5_181 : (Jvm.Cond.selects "DotPress" ({ cls := "DotPress", name := "judge", desc := "(I)I" } : Jvm.MethodName) ({ cls := "DotPress", name := "judge", desc := "(I)I" } : Jvm.MethodName)) ∈ lw_g := lw_in w5_181t rfl
theorem w5_2t : (Jvm.Cond.methodLink "DotPressLaw" (106 : Nat) ({ cls := "DotPress", name := "copied", desc := "()I" } : Jvm.MethodName)) ∈ lw_tbl := mT5 (List.mem_of_getElem? (i := 2) rfl)
theorem w5_2 : (Jvm.Cond.methodLink "DotPressLaw" (106 : Nat) ({ cls := "DotPress", name := "copied", desc := "()I" } : Jvm.MethodName)) ∈ lw_g := lw_in w5_2t rfl
theorem w5_20t : (Jvm.Cond.methodLink "DotPressLaw" (114 : Nat) ({ cls := "DotPress", name := "closed", desc := "()I" } : Jvm.MethodName)) ∈ lw_tbl := mT5 (List.mem_of_getElem? (i := 20) rfl)
theorem w5_20 : (Jvm.Cond.methodLink "DotPressLaw" (114 : Nat) ({ cls := "DotPress", name := "closed", desc := "()I" } : Jvm.MethodName)) ∈ lw_g := lw_in w5_20t rfl
theorem w5_206t : (Jvm.Cond.methodLink "DotPressLaw" (147 : Nat) ({ cls := "DotPress", name := "parts", desc := "(III)I" } : Jvm.MethodName)) ∈ lw_tbl := mT5 (List.mem_of_getElem? (i := 206) rfl)
theorem w5_206 : (Jvm.Cond.methodLink "DotPressLaw" (147 : Nat) ({ cls := "DotPress", name := "parts", desc := "(III)I" } : Jvm.MethodName)) ∈ lw_g := lw_in w5_206t rfl
theorem w5_207t : (Jvm.Cond.instanceMethod ({ cls := "DotPress", name := "parts", desc := "(III)I" } : Jvm.MethodName)) ∈ lw_tbl := mT5 (List.mem_of_getElem? (i := 207) rfl)
theorem w5_207 : (Jvm.Cond.instanceMethod ({ cls := "DotPress", name := "parts", desc := "(III)I" } : Jvm.MethodName)) ∈ lw_g := lw_in w5_207t rfl
theorem w5_208t : (Jvm.Cond.selects "DotPress" ({ cls := "DotPress", name := "parts", desc := "(III)I" } : Jvm.MethodName) ({ cls := "DotPress", name := "parts", desc := "(III)I" } : Jvm.MethodName)) ∈ lw_tbl := mT5 (List.mem_of_getElem? (i := 208) rfl)
theorem w5_208 : (Jvm.Cond.selects "DotPress" ({ cls := "DotPress", name := "parts", desc := "(III)I" } : Jvm.MethodName) ({ cls := "DotPress", name := "parts", desc := "(III)I" } : Jvm.MethodName)) ∈ lw_g := lw_in w5_208t rfl
theorem w5_21t : (Jvm.Cond.instanceMethod ({ cls := "DotPress", name := "closed", desc := "()I" } : Jvm.MethodName)) ∈ lw_tbl := mT5 (List.mem_of_getElem? (i := 21) rfl)
theorem w5_21 : (Jvm.Cond.instanceMethod ({ cls := "DotPress", name := "closed", desc := "()I" } : Jvm.MethodName)) ∈ lw_g := lw_in w5_21t rfl
theorem w5_211t : (Jvm.Cond.methodLink "DotPressLaw" (151 : Nat) ({ cls := "DotPress", name := "unreadable", desc := "(III)I" } : Jvm.MethodName)) ∈ lw_tbl := mT5 (List.mem_of_getElem? (i := 211) rfl)
theorem w5_211 : (Jvm.Cond.methodLink "DotPressLaw" (151 : Nat) ({ cls := "DotPress", name := "unreadable", desc := "(III)I" } : Jvm.MethodName)) ∈ lw_g := lw_in w5_211t rfl
theorem w5_212t : (Jvm.Cond.instanceMethod ({ cls := "DotPress", name := "unreadable", desc := "(III)I" } : Jvm.MethodName)) ∈ lw_tbl := mT5 (List.mem_of_getElem? (i := 212) rfl)
theorem w5_212 : (Jvm.Cond.instanceMethod ({ cls := "DotPress", name := "unreadable", desc := "(III)I" } : Jvm.MethodName)) ∈ lw_g := lw_in w5_212t rfl
theorem w5_213t : (Jvm.Cond.selects "DotPress" ({ cls := "DotPress", name := "unreadable", desc := "(III)I" } : Jvm.MethodName) ({ cls := "DotPress", name := "unreadable", desc := "(III)I" } : Jvm.MethodName)) ∈ lw_tbl := mT5 (List.mem_of_getElem? (i := 213) rfl)
theorem w5_213 : (Jvm.Cond.selects "DotPress" ({ cls := "DotPress", name := "unreadable", desc := "(III)I" } : Jvm.MethodName) ({ cls := "DotPress", name := "unreadable", desc := "(III)I" } : Jvm.MethodName)) ∈ lw_g := lw_in w5_213t rfl
theorem w5_22t : (Jvm.Cond.selects "DotPress" ({ cls := "DotPress", name := "closed", desc := "()I" } : Jvm.MethodName) ({ cls := "DotPress", name := "closed", desc := "()I" } : Jvm.MethodName)) ∈ lw_tbl := mT5 (List.mem_of_getElem? (i := 22) rfl)
theorem w5_22 : (Jvm.Cond.selects "DotPress" ({ cls := "DotPress", name := "closed", desc := "()I" } : Jvm.MethodName) ({ cls := "DotPress", name := "closed", desc := "()I" } : Jvm.MethodName)) ∈ lw_g := lw_in w5_22t rfl
theorem w5_24t : (Jvm.Cond.methodLink "DotPressLaw" (118 : Nat) ({ cls := "DotPress", name := "read", desc := "(III)I" } : Jvm.MethodName)) ∈ lw_tbl := mT5 (List.mem_of_getElem? (i := 24) rfl)
theorem w5_24 : (Jvm.Cond.methodLink "DotPressLaw" (118 : Nat) ({ cls := "DotPress", name := "read", desc := "(III)I" } : Jvm.MethodName)) ∈ lw_g := lw_in w5_24t rfl
theorem w5_25t : (Jvm.Cond.instanceMethod ({ cls := "DotPress", name := "read", desc := "(III)I" } : Jvm.MethodName)) ∈ lw_tbl := mT5 (List.mem_of_getElem? (i := 25) rfl)
theorem w5_25 : (Jvm.Cond.instanceMethod ({ cls := "DotPress", name := "read", desc := "(III)I" } : Jvm.MethodName)) ∈ lw_g := lw_in w5_25t rfl
theorem w5_26t : (Jvm.Cond.selects "DotPress" ({ cls := "DotPress", name := "read", desc := "(III)I" } : Jvm.MethodName) ({ cls := "DotPress", name := "read", desc := "(III)I" } : Jvm.MethodName)) ∈ lw_tbl := mT5 (List.mem_of_getElem? (i := 26) rfl)
theorem w5_26 : (Jvm.Cond.selects "DotPress" ({ cls := "DotPress", name := "read", desc := "(III)I" } : Jvm.MethodName) ({ cls := "DotPress", name := "read", desc := "(III)I" } : Jvm.MethodName)) ∈ lw_g := lw_in w5_26t rfl
theorem w5_3t : (Jvm.Cond.instanceMethod ({ cls := "DotPress", name := "copied", desc := "()I" } : Jvm.MethodName)) ∈ lw_tbl := mT5 (List.mem_of_getElem? (i := 3) rfl)
theorem w5_3 : (Jvm.Cond.instanceMethod ({ cls := "DotPress", name := "copied", desc := "()I" } : Jvm.MethodName)) ∈ lw_g := lw_in w5_3t rfl
theorem w5_4t : (Jvm.Cond.selects "DotPress" ({ cls := "DotPress", name := "copied", desc := "()I" } : Jvm.MethodName) ({ cls := "DotPress", name := "copied", desc := "()I" } : Jvm.MethodName)) ∈ lw_tbl := mT5 (List.mem_of_getElem? (i := 4) rfl)
theorem w5_4 : (Jvm.Cond.selects "DotPress" ({ cls := "DotPress", name := "copied", desc := "()I" } : Jvm.MethodName) ({ cls := "DotPress", name := "copied", desc := "()I" } : Jvm.MethodName)) ∈ lw_g := lw_in w5_4t rfl
theorem w5_6t : (Jvm.Cond.methodLink "DotPressLaw" (110 : Nat) ({ cls := "DotPress", name := "emboss", desc := "(II)I" } : Jvm.MethodName)) ∈ lw_tbl := mT5 (List.mem_of_getElem? (i := 6) rfl)
theorem w5_6 : (Jvm.Cond.methodLink "DotPressLaw" (110 : Nat) ({ cls := "DotPress", name := "emboss", desc := "(II)I" } : Jvm.MethodName)) ∈ lw_g := lw_in w5_6t rfl
theorem w5_7t : (Jvm.Cond.instanceMethod ({ cls := "DotPress", name := "emboss", desc := "(II)I" } : Jvm.MethodName)) ∈ lw_tbl := mT5 (List.mem_of_getElem? (i := 7) rfl)
theorem w5_7 : (Jvm.Cond.instanceMethod ({ cls := "DotPress", name := "emboss", desc := "(II)I" } : Jvm.MethodName)) ∈ lw_g := lw_in w5_7t rfl
theorem w5_8t : (Jvm.Cond.selects "DotPress" ({ cls := "DotPress", name := "emboss", desc := "(II)I" } : Jvm.MethodName) ({ cls := "DotPress", name := "emboss", desc := "(II)I" } : Jvm.MethodName)) ∈ lw_tbl := mT5 (List.mem_of_getElem? (i := 8) rfl)
theorem w5_8 : (Jvm.Cond.selects "DotPress" ({ cls := "DotPress", name := "emboss", desc := "(II)I" } : Jvm.MethodName) ({ cls := "DotPress", name := "emboss", desc := "(II)I" } : Jvm.MethodName)) ∈ lw_g := lw_in w5_8t rfl
theorem w6_20t : (Jvm.Cond.methodLink "DotPressLaw" (155 : Nat) ({ cls := "DotPress", name := "saved", desc := "(II)I" } : Jvm.MethodName)) ∈ lw_tbl := mT6 (List.mem_of_getElem? (i := 20) rfl)
theorem w6_20 : (Jvm.Cond.methodLink "DotPressLaw" (155 : Nat) ({ cls := "DotPress", name := "saved", desc := "(II)I" } : Jvm.MethodName)) ∈ lw_g := lw_in w6_20t rfl
theorem w6_21t : (Jvm.Cond.instanceMethod ({ cls := "DotPress", name := "saved", desc := "(II)I" } : Jvm.MethodName)) ∈ lw_tbl := mT6 (List.mem_of_getElem? (i := 21) rfl)
theorem w6_21 : (Jvm.Cond.instanceMethod ({ cls := "DotPress", name := "saved", desc := "(II)I" } : Jvm.MethodName)) ∈ lw_g := lw_in w6_21t rfl
theorem w6_22t : (Jvm.Cond.selects "DotPress" ({ cls := "DotPress", name := "saved", desc := "(II)I" } : Jvm.MethodName) ({ cls := "DotPress", name := "saved", desc := "(II)I" } : Jvm.MethodName)) ∈ lw_tbl := mT6 (List.mem_of_getElem? (i := 22) rfl)
theorem w6_22 : (Jvm.Cond.selects "DotPress" ({ cls := "DotPress", name := "saved", desc := "(II)I" } : Jvm.MethodName) ({ cls := "DotPress", name := "saved", desc := "(II)I" } : Jvm.MethodName)) ∈ lw_g := lw_in w6_22t rfl
theorem w6_24t : (Jvm.Cond.methodLink "DotPressLaw" (159 : Nat) ({ cls := "DotPress", name := "place", desc := "()I" } : Jvm.MethodName)) ∈ lw_tbl := mT6 (List.mem_of_getElem? (i := 24) rfl)
theorem w6_24 : (Jvm.Cond.methodLink "DotPressLaw" (159 : Nat) ({ cls := "DotPress", name := "place", desc := "()I" } : Jvm.MethodName)) ∈ lw_g := lw_in w6_24t rfl
theorem w6_25t : (Jvm.Cond.instanceMethod ({ cls := "DotPress", name := "place", desc := "()I" } : Jvm.MethodName)) ∈ lw_tbl := mT6 (List.mem_of_getElem? (i := 25) rfl)
theorem w6_25 : (Jvm.Cond.instanceMethod ({ cls := "DotPress", name := "place", desc := "()I" } : Jvm.MethodName)) ∈ lw_g := lw_in w6_25t rfl
theorem w6_26t : (Jvm.Cond.selects "DotPress" ({ cls := "DotPress", name := "place", desc := "()I" } : Jvm.MethodName) ({ cls := "DotPress", name := "place", desc := "()I" } : Jvm.MethodName)) ∈ lw_tbl := mT6 (List.mem_of_getElem? (i := 26) rfl)
theorem w6_26 : (Jvm.Cond.selects "DotPress" ({ cls := "DotPress", name := "place", desc := "()I" } : Jvm.MethodName) ({ cls := "DotPress", name := "place", desc := "()I" } : Jvm.MethodName)) ∈ lw_g := lw_in w6_26t rfl
theorem w6_28t : (Jvm.Cond.methodLink "DotPressLaw" (163 : Nat) ({ cls := "DotPress", name := "finds", desc := "(I)I" } : Jvm.MethodName)) ∈ lw_tbl := mT6 (List.mem_of_getElem? (i := 28) rfl)
theorem w6_28 : (Jvm.Cond.methodLink "DotPressLaw" (163 : Nat) ({ cls := "DotPress", name := "finds", desc := "(I)I" } : Jvm.MethodName)) ∈ lw_g := lw_in w6_28t rfl
theorem w6_29t : (Jvm.Cond.instanceMethod ({ cls := "DotPress", name := "finds", desc := "(I)I" } : Jvm.MethodName)) ∈ lw_tbl := mT6 (List.mem_of_getElem? (i := 29) rfl)
theorem w6_29 : (Jvm.Cond.instanceMethod ({ cls := "DotPress", name := "finds", desc := "(I)I" } : Jvm.MethodName)) ∈ lw_g := lw_in w6_29t rfl
theorem w6_30t : (Jvm.Cond.selects "DotPress" ({ cls := "DotPress", name := "finds", desc := "(I)I" } : Jvm.MethodName) ({ cls := "DotPress", name := "finds", desc := "(I)I" } : Jvm.MethodName)) ∈ lw_tbl := mT6 (List.mem_of_getElem? (i := 30) rfl)
theorem w6_30 : (Jvm.Cond.selects "DotPress" ({ cls := "DotPress", name := "finds", desc := "(I)I" } : Jvm.MethodName) ({ cls := "DotPress", name := "finds", desc := "(I)I" } : Jvm.MethodName)) ∈ lw_g := lw_in w6_30t rfl
theorem w6_36t : (Jvm.Cond.methodLink "DotPressLaw" (167 : Nat) ({ cls := "DotPress", name := "status", desc := "()I" } : Jvm.MethodName)) ∈ lw_tbl := mT6 (List.mem_of_getElem? (i := 36) rfl)
theorem w6_36 : (Jvm.Cond.methodLink "DotPressLaw" (167 : Nat) ({ cls := "DotPress", name := "status", desc := "()I" } : Jvm.MethodName)) ∈ lw_g := lw_in w6_36t rfl
theorem w6_37t : (Jvm.Cond.instanceMethod ({ cls := "DotPress", name := "status", desc := "()I" } : Jvm.MethodName)) ∈ lw_tbl := mT6 (List.mem_of_getElem? (i := 37) rfl)
theorem w6_37 : (Jvm.Cond.instanceMethod ({ cls := "DotPress", name := "status", desc := "()I" } : Jvm.MethodName)) ∈ lw_g := lw_in w6_37t rfl
theorem w6_38t : (Jvm.Cond.selects "DotPress" ({ cls := "DotPress", name := "status", desc := "()I" } : Jvm.MethodName) ({ cls := "DotPress", name := "status", desc := "()I" } : Jvm.MethodName)) ∈ lw_tbl := mT6 (List.mem_of_getElem? (i := 38) rfl)
theorem w6_38 : (Jvm.Cond.selects "DotPress" ({ cls := "DotPress", name := "status", desc := "()I" } : Jvm.MethodName) ({ cls := "DotPress", name := "status", desc := "()I" } : Jvm.MethodName)) ∈ lw_g := lw_in w6_38t rfl
theorem w6_40t : (Jvm.Cond.methodLink "DotPressLaw" (171 : Nat) ({ cls := "DotPress", name := "digest", desc := "()I" } : Jvm.MethodName)) ∈ lw_tbl := mT6 (List.mem_of_getElem? (i := 40) rfl)
theorem w6_40 : (Jvm.Cond.methodLink "DotPressLaw" (171 : Nat) ({ cls := "DotPress", name := "digest", desc := "()I" } : Jvm.MethodName)) ∈ lw_g := lw_in w6_40t rfl
theorem w6_41t : (Jvm.Cond.instanceMethod ({ cls := "DotPress", name := "digest", desc := "()I" } : Jvm.MethodName)) ∈ lw_tbl := mT6 (List.mem_of_getElem? (i := 41) rfl)
theorem w6_41 : (Jvm.Cond.instanceMethod ({ cls := "DotPress", name := "digest", desc := "()I" } : Jvm.MethodName)) ∈ lw_g := lw_in w6_41t rfl
theorem w6_42t : (Jvm.Cond.selects "DotPress" ({ cls := "DotPress", name := "digest", desc := "()I" } : Jvm.MethodName) ({ cls := "DotPress", name := "digest", desc := "()I" } : Jvm.MethodName)) ∈ lw_tbl := mT6 (List.mem_of_getElem? (i := 42) rfl)
theorem w6_42 : (Jvm.Cond.selects "DotPress" ({ cls := "DotPress", name := "digest", desc := "()I" } : Jvm.MethodName) ({ cls := "DotPress", name := "digest", desc := "()I" } : Jvm.MethodName)) ∈ lw_g := lw_in w6_42t rfl
theorem w6_49t : (Jvm.Cond.classLink "DotPressLaw" (10 : Nat) "DotPressModel") ∈ lw_tbl := mT6 (List.mem_of_getElem? (i := 49) rfl)
theorem w6_49 : (Jvm.Cond.classLink "DotPressLaw" (10 : Nat) "DotPressModel") ∈ lw_g := lw_in w6_49t rfl
theorem w6_50t : (Jvm.Cond.instantiable "DotPressModel" (67 : Nat)) ∈ lw_tbl := mT6 (List.mem_of_getElem? (i := 50) rfl)
theorem w6_50 : (Jvm.Cond.instantiable "DotPressModel" (67 : Nat)) ∈ lw_g := lw_in w6_50t rfl
theorem w6_51t : (Jvm.Cond.methodLink "DotPressLaw" (12 : Nat) ({ cls := "DotPressModel", name := "<init>", desc := "()V" } : Jvm.MethodName)) ∈ lw_tbl := mT6 (List.mem_of_getElem? (i := 51) rfl)
theorem w6_51 : (Jvm.Cond.methodLink "DotPressLaw" (12 : Nat) ({ cls := "DotPressModel", name := "<init>", desc := "()V" } : Jvm.MethodName)) ∈ lw_g := lw_in w6_51t rfl
theorem w6_52t : (Jvm.Cond.instanceMethod ({ cls := "DotPressModel", name := "<init>", desc := "()V" } : Jvm.MethodName)) ∈ lw_tbl := mT6 (List.mem_of_getElem? (i := 52) rfl)
theorem w6_52 : (Jvm.Cond.instanceMethod ({ cls := "DotPressModel", name := "<init>", desc := "()V" } : Jvm.MethodName)) ∈ lw_g := lw_in w6_52t rfl
theorem w7_100t : (Jvm.Cond.methodLink "DotPressLaw" (61 : Nat) ({ cls := "DotPressModel", name := "measure", desc := "(III)I" } : Jvm.MethodName)) ∈ lw_tbl := mT7 (List.mem_of_getElem? (i := 100) rfl)
theorem w7_100 : (Jvm.Cond.methodLink "DotPressLaw" (61 : Nat) ({ cls := "DotPressModel", name := "measure", desc := "(III)I" } : Jvm.MethodName)) ∈ lw_g := lw_in w7_100t rfl
theorem w7_101t : (Jvm.Cond.instanceMethod ({ cls := "DotPressModel", name := "measure", desc := "(III)I" } : Jvm.MethodName)) ∈ lw_tbl := mT7 (List.mem_of_getElem? (i := 101) rfl)
theorem w7_101 : (Jvm.Cond.instanceMethod ({ cls := "DotPressModel", name := "measure", desc := "(III)I" } : Jvm.MethodName)) ∈ lw_g := lw_in w7_101t rfl
theorem w7_102t : (Jvm.Cond.selects "DotPressModel" ({ cls := "DotPressModel", name := "measure", desc := "(III)I" } : Jvm.MethodName) ({ cls := "DotPressModel", name := "measure", desc := "(III)I" } : Jvm.MethodName)) ∈ lw_tbl := mT7 (List.mem_of_getElem? (i := 102) rfl)
theorem w7_102 : (Jvm.Cond.selects "DotPressModel" ({ cls := "DotPressModel", name := "measure", desc := "(III)I" } : Jvm.MethodName) ({ cls := "DotPressModel", name := "measure", desc := "(III)I" } : Jvm.MethodName)) ∈ lw_g := lw_in w7_102t rfl
theorem w7_104t : (Jvm.Cond.methodLink "DotPressLaw" (65 : Nat) ({ cls := "DotPressModel", name := "set", desc := "(I)I" } : Jvm.MethodName)) ∈ lw_tbl := mT7 (List.mem_of_getElem? (i := 104) rfl)
theorem w7_104 : (Jvm.Cond.methodLink "DotPressLaw" (65 : Nat) ({ cls := "DotPressModel", name := "set", desc := "(I)I" } : Jvm.MethodName)) ∈ lw_g := lw_in w7_104t rfl
theorem w7_105t : (Jvm.Cond.instanceMethod ({ cls := "DotPressModel", name := "set", desc := "(I)I" } : Jvm.MethodName)) ∈ lw_tbl := mT7 (List.mem_of_getElem? (i := 105) rfl)
theorem w7_105 : (Jvm.Cond.instanceMethod ({ cls := "DotPressModel", name := "set", desc := "(I)I" } : Jvm.MethodName)) ∈ lw_g := lw_in w7_105t rfl
theorem w7_106t : (Jvm.Cond.selects "DotPressModel" ({ cls := "DotPressModel", name := "set", desc := "(I)I" } : Jvm.MethodName) ({ cls := "DotPressModel", name := "set", desc := "(I)I" } : Jvm.MethodName)) ∈ lw_tbl := mT7 (List.mem_of_getElem? (i := 106) rfl)
theorem w7_106 : (Jvm.Cond.selects "DotPressModel" ({ cls := "DotPressModel", name := "set", desc := "(I)I" } : Jvm.MethodName) ({ cls := "DotPressModel", name := "set", desc := "(I)I" } : Jvm.MethodName)) ∈ lw_g := lw_in w7_106t rfl
theorem w7_185t : (Jvm.Cond.methodLink "DotPressLaw" (69 : Nat) ({ cls := "DotPressModel", name := "head", desc := "(I)I" } : Jvm.MethodName)) ∈ lw_tbl := mT7 (List.mem_of_getElem? (i := 185) rfl)
theorem w7_185 : (Jvm.Cond.methodLink "DotPressLaw" (69 : Nat) ({ cls := "DotPressModel", name := "head", desc := "(I)I" } : Jvm.MethodName)) ∈ lw_g := lw_in w7_185t rfl
theorem w7_186t : (Jvm.Cond.instanceMethod ({ cls := "DotPressModel", name := "head", desc := "(I)I" } : Jvm.MethodName)) ∈ lw_tbl := mT7 (List.mem_of_getElem? (i := 186) rfl)
theorem w7_186 : (Jvm.Cond.instanceMethod ({ cls := "DotPressModel", name := "head", desc := "(I)I" } : Jvm.MethodName)) ∈ lw_g := lw_in w7_186t rfl
theorem w7_187t : (Jvm.Cond.selects "DotPressModel" ({ cls := "DotPressModel", name := "head", desc := "(I)I" } : Jvm.MethodName) ({ cls := "DotPressModel", name := "head", desc := "(I)I" } : Jvm.MethodName)) ∈ lw_tbl := mT7 (List.mem_of_getElem? (i := 187) rfl)
theorem w7_187 : (Jvm.Cond.selects "DotPressModel" ({ cls := "DotPressModel", name := "head", desc := "(I)I" } : Jvm.MethodName) ({ cls := "DotPressModel", name := "head", desc := "(I)I" } : Jvm.MethodName)) ∈ lw_g := lw_in w7_187t rfl
theorem w7_190t : (Jvm.Cond.methodLink "DotPressLaw" (73 : Nat) ({ cls := "DotPressModel", name := "lines", desc := "()I" } : Jvm.MethodName)) ∈ lw_tbl := mT7 (List.mem_of_getElem? (i := 190) rfl)
theorem w7_190 : (Jvm.Cond.methodLink "DotPressLaw" (73 : Nat) ({ cls := "DotPressModel", name := "lines", desc := "()I" } : Jvm.MethodName)) ∈ lw_g := lw_in w7_190t rfl
theorem w7_191t : (Jvm.Cond.instanceMethod ({ cls := "DotPressModel", name := "lines", desc := "()I" } : Jvm.MethodName)) ∈ lw_tbl := mT7 (List.mem_of_getElem? (i := 191) rfl)
theorem w7_191 : (Jvm.Cond.instanceMethod ({ cls := "DotPressModel", name := "lines", desc := "()I" } : Jvm.MethodName)) ∈ lw_g := lw_in w7_191t rfl
theorem w7_192t : (Jvm.Cond.selects "DotPressModel" ({ cls := "DotPressModel", name := "lines", desc := "()I" } : Jvm.MethodName) ({ cls := "DotPressModel", name := "lines", desc := "()I" } : Jvm.MethodName)) ∈ lw_tbl := mT7 (List.mem_of_getElem? (i := 192) rfl)
theorem w7_192 : (Jvm.Cond.selects "DotPressModel" ({ cls := "DotPressModel", name := "lines", desc := "()I" } : Jvm.MethodName) ({ cls := "DotPressModel", name := "lines", desc := "()I" } : Jvm.MethodName)) ∈ lw_g := lw_in w7_192t rfl
theorem w7_194t : (Jvm.Cond.methodLink "DotPressLaw" (77 : Nat) ({ cls := "DotPressModel", name := "pages", desc := "()I" } : Jvm.MethodName)) ∈ lw_tbl := mT7 (List.mem_of_getElem? (i := 194) rfl)
theorem w7_194 : (Jvm.Cond.methodLink "DotPressLaw" (77 : Nat) ({ cls := "DotPressModel", name := "pages", desc := "()I" } : Jvm.MethodName)) ∈ lw_g := lw_in w7_194t rfl
theorem w7_206t : (Jvm.Cond.methodLink "DotPressLaw" (81 : Nat) ({ cls := "DotPressModel", name := "length", desc := "(I)I" } : Jvm.MethodName)) ∈ lw_tbl := mT7 (List.mem_of_getElem? (i := 206) rfl)
theorem w7_206 : (Jvm.Cond.methodLink "DotPressLaw" (81 : Nat) ({ cls := "DotPressModel", name := "length", desc := "(I)I" } : Jvm.MethodName)) ∈ lw_g := lw_in w7_206t rfl
theorem w7_207t : (Jvm.Cond.instanceMethod ({ cls := "DotPressModel", name := "length", desc := "(I)I" } : Jvm.MethodName)) ∈ lw_tbl := mT7 (List.mem_of_getElem? (i := 207) rfl)
theorem w7_207 : (Jvm.Cond.instanceMethod ({ cls := "DotPressModel", name := "length", desc := "(I)I" } : Jvm.MethodName)) ∈ lw_g := lw_in w7_207t rfl
theorem w7_208t : (Jvm.Cond.selects "DotPressModel" ({ cls := "DotPressModel", name := "length", desc := "(I)I" } : Jvm.MethodName) ({ cls := "DotPressModel", name := "length", desc := "(I)I" } : Jvm.MethodName)) ∈ lw_tbl := mT7 (List.mem_of_getElem? (i := 208) rfl)
theorem w7_208 : (Jvm.Cond.selects "DotPressModel" ({ cls := "DotPressModel", name := "length", desc := "(I)I" } : Jvm.MethodName) ({ cls := "DotPressModel", name := "length", desc := "(I)I" } : Jvm.MethodName)) ∈ lw_g := lw_in w7_208t rfl
theorem w7_21t : (Jvm.Cond.methodLink "DotPressLaw" (17 : Nat) ({ cls := "DotPressModel", name := "feed", desc := "(IIIII)I" } : Jvm.MethodName)) ∈ lw_tbl := mT7 (List.mem_of_getElem? (i := 21) rfl)
theorem w7_21 : (Jvm.Cond.methodLink "DotPressLaw" (17 : Nat) ({ cls := "DotPressModel", name := "feed", desc := "(IIIII)I" } : Jvm.MethodName)) ∈ lw_g := lw_in w7_21t rfl
theorem w7_214t : (Jvm.Cond.methodLink "DotPressLaw" (85 : Nat) ({ cls := "DotPressModel", name := "cell", desc := "(II)I" } : Jvm.MethodName)) ∈ lw_tbl := mT7 (List.mem_of_getElem? (i := 214) rfl)
theorem w7_214 : (Jvm.Cond.methodLink "DotPressLaw" (85 : Nat) ({ cls := "DotPressModel", name := "cell", desc := "(II)I" } : Jvm.MethodName)) ∈ lw_g := lw_in w7_214t rfl
theorem w7_215t : (Jvm.Cond.instanceMethod ({ cls := "DotPressModel", name := "cell", desc := "(II)I" } : Jvm.MethodName)) ∈ lw_tbl := mT7 (List.mem_of_getElem? (i := 215) rfl)
theorem w7_215 : (Jvm.Cond.instanceMethod ({ cls := "DotPressModel", name := "cell", desc := "(II)I" } : Jvm.MethodName)) ∈ lw_g := lw_in w7_215t rfl
theorem w7_216t : (Jvm.Cond.selects "DotPressModel" ({ cls := "DotPressModel", name := "cell", desc := "(II)I" } : Jvm.MethodName) ({ cls := "DotPressModel", name := "cell", desc := "(II)I" } : Jvm.MethodName)) ∈ lw_tbl := mT7 (List.mem_of_getElem? (i := 216) rfl)
theorem w7_216 : (Jvm.Cond.selects "DotPressModel" ({ cls := "DotPressModel", name := "cell", desc := "(II)I" } : Jvm.MethodName) ({ cls := "DotPressModel", name := "cell", desc := "(II)I" } : Jvm.MethodName)) ∈ lw_g := lw_in w7_216t rfl
theorem w7_218t : (Jvm.Cond.methodLink "DotPressLaw" (89 : Nat) ({ cls := "DotPressModel", name := "page", desc := "(III)I" } : Jvm.MethodName)) ∈ lw_tbl := mT7 (List.mem_of_getElem? (i := 218) rfl)
theorem w7_218 : (Jvm.Cond.methodLink "DotPressLaw" (89 : Nat) ({ cls := "DotPressModel", name := "page", desc := "(III)I" } : Jvm.MethodName)) ∈ lw_g := lw_in w7_218t rfl
theorem w7_219t : (Jvm.Cond.instanceMethod ({ cls := "DotPressModel", name := "page", desc := "(III)I" } : Jvm.MethodName)) ∈ lw_tbl := mT7 (List.mem_of_getElem? (i := 219) rfl)
theorem w7_219 : (Jvm.Cond.instanceMethod ({ cls := "DotPressModel", name := "page", desc := "(III)I" } : Jvm.MethodName)) ∈ lw_g := lw_in w7_219t rfl
theorem w7_22t : (Jvm.Cond.instanceMethod ({ cls := "DotPressModel", name := "feed", desc := "(IIIII)I" } : Jvm.MethodName)) ∈ lw_tbl := mT7 (List.mem_of_getElem? (i := 22) rfl)
theorem w7_22 : (Jvm.Cond.instanceMethod ({ cls := "DotPressModel", name := "feed", desc := "(IIIII)I" } : Jvm.MethodName)) ∈ lw_g := lw_in w7_22t rfl
theorem w7_220t : (Jvm.Cond.selects "DotPressModel" ({ cls := "DotPressModel", name := "page", desc := "(III)I" } : Jvm.MethodName) ({ cls := "DotPressModel", name := "page", desc := "(III)I" } : Jvm.MethodName)) ∈ lw_tbl := mT7 (List.mem_of_getElem? (i := 220) rfl)
theorem w7_220 : (Jvm.Cond.selects "DotPressModel" ({ cls := "DotPressModel", name := "page", desc := "(III)I" } : Jvm.MethodName) ({ cls := "DotPressModel", name := "page", desc := "(III)I" } : Jvm.MethodName)) ∈ lw_g := lw_in w7_220t rfl
theorem w7_224t : (Jvm.Cond.methodLink "DotPressLaw" (93 : Nat) ({ cls := "DotPressModel", name := "cut", desc := "(II)I" } : Jvm.MethodName)) ∈ lw_tbl := mT7 (List.mem_of_getElem? (i := 224) rfl)
theorem w7_224 : (Jvm.Cond.methodLink "DotPressLaw" (93 : Nat) ({ cls := "DotPressModel", name := "cut", desc := "(II)I" } : Jvm.MethodName)) ∈ lw_g := lw_in w7_224t rfl
theorem w7_225t : (Jvm.Cond.instanceMethod ({ cls := "DotPressModel", name := "cut", desc := "(II)I" } : Jvm.MethodName)) ∈ lw_tbl := mT7 (List.mem_of_getElem? (i := 225) rfl)
theorem w7_225 : (Jvm.Cond.instanceMethod ({ cls := "DotPressModel", name := "cut", desc := "(II)I" } : Jvm.MethodName)) ∈ lw_g := lw_in w7_225t rfl
theorem w7_226t : (Jvm.Cond.selects "DotPressModel" ({ cls := "DotPressModel", name := "cut", desc := "(II)I" } : Jvm.MethodName) ({ cls := "DotPressModel", name := "cut", desc := "(II)I" } : Jvm.MethodName)) ∈ lw_tbl := mT7 (List.mem_of_getElem? (i := 226) rfl)
theorem w7_226 : (Jvm.Cond.selects "DotPressModel" ({ cls := "DotPressModel", name := "cut", desc := "(II)I" } : Jvm.MethodName) ({ cls := "DotPressModel", name := "cut", desc := "(II)I" } : Jvm.MethodName)) ∈ lw_g := lw_in w7_226t rfl
theorem w7_228t : (Jvm.Cond.methodLink "DotPressLaw" (97 : Nat) ({ cls := "DotPressModel", name := "lose", desc := "(I)I" } : Jvm.MethodName)) ∈ lw_tbl := mT7 (List.mem_of_getElem? (i := 228) rfl)
theorem w7_228 : (Jvm.Cond.methodLink "DotPressLaw" (97 : Nat) ({ cls := "DotPressModel", name := "lose", desc := "(I)I" } : Jvm.MethodName)) ∈ lw_g := lw_in w7_228t rfl
theorem w7_229t : (Jvm.Cond.instanceMethod ({ cls := "DotPressModel", name := "lose", desc := "(I)I" } : Jvm.MethodName)) ∈ lw_tbl := mT7 (List.mem_of_getElem? (i := 229) rfl)
theorem w7_229 : (Jvm.Cond.instanceMethod ({ cls := "DotPressModel", name := "lose", desc := "(I)I" } : Jvm.MethodName)) ∈ lw_g := lw_in w7_229t rfl
theorem w7_23t : (Jvm.Cond.selects "DotPressModel" ({ cls := "DotPressModel", name := "feed", desc := "(IIIII)I" } : Jvm.MethodName) ({ cls := "DotPressModel", name := "feed", desc := "(IIIII)I" } : Jvm.MethodName)) ∈ lw_tbl := mT7 (List.mem_of_getElem? (i := 23) rfl)
theorem w7_23 : (Jvm.Cond.selects "DotPressModel" ({ cls := "DotPressModel", name := "feed", desc := "(IIIII)I" } : Jvm.MethodName) ({ cls := "DotPressModel", name := "feed", desc := "(IIIII)I" } : Jvm.MethodName)) ∈ lw_g := lw_in w7_23t rfl
theorem w7_230t : (Jvm.Cond.selects "DotPressModel" ({ cls := "DotPressModel", name := "lose", desc := "(I)I" } : Jvm.MethodName) ({ cls := "DotPressModel", name := "lose", desc := "(I)I" } : Jvm.MethodName)) ∈ lw_tbl := mT7 (List.mem_of_getElem? (i := 230) rfl)
theorem w7_230 : (Jvm.Cond.selects "DotPressModel" ({ cls := "DotPressModel", name := "lose", desc := "(I)I" } : Jvm.MethodName) ({ cls := "DotPressModel", name := "lose", desc := "(I)I" } : Jvm.MethodName)) ∈ lw_g := lw_in w7_230t rfl
theorem w7_232t : (Jvm.Cond.methodLink "DotPressLaw" (101 : Nat) ({ cls := "DotPressModel", name := "copyRow", desc := "(IIIII)I" } : Jvm.MethodName)) ∈ lw_tbl := mT7 (List.mem_of_getElem? (i := 232) rfl)
theorem w7_232 : (Jvm.Cond.methodLink "DotPressLaw" (101 : Nat) ({ cls := "DotPressModel", name := "copyRow", desc := "(IIIII)I" } : Jvm.MethodName)) ∈ lw_g := lw_in w7_232t rfl
theorem w7_233t : (Jvm.Cond.instanceMethod ({ cls := "DotPressModel", name := "copyRow", desc := "(IIIII)I" } : Jvm.MethodName)) ∈ lw_tbl := mT7 (List.mem_of_getElem? (i := 233) rfl)
theorem w7_233 : (Jvm.Cond.instanceMethod ({ cls := "DotPressModel", name := "copyRow", desc := "(IIIII)I" } : Jvm.MethodName)) ∈ lw_g := lw_in w7_233t rfl
theorem w7_234t : (Jvm.Cond.selects "DotPressModel" ({ cls := "DotPressModel", name := "copyRow", desc := "(IIIII)I" } : Jvm.MethodName) ({ cls := "DotPressModel", name := "copyRow", desc := "(IIIII)I" } : Jvm.MethodName)) ∈ lw_tbl := mT7 (List.mem_of_getElem? (i := 234) rfl)
theorem w7_234 : (Jvm.Cond.selects "DotPressModel" ({ cls := "DotPressModel", name := "copyRow", desc := "(IIIII)I" } : Jvm.MethodName) ({ cls := "DotPressModel", name := "copyRow", desc := "(IIIII)I" } : Jvm.MethodName)) ∈ lw_g := lw_in w7_234t rfl
theorem w7_236t : (Jvm.Cond.methodLink "DotPressLaw" (105 : Nat) ({ cls := "DotPressModel", name := "copyLines", desc := "(III)I" } : Jvm.MethodName)) ∈ lw_tbl := mT7 (List.mem_of_getElem? (i := 236) rfl)
theorem w7_236 : (Jvm.Cond.methodLink "DotPressLaw" (105 : Nat) ({ cls := "DotPressModel", name := "copyLines", desc := "(III)I" } : Jvm.MethodName)) ∈ lw_g := lw_in w7_236t rfl
theorem w7_237t : (Jvm.Cond.instanceMethod ({ cls := "DotPressModel", name := "copyLines", desc := "(III)I" } : Jvm.MethodName)) ∈ lw_tbl := mT7 (List.mem_of_getElem? (i := 237) rfl)
theorem w7_237 : (Jvm.Cond.instanceMethod ({ cls := "DotPressModel", name := "copyLines", desc := "(III)I" } : Jvm.MethodName)) ∈ lw_g := lw_in w7_237t rfl
theorem w7_238t : (Jvm.Cond.selects "DotPressModel" ({ cls := "DotPressModel", name := "copyLines", desc := "(III)I" } : Jvm.MethodName) ({ cls := "DotPressModel", name := "copyLines", desc := "(III)I" } : Jvm.MethodName)) ∈ lw_tbl := mT7 (List.mem_of_getElem? (i := 238) rfl)
theorem w7_238 : (Jvm.Cond.selects "DotPressModel" ({ cls := "DotPressModel", name := "copyLines", desc := "(III)I" } : Jvm.MethodName) ({ cls := "DotPressModel", name := "copyLines", desc := "(III)I" } : Jvm.MethodName)) ∈ lw_g := lw_in w7_238t rfl
theorem w7_33t : (Jvm.Cond.methodLink "DotPressLaw" (22 : Nat) ({ cls := "DotPressModel", name := "end", desc := "(I)I" } : Jvm.MethodName)) ∈ lw_tbl := mT7 (List.mem_of_getElem? (i := 33) rfl)
theorem w7_33 : (Jvm.Cond.methodLink "DotPressLaw" (22 : Nat) ({ cls := "DotPressModel", name := "end", desc := "(I)I" } : Jvm.MethodName)) ∈ lw_g := lw_in w7_33t rfl
theorem w7_34t : (Jvm.Cond.instanceMethod ({ cls := "DotPressModel", name := "end", desc := "(I)I" } : Jvm.MethodName)) ∈ lw_tbl := mT7 (List.mem_of_getElem? (i := 34) rfl)
theorem w7_34 : (Jvm.Cond.instanceMethod ({ cls := "DotPressModel", name := "end", desc := "(I)I" } : Jvm.MethodName)) ∈ lw_g := lw_in w7_34t rfl
theorem w7_35t : (Jvm.Cond.selects "DotPressModel" ({ cls := "DotPressModel", name := "end", desc := "(I)I" } : Jvm.MethodName) ({ cls := "DotPressModel", name := "end", desc := "(I)I" } : Jvm.MethodName)) ∈ lw_tbl := mT7 (List.mem_of_getElem? (i := 35) rfl)
theorem w7_35 : (Jvm.Cond.selects "DotPressModel" ({ cls := "DotPressModel", name := "end", desc := "(I)I" } : Jvm.MethodName) ({ cls := "DotPressModel", name := "end", desc := "(I)I" } : Jvm.MethodName)) ∈ lw_g := lw_in w7_35t rfl
theorem w7_37t : (Jvm.Cond.methodLink "DotPressLaw" (27 : Nat) ({ cls := "DotPressModel", name := "table", desc := "(III)I" } : Jvm.MethodName)) ∈ lw_tbl := mT7 (List.mem_of_getElem? (i := 37) rfl)
theorem w7_37 : (Jvm.Cond.methodLink "DotPressLaw" (27 : Nat) ({ cls := "DotPressModel", name := "table", desc := "(III)I" } : Jvm.MethodName)) ∈ lw_g := lw_in w7_37t rfl
theorem w7_38t : (Jvm.Cond.instanceMethod ({ cls := "DotPressModel", name := "table", desc := "(III)I" } : Jvm.MethodName)) ∈ lw_tbl := mT7 (List.mem_of_getElem? (i := 38) rfl)
theorem w7_38 : (Jvm.Cond.instanceMethod ({ cls := "DotPressModel", name := "table", desc := "(III)I" } : Jvm.MethodName)) ∈ lw_g := lw_in w7_38t rfl
theorem w7_39t : (Jvm.Cond.selects "DotPressModel" ({ cls := "DotPressModel", name := "table", desc := "(III)I" } : Jvm.MethodName) ({ cls := "DotPressModel", name := "table", desc := "(III)I" } : Jvm.MethodName)) ∈ lw_tbl := mT7 (List.mem_of_getElem? (i := 39) rfl)
theorem w7_39 : (Jvm.Cond.selects "DotPressModel" ({ cls := "DotPressModel", name := "table", desc := "(III)I" } : Jvm.MethodName) ({ cls := "DotPressModel", name := "table", desc := "(III)I" } : Jvm.MethodName)) ∈ lw_g := lw_in w7_39t rfl
theorem w7_56t : (Jvm.Cond.methodLink "DotPressLaw" (32 : Nat) ({ cls := "DotPressModel", name := "join", desc := "(II)I" } : Jvm.MethodName)) ∈ lw_tbl := mT7 (List.mem_of_getElem? (i := 56) rfl)
theorem w7_56 : (Jvm.Cond.methodLink "DotPressLaw" (32 : Nat) ({ cls := "DotPressModel", name := "join", desc := "(II)I" } : Jvm.MethodName)) ∈ lw_g := lw_in w7_56t rfl
theorem w7_57t : (Jvm.Cond.instanceMethod ({ cls := "DotPressModel", name := "join", desc := "(II)I" } : Jvm.MethodName)) ∈ lw_tbl := mT7 (List.mem_of_getElem? (i := 57) rfl)
theorem w7_57 : (Jvm.Cond.instanceMethod ({ cls := "DotPressModel", name := "join", desc := "(II)I" } : Jvm.MethodName)) ∈ lw_g := lw_in w7_57t rfl
theorem w7_58t : (Jvm.Cond.selects "DotPressModel" ({ cls := "DotPressModel", name := "join", desc := "(II)I" } : Jvm.MethodName) ({ cls := "DotPressModel", name := "join", desc := "(II)I" } : Jvm.MethodName)) ∈ lw_tbl := mT7 (List.mem_of_getElem? (i := 58) rfl)
theorem w7_58 : (Jvm.Cond.selects "DotPressModel" ({ cls := "DotPressModel", name := "join", desc := "(II)I" } : Jvm.MethodName) ({ cls := "DotPressModel", name := "join", desc := "(II)I" } : Jvm.MethodName)) ∈ lw_g := lw_in w7_58t rfl
theorem w7_61t : (Jvm.Cond.methodLink "DotPressLaw" (36 : Nat) ({ cls := "DotPressModel", name := "drop", desc := "(I)I" } : Jvm.MethodName)) ∈ lw_tbl := mT7 (List.mem_of_getElem? (i := 61) rfl)
theorem w7_61 : (Jvm.Cond.methodLink "DotPressLaw" (36 : Nat) ({ cls := "DotPressModel", name := "drop", desc := "(I)I" } : Jvm.MethodName)) ∈ lw_g := lw_in w7_61t rfl
theorem w7_62t : (Jvm.Cond.instanceMethod ({ cls := "DotPressModel", name := "drop", desc := "(I)I" } : Jvm.MethodName)) ∈ lw_tbl := mT7 (List.mem_of_getElem? (i := 62) rfl)
theorem w7_62 : (Jvm.Cond.instanceMethod ({ cls := "DotPressModel", name := "drop", desc := "(I)I" } : Jvm.MethodName)) ∈ lw_g := lw_in w7_62t rfl
theorem w7_63t : (Jvm.Cond.selects "DotPressModel" ({ cls := "DotPressModel", name := "drop", desc := "(I)I" } : Jvm.MethodName) ({ cls := "DotPressModel", name := "drop", desc := "(I)I" } : Jvm.MethodName)) ∈ lw_tbl := mT7 (List.mem_of_getElem? (i := 63) rfl)
theorem w7_63 : (Jvm.Cond.selects "DotPressModel" ({ cls := "DotPressModel", name := "drop", desc := "(I)I" } : Jvm.MethodName) ({ cls := "DotPressModel", name := "drop", desc := "(I)I" } : Jvm.MethodName)) ∈ lw_g := lw_in w7_63t rfl
theorem w7_65t : (Jvm.Cond.methodLink "DotPressLaw" (40 : Nat) ({ cls := "DotPressModel", name := "rule", desc := "(III)I" } : Jvm.MethodName)) ∈ lw_tbl := mT7 (List.mem_of_getElem? (i := 65) rfl)
theorem w7_65 : (Jvm.Cond.methodLink "DotPressLaw" (40 : Nat) ({ cls := "DotPressModel", name := "rule", desc := "(III)I" } : Jvm.MethodName)) ∈ lw_g := lw_in w7_65t rfl
theorem w7_66t : (Jvm.Cond.instanceMethod ({ cls := "DotPressModel", name := "rule", desc := "(III)I" } : Jvm.MethodName)) ∈ lw_tbl := mT7 (List.mem_of_getElem? (i := 66) rfl)
theorem w7_66 : (Jvm.Cond.instanceMethod ({ cls := "DotPressModel", name := "rule", desc := "(III)I" } : Jvm.MethodName)) ∈ lw_g := lw_in w7_66t rfl
theorem w7_67t : (Jvm.Cond.selects "DotPressModel" ({ cls := "DotPressModel", name := "rule", desc := "(III)I" } : Jvm.MethodName) ({ cls := "DotPressModel", name := "rule", desc := "(III)I" } : Jvm.MethodName)) ∈ lw_tbl := mT7 (List.mem_of_getElem? (i := 67) rfl)
theorem w7_67 : (Jvm.Cond.selects "DotPressModel" ({ cls := "DotPressModel", name := "rule", desc := "(III)I" } : Jvm.MethodName) ({ cls := "DotPressModel", name := "rule", desc := "(III)I" } : Jvm.MethodName)) ∈ lw_g := lw_in w7_67t rfl
theorem w7_80t : (Jvm.Cond.methodLink "DotPressLaw" (44 : Nat) ({ cls := "DotPressModel", name := "condition", desc := "(III)I" } : Jvm.MethodName)) ∈ lw_tbl := mT7 (List.mem_of_getElem? (i := 80) rfl)
theorem w7_80 : (Jvm.Cond.methodLink "DotPressLaw" (44 : Nat) ({ cls := "DotPressModel", name := "condition", desc := "(III)I" } : Jvm.MethodName)) ∈ lw_g := lw_in w7_80t rfl
theorem w7_81t : (Jvm.Cond.instanceMethod ({ cls := "DotPressModel", name := "condition", desc := "(III)I" } : Jvm.MethodName)) ∈ lw_tbl := mT7 (List.mem_of_getElem? (i := 81) rfl)
theorem w7_81 : (Jvm.Cond.instanceMethod ({ cls := "DotPressModel", name := "condition", desc := "(III)I" } : Jvm.MethodName)) ∈ lw_g := lw_in w7_81t rfl
theorem w7_82t : (Jvm.Cond.selects "DotPressModel" ({ cls := "DotPressModel", name := "condition", desc := "(III)I" } : Jvm.MethodName) ({ cls := "DotPressModel", name := "condition", desc := "(III)I" } : Jvm.MethodName)) ∈ lw_tbl := mT7 (List.mem_of_getElem? (i := 82) rfl)
theorem w7_82 : (Jvm.Cond.selects "DotPressModel" ({ cls := "DotPressModel", name := "condition", desc := "(III)I" } : Jvm.MethodName) ({ cls := "DotPressModel", name := "condition", desc := "(III)I" } : Jvm.MethodName)) ∈ lw_g := lw_in w7_82t rfl
theorem w7_84t : (Jvm.Cond.methodLink "DotPressLaw" (48 : Nat) ({ cls := "DotPressModel", name := "indicator", desc := "(II)I" } : Jvm.MethodName)) ∈ lw_tbl := mT7 (List.mem_of_getElem? (i := 84) rfl)
theorem w7_84 : (Jvm.Cond.methodLink "DotPressLaw" (48 : Nat) ({ cls := "DotPressModel", name := "indicator", desc := "(II)I" } : Jvm.MethodName)) ∈ lw_g := lw_in w7_84t rfl
theorem w7_85t : (Jvm.Cond.instanceMethod ({ cls := "DotPressModel", name := "indicator", desc := "(II)I" } : Jvm.MethodName)) ∈ lw_tbl := mT7 (List.mem_of_getElem? (i := 85) rfl)
theorem w7_85 : (Jvm.Cond.instanceMethod ({ cls := "DotPressModel", name := "indicator", desc := "(II)I" } : Jvm.MethodName)) ∈ lw_g := lw_in w7_85t rfl
theorem w7_86t : (Jvm.Cond.selects "DotPressModel" ({ cls := "DotPressModel", name := "indicator", desc := "(II)I" } : Jvm.MethodName) ({ cls := "DotPressModel", name := "indicator", desc := "(II)I" } : Jvm.MethodName)) ∈ lw_tbl := mT7 (List.mem_of_getElem? (i := 86) rfl)
theorem w7_86 : (Jvm.Cond.selects "DotPressModel" ({ cls := "DotPressModel", name := "indicator", desc := "(II)I" } : Jvm.MethodName) ({ cls := "DotPressModel", name := "indicator", desc := "(II)I" } : Jvm.MethodName)) ∈ lw_g := lw_in w7_86t rfl
theorem w7_88t : (Jvm.Cond.methodLink "DotPressLaw" (53 : Nat) ({ cls := "DotPressModel", name := "undo", desc := "()I" } : Jvm.MethodName)) ∈ lw_tbl := mT7 (List.mem_of_getElem? (i := 88) rfl)
theorem w7_88 : (Jvm.Cond.methodLink "DotPressLaw" (53 : Nat) ({ cls := "DotPressModel", name := "undo", desc := "()I" } : Jvm.MethodName)) ∈ lw_g := lw_in w7_88t rfl
theorem w7_89t : (Jvm.Cond.instanceMethod ({ cls := "DotPressModel", name := "undo", desc := "()I" } : Jvm.MethodName)) ∈ lw_tbl := mT7 (List.mem_of_getElem? (i := 89) rfl)
theorem w7_89 : (Jvm.Cond.instanceMethod ({ cls := "DotPressModel", name := "undo", desc := "()I" } : Jvm.MethodName)) ∈ lw_g := lw_in w7_89t rfl
theorem w7_90t : (Jvm.Cond.selects "DotPressModel" ({ cls := "DotPressModel", name := "undo", desc := "()I" } : Jvm.MethodName) ({ cls := "DotPressModel", name := "undo", desc := "()I" } : Jvm.MethodName)) ∈ lw_tbl := mT7 (List.mem_of_getElem? (i := 90) rfl)
theorem w7_90 : (Jvm.Cond.selects "DotPressModel" ({ cls := "DotPressModel", name := "undo", desc := "()I" } : Jvm.MethodName) ({ cls := "DotPressModel", name := "undo", desc := "()I" } : Jvm.MethodName)) ∈ lw_g := lw_in w7_90t rfl
theorem w7_92t : (Jvm.Cond.methodLink "DotPressLaw" (166 : Nat) ({ cls := "DotPressModel", name := "finds", desc := "(I)I" } : Jvm.MethodName)) ∈ lw_tbl := mT7 (List.mem_of_getElem? (i := 92) rfl)
theorem w7_92 : (Jvm.Cond.methodLink "DotPressLaw" (166 : Nat) ({ cls := "DotPressModel", name := "finds", desc := "(I)I" } : Jvm.MethodName)) ∈ lw_g := lw_in w7_92t rfl
theorem w7_93t : (Jvm.Cond.instanceMethod ({ cls := "DotPressModel", name := "finds", desc := "(I)I" } : Jvm.MethodName)) ∈ lw_tbl := mT7 (List.mem_of_getElem? (i := 93) rfl)
theorem w7_93 : (Jvm.Cond.instanceMethod ({ cls := "DotPressModel", name := "finds", desc := "(I)I" } : Jvm.MethodName)) ∈ lw_g := lw_in w7_93t rfl
theorem w7_94t : (Jvm.Cond.selects "DotPressModel" ({ cls := "DotPressModel", name := "finds", desc := "(I)I" } : Jvm.MethodName) ({ cls := "DotPressModel", name := "finds", desc := "(I)I" } : Jvm.MethodName)) ∈ lw_tbl := mT7 (List.mem_of_getElem? (i := 94) rfl)
theorem w7_94 : (Jvm.Cond.selects "DotPressModel" ({ cls := "DotPressModel", name := "finds", desc := "(I)I" } : Jvm.MethodName) ({ cls := "DotPressModel", name := "finds", desc := "(I)I" } : Jvm.MethodName)) ∈ lw_g := lw_in w7_94t rfl
theorem w7_96t : (Jvm.Cond.methodLink "DotPressLaw" (57 : Nat) ({ cls := "DotPressModel", name := "text", desc := "()I" } : Jvm.MethodName)) ∈ lw_tbl := mT7 (List.mem_of_getElem? (i := 96) rfl)
theorem w7_96 : (Jvm.Cond.methodLink "DotPressLaw" (57 : Nat) ({ cls := "DotPressModel", name := "text", desc := "()I" } : Jvm.MethodName)) ∈ lw_g := lw_in w7_96t rfl
theorem w7_97t : (Jvm.Cond.instanceMethod ({ cls := "DotPressModel", name := "text", desc := "()I" } : Jvm.MethodName)) ∈ lw_tbl := mT7 (List.mem_of_getElem? (i := 97) rfl)
theorem w7_97 : (Jvm.Cond.instanceMethod ({ cls := "DotPressModel", name := "text", desc := "()I" } : Jvm.MethodName)) ∈ lw_g := lw_in w7_97t rfl
theorem w7_98t : (Jvm.Cond.selects "DotPressModel" ({ cls := "DotPressModel", name := "text", desc := "()I" } : Jvm.MethodName) ({ cls := "DotPressModel", name := "text", desc := "()I" } : Jvm.MethodName)) ∈ lw_tbl := mT7 (List.mem_of_getElem? (i := 98) rfl)
theorem w7_98 : (Jvm.Cond.selects "DotPressModel" ({ cls := "DotPressModel", name := "text", desc := "()I" } : Jvm.MethodName) ({ cls := "DotPressModel", name := "text", desc := "()I" } : Jvm.MethodName)) ∈ lw_g := lw_in w7_98t rfl
theorem w8_0t : (Jvm.Cond.methodLink "DotPressLaw" (109 : Nat) ({ cls := "DotPressModel", name := "copied", desc := "()I" } : Jvm.MethodName)) ∈ lw_tbl := mT8 (List.mem_of_getElem? (i := 0) rfl)
theorem w8_0 : (Jvm.Cond.methodLink "DotPressLaw" (109 : Nat) ({ cls := "DotPressModel", name := "copied", desc := "()I" } : Jvm.MethodName)) ∈ lw_g := lw_in w8_0t rfl
theorem w8_1t : (Jvm.Cond.instanceMethod ({ cls := "DotPressModel", name := "copied", desc := "()I" } : Jvm.MethodName)) ∈ lw_tbl := mT8 (List.mem_of_getElem? (i := 1) rfl)
theorem w8_1 : (Jvm.Cond.instanceMethod ({ cls := "DotPressModel", name := "copied", desc := "()I" } : Jvm.MethodName)) ∈ lw_g := lw_in w8_1t rfl
theorem w8_10t : (Jvm.Cond.instanceMethod ({ cls := "DotPressModel", name := "closed", desc := "()I" } : Jvm.MethodName)) ∈ lw_tbl := mT8 (List.mem_of_getElem? (i := 10) rfl)
theorem w8_10 : (Jvm.Cond.instanceMethod ({ cls := "DotPressModel", name := "closed", desc := "()I" } : Jvm.MethodName)) ∈ lw_g := lw_in w8_10t rfl
theorem w8_11t : (Jvm.Cond.selects "DotPressModel" ({ cls := "DotPressModel", name := "closed", desc := "()I" } : Jvm.MethodName) ({ cls := "DotPressModel", name := "closed", desc := "()I" } : Jvm.MethodName)) ∈ lw_tbl := mT8 (List.mem_of_getElem? (i := 11) rfl)
theorem w8_11 : (Jvm.Cond.selects "DotPressModel" ({ cls := "DotPressModel", name := "closed", desc := "()I" } : Jvm.MethodName) ({ cls := "DotPressModel", name := "closed", desc := "()I" } : Jvm.MethodName)) ∈ lw_g := lw_in w8_11t rfl
theorem w8_112t : (Jvm.Cond.methodLink "DotPressLaw" (138 : Nat) ({ cls := "DotPressModel", name := "more", desc := "()I" } : Jvm.MethodName)) ∈ lw_tbl := mT8 (List.mem_of_getElem? (i := 112) rfl)
theorem w8_112 : (Jvm.Cond.methodLink "DotPressLaw" (138 : Nat) ({ cls := "DotPressModel", name := "more", desc := "()I" } : Jvm.MethodName)) ∈ lw_g := lw_in w8_112t rfl
theorem w8_113t : (Jvm.Cond.instanceMethod ({ cls := "DotPressModel", name := "more", desc := "()I" } : Jvm.MethodName)) ∈ lw_tbl := mT8 (List.mem_of_getElem? (i := 113) rfl)
theorem w8_113 : (Jvm.Cond.instanceMethod ({ cls := "DotPressModel", name := "more", desc := "()I" } : Jvm.MethodName)) ∈ lw_g := lw_in w8_113t rfl
theorem w8_114t : (Jvm.Cond.selects "DotPressModel" ({ cls := "DotPressModel", name := "more", desc := "()I" } : Jvm.MethodName) ({ cls := "DotPressModel", name := "more", desc := "()I" } : Jvm.MethodName)) ∈ lw_tbl := mT8 (List.mem_of_getElem? (i := 114) rfl)
theorem w8_114 : (Jvm.Cond.selects "DotPressModel" ({ cls := "DotPressModel", name := "more", desc := "()I" } : Jvm.MethodName) ({ cls := "DotPressModel", name := "more", desc := "()I" } : Jvm.MethodName)) ∈ lw_g := lw_in w8_114t rfl
theorem w8_116t : (Jvm.Cond.methodLink "DotPressLaw" (142 : Nat) ({ cls := "DotPressModel", name := "reading", desc := "(II)I" } : Jvm.MethodName)) ∈ lw_tbl := mT8 (List.mem_of_getElem? (i := 116) rfl)
theorem w8_116 : (Jvm.Cond.methodLink "DotPressLaw" (142 : Nat) ({ cls := "DotPressModel", name := "reading", desc := "(II)I" } : Jvm.MethodName)) ∈ lw_g := lw_in w8_116t rfl
theorem w8_117t : (Jvm.Cond.instanceMethod ({ cls := "DotPressModel", name := "reading", desc := "(II)I" } : Jvm.MethodName)) ∈ lw_tbl := mT8 (List.mem_of_getElem? (i := 117) rfl)
theorem w8_117 : (Jvm.Cond.instanceMethod ({ cls := "DotPressModel", name := "reading", desc := "(II)I" } : Jvm.MethodName)) ∈ lw_g := lw_in w8_117t rfl
theorem w8_118t : (Jvm.Cond.selects "DotPressModel" ({ cls := "DotPressModel", name := "reading", desc := "(II)I" } : Jvm.MethodName) ({ cls := "DotPressModel", name := "reading", desc := "(II)I" } : Jvm.MethodName)) ∈ lw_tbl := mT8 (List.mem_of_getElem? (i := 118) rfl)
theorem w8_118 : (Jvm.Cond.selects "DotPressModel" ({ cls := "DotPressModel", name := "reading", desc := "(II)I" } : Jvm.MethodName) ({ cls := "DotPressModel", name := "reading", desc := "(II)I" } : Jvm.MethodName)) ∈ lw_g := lw_in w8_118t rfl
theorem w8_120t : (Jvm.Cond.methodLink "DotPressLaw" (146 : Nat) ({ cls := "DotPressModel", name := "judge", desc := "(I)I" } : Jvm.MethodName)) ∈ lw_tbl := mT8 (List.mem_of_getElem? (i := 120) rfl)
theorem w8_120 : (Jvm.Cond.methodLink "DotPressLaw" (146 : Nat) ({ cls := "DotPressModel", name := "judge", desc := "(I)I" } : Jvm.MethodName)) ∈ lw_g := lw_in w8_120t rfl
theorem w8_121t : (Jvm.Cond.instanceMethod ({ cls := "DotPressModel", name := "judge", desc := "(I)I" } : Jvm.MethodName)) ∈ lw_tbl := mT8 (List.mem_of_getElem? (i := 121) rfl)
theorem w8_121 : (Jvm.Cond.instanceMethod ({ cls := "DotPressModel", name := "judge", desc := "(I)I" } : Jvm.MethodName)) ∈ lw_g := lw_in w8_121t rfl
theorem w8_122t : (Jvm.Cond.selects "DotPressModel" ({ cls := "DotPressModel", name := "judge", desc := "(I)I" } : Jvm.MethodName) ({ cls := "DotPressModel", name := "judge", desc := "(I)I" } : Jvm.MethodName)) ∈ lw_tbl := mT8 (List.mem_of_getElem? (i := 122) rfl)
theorem w8_122 : (Jvm.Cond.selects "DotPressModel" ({ cls := "DotPressModel", name := "judge", desc := "(I)I" } : Jvm.MethodName) ({ cls := "DotPressModel", name := "judge", desc := "(I)I" } : Jvm.MethodName)) ∈ lw_g := lw_in w8_122t rfl
theorem w8_13t : (Jvm.Cond.methodLink "DotPressLaw" (158 : Nat) ({ cls := "DotPressModel", name := "saved", desc := "(II)I" } : Jvm.MethodName)) ∈ lw_tbl := mT8 (List.mem_of_getElem? (i := 13) rfl)
theorem w8_13 : (Jvm.Cond.methodLink "DotPressLaw" (158 : Nat) ({ cls := "DotPressModel", name := "saved", desc := "(II)I" } : Jvm.MethodName)) ∈ lw_g := lw_in w8_13t rfl
theorem w8_136t : (Jvm.Cond.methodLink "DotPressLaw" (150 : Nat) ({ cls := "DotPressModel", name := "parts", desc := "(III)I" } : Jvm.MethodName)) ∈ lw_tbl := mT8 (List.mem_of_getElem? (i := 136) rfl)
theorem w8_136 : (Jvm.Cond.methodLink "DotPressLaw" (150 : Nat) ({ cls := "DotPressModel", name := "parts", desc := "(III)I" } : Jvm.MethodName)) ∈ lw_g := lw_in w8_136t rfl
theorem w8_137t : (Jvm.Cond.instanceMethod ({ cls := "DotPressModel", name := "parts", desc := "(III)I" } : Jvm.MethodName)) ∈ lw_tbl := mT8 (List.mem_of_getElem? (i := 137) rfl)
theorem w8_137 : (Jvm.Cond.instanceMethod ({ cls := "DotPressModel", name := "parts", desc := "(III)I" } : Jvm.MethodName)) ∈ lw_g := lw_in w8_137t rfl
theorem w8_138t : (Jvm.Cond.selects "DotPressModel" ({ cls := "DotPressModel", name := "parts", desc := "(III)I" } : Jvm.MethodName) ({ cls := "DotPressModel", name := "parts", desc := "(III)I" } : Jvm.MethodName)) ∈ lw_tbl := mT8 (List.mem_of_getElem? (i := 138) rfl)
theorem w8_138 : (Jvm.Cond.selects "DotPressModel" ({ cls := "DotPressModel", name := "parts", desc := "(III)I" } : Jvm.MethodName) ({ cls := "DotPressModel", name := "parts", desc := "(III)I" } : Jvm.MethodName)) ∈ lw_g := lw_in w8_138t rfl
theorem w8_14t : (Jvm.Cond.instanceMethod ({ cls := "DotPressModel", name := "saved", desc := "(II)I" } : Jvm.MethodName)) ∈ lw_tbl := mT8 (List.mem_of_getElem? (i := 14) rfl)
theorem w8_14 : (Jvm.Cond.instanceMethod ({ cls := "DotPressModel", name := "saved", desc := "(II)I" } : Jvm.MethodName)) ∈ lw_g := lw_in w8_14t rfl
theorem w8_140t : (Jvm.Cond.methodLink "DotPressLaw" (154 : Nat) ({ cls := "DotPressModel", name := "unreadable", desc := "(III)I" } : Jvm.MethodName)) ∈ lw_tbl := mT8 (List.mem_of_getElem? (i := 140) rfl)
theorem w8_140 : (Jvm.Cond.methodLink "DotPressLaw" (154 : Nat) ({ cls := "DotPressModel", name := "unreadable", desc := "(III)I" } : Jvm.MethodName)) ∈ lw_g := lw_in w8_140t rfl
theorem w8_141t : (Jvm.Cond.instanceMethod ({ cls := "DotPressModel", name := "unreadable", desc := "(III)I" } : Jvm.MethodName)) ∈ lw_tbl := mT8 (List.mem_of_getElem? (i := 141) rfl)
theorem w8_141 : (Jvm.Cond.instanceMethod ({ cls := "DotPressModel", name := "unreadable", desc := "(III)I" } : Jvm.MethodName)) ∈ lw_g := lw_in w8_141t rfl
theorem w8_142t : (Jvm.Cond.selects "DotPressModel" ({ cls := "DotPressModel", name := "unreadable", desc := "(III)I" } : Jvm.MethodName) ({ cls := "DotPressModel", name := "unreadable", desc := "(III)I" } : Jvm.MethodName)) ∈ lw_tbl := mT8 (List.mem_of_getElem? (i := 142) rfl)
theorem w8_142 : (Jvm.Cond.selects "DotPressModel" ({ cls := "DotPressModel", name := "unreadable", desc := "(III)I" } : Jvm.MethodName) ({ cls := "DotPressModel", name := "unreadable", desc := "(III)I" } : Jvm.MethodName)) ∈ lw_g := lw_in w8_142t rfl
theorem w8_15t : (Jvm.Cond.selects "DotPressModel" ({ cls := "DotPressModel", name := "saved", desc := "(II)I" } : Jvm.MethodName) ({ cls := "DotPressModel", name := "saved", desc := "(II)I" } : Jvm.MethodName)) ∈ lw_tbl := mT8 (List.mem_of_getElem? (i := 15) rfl)
theorem w8_15 : (Jvm.Cond.selects "DotPressModel" ({ cls := "DotPressModel", name := "saved", desc := "(II)I" } : Jvm.MethodName) ({ cls := "DotPressModel", name := "saved", desc := "(II)I" } : Jvm.MethodName)) ∈ lw_g := lw_in w8_15t rfl
theorem w8_156t : (Jvm.Cond.methodLink "DotPressLaw" (162 : Nat) ({ cls := "DotPressModel", name := "place", desc := "()I" } : Jvm.MethodName)) ∈ lw_tbl := mT8 (List.mem_of_getElem? (i := 156) rfl)
theorem w8_156 : (Jvm.Cond.methodLink "DotPressLaw" (162 : Nat) ({ cls := "DotPressModel", name := "place", desc := "()I" } : Jvm.MethodName)) ∈ lw_g := lw_in w8_156t rfl
theorem w8_157t : (Jvm.Cond.instanceMethod ({ cls := "DotPressModel", name := "place", desc := "()I" } : Jvm.MethodName)) ∈ lw_tbl := mT8 (List.mem_of_getElem? (i := 157) rfl)
theorem w8_157 : (Jvm.Cond.instanceMethod ({ cls := "DotPressModel", name := "place", desc := "()I" } : Jvm.MethodName)) ∈ lw_g := lw_in w8_157t rfl
theorem w8_158t : (Jvm.Cond.selects "DotPressModel" ({ cls := "DotPressModel", name := "place", desc := "()I" } : Jvm.MethodName) ({ cls := "DotPressModel", name := "place", desc := "()I" } : Jvm.MethodName)) ∈ lw_tbl := mT8 (List.mem_of_getElem? (i := 158) rfl)
theorem w8_158 : (Jvm.Cond.selects "DotPressModel" ({ cls := "DotPressModel", name := "place", desc := "()I" } : Jvm.MethodName) ({ cls := "DotPressModel", name := "place", desc := "()I" } : Jvm.MethodName)) ∈ lw_g := lw_in w8_158t rfl
theorem w8_160t : (Jvm.Cond.methodLink "DotPressLaw" (170 : Nat) ({ cls := "DotPressModel", name := "status", desc := "()I" } : Jvm.MethodName)) ∈ lw_tbl := mT8 (List.mem_of_getElem? (i := 160) rfl)
theorem w8_160 : (Jvm.Cond.methodLink "DotPressLaw" (170 : Nat) ({ cls := "DotPressModel", name := "status", desc := "()I" } : Jvm.MethodName)) ∈ lw_g := lw_in w8_160t rfl
theorem w8_161t : (Jvm.Cond.instanceMethod ({ cls := "DotPressModel", name := "status", desc := "()I" } : Jvm.MethodName)) ∈ lw_tbl := mT8 (List.mem_of_getElem? (i := 161) rfl)
theorem w8_161 : (Jvm.Cond.instanceMethod ({ cls := "DotPressModel", name := "status", desc := "()I" } : Jvm.MethodName)) ∈ lw_g := lw_in w8_161t rfl
theorem w8_162t : (Jvm.Cond.selects "DotPressModel" ({ cls := "DotPressModel", name := "status", desc := "()I" } : Jvm.MethodName) ({ cls := "DotPressModel", name := "status", desc := "()I" } : Jvm.MethodName)) ∈ lw_tbl := mT8 (List.mem_of_getElem? (i := 162) rfl)
theorem w8_162 : (Jvm.Cond.selects "DotPressModel" ({ cls := "DotPressModel", name := "status", desc := "()I" } : Jvm.MethodName) ({ cls := "DotPressModel", name := "status", desc := "()I" } : Jvm.MethodName)) ∈ lw_g := lw_in w8_162t rfl
theorem w8_164t : (Jvm.Cond.methodLink "DotPressLaw" (174 : Nat) ({ cls := "DotPressModel", name := "digest", desc := "()I" } : Jvm.MethodName)) ∈ lw_tbl := mT8 (List.mem_of_getElem? (i := 164) rfl)
theorem w8_164 : (Jvm.Cond.methodLink "DotPressLaw" (174 : Nat) ({ cls := "DotPressModel", name := "digest", desc := "()I" } : Jvm.MethodName)) ∈ lw_g := lw_in w8_164t rfl
theorem w8_165t : (Jvm.Cond.instanceMethod ({ cls := "DotPressModel", name := "digest", desc := "()I" } : Jvm.MethodName)) ∈ lw_tbl := mT8 (List.mem_of_getElem? (i := 165) rfl)
theorem w8_165 : (Jvm.Cond.instanceMethod ({ cls := "DotPressModel", name := "digest", desc := "()I" } : Jvm.MethodName)) ∈ lw_g := lw_in w8_165t rfl
theorem w8_166t : (Jvm.Cond.selects "DotPressModel" ({ cls := "DotPressModel", name := "digest", desc := "()I" } : Jvm.MethodName) ({ cls := "DotPressModel", name := "digest", desc := "()I" } : Jvm.MethodName)) ∈ lw_tbl := mT8 (List.mem_of_getElem? (i := 166) rfl)
theorem w8_166 : (Jvm.Cond.selects "DotPressModel" ({ cls := "DotPressModel", name := "digest", desc := "()I" } : Jvm.MethodName) ({ cls := "DotPressModel", name := "digest", desc := "()I" } : Jvm.MethodName)) ∈ lw_g := lw_in w8_166t rfl
theorem w8_17t : (Jvm.Cond.methodLink "DotPressLaw" (121 : Nat) ({ cls := "DotPressModel", name := "read", desc := "(III)I" } : Jvm.MethodName)) ∈ lw_tbl := mT8 (List.mem_of_getElem? (i := 17) rfl)
theorem w8_17 : (Jvm.Cond.methodLink "DotPressLaw" (121 : Nat) ({ cls := "DotPressModel", name := "read", desc := "(III)I" } : Jvm.MethodName)) ∈ lw_g := lw_in w8_17t rfl
theorem w8_18t : (Jvm.Cond.instanceMethod ({ cls := "DotPressModel", name := "read", desc := "(III)I" } : Jvm.MethodName)) ∈ lw_tbl := mT8 (List.mem_of_getElem? (i := 18) rfl)
theorem w8_18 : (Jvm.Cond.instanceMethod ({ cls := "DotPressModel", name := "read", desc := "(III)I" } : Jvm.MethodName)) ∈ lw_g := lw_in w8_18t rfl
theorem w8_19t : (Jvm.Cond.selects "DotPressModel" ({ cls := "DotPressModel", name := "read", desc := "(III)I" } : Jvm.MethodName) ({ cls := "DotPressModel", name := "read", desc := "(III)I" } : Jvm.MethodName)) ∈ lw_tbl := mT8 (List.mem_of_getElem? (i := 19) rfl)
theorem w8_19 : (Jvm.Cond.selects "DotPressModel" ({ cls := "DotPressModel", name := "read", desc := "(III)I" } : Jvm.MethodName) ({ cls := "DotPressModel", name := "read", desc := "(III)I" } : Jvm.MethodName)) ∈ lw_g := lw_in w8_19t rfl
theorem w8_2t : (Jvm.Cond.selects "DotPressModel" ({ cls := "DotPressModel", name := "copied", desc := "()I" } : Jvm.MethodName) ({ cls := "DotPressModel", name := "copied", desc := "()I" } : Jvm.MethodName)) ∈ lw_tbl := mT8 (List.mem_of_getElem? (i := 2) rfl)
theorem w8_2 : (Jvm.Cond.selects "DotPressModel" ({ cls := "DotPressModel", name := "copied", desc := "()I" } : Jvm.MethodName) ({ cls := "DotPressModel", name := "copied", desc := "()I" } : Jvm.MethodName)) ∈ lw_g := lw_in w8_2t rfl
theorem w8_4t : (Jvm.Cond.methodLink "DotPressLaw" (113 : Nat) ({ cls := "DotPressModel", name := "emboss", desc := "(II)I" } : Jvm.MethodName)) ∈ lw_tbl := mT8 (List.mem_of_getElem? (i := 4) rfl)
theorem w8_4 : (Jvm.Cond.methodLink "DotPressLaw" (113 : Nat) ({ cls := "DotPressModel", name := "emboss", desc := "(II)I" } : Jvm.MethodName)) ∈ lw_g := lw_in w8_4t rfl
theorem w8_5t : (Jvm.Cond.instanceMethod ({ cls := "DotPressModel", name := "emboss", desc := "(II)I" } : Jvm.MethodName)) ∈ lw_tbl := mT8 (List.mem_of_getElem? (i := 5) rfl)
theorem w8_5 : (Jvm.Cond.instanceMethod ({ cls := "DotPressModel", name := "emboss", desc := "(II)I" } : Jvm.MethodName)) ∈ lw_g := lw_in w8_5t rfl
theorem w8_6t : (Jvm.Cond.selects "DotPressModel" ({ cls := "DotPressModel", name := "emboss", desc := "(II)I" } : Jvm.MethodName) ({ cls := "DotPressModel", name := "emboss", desc := "(II)I" } : Jvm.MethodName)) ∈ lw_tbl := mT8 (List.mem_of_getElem? (i := 6) rfl)
theorem w8_6 : (Jvm.Cond.selects "DotPressModel" ({ cls := "DotPressModel", name := "emboss", desc := "(II)I" } : Jvm.MethodName) ({ cls := "DotPressModel", name := "emboss", desc := "(II)I" } : Jvm.MethodName)) ∈ lw_g := lw_in w8_6t rfl
theorem w8_69t : (Jvm.Cond.methodLink "DotPressLaw" (125 : Nat) ({ cls := "DotPressModel", name := "letter", desc := "(I)I" } : Jvm.MethodName)) ∈ lw_tbl := mT8 (List.mem_of_getElem? (i := 69) rfl)
theorem w8_69 : (Jvm.Cond.methodLink "DotPressLaw" (125 : Nat) ({ cls := "DotPressModel", name := "letter", desc := "(I)I" } : Jvm.MethodName)) ∈ lw_g := lw_in w8_69t rfl
theorem w8_70t : (Jvm.Cond.instanceMethod ({ cls := "DotPressModel", name := "letter", desc := "(I)I" } : Jvm.MethodName)) ∈ lw_tbl := mT8 (List.mem_of_getElem? (i := 70) rfl)
theorem w8_70 : (Jvm.Cond.instanceMethod ({ cls := "DotPressModel", name := "letter", desc := "(I)I" } : Jvm.MethodName)) ∈ lw_g := lw_in w8_70t rfl
theorem w8_71t : (Jvm.Cond.selects "DotPressModel" ({ cls := "DotPressModel", name := "letter", desc := "(I)I" } : Jvm.MethodName) ({ cls := "DotPressModel", name := "letter", desc := "(I)I" } : Jvm.MethodName)) ∈ lw_tbl := mT8 (List.mem_of_getElem? (i := 71) rfl)
theorem w8_71 : (Jvm.Cond.selects "DotPressModel" ({ cls := "DotPressModel", name := "letter", desc := "(I)I" } : Jvm.MethodName) ({ cls := "DotPressModel", name := "letter", desc := "(I)I" } : Jvm.MethodName)) ∈ lw_g := lw_in w8_71t rfl
theorem w8_73t : (Jvm.Cond.methodLink "DotPressLaw" (130 : Nat) ({ cls := "DotPressModel", name := "failed", desc := "(IZ)I" } : Jvm.MethodName)) ∈ lw_tbl := mT8 (List.mem_of_getElem? (i := 73) rfl)
theorem w8_73 : (Jvm.Cond.methodLink "DotPressLaw" (130 : Nat) ({ cls := "DotPressModel", name := "failed", desc := "(IZ)I" } : Jvm.MethodName)) ∈ lw_g := lw_in w8_73t rfl
theorem w8_74t : (Jvm.Cond.instanceMethod ({ cls := "DotPressModel", name := "failed", desc := "(IZ)I" } : Jvm.MethodName)) ∈ lw_tbl := mT8 (List.mem_of_getElem? (i := 74) rfl)
theorem w8_74 : (Jvm.Cond.instanceMethod ({ cls := "DotPressModel", name := "failed", desc := "(IZ)I" } : Jvm.MethodName)) ∈ lw_g := lw_in w8_74t rfl
theorem w8_75t : (Jvm.Cond.selects "DotPressModel" ({ cls := "DotPressModel", name := "failed", desc := "(IZ)I" } : Jvm.MethodName) ({ cls := "DotPressModel", name := "failed", desc := "(IZ)I" } : Jvm.MethodName)) ∈ lw_tbl := mT8 (List.mem_of_getElem? (i := 75) rfl)
theorem w8_75 : (Jvm.Cond.selects "DotPressModel" ({ cls := "DotPressModel", name := "failed", desc := "(IZ)I" } : Jvm.MethodName) ({ cls := "DotPressModel", name := "failed", desc := "(IZ)I" } : Jvm.MethodName)) ∈ lw_g := lw_in w8_75t rfl
theorem w8_77t : (Jvm.Cond.methodLink "DotPressLaw" (134 : Nat) ({ cls := "DotPressModel", name := "readings", desc := "(III)I" } : Jvm.MethodName)) ∈ lw_tbl := mT8 (List.mem_of_getElem? (i := 77) rfl)
theorem w8_77 : (Jvm.Cond.methodLink "DotPressLaw" (134 : Nat) ({ cls := "DotPressModel", name := "readings", desc := "(III)I" } : Jvm.MethodName)) ∈ lw_g := lw_in w8_77t rfl
theorem w8_78t : (Jvm.Cond.instanceMethod ({ cls := "DotPressModel", name := "readings", desc := "(III)I" } : Jvm.MethodName)) ∈ lw_tbl := mT8 (List.mem_of_getElem? (i := 78) rfl)
theorem w8_78 : (Jvm.Cond.instanceMethod ({ cls := "DotPressModel", name := "readings", desc := "(III)I" } : Jvm.MethodName)) ∈ lw_g := lw_in w8_78t rfl
theorem w8_79t : (Jvm.Cond.selects "DotPressModel" ({ cls := "DotPressModel", name := "readings", desc := "(III)I" } : Jvm.MethodName) ({ cls := "DotPressModel", name := "readings", desc := "(III)I" } : Jvm.MethodName)) ∈ lw_tbl := mT8 (List.mem_of_getElem? (i := 79) rfl)
theorem w8_79 : (Jvm.Cond.selects "DotPressModel" ({ cls := "DotPressModel", name := "readings", desc := "(III)I" } : Jvm.MethodName) ({ cls := "DotPressModel", name := "readings", desc := "(III)I" } : Jvm.MethodName)) ∈ lw_g := lw_in w8_79t rfl
theorem w8_9t : (Jvm.Cond.methodLink "DotPressLaw" (117 : Nat) ({ cls := "DotPressModel", name := "closed", desc := "()I" } : Jvm.MethodName)) ∈ lw_tbl := mT8 (List.mem_of_getElem? (i := 9) rfl)
theorem w8_9 : (Jvm.Cond.methodLink "DotPressLaw" (117 : Nat) ({ cls := "DotPressModel", name := "closed", desc := "()I" } : Jvm.MethodName)) ∈ lw_g := lw_in w8_9t rfl
theorem kI_L_12 : Wi RL 12 yX12_init cX12_init 1 0 := ⟨⟨w6_51, w1_12, w6_53, (by decide +kernel)⟩, rfl, w6_52⟩
theorem kI_L_9 : Wi RL 9 yX11_init cX11_init 1 0 := ⟨⟨w1_26, w1_1, w1_28, (by decide +kernel)⟩, rfl, w1_27⟩
theorem kV_L_101 : Wv RL 101 yX12_copyRow cX12_copyRow 11 (some .int) 5 := ⟨⟨w7_232, w1_12, w7_235, (by decide +kernel)⟩, w7_233, w7_234⟩
theorem kV_L_102 : Wv RL 102 yX11_copyLines cX11_copyLines 7 (some .int) 3 := ⟨⟨w4_234, w1_1, w4_237, (by decide +kernel)⟩, w4_235, w4_236⟩
theorem kV_L_105 : Wv RL 105 yX12_copyLines cX12_copyLines 10 (some .int) 3 := ⟨⟨w7_236, w1_12, w7_239, (by decide +kernel)⟩, w7_237, w7_238⟩
theorem kV_L_106 : Wv RL 106 yX11_copied cX11_copied 1 (some .int) 0 := ⟨⟨w5_2, w1_1, w5_5, (by decide +kernel)⟩, w5_3, w5_4⟩
theorem kV_L_109 : Wv RL 109 yX12_copied cX12_copied 1 (some .int) 0 := ⟨⟨w8_0, w1_12, w8_3, (by decide +kernel)⟩, w8_1, w8_2⟩
theorem kV_L_110 : Wv RL 110 yX11_emboss cX11_emboss 6 (some .int) 2 := ⟨⟨w5_6, w1_1, w5_9, (by decide +kernel)⟩, w5_7, w5_8⟩
theorem kV_L_113 : Wv RL 113 yX12_emboss cX12_emboss 9 (some .int) 2 := ⟨⟨w8_4, w1_12, w8_7, (by decide +kernel)⟩, w8_5, w8_6⟩
theorem kV_L_114 : Wv RL 114 yX11_closed cX11_closed 1 (some .int) 0 := ⟨⟨w5_20, w1_1, w5_23, (by decide +kernel)⟩, w5_21, w5_22⟩
theorem kV_L_117 : Wv RL 117 yX12_closed cX12_closed 1 (some .int) 0 := ⟨⟨w8_9, w1_12, w8_12, (by decide +kernel)⟩, w8_10, w8_11⟩
theorem kV_L_118 : Wv RL 118 yX11_read cX11_read 6 (some .int) 3 := ⟨⟨w5_24, w1_1, w5_27, (by decide +kernel)⟩, w5_25, w5_26⟩
theorem kV_L_121 : Wv RL 121 yX12_read cX12_read 11 (some .int) 3 := ⟨⟨w8_17, w1_12, w8_20, (by decide +kernel)⟩, w8_18, w8_19⟩
theorem kV_L_122 : Wv RL 122 yX11_letter cX11_letter 2 (some .int) 1 := ⟨⟨w5_110, w1_1, w5_113, (by decide +kernel)⟩, w5_111, w5_112⟩
theorem kV_L_125 : Wv RL 125 yX12_letter cX12_letter 2 (some .int) 1 := ⟨⟨w8_69, w1_12, w8_72, (by decide +kernel)⟩, w8_70, w8_71⟩
theorem kV_L_126 : Wv RL 126 yX11_failed cX11_failed 4 (some .int) 2 := ⟨⟨w5_114, w1_1, w5_117, (by decide +kernel)⟩, w5_115, w5_116⟩
theorem kV_L_13 : Wv RL 13 yX11_feed cX11_feed 6 (some .int) 5 := ⟨⟨w2_102, w1_1, w2_105, (by decide +kernel)⟩, w2_103, w2_104⟩
theorem kV_L_130 : Wv RL 130 yX12_failed cX12_failed 3 (some .int) 2 := ⟨⟨w8_73, w1_12, w8_76, (by decide +kernel)⟩, w8_74, w8_75⟩
theorem kV_L_131 : Wv RL 131 yX11_readings cX11_readings 6 (some .int) 3 := ⟨⟨w5_119, w1_1, w5_122, (by decide +kernel)⟩, w5_120, w5_121⟩
theorem kV_L_134 : Wv RL 134 yX12_readings cX12_readings 5 (some .int) 3 := ⟨⟨w8_77, w1_12, w8_80, (by decide +kernel)⟩, w8_78, w8_79⟩
theorem kV_L_135 : Wv RL 135 yX11_more cX11_more 1 (some .int) 0 := ⟨⟨w5_166, w1_1, w5_169, (by decide +kernel)⟩, w5_167, w5_168⟩
theorem kV_L_138 : Wv RL 138 yX12_more cX12_more 1 (some .int) 0 := ⟨⟨w8_112, w1_12, w8_115, (by decide +kernel)⟩, w8_113, w8_114⟩
theorem kV_L_139 : Wv RL 139 yX11_reading cX11_reading 4 (some .int) 2 := ⟨⟨w5_170, w1_1, w5_173, (by decide +kernel)⟩, w5_171, w5_172⟩
theorem kV_L_142 : Wv RL 142 yX12_reading cX12_reading 3 (some .int) 2 := ⟨⟨w8_116, w1_12, w8_119, (by decide +kernel)⟩, w8_117, w8_118⟩
theorem kV_L_143 : Wv RL 143 yX11_judge cX11_judge 4 (some .int) 1 := ⟨⟨w5_179, w1_1, w5_182, (by decide +kernel)⟩, w5_180, w5_181⟩
theorem kV_L_146 : Wv RL 146 yX12_judge cX12_judge 3 (some .int) 1 := ⟨⟨w8_120, w1_12, w8_123, (by decide +kernel)⟩, w8_121, w8_122⟩
theorem kV_L_147 : Wv RL 147 yX11_parts cX11_parts 10 (some .int) 3 := ⟨⟨w5_206, w1_1, w5_209, (by decide +kernel)⟩, w5_207, w5_208⟩
theorem kV_L_150 : Wv RL 150 yX12_parts cX12_parts 5 (some .int) 3 := ⟨⟨w8_136, w1_12, w8_139, (by decide +kernel)⟩, w8_137, w8_138⟩
theorem kV_L_151 : Wv RL 151 yX11_unreadable cX11_unreadable 7 (some .int) 3 := ⟨⟨w5_211, w1_1, w5_214, (by decide +kernel)⟩, w5_212, w5_213⟩
theorem kV_L_154 : Wv RL 154 yX12_unreadable cX12_unreadable 9 (some .int) 3 := ⟨⟨w8_140, w1_12, w8_143, (by decide +kernel)⟩, w8_141, w8_142⟩
theorem kV_L_155 : Wv RL 155 yX11_saved cX11_saved 10 (some .int) 2 := ⟨⟨w6_20, w1_1, w6_23, (by decide +kernel)⟩, w6_21, w6_22⟩
theorem kV_L_158 : Wv RL 158 yX12_saved cX12_saved 8 (some .int) 2 := ⟨⟨w8_13, w1_12, w8_16, (by decide +kernel)⟩, w8_14, w8_15⟩
theorem kV_L_159 : Wv RL 159 yX11_place cX11_place 1 (some .int) 0 := ⟨⟨w6_24, w1_1, w6_27, (by decide +kernel)⟩, w6_25, w6_26⟩
theorem kV_L_162 : Wv RL 162 yX12_place cX12_place 1 (some .int) 0 := ⟨⟨w8_156, w1_12, w8_159, (by decide +kernel)⟩, w8_157, w8_158⟩
theorem kV_L_163 : Wv RL 163 yX11_finds cX11_finds 2 (some .int) 1 := ⟨⟨w6_28, w1_1, w6_31, (by decide +kernel)⟩, w6_29, w6_30⟩
theorem kV_L_166 : Wv RL 166 yX12_finds cX12_finds 2 (some .int) 1 := ⟨⟨w7_92, w1_12, w7_95, (by decide +kernel)⟩, w7_93, w7_94⟩
theorem kV_L_167 : Wv RL 167 yX11_status cX11_status 1 (some .int) 0 := ⟨⟨w6_36, w1_1, w6_39, (by decide +kernel)⟩, w6_37, w6_38⟩
theorem kV_L_17 : Wv RL 17 yX12_feed cX12_feed 8 (some .int) 5 := ⟨⟨w7_21, w1_12, w7_24, (by decide +kernel)⟩, w7_22, w7_23⟩
theorem kV_L_170 : Wv RL 170 yX12_status cX12_status 1 (some .int) 0 := ⟨⟨w8_160, w1_12, w8_163, (by decide +kernel)⟩, w8_161, w8_162⟩
theorem kV_L_171 : Wv RL 171 yX11_digest cX11_digest 3 (some .int) 0 := ⟨⟨w6_40, w1_1, w6_43, (by decide +kernel)⟩, w6_41, w6_42⟩
theorem kV_L_174 : Wv RL 174 yX12_digest cX12_digest 4 (some .int) 0 := ⟨⟨w8_164, w1_12, w8_167, (by decide +kernel)⟩, w8_165, w8_166⟩
theorem kV_L_18 : Wv RL 18 yX11_end cX11_end 2 (some .int) 1 := ⟨⟨w2_138, w1_1, w2_141, (by decide +kernel)⟩, w2_139, w2_140⟩
theorem kV_L_22 : Wv RL 22 yX12_end cX12_end 2 (some .int) 1 := ⟨⟨w7_33, w1_12, w7_36, (by decide +kernel)⟩, w7_34, w7_35⟩
theorem kV_L_23 : Wv RL 23 yX11_table cX11_table 5 (some .int) 3 := ⟨⟨w2_150, w1_1, w2_153, (by decide +kernel)⟩, w2_151, w2_152⟩
theorem kV_L_27 : Wv RL 27 yX12_table cX12_table 5 (some .int) 3 := ⟨⟨w7_37, w1_12, w7_40, (by decide +kernel)⟩, w7_38, w7_39⟩
theorem kV_L_28 : Wv RL 28 yX11_join cX11_join 5 (some .int) 2 := ⟨⟨w3_89, w1_1, w3_92, (by decide +kernel)⟩, w3_90, w3_91⟩
theorem kV_L_32 : Wv RL 32 yX12_join cX12_join 3 (some .int) 2 := ⟨⟨w7_56, w1_12, w7_59, (by decide +kernel)⟩, w7_57, w7_58⟩
theorem kV_L_33 : Wv RL 33 yX11_drop cX11_drop 3 (some .int) 1 := ⟨⟨w3_94, w1_1, w3_97, (by decide +kernel)⟩, w3_95, w3_96⟩
theorem kV_L_36 : Wv RL 36 yX12_drop cX12_drop 2 (some .int) 1 := ⟨⟨w7_61, w1_12, w7_64, (by decide +kernel)⟩, w7_62, w7_63⟩
theorem kV_L_37 : Wv RL 37 yX11_rule cX11_rule 5 (some .int) 3 := ⟨⟨w3_101, w1_1, w3_104, (by decide +kernel)⟩, w3_102, w3_103⟩
theorem kV_L_40 : Wv RL 40 yX12_rule cX12_rule 8 (some .int) 3 := ⟨⟨w7_65, w1_12, w7_68, (by decide +kernel)⟩, w7_66, w7_67⟩
theorem kV_L_41 : Wv RL 41 yX11_condition cX11_condition 7 (some .int) 3 := ⟨⟨w3_170, w1_1, w3_173, (by decide +kernel)⟩, w3_171, w3_172⟩
theorem kV_L_44 : Wv RL 44 yX12_condition cX12_condition 5 (some .int) 3 := ⟨⟨w7_80, w1_12, w7_83, (by decide +kernel)⟩, w7_81, w7_82⟩
theorem kV_L_45 : Wv RL 45 yX11_indicator cX11_indicator 4 (some .int) 2 := ⟨⟨w3_175, w1_1, w3_178, (by decide +kernel)⟩, w3_176, w3_177⟩
theorem kV_L_48 : Wv RL 48 yX12_indicator cX12_indicator 8 (some .int) 2 := ⟨⟨w7_84, w1_12, w7_87, (by decide +kernel)⟩, w7_85, w7_86⟩
theorem kV_L_49 : Wv RL 49 yX11_undo cX11_undo 1 (some .int) 0 := ⟨⟨w3_187, w1_1, w3_190, (by decide +kernel)⟩, w3_188, w3_189⟩
theorem kV_L_53 : Wv RL 53 yX12_undo cX12_undo 5 (some .int) 0 := ⟨⟨w7_88, w1_12, w7_91, (by decide +kernel)⟩, w7_89, w7_90⟩
theorem kV_L_54 : Wv RL 54 yX11_text cX11_text 2 (some .int) 0 := ⟨⟨w3_207, w1_1, w3_210, (by decide +kernel)⟩, w3_208, w3_209⟩
theorem kV_L_57 : Wv RL 57 yX12_text cX12_text 4 (some .int) 0 := ⟨⟨w7_96, w1_12, w7_99, (by decide +kernel)⟩, w7_97, w7_98⟩
theorem kV_L_58 : Wv RL 58 yX11_measure cX11_measure 4 (some .int) 3 := ⟨⟨w3_221, w1_1, w3_224, (by decide +kernel)⟩, w3_222, w3_223⟩
theorem kV_L_61 : Wv RL 61 yX12_measure cX12_measure 4 (some .int) 3 := ⟨⟨w7_100, w1_12, w7_103, (by decide +kernel)⟩, w7_101, w7_102⟩
theorem kV_L_62 : Wv RL 62 yX11_set cX11_set 7 (some .int) 1 := ⟨⟨w3_225, w1_1, w3_228, (by decide +kernel)⟩, w3_226, w3_227⟩
theorem kV_L_65 : Wv RL 65 yX12_set cX12_set 7 (some .int) 1 := ⟨⟨w7_104, w1_12, w7_107, (by decide +kernel)⟩, w7_105, w7_106⟩
theorem kV_L_66 : Wv RL 66 yX11_head cX11_head 6 (some .int) 1 := ⟨⟨w4_164, w1_1, w4_167, (by decide +kernel)⟩, w4_165, w4_166⟩
theorem kV_L_69 : Wv RL 69 yX12_head cX12_head 5 (some .int) 1 := ⟨⟨w7_185, w1_12, w7_188, (by decide +kernel)⟩, w7_186, w7_187⟩
theorem kV_L_70 : Wv RL 70 yX11_lines cX11_lines 1 (some .int) 0 := ⟨⟨w4_170, w1_1, w4_173, (by decide +kernel)⟩, w4_171, w4_172⟩
theorem kV_L_73 : Wv RL 73 yX12_lines cX12_lines 1 (some .int) 0 := ⟨⟨w7_190, w1_12, w7_193, (by decide +kernel)⟩, w7_191, w7_192⟩
theorem kV_L_74 : Wv RL 74 yX11_pages cX11_pages 2 (some .int) 0 := ⟨⟨w4_174, w1_1, w4_177, (by decide +kernel)⟩, w4_175, w4_176⟩
theorem kV_L_77 : Wv RL 77 yX12_pages cX12_pages 1 (some .int) 0 := ⟨⟨w7_194, w1_12, w7_197, (by decide +kernel)⟩, w7_195, w7_196⟩
theorem kV_L_78 : Wv RL 78 yX11_length cX11_length 3 (some .int) 1 := ⟨⟨w4_186, w1_1, w4_189, (by decide +kernel)⟩, w4_187, w4_188⟩
theorem kV_L_81 : Wv RL 81 yX12_length cX12_length 2 (some .int) 1 := ⟨⟨w7_206, w1_12, w7_209, (by decide +kernel)⟩, w7_207, w7_208⟩
theorem kV_L_82 : Wv RL 82 yX11_cell cX11_cell 3 (some .int) 2 := ⟨⟨w4_198, w1_1, w4_201, (by decide +kernel)⟩, w4_199, w4_200⟩
theorem kV_L_85 : Wv RL 85 yX12_cell cX12_cell 3 (some .int) 2 := ⟨⟨w7_214, w1_12, w7_217, (by decide +kernel)⟩, w7_215, w7_216⟩
theorem kV_L_86 : Wv RL 86 yX11_page cX11_page 5 (some .int) 3 := ⟨⟨w4_206, w1_1, w4_209, (by decide +kernel)⟩, w4_207, w4_208⟩
theorem kV_L_89 : Wv RL 89 yX12_page cX12_page 5 (some .int) 3 := ⟨⟨w7_218, w1_12, w7_221, (by decide +kernel)⟩, w7_219, w7_220⟩
theorem kV_L_90 : Wv RL 90 yX11_cut cX11_cut 4 (some .int) 2 := ⟨⟨w4_211, w1_1, w4_214, (by decide +kernel)⟩, w4_212, w4_213⟩
theorem kV_L_93 : Wv RL 93 yX12_cut cX12_cut 4 (some .int) 2 := ⟨⟨w7_224, w1_12, w7_227, (by decide +kernel)⟩, w7_225, w7_226⟩
theorem kV_L_94 : Wv RL 94 yX11_lose cX11_lose 3 (some .int) 1 := ⟨⟨w4_220, w1_1, w4_223, (by decide +kernel)⟩, w4_221, w4_222⟩
theorem kV_L_97 : Wv RL 97 yX12_lose cX12_lose 2 (some .int) 1 := ⟨⟨w7_228, w1_12, w7_231, (by decide +kernel)⟩, w7_229, w7_230⟩
theorem kV_L_98 : Wv RL 98 yX11_copyRow cX11_copyRow 8 (some .int) 5 := ⟨⟨w4_225, w1_1, w4_228, (by decide +kernel)⟩, w4_226, w4_227⟩
