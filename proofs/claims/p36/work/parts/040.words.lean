theorem mT1 {w : Cond} (h : w ∈ tables_1_1) : w ∈ lw_tbl := List.mem_append_right _ (show w ∈ tables_1 from List.mem_append_left _ h)
theorem mT2 {w : Cond} (h : w ∈ tables_1_2) : w ∈ lw_tbl := List.mem_append_right _ (show w ∈ tables_1 from List.mem_append_right _ (List.mem_append_left _ h))
theorem mT3 {w : Cond} (h : w ∈ tables_1_3) : w ∈ lw_tbl := List.mem_append_right _ (show w ∈ tables_1 from List.mem_append_right _ (List.mem_append_right _ (List.mem_append_left _ h)))
theorem mT4 {w : Cond} (h : w ∈ tables_1_4) : w ∈ lw_tbl := List.mem_append_right _ (show w ∈ tables_1 from List.mem_append_right _ (List.mem_append_right _ (List.mem_append_right _ (List.mem_append_left _ h))))
theorem mT5 {w : Cond} (h : w ∈ tables_1_5) : w ∈ lw_tbl := List.mem_append_right _ (show w ∈ tables_1 from List.mem_append_right _ (List.mem_append_right _ (List.mem_append_right _ (List.mem_append_right _ (List.mem_append_left _ h)))))
theorem mT8 {w : Cond} (h : w ∈ tables_1_8) : w ∈ lw_tbl := List.mem_append_right _ (show w ∈ tables_1 from List.mem_append_right _ (List.mem_append_right _ (List.mem_append_right _ (List.mem_append_right _ (List.mem_append_right _ (List.mem_append_right _ (List.mem_append_right _ (h))))))))
theorem w1_1t : (Jvm.Cond.initialized "DotPress") ∈ lw_tbl := mT1 (List.mem_of_getElem? (i := 1) rfl)
theorem w1_1 : (Jvm.Cond.initialized "DotPress") ∈ lw_g := lw_in w1_1t rfl
theorem w1_103t : (Jvm.Cond.fieldLink "DotPress$Source" (9 : Nat) "DotPress$Source" "at" "I") ∈ lw_tbl := mT1 (List.mem_of_getElem? (i := 103) rfl)
theorem w1_103 : (Jvm.Cond.fieldLink "DotPress$Source" (9 : Nat) "DotPress$Source" "at" "I") ∈ lw_g := lw_in w1_103t rfl
theorem w1_104t : (Jvm.Cond.fieldLink "DotPress$Source" (15 : Nat) "DotPress$Source" "inLine" "Z") ∈ lw_tbl := mT1 (List.mem_of_getElem? (i := 104) rfl)
theorem w1_104 : (Jvm.Cond.fieldLink "DotPress$Source" (15 : Nat) "DotPress$Source" "inLine" "Z") ∈ lw_g := lw_in w1_104t rfl
theorem w1_105t : (Jvm.Cond.fieldLink "DotPress$Source" (19 : Nat) "DotPress$Source" "centred" "Z") ∈ lw_tbl := mT1 (List.mem_of_getElem? (i := 105) rfl)
theorem w1_105 : (Jvm.Cond.fieldLink "DotPress$Source" (19 : Nat) "DotPress$Source" "centred" "Z") ∈ lw_g := lw_in w1_105t rfl
theorem w1_112t : (Jvm.Cond.lays "DotPress$Source" "DotPress$Source" "at" "I") ∈ lw_tbl := mT1 (List.mem_of_getElem? (i := 112) rfl)
theorem w1_112 : (Jvm.Cond.lays "DotPress$Source" "DotPress$Source" "at" "I") ∈ lw_g := lw_in w1_112t rfl
theorem w1_114t : (Jvm.Cond.lays "DotPress$Source" "DotPress$Source" "inLine" "Z") ∈ lw_tbl := mT1 (List.mem_of_getElem? (i := 114) rfl)
theorem w1_114 : (Jvm.Cond.lays "DotPress$Source" "DotPress$Source" "inLine" "Z") ∈ lw_g := lw_in w1_114t rfl
theorem w1_116t : (Jvm.Cond.lays "DotPress$Source" "DotPress$Source" "centred" "Z") ∈ lw_tbl := mT1 (List.mem_of_getElem? (i := 116) rfl)
theorem w1_116 : (Jvm.Cond.lays "DotPress$Source" "DotPress$Source" "centred" "Z") ∈ lw_g := lw_in w1_116t rfl
theorem w1_118t : (Jvm.Cond.laysFinal "DotPress$Source" "DotPress$Source" "isSpelt" "[Z") ∈ lw_tbl := mT1 (List.mem_of_getElem? (i := 118) rfl)
theorem w1_118 : (Jvm.Cond.laysFinal "DotPress$Source" "DotPress$Source" "isSpelt" "[Z") ∈ lw_g := lw_in w1_118t rfl
theorem w1_120t : (Jvm.Cond.laysFinal "DotPress$Source" "DotPress$Source" "alphabet" "[I") ∈ lw_tbl := mT1 (List.mem_of_getElem? (i := 120) rfl)
theorem w1_120 : (Jvm.Cond.laysFinal "DotPress$Source" "DotPress$Source" "alphabet" "[I") ∈ lw_g := lw_in w1_120t rfl
theorem w1_122t : (Jvm.Cond.lays "DotPress$Source" "DotPress$Source" "alphabetSize" "I") ∈ lw_tbl := mT1 (List.mem_of_getElem? (i := 122) rfl)
theorem w1_122 : (Jvm.Cond.lays "DotPress$Source" "DotPress$Source" "alphabetSize" "I") ∈ lw_g := lw_in w1_122t rfl
theorem w1_124t : (Jvm.Cond.laysFinal "DotPress$Source" "DotPress$Source" "turns" "[I") ∈ lw_tbl := mT1 (List.mem_of_getElem? (i := 124) rfl)
theorem w1_124 : (Jvm.Cond.laysFinal "DotPress$Source" "DotPress$Source" "turns" "[I") ∈ lw_g := lw_in w1_124t rfl
theorem w1_126t : (Jvm.Cond.lays "DotPress$Source" "DotPress$Source" "spelling" "I") ∈ lw_tbl := mT1 (List.mem_of_getElem? (i := 126) rfl)
theorem w1_126 : (Jvm.Cond.lays "DotPress$Source" "DotPress$Source" "spelling" "I") ∈ lw_g := lw_in w1_126t rfl
theorem w1_13t : (Jvm.Cond.initialized "java/util/Arrays") ∈ lw_tbl := mT1 (List.mem_of_getElem? (i := 13) rfl)
theorem w1_13 : (Jvm.Cond.initialized "java/util/Arrays") ∈ lw_g := lw_in w1_13t rfl
theorem w1_136t : (Jvm.Cond.fieldLink "DotPress$Setting" (9 : Nat) "DotPress$Setting" "letters" "[I") ∈ lw_tbl := mT1 (List.mem_of_getElem? (i := 136) rfl)
theorem w1_136 : (Jvm.Cond.fieldLink "DotPress$Setting" (9 : Nat) "DotPress$Setting" "letters" "[I") ∈ lw_g := lw_in w1_136t rfl
theorem w1_137t : (Jvm.Cond.fieldLink "DotPress$Setting" (15 : Nat) "DotPress$Setting" "places" "[I") ∈ lw_tbl := mT1 (List.mem_of_getElem? (i := 137) rfl)
theorem w1_137 : (Jvm.Cond.fieldLink "DotPress$Setting" (15 : Nat) "DotPress$Setting" "places" "[I") ∈ lw_g := lw_in w1_137t rfl
theorem w1_138t : (Jvm.Cond.fieldLink "DotPress$Setting" (18 : Nat) "DotPress$Setting" "breaks" "[Z") ∈ lw_tbl := mT1 (List.mem_of_getElem? (i := 138) rfl)
theorem w1_138 : (Jvm.Cond.fieldLink "DotPress$Setting" (18 : Nat) "DotPress$Setting" "breaks" "[Z") ∈ lw_g := lw_in w1_138t rfl
theorem w1_139t : (Jvm.Cond.fieldLink "DotPress$Setting" (22 : Nat) "DotPress$Setting" "starts" "[I") ∈ lw_tbl := mT1 (List.mem_of_getElem? (i := 139) rfl)
theorem w1_139 : (Jvm.Cond.fieldLink "DotPress$Setting" (22 : Nat) "DotPress$Setting" "starts" "[I") ∈ lw_g := lw_in w1_139t rfl
theorem w1_14t : (Jvm.Cond.initialized "java/lang/Math") ∈ lw_tbl := mT1 (List.mem_of_getElem? (i := 14) rfl)
theorem w1_14 : (Jvm.Cond.initialized "java/lang/Math") ∈ lw_g := lw_in w1_14t rfl
theorem w1_140t : (Jvm.Cond.fieldLink "DotPress$Setting" (25 : Nat) "DotPress$Setting" "size" "I") ∈ lw_tbl := mT1 (List.mem_of_getElem? (i := 140) rfl)
theorem w1_140 : (Jvm.Cond.fieldLink "DotPress$Setting" (25 : Nat) "DotPress$Setting" "size" "I") ∈ lw_g := lw_in w1_140t rfl
theorem w1_141t : (Jvm.Cond.fieldLink "DotPress$Source" (56 : Nat) "DotPress$Setting" "size" "I") ∈ lw_tbl := mT1 (List.mem_of_getElem? (i := 141) rfl)
theorem w1_141 : (Jvm.Cond.fieldLink "DotPress$Source" (56 : Nat) "DotPress$Setting" "size" "I") ∈ lw_g := lw_in w1_141t rfl
theorem w1_143t : (Jvm.Cond.fieldLink "DotPress$Setting" (29 : Nat) "DotPress$Setting" "breakComes" "Z") ∈ lw_tbl := mT1 (List.mem_of_getElem? (i := 143) rfl)
theorem w1_143 : (Jvm.Cond.fieldLink "DotPress$Setting" (29 : Nat) "DotPress$Setting" "breakComes" "Z") ∈ lw_g := lw_in w1_143t rfl
theorem w1_144t : (Jvm.Cond.fieldLink "DotPress$Setting" (33 : Nat) "DotPress$Setting" "cells" "[I") ∈ lw_tbl := mT1 (List.mem_of_getElem? (i := 144) rfl)
theorem w1_144 : (Jvm.Cond.fieldLink "DotPress$Setting" (33 : Nat) "DotPress$Setting" "cells" "[I") ∈ lw_g := lw_in w1_144t rfl
theorem w1_146t : (Jvm.Cond.fieldLink "DotPress" (278 : Nat) "DotPress$Setting" "cells" "[I") ∈ lw_tbl := mT1 (List.mem_of_getElem? (i := 146) rfl)
theorem w1_146 : (Jvm.Cond.fieldLink "DotPress" (278 : Nat) "DotPress$Setting" "cells" "[I") ∈ lw_g := lw_in w1_146t rfl
theorem w1_147t : (Jvm.Cond.fieldLink "DotPress$Setting" (36 : Nat) "DotPress$Setting" "count" "I") ∈ lw_tbl := mT1 (List.mem_of_getElem? (i := 147) rfl)
theorem w1_147 : (Jvm.Cond.fieldLink "DotPress$Setting" (36 : Nat) "DotPress$Setting" "count" "I") ∈ lw_g := lw_in w1_147t rfl
theorem w1_149t : (Jvm.Cond.fieldLink "DotPress" (277 : Nat) "DotPress$Setting" "count" "I") ∈ lw_tbl := mT1 (List.mem_of_getElem? (i := 149) rfl)
theorem w1_149 : (Jvm.Cond.fieldLink "DotPress" (277 : Nat) "DotPress$Setting" "count" "I") ∈ lw_g := lw_in w1_149t rfl
theorem w1_15t : (Jvm.Cond.initialized "java/lang/System") ∈ lw_tbl := mT1 (List.mem_of_getElem? (i := 15) rfl)
theorem w1_15 : (Jvm.Cond.initialized "java/lang/System") ∈ lw_g := lw_in w1_15t rfl
theorem w1_150t : (Jvm.Cond.fieldLink "DotPress$Setting" (39 : Nat) "DotPress$Setting" "finds" "[I") ∈ lw_tbl := mT1 (List.mem_of_getElem? (i := 150) rfl)
theorem w1_150 : (Jvm.Cond.fieldLink "DotPress$Setting" (39 : Nat) "DotPress$Setting" "finds" "[I") ∈ lw_g := lw_in w1_150t rfl
theorem w1_151t : (Jvm.Cond.fieldLink "DotPress$Setting" (42 : Nat) "DotPress$Setting" "unknown" "I") ∈ lw_tbl := mT1 (List.mem_of_getElem? (i := 151) rfl)
theorem w1_151 : (Jvm.Cond.fieldLink "DotPress$Setting" (42 : Nat) "DotPress$Setting" "unknown" "I") ∈ lw_g := lw_in w1_151t rfl
theorem w1_152t : (Jvm.Cond.fieldLink "DotPress$Setting" (45 : Nat) "DotPress$Setting" "partBegin" "I") ∈ lw_tbl := mT1 (List.mem_of_getElem? (i := 152) rfl)
theorem w1_152 : (Jvm.Cond.fieldLink "DotPress$Setting" (45 : Nat) "DotPress$Setting" "partBegin" "I") ∈ lw_g := lw_in w1_152t rfl
theorem w1_153t : (Jvm.Cond.fieldLink "DotPress$Setting" (48 : Nat) "DotPress$Setting" "partEnd" "I") ∈ lw_tbl := mT1 (List.mem_of_getElem? (i := 153) rfl)
theorem w1_153 : (Jvm.Cond.fieldLink "DotPress$Setting" (48 : Nat) "DotPress$Setting" "partEnd" "I") ∈ lw_g := lw_in w1_153t rfl
theorem w1_154t : (Jvm.Cond.laysFinal "DotPress$Setting" "DotPress$Setting" "letters" "[I") ∈ lw_tbl := mT1 (List.mem_of_getElem? (i := 154) rfl)
theorem w1_154 : (Jvm.Cond.laysFinal "DotPress$Setting" "DotPress$Setting" "letters" "[I") ∈ lw_g := lw_in w1_154t rfl
theorem w1_156t : (Jvm.Cond.laysFinal "DotPress$Setting" "DotPress$Setting" "places" "[I") ∈ lw_tbl := mT1 (List.mem_of_getElem? (i := 156) rfl)
theorem w1_156 : (Jvm.Cond.laysFinal "DotPress$Setting" "DotPress$Setting" "places" "[I") ∈ lw_g := lw_in w1_156t rfl
theorem w1_158t : (Jvm.Cond.laysFinal "DotPress$Setting" "DotPress$Setting" "breaks" "[Z") ∈ lw_tbl := mT1 (List.mem_of_getElem? (i := 158) rfl)
theorem w1_158 : (Jvm.Cond.laysFinal "DotPress$Setting" "DotPress$Setting" "breaks" "[Z") ∈ lw_g := lw_in w1_158t rfl
theorem w1_16t : (Jvm.Cond.initialized "DotPress$Table") ∈ lw_tbl := mT1 (List.mem_of_getElem? (i := 16) rfl)
theorem w1_16 : (Jvm.Cond.initialized "DotPress$Table") ∈ lw_g := lw_in w1_16t rfl
theorem w1_160t : (Jvm.Cond.laysFinal "DotPress$Setting" "DotPress$Setting" "starts" "[I") ∈ lw_tbl := mT1 (List.mem_of_getElem? (i := 160) rfl)
theorem w1_160 : (Jvm.Cond.laysFinal "DotPress$Setting" "DotPress$Setting" "starts" "[I") ∈ lw_g := lw_in w1_160t rfl
theorem w1_162t : (Jvm.Cond.lays "DotPress$Setting" "DotPress$Setting" "size" "I") ∈ lw_tbl := mT1 (List.mem_of_getElem? (i := 162) rfl)
theorem w1_162 : (Jvm.Cond.lays "DotPress$Setting" "DotPress$Setting" "size" "I") ∈ lw_g := lw_in w1_162t rfl
theorem w1_164t : (Jvm.Cond.lays "DotPress$Setting" "DotPress$Setting" "breakComes" "Z") ∈ lw_tbl := mT1 (List.mem_of_getElem? (i := 164) rfl)
theorem w1_164 : (Jvm.Cond.lays "DotPress$Setting" "DotPress$Setting" "breakComes" "Z") ∈ lw_g := lw_in w1_164t rfl
theorem w1_166t : (Jvm.Cond.laysFinal "DotPress$Setting" "DotPress$Setting" "cells" "[I") ∈ lw_tbl := mT1 (List.mem_of_getElem? (i := 166) rfl)
theorem w1_166 : (Jvm.Cond.laysFinal "DotPress$Setting" "DotPress$Setting" "cells" "[I") ∈ lw_g := lw_in w1_166t rfl
theorem w1_168t : (Jvm.Cond.lays "DotPress$Setting" "DotPress$Setting" "count" "I") ∈ lw_tbl := mT1 (List.mem_of_getElem? (i := 168) rfl)
theorem w1_168 : (Jvm.Cond.lays "DotPress$Setting" "DotPress$Setting" "count" "I") ∈ lw_g := lw_in w1_168t rfl
theorem w1_17t : (Jvm.Cond.initialized "jdk/internal/util/ArraysSupport") ∈ lw_tbl := mT1 (List.mem_of_getElem? (i := 17) rfl)
theorem w1_17 : (Jvm.Cond.initialized "jdk/internal/util/ArraysSupport") ∈ lw_g := lw_in w1_17t rfl
theorem w1_170t : (Jvm.Cond.laysFinal "DotPress$Setting" "DotPress$Setting" "finds" "[I") ∈ lw_tbl := mT1 (List.mem_of_getElem? (i := 170) rfl)
theorem w1_170 : (Jvm.Cond.laysFinal "DotPress$Setting" "DotPress$Setting" "finds" "[I") ∈ lw_g := lw_in w1_170t rfl
theorem w1_172t : (Jvm.Cond.lays "DotPress$Setting" "DotPress$Setting" "unknown" "I") ∈ lw_tbl := mT1 (List.mem_of_getElem? (i := 172) rfl)
theorem w1_172 : (Jvm.Cond.lays "DotPress$Setting" "DotPress$Setting" "unknown" "I") ∈ lw_g := lw_in w1_172t rfl
theorem w1_174t : (Jvm.Cond.lays "DotPress$Setting" "DotPress$Setting" "partBegin" "I") ∈ lw_tbl := mT1 (List.mem_of_getElem? (i := 174) rfl)
theorem w1_174 : (Jvm.Cond.lays "DotPress$Setting" "DotPress$Setting" "partBegin" "I") ∈ lw_g := lw_in w1_174t rfl
theorem w1_176t : (Jvm.Cond.lays "DotPress$Setting" "DotPress$Setting" "partEnd" "I") ∈ lw_tbl := mT1 (List.mem_of_getElem? (i := 176) rfl)
theorem w1_176 : (Jvm.Cond.lays "DotPress$Setting" "DotPress$Setting" "partEnd" "I") ∈ lw_g := lw_in w1_176t rfl
theorem w1_19t : (Jvm.Cond.initialized "java/util/Objects") ∈ lw_tbl := mT1 (List.mem_of_getElem? (i := 19) rfl)
theorem w1_19 : (Jvm.Cond.initialized "java/util/Objects") ∈ lw_g := lw_in w1_19t rfl
theorem w1_190t : (Jvm.Cond.fieldLink "DotPress$Reader" (12 : Nat) "DotPress$Reader" "first" "Ljava/util/ArrayList;") ∈ lw_tbl := mT1 (List.mem_of_getElem? (i := 190) rfl)
theorem w1_190 : (Jvm.Cond.fieldLink "DotPress$Reader" (12 : Nat) "DotPress$Reader" "first" "Ljava/util/ArrayList;") ∈ lw_g := lw_in w1_190t rfl
theorem w1_192t : (Jvm.Cond.fieldLink "DotPress" (370 : Nat) "DotPress$Reader" "first" "Ljava/util/ArrayList;") ∈ lw_tbl := mT1 (List.mem_of_getElem? (i := 192) rfl)
theorem w1_192 : (Jvm.Cond.fieldLink "DotPress" (370 : Nat) "DotPress$Reader" "first" "Ljava/util/ArrayList;") ∈ lw_g := lw_in w1_192t rfl
theorem w1_193t : (Jvm.Cond.fieldLink "DotPress$Reader" (18 : Nat) "DotPress$Reader" "second" "Ljava/util/ArrayList;") ∈ lw_tbl := mT1 (List.mem_of_getElem? (i := 193) rfl)
theorem w1_193 : (Jvm.Cond.fieldLink "DotPress$Reader" (18 : Nat) "DotPress$Reader" "second" "Ljava/util/ArrayList;") ∈ lw_g := lw_in w1_193t rfl
theorem w1_195t : (Jvm.Cond.fieldLink "DotPress" (377 : Nat) "DotPress$Reader" "second" "Ljava/util/ArrayList;") ∈ lw_tbl := mT1 (List.mem_of_getElem? (i := 195) rfl)
theorem w1_195 : (Jvm.Cond.fieldLink "DotPress" (377 : Nat) "DotPress$Reader" "second" "Ljava/util/ArrayList;") ∈ lw_g := lw_in w1_195t rfl
theorem w1_196t : (Jvm.Cond.fieldLink "DotPress$Reader" (26 : Nat) "DotPress$Reader" "firstBegins" "LDotPress$Ints;") ∈ lw_tbl := mT1 (List.mem_of_getElem? (i := 196) rfl)
theorem w1_196 : (Jvm.Cond.fieldLink "DotPress$Reader" (26 : Nat) "DotPress$Reader" "firstBegins" "LDotPress$Ints;") ∈ lw_g := lw_in w1_196t rfl
theorem w1_197t : (Jvm.Cond.fieldLink "DotPress$Reader" (30 : Nat) "DotPress$Reader" "secondBegins" "LDotPress$Ints;") ∈ lw_tbl := mT1 (List.mem_of_getElem? (i := 197) rfl)
theorem w1_197 : (Jvm.Cond.fieldLink "DotPress$Reader" (30 : Nat) "DotPress$Reader" "secondBegins" "LDotPress$Ints;") ∈ lw_g := lw_in w1_197t rfl
theorem w1_2t : (Jvm.Cond.initialized "DotPress$Ints") ∈ lw_tbl := mT1 (List.mem_of_getElem? (i := 2) rfl)
theorem w1_2 : (Jvm.Cond.initialized "DotPress$Ints") ∈ lw_g := lw_in w1_2t rfl
theorem w1_20t : (Jvm.Cond.initialized "jdk/internal/util/Preconditions") ∈ lw_tbl := mT1 (List.mem_of_getElem? (i := 20) rfl)
theorem w1_20 : (Jvm.Cond.initialized "jdk/internal/util/Preconditions") ∈ lw_g := lw_in w1_20t rfl
theorem w1_203t : (Jvm.Cond.laysFinal "DotPress$Reader" "DotPress$Reader" "first" "Ljava/util/ArrayList;") ∈ lw_tbl := mT1 (List.mem_of_getElem? (i := 203) rfl)
theorem w1_203 : (Jvm.Cond.laysFinal "DotPress$Reader" "DotPress$Reader" "first" "Ljava/util/ArrayList;") ∈ lw_g := lw_in w1_203t rfl
theorem w1_205t : (Jvm.Cond.laysFinal "DotPress$Reader" "DotPress$Reader" "second" "Ljava/util/ArrayList;") ∈ lw_tbl := mT1 (List.mem_of_getElem? (i := 205) rfl)
theorem w1_205 : (Jvm.Cond.laysFinal "DotPress$Reader" "DotPress$Reader" "second" "Ljava/util/ArrayList;") ∈ lw_g := lw_in w1_205t rfl
theorem w1_207t : (Jvm.Cond.laysFinal "DotPress$Reader" "DotPress$Reader" "firstBegins" "LDotPress$Ints;") ∈ lw_tbl := mT1 (List.mem_of_getElem? (i := 207) rfl)
theorem w1_207 : (Jvm.Cond.laysFinal "DotPress$Reader" "DotPress$Reader" "firstBegins" "LDotPress$Ints;") ∈ lw_g := lw_in w1_207t rfl
theorem w1_209t : (Jvm.Cond.laysFinal "DotPress$Reader" "DotPress$Reader" "secondBegins" "LDotPress$Ints;") ∈ lw_tbl := mT1 (List.mem_of_getElem? (i := 209) rfl)
theorem w1_209 : (Jvm.Cond.laysFinal "DotPress$Reader" "DotPress$Reader" "secondBegins" "LDotPress$Ints;") ∈ lw_g := lw_in w1_209t rfl
theorem w1_21t : (Jvm.Cond.initialized "DotPress$Row") ∈ lw_tbl := mT1 (List.mem_of_getElem? (i := 21) rfl)
theorem w1_21 : (Jvm.Cond.initialized "DotPress$Row") ∈ lw_g := lw_in w1_21t rfl
theorem w1_211t : (Jvm.Cond.laysFinal "DotPress$Reader" "DotPress$Reader" "cells" "LDotPress$Ints;") ∈ lw_tbl := mT1 (List.mem_of_getElem? (i := 211) rfl)
theorem w1_211 : (Jvm.Cond.laysFinal "DotPress$Reader" "DotPress$Reader" "cells" "LDotPress$Ints;") ∈ lw_g := lw_in w1_211t rfl
theorem w1_213t : (Jvm.Cond.laysFinal "DotPress$Reader" "DotPress$Reader" "places" "LDotPress$Ints;") ∈ lw_tbl := mT1 (List.mem_of_getElem? (i := 213) rfl)
theorem w1_213 : (Jvm.Cond.laysFinal "DotPress$Reader" "DotPress$Reader" "places" "LDotPress$Ints;") ∈ lw_g := lw_in w1_213t rfl
theorem w1_215t : (Jvm.Cond.laysFinal "DotPress$Reader" "DotPress$Reader" "bytes" "LDotPress$Ints;") ∈ lw_tbl := mT1 (List.mem_of_getElem? (i := 215) rfl)
theorem w1_215 : (Jvm.Cond.laysFinal "DotPress$Reader" "DotPress$Reader" "bytes" "LDotPress$Ints;") ∈ lw_g := lw_in w1_215t rfl
theorem w1_217t : (Jvm.Cond.lays "DotPress$Reader" "DotPress$Reader" "wrong" "I") ∈ lw_tbl := mT1 (List.mem_of_getElem? (i := 217) rfl)
theorem w1_217 : (Jvm.Cond.lays "DotPress$Reader" "DotPress$Reader" "wrong" "I") ∈ lw_g := lw_in w1_217t rfl
theorem w1_3t : (Jvm.Cond.initialized "DotPress$Tables") ∈ lw_tbl := mT1 (List.mem_of_getElem? (i := 3) rfl)
theorem w1_3 : (Jvm.Cond.initialized "DotPress$Tables") ∈ lw_g := lw_in w1_3t rfl
theorem w1_38t : (Jvm.Cond.fieldLink "DotPress$Ints" (13 : Nat) "DotPress$Ints" "limit" "I") ∈ lw_tbl := mT1 (List.mem_of_getElem? (i := 38) rfl)
theorem w1_38 : (Jvm.Cond.fieldLink "DotPress$Ints" (13 : Nat) "DotPress$Ints" "limit" "I") ∈ lw_g := lw_in w1_38t rfl
theorem w1_39t : (Jvm.Cond.fieldLink "DotPress$Ints" (16 : Nat) "DotPress$Ints" "items" "[I") ∈ lw_tbl := mT1 (List.mem_of_getElem? (i := 39) rfl)
theorem w1_39 : (Jvm.Cond.fieldLink "DotPress$Ints" (16 : Nat) "DotPress$Ints" "items" "[I") ∈ lw_g := lw_in w1_39t rfl
theorem w1_42t : (Jvm.Cond.fieldLink "DotPress$Setting" (142 : Nat) "DotPress$Ints" "items" "[I") ∈ lw_tbl := mT1 (List.mem_of_getElem? (i := 42) rfl)
theorem w1_42 : (Jvm.Cond.fieldLink "DotPress$Setting" (142 : Nat) "DotPress$Ints" "items" "[I") ∈ lw_g := lw_in w1_42t rfl
theorem w1_43t : (Jvm.Cond.fieldLink "DotPress$Ints" (7 : Nat) "DotPress$Ints" "size" "I") ∈ lw_tbl := mT1 (List.mem_of_getElem? (i := 43) rfl)
theorem w1_43 : (Jvm.Cond.fieldLink "DotPress$Ints" (7 : Nat) "DotPress$Ints" "size" "I") ∈ lw_g := lw_in w1_43t rfl
theorem w1_44t : (Jvm.Cond.fieldLink "DotPress" (99 : Nat) "DotPress$Ints" "size" "I") ∈ lw_tbl := mT1 (List.mem_of_getElem? (i := 44) rfl)
theorem w1_44 : (Jvm.Cond.fieldLink "DotPress" (99 : Nat) "DotPress$Ints" "size" "I") ∈ lw_g := lw_in w1_44t rfl
theorem w1_45t : (Jvm.Cond.fieldLink "DotPress$Source" (48 : Nat) "DotPress$Ints" "size" "I") ∈ lw_tbl := mT1 (List.mem_of_getElem? (i := 45) rfl)
theorem w1_45 : (Jvm.Cond.fieldLink "DotPress$Source" (48 : Nat) "DotPress$Ints" "size" "I") ∈ lw_g := lw_in w1_45t rfl
theorem w1_47t : (Jvm.Cond.fieldLink "DotPress$Setting" (51 : Nat) "DotPress$Ints" "size" "I") ∈ lw_tbl := mT1 (List.mem_of_getElem? (i := 47) rfl)
theorem w1_47 : (Jvm.Cond.fieldLink "DotPress$Setting" (51 : Nat) "DotPress$Ints" "size" "I") ∈ lw_g := lw_in w1_47t rfl
theorem w1_50t : (Jvm.Cond.laysFinal "DotPress$Ints" "DotPress$Ints" "limit" "I") ∈ lw_tbl := mT1 (List.mem_of_getElem? (i := 50) rfl)
theorem w1_50 : (Jvm.Cond.laysFinal "DotPress$Ints" "DotPress$Ints" "limit" "I") ∈ lw_g := lw_in w1_50t rfl
theorem w1_52t : (Jvm.Cond.lays "DotPress$Ints" "DotPress$Ints" "items" "[I") ∈ lw_tbl := mT1 (List.mem_of_getElem? (i := 52) rfl)
theorem w1_52 : (Jvm.Cond.lays "DotPress$Ints" "DotPress$Ints" "items" "[I") ∈ lw_g := lw_in w1_52t rfl
theorem w1_54t : (Jvm.Cond.lays "DotPress$Ints" "DotPress$Ints" "size" "I") ∈ lw_tbl := mT1 (List.mem_of_getElem? (i := 54) rfl)
theorem w1_54 : (Jvm.Cond.lays "DotPress$Ints" "DotPress$Ints" "size" "I") ∈ lw_g := lw_in w1_54t rfl
theorem w1_57t : (Jvm.Cond.arrayClass Jvm.ClassFile.FieldType.int) ∈ lw_tbl := mT1 (List.mem_of_getElem? (i := 57) rfl)
theorem w1_57 : (Jvm.Cond.arrayClass Jvm.ClassFile.FieldType.int) ∈ lw_g := lw_in w1_57t rfl
theorem w1_6t : (Jvm.Cond.initialized "java/util/ArrayList") ∈ lw_tbl := mT1 (List.mem_of_getElem? (i := 6) rfl)
theorem w1_6 : (Jvm.Cond.initialized "java/util/ArrayList") ∈ lw_g := lw_in w1_6t rfl
theorem w1_7t : (Jvm.Cond.initialized "DotPress$Source") ∈ lw_tbl := mT1 (List.mem_of_getElem? (i := 7) rfl)
theorem w1_7 : (Jvm.Cond.initialized "DotPress$Source") ∈ lw_g := lw_in w1_7t rfl
theorem w1_76t : (Jvm.Cond.fieldLink "java/util/ArrayList" (39 : Nat) "java/util/ArrayList" "DEFAULTCAPACITY_EMPTY_ELEMENTDATA" "[Ljava/lang/Object;") ∈ lw_tbl := mT1 (List.mem_of_getElem? (i := 76) rfl)
theorem w1_76 : (Jvm.Cond.fieldLink "java/util/ArrayList" (39 : Nat) "java/util/ArrayList" "DEFAULTCAPACITY_EMPTY_ELEMENTDATA" "[Ljava/lang/Object;") ∈ lw_g := lw_in w1_76t rfl
theorem w1_78t : (Jvm.Cond.fieldLink "java/util/ArrayList" (9 : Nat) "java/util/ArrayList" "elementData" "[Ljava/lang/Object;") ∈ lw_tbl := mT1 (List.mem_of_getElem? (i := 78) rfl)
theorem w1_78 : (Jvm.Cond.fieldLink "java/util/ArrayList" (9 : Nat) "java/util/ArrayList" "elementData" "[Ljava/lang/Object;") ∈ lw_g := lw_in w1_78t rfl
theorem w1_79t : (Jvm.Cond.fieldLink "java/util/ArrayList" (48 : Nat) "java/util/ArrayList" "size" "I") ∈ lw_tbl := mT1 (List.mem_of_getElem? (i := 79) rfl)
theorem w1_79 : (Jvm.Cond.fieldLink "java/util/ArrayList" (48 : Nat) "java/util/ArrayList" "size" "I") ∈ lw_g := lw_in w1_79t rfl
theorem w1_8t : (Jvm.Cond.initialized "DotPress$Setting") ∈ lw_tbl := mT1 (List.mem_of_getElem? (i := 8) rfl)
theorem w1_8 : (Jvm.Cond.initialized "DotPress$Setting") ∈ lw_g := lw_in w1_8t rfl
theorem w1_81t : (Jvm.Cond.fieldLink "java/util/ArrayList" (63 : Nat) "java/util/ArrayList" "modCount" "I") ∈ lw_tbl := mT1 (List.mem_of_getElem? (i := 81) rfl)
theorem w1_81 : (Jvm.Cond.fieldLink "java/util/ArrayList" (63 : Nat) "java/util/ArrayList" "modCount" "I") ∈ lw_g := lw_in w1_81t rfl
theorem w1_82t : (Jvm.Cond.sameField "java/util/ArrayList" "java/util/AbstractList" "modCount" "I") ∈ lw_tbl := mT1 (List.mem_of_getElem? (i := 82) rfl)
theorem w1_82 : (Jvm.Cond.sameField "java/util/ArrayList" "java/util/AbstractList" "modCount" "I") ∈ lw_g := lw_in w1_82t rfl
theorem w1_83t : (Jvm.Cond.lays "java/util/ArrayList" "java/util/ArrayList" "elementData" "[Ljava/lang/Object;") ∈ lw_tbl := mT1 (List.mem_of_getElem? (i := 83) rfl)
theorem w1_83 : (Jvm.Cond.lays "java/util/ArrayList" "java/util/ArrayList" "elementData" "[Ljava/lang/Object;") ∈ lw_g := lw_in w1_83t rfl
theorem w1_85t : (Jvm.Cond.lays "java/util/ArrayList" "java/util/ArrayList" "size" "I") ∈ lw_tbl := mT1 (List.mem_of_getElem? (i := 85) rfl)
theorem w1_85 : (Jvm.Cond.lays "java/util/ArrayList" "java/util/ArrayList" "size" "I") ∈ lw_g := lw_in w1_85t rfl
theorem w1_87t : (Jvm.Cond.lays "java/util/ArrayList" "java/util/AbstractList" "modCount" "I") ∈ lw_tbl := mT1 (List.mem_of_getElem? (i := 87) rfl)
theorem w1_87 : (Jvm.Cond.lays "java/util/ArrayList" "java/util/AbstractList" "modCount" "I") ∈ lw_g := lw_in w1_87t rfl
theorem w1_9t : (Jvm.Cond.initialized "DotPress$Reader") ∈ lw_tbl := mT1 (List.mem_of_getElem? (i := 9) rfl)
theorem w1_9 : (Jvm.Cond.initialized "DotPress$Reader") ∈ lw_g := lw_in w1_9t rfl
theorem w1_90t : (Jvm.Cond.fieldLink "DotPress$Tables" (12 : Nat) "DotPress$Tables" "made" "Ljava/util/ArrayList;") ∈ lw_tbl := mT1 (List.mem_of_getElem? (i := 90) rfl)
theorem w1_90 : (Jvm.Cond.fieldLink "DotPress$Tables" (12 : Nat) "DotPress$Tables" "made" "Ljava/util/ArrayList;") ∈ lw_g := lw_in w1_90t rfl
theorem w1_92t : (Jvm.Cond.laysFinal "DotPress$Tables" "DotPress$Tables" "made" "Ljava/util/ArrayList;") ∈ lw_tbl := mT1 (List.mem_of_getElem? (i := 92) rfl)
theorem w1_92 : (Jvm.Cond.laysFinal "DotPress$Tables" "DotPress$Tables" "made" "Ljava/util/ArrayList;") ∈ lw_g := lw_in w1_92t rfl
theorem w1_94t : (Jvm.Cond.laysFinal "DotPress$Tables" "DotPress$Tables" "changes" "Ljava/util/ArrayList;") ∈ lw_tbl := mT1 (List.mem_of_getElem? (i := 94) rfl)
theorem w1_94 : (Jvm.Cond.laysFinal "DotPress$Tables" "DotPress$Tables" "changes" "Ljava/util/ArrayList;") ∈ lw_g := lw_in w1_94t rfl
theorem w2_106t : (Jvm.Cond.methodLink "DotPress" (102 : Nat) ({ cls := "DotPress", name := "refuse", desc := "(I)I" } : Jvm.MethodName)) ∈ lw_tbl := mT2 (List.mem_of_getElem? (i := 106) rfl)
theorem w2_106 : (Jvm.Cond.methodLink "DotPress" (102 : Nat) ({ cls := "DotPress", name := "refuse", desc := "(I)I" } : Jvm.MethodName)) ∈ lw_g := lw_in w2_106t rfl
theorem w2_108t : (Jvm.Cond.instanceMethod ({ cls := "DotPress", name := "refuse", desc := "(I)I" } : Jvm.MethodName)) ∈ lw_tbl := mT2 (List.mem_of_getElem? (i := 108) rfl)
theorem w2_108 : (Jvm.Cond.instanceMethod ({ cls := "DotPress", name := "refuse", desc := "(I)I" } : Jvm.MethodName)) ∈ lw_g := lw_in w2_108t rfl
theorem w2_109t : (Jvm.Cond.code ({ cls := "DotPress", name := "refuse", desc := "(I)I" } : Jvm.MethodName) prog_1_method_54_code (2 : Nat) (Option.some Jvm.ClassFile.FieldType.int)) ∈ lw_tbl := mT2 (List.mem_of_getElem? (i := 109) rfl)
theorem w2_109 : (Jvm.Cond.code ({ cls := "DotPress", name := "refuse", desc := "(I)I" } : Jvm.MethodName) prog_1_method_54_code (2 : Nat) (Option.some Jvm.ClassFile.FieldType.int)) ∈ lw_g := lw_in w2_109t rfl
theorem w2_114t : (Jvm.Cond.methodLink "DotPress" (112 : Nat) ({ cls := "DotPress$Ints", name := "add", desc := "(I)V" } : Jvm.MethodName)) ∈ lw_tbl := mT2 (List.mem_of_getElem? (i := 114) rfl)
theorem w2_114 : (Jvm.Cond.methodLink "DotPress" (112 : Nat) ({ cls := "DotPress$Ints", name := "add", desc := "(I)V" } : Jvm.MethodName)) ∈ lw_g := lw_in w2_114t rfl
theorem w2_115t : (Jvm.Cond.instanceMethod ({ cls := "DotPress$Ints", name := "add", desc := "(I)V" } : Jvm.MethodName)) ∈ lw_tbl := mT2 (List.mem_of_getElem? (i := 115) rfl)
theorem w2_115 : (Jvm.Cond.instanceMethod ({ cls := "DotPress$Ints", name := "add", desc := "(I)V" } : Jvm.MethodName)) ∈ lw_g := lw_in w2_115t rfl
theorem w2_116t : (Jvm.Cond.selects "DotPress$Ints" ({ cls := "DotPress$Ints", name := "add", desc := "(I)V" } : Jvm.MethodName) ({ cls := "DotPress$Ints", name := "add", desc := "(I)V" } : Jvm.MethodName)) ∈ lw_tbl := mT2 (List.mem_of_getElem? (i := 116) rfl)
theorem w2_116 : (Jvm.Cond.selects "DotPress$Ints" ({ cls := "DotPress$Ints", name := "add", desc := "(I)V" } : Jvm.MethodName) ({ cls := "DotPress$Ints", name := "add", desc := "(I)V" } : Jvm.MethodName)) ∈ lw_g := lw_in w2_116t rfl
theorem w2_117t : (Jvm.Cond.code ({ cls := "DotPress$Ints", name := "add", desc := "(I)V" } : Jvm.MethodName) prog_3_method_2_code (2 : Nat) (Option.none : Option Jvm.ClassFile.FieldType)) ∈ lw_tbl := mT2 (List.mem_of_getElem? (i := 117) rfl)
theorem w2_117 : (Jvm.Cond.code ({ cls := "DotPress$Ints", name := "add", desc := "(I)V" } : Jvm.MethodName) prog_3_method_2_code (2 : Nat) (Option.none : Option Jvm.ClassFile.FieldType)) ∈ lw_g := lw_in w2_117t rfl
theorem w2_118t : (Jvm.Cond.methodLink "DotPress$Ints" (20 : Nat) ({ cls := "java/util/Arrays", name := "copyOf", desc := "([II)[I" } : Jvm.MethodName)) ∈ lw_tbl := mT2 (List.mem_of_getElem? (i := 118) rfl)
theorem w2_118 : (Jvm.Cond.methodLink "DotPress$Ints" (20 : Nat) ({ cls := "java/util/Arrays", name := "copyOf", desc := "([II)[I" } : Jvm.MethodName)) ∈ lw_g := lw_in w2_118t rfl
theorem w2_119t : (Jvm.Cond.static ({ cls := "java/util/Arrays", name := "copyOf", desc := "([II)[I" } : Jvm.MethodName)) ∈ lw_tbl := mT2 (List.mem_of_getElem? (i := 119) rfl)
theorem w2_119 : (Jvm.Cond.static ({ cls := "java/util/Arrays", name := "copyOf", desc := "([II)[I" } : Jvm.MethodName)) ∈ lw_g := lw_in w2_119t rfl
theorem w2_120t : (Jvm.Cond.code ({ cls := "java/util/Arrays", name := "copyOf", desc := "([II)[I" } : Jvm.MethodName) prog_24_method_123_code (3 : Nat) (Option.some (Jvm.ClassFile.FieldType.array Jvm.ClassFile.FieldType.int))) ∈ lw_tbl := mT2 (List.mem_of_getElem? (i := 120) rfl)
theorem w2_120 : (Jvm.Cond.code ({ cls := "java/util/Arrays", name := "copyOf", desc := "([II)[I" } : Jvm.MethodName) prog_24_method_123_code (3 : Nat) (Option.some (Jvm.ClassFile.FieldType.array Jvm.ClassFile.FieldType.int))) ∈ lw_g := lw_in w2_120t rfl
theorem w2_128t : (Jvm.Cond.methodLink "java/util/Arrays" (304 : Nat) ({ cls := "java/lang/Math", name := "min", desc := "(II)I" } : Jvm.MethodName)) ∈ lw_tbl := mT2 (List.mem_of_getElem? (i := 128) rfl)
theorem w2_128 : (Jvm.Cond.methodLink "java/util/Arrays" (304 : Nat) ({ cls := "java/lang/Math", name := "min", desc := "(II)I" } : Jvm.MethodName)) ∈ lw_g := lw_in w2_128t rfl
theorem w2_129t : (Jvm.Cond.static ({ cls := "java/lang/Math", name := "min", desc := "(II)I" } : Jvm.MethodName)) ∈ lw_tbl := mT2 (List.mem_of_getElem? (i := 129) rfl)
theorem w2_129 : (Jvm.Cond.static ({ cls := "java/lang/Math", name := "min", desc := "(II)I" } : Jvm.MethodName)) ∈ lw_g := lw_in w2_129t rfl
theorem w2_130t : (Jvm.Cond.code ({ cls := "java/lang/Math", name := "min", desc := "(II)I" } : Jvm.MethodName) prog_19_method_69_code (2 : Nat) (Option.some Jvm.ClassFile.FieldType.int)) ∈ lw_tbl := mT2 (List.mem_of_getElem? (i := 130) rfl)
theorem w2_130 : (Jvm.Cond.code ({ cls := "java/lang/Math", name := "min", desc := "(II)I" } : Jvm.MethodName) prog_19_method_69_code (2 : Nat) (Option.some Jvm.ClassFile.FieldType.int)) ∈ lw_g := lw_in w2_130t rfl
theorem w2_131t : (Jvm.Cond.methodLink "java/util/Arrays" (150 : Nat) ({ cls := "java/lang/System", name := "arraycopy", desc := "(Ljava/lang/Object;ILjava/lang/Object;II)V" } : Jvm.MethodName)) ∈ lw_tbl := mT2 (List.mem_of_getElem? (i := 131) rfl)
theorem w2_131 : (Jvm.Cond.methodLink "java/util/Arrays" (150 : Nat) ({ cls := "java/lang/System", name := "arraycopy", desc := "(Ljava/lang/Object;ILjava/lang/Object;II)V" } : Jvm.MethodName)) ∈ lw_g := lw_in w2_131t rfl
theorem w2_132t : (Jvm.Cond.static ({ cls := "java/lang/System", name := "arraycopy", desc := "(Ljava/lang/Object;ILjava/lang/Object;II)V" } : Jvm.MethodName)) ∈ lw_tbl := mT2 (List.mem_of_getElem? (i := 132) rfl)
theorem w2_132 : (Jvm.Cond.static ({ cls := "java/lang/System", name := "arraycopy", desc := "(Ljava/lang/Object;ILjava/lang/Object;II)V" } : Jvm.MethodName)) ∈ lw_g := lw_in w2_132t rfl
theorem w2_133t : (Jvm.Cond.native ({ cls := "java/lang/System", name := "arraycopy", desc := "(Ljava/lang/Object;ILjava/lang/Object;II)V" } : Jvm.MethodName)) ∈ lw_tbl := mT2 (List.mem_of_getElem? (i := 133) rfl)
theorem w2_133 : (Jvm.Cond.native ({ cls := "java/lang/System", name := "arraycopy", desc := "(Ljava/lang/Object;ILjava/lang/Object;II)V" } : Jvm.MethodName)) ∈ lw_g := lw_in w2_133t rfl
theorem w2_134t : (Jvm.Cond.methodLink "DotPress" (109 : Nat) ({ cls := "DotPress", name := "done", desc := "(I)I" } : Jvm.MethodName)) ∈ lw_tbl := mT2 (List.mem_of_getElem? (i := 134) rfl)
theorem w2_134 : (Jvm.Cond.methodLink "DotPress" (109 : Nat) ({ cls := "DotPress", name := "done", desc := "(I)I" } : Jvm.MethodName)) ∈ lw_g := lw_in w2_134t rfl
theorem w2_136t : (Jvm.Cond.instanceMethod ({ cls := "DotPress", name := "done", desc := "(I)I" } : Jvm.MethodName)) ∈ lw_tbl := mT2 (List.mem_of_getElem? (i := 136) rfl)
theorem w2_136 : (Jvm.Cond.instanceMethod ({ cls := "DotPress", name := "done", desc := "(I)I" } : Jvm.MethodName)) ∈ lw_g := lw_in w2_136t rfl
theorem w2_137t : (Jvm.Cond.code ({ cls := "DotPress", name := "done", desc := "(I)I" } : Jvm.MethodName) prog_1_method_53_code (2 : Nat) (Option.some Jvm.ClassFile.FieldType.int)) ∈ lw_tbl := mT2 (List.mem_of_getElem? (i := 137) rfl)
theorem w2_137 : (Jvm.Cond.code ({ cls := "DotPress", name := "done", desc := "(I)I" } : Jvm.MethodName) prog_1_method_53_code (2 : Nat) (Option.some Jvm.ClassFile.FieldType.int)) ∈ lw_g := lw_in w2_137t rfl
theorem w2_148t : (Jvm.Cond.static ({ cls := "java/lang/Math", name := "max", desc := "(II)I" } : Jvm.MethodName)) ∈ lw_tbl := mT2 (List.mem_of_getElem? (i := 148) rfl)
theorem w2_148 : (Jvm.Cond.static ({ cls := "java/lang/Math", name := "max", desc := "(II)I" } : Jvm.MethodName)) ∈ lw_g := lw_in w2_148t rfl
theorem w2_149t : (Jvm.Cond.code ({ cls := "java/lang/Math", name := "max", desc := "(II)I" } : Jvm.MethodName) prog_19_method_65_code (2 : Nat) (Option.some Jvm.ClassFile.FieldType.int)) ∈ lw_tbl := mT2 (List.mem_of_getElem? (i := 149) rfl)
theorem w2_149 : (Jvm.Cond.code ({ cls := "java/lang/Math", name := "max", desc := "(II)I" } : Jvm.MethodName) prog_19_method_65_code (2 : Nat) (Option.some Jvm.ClassFile.FieldType.int)) ∈ lw_g := lw_in w2_149t rfl
theorem w2_158t : (Jvm.Cond.methodLink "DotPress$Tables" (21 : Nat) ({ cls := "java/util/ArrayList", name := "size", desc := "()I" } : Jvm.MethodName)) ∈ lw_tbl := mT2 (List.mem_of_getElem? (i := 158) rfl)
theorem w2_158 : (Jvm.Cond.methodLink "DotPress$Tables" (21 : Nat) ({ cls := "java/util/ArrayList", name := "size", desc := "()I" } : Jvm.MethodName)) ∈ lw_g := lw_in w2_158t rfl
theorem w2_159t : (Jvm.Cond.instanceMethod ({ cls := "java/util/ArrayList", name := "size", desc := "()I" } : Jvm.MethodName)) ∈ lw_tbl := mT2 (List.mem_of_getElem? (i := 159) rfl)
theorem w2_159 : (Jvm.Cond.instanceMethod ({ cls := "java/util/ArrayList", name := "size", desc := "()I" } : Jvm.MethodName)) ∈ lw_g := lw_in w2_159t rfl
theorem w2_160t : (Jvm.Cond.selects "java/util/ArrayList" ({ cls := "java/util/ArrayList", name := "size", desc := "()I" } : Jvm.MethodName) ({ cls := "java/util/ArrayList", name := "size", desc := "()I" } : Jvm.MethodName)) ∈ lw_tbl := mT2 (List.mem_of_getElem? (i := 160) rfl)
theorem w2_160 : (Jvm.Cond.selects "java/util/ArrayList" ({ cls := "java/util/ArrayList", name := "size", desc := "()I" } : Jvm.MethodName) ({ cls := "java/util/ArrayList", name := "size", desc := "()I" } : Jvm.MethodName)) ∈ lw_g := lw_in w2_160t rfl
theorem w2_161t : (Jvm.Cond.code ({ cls := "java/util/ArrayList", name := "size", desc := "()I" } : Jvm.MethodName) prog_23_method_8_code (1 : Nat) (Option.some Jvm.ClassFile.FieldType.int)) ∈ lw_tbl := mT2 (List.mem_of_getElem? (i := 161) rfl)
theorem w2_161 : (Jvm.Cond.code ({ cls := "java/util/ArrayList", name := "size", desc := "()I" } : Jvm.MethodName) prog_23_method_8_code (1 : Nat) (Option.some Jvm.ClassFile.FieldType.int)) ∈ lw_g := lw_in w2_161t rfl
theorem w2_174t : (Jvm.Cond.fieldLink "DotPress$Table" (37 : Nat) "DotPress$Table" "kind" "I") ∈ lw_tbl := mT2 (List.mem_of_getElem? (i := 174) rfl)
theorem w2_174 : (Jvm.Cond.fieldLink "DotPress$Table" (37 : Nat) "DotPress$Table" "kind" "I") ∈ lw_g := lw_in w2_174t rfl
theorem w2_175t : (Jvm.Cond.fieldLink "DotPress$Reader" (50 : Nat) "DotPress$Table" "kind" "I") ∈ lw_tbl := mT2 (List.mem_of_getElem? (i := 175) rfl)
theorem w2_175 : (Jvm.Cond.fieldLink "DotPress$Reader" (50 : Nat) "DotPress$Table" "kind" "I") ∈ lw_g := lw_in w2_175t rfl
theorem w2_176t : (Jvm.Cond.fieldLink "DotPress" (135 : Nat) "DotPress$Table" "kind" "I") ∈ lw_tbl := mT2 (List.mem_of_getElem? (i := 176) rfl)
theorem w2_176 : (Jvm.Cond.fieldLink "DotPress" (135 : Nat) "DotPress$Table" "kind" "I") ∈ lw_g := lw_in w2_176t rfl
theorem w2_177t : (Jvm.Cond.fieldLink "DotPress$Setting" (62 : Nat) "DotPress$Table" "kind" "I") ∈ lw_tbl := mT2 (List.mem_of_getElem? (i := 177) rfl)
theorem w2_177 : (Jvm.Cond.fieldLink "DotPress$Setting" (62 : Nat) "DotPress$Table" "kind" "I") ∈ lw_g := lw_in w2_177t rfl
theorem w2_180t : (Jvm.Cond.fieldLink "DotPress$Table" (44 : Nat) "DotPress$Table" "base" "LDotPress$Table;") ∈ lw_tbl := mT2 (List.mem_of_getElem? (i := 180) rfl)
theorem w2_180 : (Jvm.Cond.fieldLink "DotPress$Table" (44 : Nat) "DotPress$Table" "base" "LDotPress$Table;") ∈ lw_g := lw_in w2_180t rfl
theorem w2_181t : (Jvm.Cond.fieldLink "DotPress$Reader" (55 : Nat) "DotPress$Table" "base" "LDotPress$Table;") ∈ lw_tbl := mT2 (List.mem_of_getElem? (i := 181) rfl)
theorem w2_181 : (Jvm.Cond.fieldLink "DotPress$Reader" (55 : Nat) "DotPress$Table" "base" "LDotPress$Table;") ∈ lw_g := lw_in w2_181t rfl
theorem w2_182t : (Jvm.Cond.fieldLink "DotPress$Setting" (67 : Nat) "DotPress$Table" "base" "LDotPress$Table;") ∈ lw_tbl := mT2 (List.mem_of_getElem? (i := 182) rfl)
theorem w2_182 : (Jvm.Cond.fieldLink "DotPress$Setting" (67 : Nat) "DotPress$Table" "base" "LDotPress$Table;") ∈ lw_g := lw_in w2_182t rfl
theorem w2_183t : (Jvm.Cond.fieldLink "DotPress$Table" (48 : Nat) "DotPress$Table" "second" "LDotPress$Table;") ∈ lw_tbl := mT2 (List.mem_of_getElem? (i := 183) rfl)
theorem w2_183 : (Jvm.Cond.fieldLink "DotPress$Table" (48 : Nat) "DotPress$Table" "second" "LDotPress$Table;") ∈ lw_g := lw_in w2_183t rfl
theorem w2_184t : (Jvm.Cond.fieldLink "DotPress$Reader" (71 : Nat) "DotPress$Table" "second" "LDotPress$Table;") ∈ lw_tbl := mT2 (List.mem_of_getElem? (i := 184) rfl)
theorem w2_184 : (Jvm.Cond.fieldLink "DotPress$Reader" (71 : Nat) "DotPress$Table" "second" "LDotPress$Table;") ∈ lw_g := lw_in w2_184t rfl
theorem w2_185t : (Jvm.Cond.fieldLink "DotPress$Setting" (71 : Nat) "DotPress$Table" "second" "LDotPress$Table;") ∈ lw_tbl := mT2 (List.mem_of_getElem? (i := 185) rfl)
theorem w2_185 : (Jvm.Cond.fieldLink "DotPress$Setting" (71 : Nat) "DotPress$Table" "second" "LDotPress$Table;") ∈ lw_g := lw_in w2_185t rfl
theorem w2_187t : (Jvm.Cond.fieldLink "DotPress$Reader" (94 : Nat) "DotPress$Table" "rules" "Ljava/util/ArrayList;") ∈ lw_tbl := mT2 (List.mem_of_getElem? (i := 187) rfl)
theorem w2_187 : (Jvm.Cond.fieldLink "DotPress$Reader" (94 : Nat) "DotPress$Table" "rules" "Ljava/util/ArrayList;") ∈ lw_g := lw_in w2_187t rfl
theorem w2_189t : (Jvm.Cond.fieldLink "DotPress$Setting" (130 : Nat) "DotPress$Table" "rules" "Ljava/util/ArrayList;") ∈ lw_tbl := mT2 (List.mem_of_getElem? (i := 189) rfl)
theorem w2_189 : (Jvm.Cond.fieldLink "DotPress$Setting" (130 : Nat) "DotPress$Table" "rules" "Ljava/util/ArrayList;") ∈ lw_g := lw_in w2_189t rfl
theorem w2_191t : (Jvm.Cond.fieldLink "DotPress$Setting" (126 : Nat) "DotPress$Table" "initials" "LDotPress$Ints;") ∈ lw_tbl := mT2 (List.mem_of_getElem? (i := 191) rfl)
theorem w2_191 : (Jvm.Cond.fieldLink "DotPress$Setting" (126 : Nat) "DotPress$Table" "initials" "LDotPress$Ints;") ∈ lw_g := lw_in w2_191t rfl
theorem w2_193t : (Jvm.Cond.fieldLink "DotPress$Reader" (63 : Nat) "DotPress$Table" "indicators" "[LDotPress$Row;") ∈ lw_tbl := mT2 (List.mem_of_getElem? (i := 193) rfl)
theorem w2_193 : (Jvm.Cond.fieldLink "DotPress$Reader" (63 : Nat) "DotPress$Table" "indicators" "[LDotPress$Row;") ∈ lw_g := lw_in w2_193t rfl
theorem w2_195t : (Jvm.Cond.fieldLink "DotPress$Setting" (78 : Nat) "DotPress$Table" "indicators" "[LDotPress$Row;") ∈ lw_tbl := mT2 (List.mem_of_getElem? (i := 195) rfl)
theorem w2_195 : (Jvm.Cond.fieldLink "DotPress$Setting" (78 : Nat) "DotPress$Table" "indicators" "[LDotPress$Row;") ∈ lw_g := lw_in w2_195t rfl
theorem w2_197t : (Jvm.Cond.fieldLink "DotPress$Table" (33 : Nat) "DotPress$Table" "dropped" "Z") ∈ lw_tbl := mT2 (List.mem_of_getElem? (i := 197) rfl)
theorem w2_197 : (Jvm.Cond.fieldLink "DotPress$Table" (33 : Nat) "DotPress$Table" "dropped" "Z") ∈ lw_g := lw_in w2_197t rfl
theorem w2_198t : (Jvm.Cond.fieldLink "DotPress$Tables" (31 : Nat) "DotPress$Table" "dropped" "Z") ∈ lw_tbl := mT2 (List.mem_of_getElem? (i := 198) rfl)
theorem w2_198 : (Jvm.Cond.fieldLink "DotPress$Tables" (31 : Nat) "DotPress$Table" "dropped" "Z") ∈ lw_g := lw_in w2_198t rfl
theorem w2_200t : (Jvm.Cond.laysFinal "DotPress$Table" "DotPress$Table" "kind" "I") ∈ lw_tbl := mT2 (List.mem_of_getElem? (i := 200) rfl)
theorem w2_200 : (Jvm.Cond.laysFinal "DotPress$Table" "DotPress$Table" "kind" "I") ∈ lw_g := lw_in w2_200t rfl
theorem w2_202t : (Jvm.Cond.laysFinal "DotPress$Table" "DotPress$Table" "dots" "I") ∈ lw_tbl := mT2 (List.mem_of_getElem? (i := 202) rfl)
theorem w2_202 : (Jvm.Cond.laysFinal "DotPress$Table" "DotPress$Table" "dots" "I") ∈ lw_g := lw_in w2_202t rfl
theorem w2_204t : (Jvm.Cond.laysFinal "DotPress$Table" "DotPress$Table" "base" "LDotPress$Table;") ∈ lw_tbl := mT2 (List.mem_of_getElem? (i := 204) rfl)
theorem w2_204 : (Jvm.Cond.laysFinal "DotPress$Table" "DotPress$Table" "base" "LDotPress$Table;") ∈ lw_g := lw_in w2_204t rfl
theorem w2_206t : (Jvm.Cond.laysFinal "DotPress$Table" "DotPress$Table" "second" "LDotPress$Table;") ∈ lw_tbl := mT2 (List.mem_of_getElem? (i := 206) rfl)
theorem w2_206 : (Jvm.Cond.laysFinal "DotPress$Table" "DotPress$Table" "second" "LDotPress$Table;") ∈ lw_g := lw_in w2_206t rfl
theorem w2_208t : (Jvm.Cond.laysFinal "DotPress$Table" "DotPress$Table" "rules" "Ljava/util/ArrayList;") ∈ lw_tbl := mT2 (List.mem_of_getElem? (i := 208) rfl)
theorem w2_208 : (Jvm.Cond.laysFinal "DotPress$Table" "DotPress$Table" "rules" "Ljava/util/ArrayList;") ∈ lw_g := lw_in w2_208t rfl
theorem w2_210t : (Jvm.Cond.laysFinal "DotPress$Table" "DotPress$Table" "initials" "LDotPress$Ints;") ∈ lw_tbl := mT2 (List.mem_of_getElem? (i := 210) rfl)
theorem w2_210 : (Jvm.Cond.laysFinal "DotPress$Table" "DotPress$Table" "initials" "LDotPress$Ints;") ∈ lw_g := lw_in w2_210t rfl
theorem w2_212t : (Jvm.Cond.laysFinal "DotPress$Table" "DotPress$Table" "indicators" "[LDotPress$Row;") ∈ lw_tbl := mT2 (List.mem_of_getElem? (i := 212) rfl)
theorem w2_212 : (Jvm.Cond.laysFinal "DotPress$Table" "DotPress$Table" "indicators" "[LDotPress$Row;") ∈ lw_g := lw_in w2_212t rfl
theorem w2_214t : (Jvm.Cond.lays "DotPress$Table" "DotPress$Table" "dropped" "Z") ∈ lw_tbl := mT2 (List.mem_of_getElem? (i := 214) rfl)
theorem w2_214 : (Jvm.Cond.lays "DotPress$Table" "DotPress$Table" "dropped" "Z") ∈ lw_g := lw_in w2_214t rfl
theorem w2_222t : (Jvm.Cond.instanceMethod ({ cls := "java/util/ArrayList", name := "add", desc := "(Ljava/lang/Object;)Z" } : Jvm.MethodName)) ∈ lw_tbl := mT2 (List.mem_of_getElem? (i := 222) rfl)
theorem w2_222 : (Jvm.Cond.instanceMethod ({ cls := "java/util/ArrayList", name := "add", desc := "(Ljava/lang/Object;)Z" } : Jvm.MethodName)) ∈ lw_g := lw_in w2_222t rfl
theorem w2_223t : (Jvm.Cond.selects "java/util/ArrayList" ({ cls := "java/util/ArrayList", name := "add", desc := "(Ljava/lang/Object;)Z" } : Jvm.MethodName) ({ cls := "java/util/ArrayList", name := "add", desc := "(Ljava/lang/Object;)Z" } : Jvm.MethodName)) ∈ lw_tbl := mT2 (List.mem_of_getElem? (i := 223) rfl)
theorem w2_223 : (Jvm.Cond.selects "java/util/ArrayList" ({ cls := "java/util/ArrayList", name := "add", desc := "(Ljava/lang/Object;)Z" } : Jvm.MethodName) ({ cls := "java/util/ArrayList", name := "add", desc := "(Ljava/lang/Object;)Z" } : Jvm.MethodName)) ∈ lw_g := lw_in w2_223t rfl
theorem w2_224t : (Jvm.Cond.code ({ cls := "java/util/ArrayList", name := "add", desc := "(Ljava/lang/Object;)Z" } : Jvm.MethodName) prog_23_method_25_code (2 : Nat) (Option.some Jvm.ClassFile.FieldType.boolean)) ∈ lw_tbl := mT2 (List.mem_of_getElem? (i := 224) rfl)
theorem w2_224 : (Jvm.Cond.code ({ cls := "java/util/ArrayList", name := "add", desc := "(Ljava/lang/Object;)Z" } : Jvm.MethodName) prog_23_method_25_code (2 : Nat) (Option.some Jvm.ClassFile.FieldType.boolean)) ∈ lw_g := lw_in w2_224t rfl
theorem w2_225t : (Jvm.Cond.methodLink "java/util/ArrayList" (131 : Nat) ({ cls := "java/util/ArrayList", name := "add", desc := "(Ljava/lang/Object;[Ljava/lang/Object;I)V" } : Jvm.MethodName)) ∈ lw_tbl := mT2 (List.mem_of_getElem? (i := 225) rfl)
theorem w2_225 : (Jvm.Cond.methodLink "java/util/ArrayList" (131 : Nat) ({ cls := "java/util/ArrayList", name := "add", desc := "(Ljava/lang/Object;[Ljava/lang/Object;I)V" } : Jvm.MethodName)) ∈ lw_g := lw_in w2_225t rfl
theorem w2_227t : (Jvm.Cond.instanceMethod ({ cls := "java/util/ArrayList", name := "add", desc := "(Ljava/lang/Object;[Ljava/lang/Object;I)V" } : Jvm.MethodName)) ∈ lw_tbl := mT2 (List.mem_of_getElem? (i := 227) rfl)
theorem w2_227 : (Jvm.Cond.instanceMethod ({ cls := "java/util/ArrayList", name := "add", desc := "(Ljava/lang/Object;[Ljava/lang/Object;I)V" } : Jvm.MethodName)) ∈ lw_g := lw_in w2_227t rfl
theorem w2_228t : (Jvm.Cond.code ({ cls := "java/util/ArrayList", name := "add", desc := "(Ljava/lang/Object;[Ljava/lang/Object;I)V" } : Jvm.MethodName) prog_23_method_24_code (4 : Nat) (Option.none : Option Jvm.ClassFile.FieldType)) ∈ lw_tbl := mT2 (List.mem_of_getElem? (i := 228) rfl)
theorem w2_228 : (Jvm.Cond.code ({ cls := "java/util/ArrayList", name := "add", desc := "(Ljava/lang/Object;[Ljava/lang/Object;I)V" } : Jvm.MethodName) prog_23_method_24_code (4 : Nat) (Option.none : Option Jvm.ClassFile.FieldType)) ∈ lw_g := lw_in w2_228t rfl
theorem w2_229t : (Jvm.Cond.methodLink "java/util/ArrayList" (129 : Nat) ({ cls := "java/util/ArrayList", name := "grow", desc := "()[Ljava/lang/Object;" } : Jvm.MethodName)) ∈ lw_tbl := mT2 (List.mem_of_getElem? (i := 229) rfl)
theorem w2_229 : (Jvm.Cond.methodLink "java/util/ArrayList" (129 : Nat) ({ cls := "java/util/ArrayList", name := "grow", desc := "()[Ljava/lang/Object;" } : Jvm.MethodName)) ∈ lw_g := lw_in w2_229t rfl
theorem w2_231t : (Jvm.Cond.instanceMethod ({ cls := "java/util/ArrayList", name := "grow", desc := "()[Ljava/lang/Object;" } : Jvm.MethodName)) ∈ lw_tbl := mT2 (List.mem_of_getElem? (i := 231) rfl)
theorem w2_231 : (Jvm.Cond.instanceMethod ({ cls := "java/util/ArrayList", name := "grow", desc := "()[Ljava/lang/Object;" } : Jvm.MethodName)) ∈ lw_g := lw_in w2_231t rfl
theorem w2_232t : (Jvm.Cond.code ({ cls := "java/util/ArrayList", name := "grow", desc := "()[Ljava/lang/Object;" } : Jvm.MethodName) prog_23_method_7_code (1 : Nat) (Option.some (Jvm.ClassFile.FieldType.array (Jvm.ClassFile.FieldType.object "java/lang/Object")))) ∈ lw_tbl := mT2 (List.mem_of_getElem? (i := 232) rfl)
theorem w2_232 : (Jvm.Cond.code ({ cls := "java/util/ArrayList", name := "grow", desc := "()[Ljava/lang/Object;" } : Jvm.MethodName) prog_23_method_7_code (1 : Nat) (Option.some (Jvm.ClassFile.FieldType.array (Jvm.ClassFile.FieldType.object "java/lang/Object")))) ∈ lw_g := lw_in w2_232t rfl
theorem w2_233t : (Jvm.Cond.methodLink "java/util/ArrayList" (69 : Nat) ({ cls := "java/util/ArrayList", name := "grow", desc := "(I)[Ljava/lang/Object;" } : Jvm.MethodName)) ∈ lw_tbl := mT2 (List.mem_of_getElem? (i := 233) rfl)
theorem w2_233 : (Jvm.Cond.methodLink "java/util/ArrayList" (69 : Nat) ({ cls := "java/util/ArrayList", name := "grow", desc := "(I)[Ljava/lang/Object;" } : Jvm.MethodName)) ∈ lw_g := lw_in w2_233t rfl
theorem w2_235t : (Jvm.Cond.instanceMethod ({ cls := "java/util/ArrayList", name := "grow", desc := "(I)[Ljava/lang/Object;" } : Jvm.MethodName)) ∈ lw_tbl := mT2 (List.mem_of_getElem? (i := 235) rfl)
theorem w2_235 : (Jvm.Cond.instanceMethod ({ cls := "java/util/ArrayList", name := "grow", desc := "(I)[Ljava/lang/Object;" } : Jvm.MethodName)) ∈ lw_g := lw_in w2_235t rfl
theorem w2_236t : (Jvm.Cond.code ({ cls := "java/util/ArrayList", name := "grow", desc := "(I)[Ljava/lang/Object;" } : Jvm.MethodName) prog_23_method_6_code (4 : Nat) (Option.some (Jvm.ClassFile.FieldType.array (Jvm.ClassFile.FieldType.object "java/lang/Object")))) ∈ lw_tbl := mT2 (List.mem_of_getElem? (i := 236) rfl)
theorem w2_236 : (Jvm.Cond.code ({ cls := "java/util/ArrayList", name := "grow", desc := "(I)[Ljava/lang/Object;" } : Jvm.MethodName) prog_23_method_6_code (4 : Nat) (Option.some (Jvm.ClassFile.FieldType.array (Jvm.ClassFile.FieldType.object "java/lang/Object")))) ∈ lw_g := lw_in w2_236t rfl
theorem w2_237t : (Jvm.Cond.methodLink "java/util/ArrayList" (73 : Nat) ({ cls := "jdk/internal/util/ArraysSupport", name := "newLength", desc := "(III)I" } : Jvm.MethodName)) ∈ lw_tbl := mT2 (List.mem_of_getElem? (i := 237) rfl)
theorem w2_237 : (Jvm.Cond.methodLink "java/util/ArrayList" (73 : Nat) ({ cls := "jdk/internal/util/ArraysSupport", name := "newLength", desc := "(III)I" } : Jvm.MethodName)) ∈ lw_g := lw_in w2_237t rfl
theorem w2_238t : (Jvm.Cond.static ({ cls := "jdk/internal/util/ArraysSupport", name := "newLength", desc := "(III)I" } : Jvm.MethodName)) ∈ lw_tbl := mT2 (List.mem_of_getElem? (i := 238) rfl)
theorem w2_238 : (Jvm.Cond.static ({ cls := "jdk/internal/util/ArraysSupport", name := "newLength", desc := "(III)I" } : Jvm.MethodName)) ∈ lw_g := lw_in w2_238t rfl
theorem w2_239t : (Jvm.Cond.code ({ cls := "jdk/internal/util/ArraysSupport", name := "newLength", desc := "(III)I" } : Jvm.MethodName) prog_30_method_27_code (4 : Nat) (Option.some Jvm.ClassFile.FieldType.int)) ∈ lw_tbl := mT2 (List.mem_of_getElem? (i := 239) rfl)
theorem w2_239 : (Jvm.Cond.code ({ cls := "jdk/internal/util/ArraysSupport", name := "newLength", desc := "(III)I" } : Jvm.MethodName) prog_30_method_27_code (4 : Nat) (Option.some Jvm.ClassFile.FieldType.int)) ∈ lw_g := lw_in w2_239t rfl
theorem w2_44t : (Jvm.Cond.fieldLink "DotPress" (14 : Nat) "DotPress" "tape" "LDotPress$Ints;") ∈ lw_tbl := mT2 (List.mem_of_getElem? (i := 44) rfl)
theorem w2_44 : (Jvm.Cond.fieldLink "DotPress" (14 : Nat) "DotPress" "tape" "LDotPress$Ints;") ∈ lw_g := lw_in w2_44t rfl
theorem w2_45t : (Jvm.Cond.fieldLink "DotPress" (18 : Nat) "DotPress" "written" "LDotPress$Ints;") ∈ lw_tbl := mT2 (List.mem_of_getElem? (i := 45) rfl)
theorem w2_45 : (Jvm.Cond.fieldLink "DotPress" (18 : Nat) "DotPress" "written" "LDotPress$Ints;") ∈ lw_g := lw_in w2_45t rfl
theorem w2_47t : (Jvm.Cond.fieldLink "DotPress" (24 : Nat) "DotPress" "header" "LDotPress$Ints;") ∈ lw_tbl := mT2 (List.mem_of_getElem? (i := 47) rfl)
theorem w2_47 : (Jvm.Cond.fieldLink "DotPress" (24 : Nat) "DotPress" "header" "LDotPress$Ints;") ∈ lw_g := lw_in w2_47t rfl
theorem w2_48t : (Jvm.Cond.fieldLink "DotPress" (30 : Nat) "DotPress" "tables" "LDotPress$Tables;") ∈ lw_tbl := mT2 (List.mem_of_getElem? (i := 48) rfl)
theorem w2_48 : (Jvm.Cond.fieldLink "DotPress" (30 : Nat) "DotPress" "tables" "LDotPress$Tables;") ∈ lw_g := lw_in w2_48t rfl
theorem w2_49t : (Jvm.Cond.fieldLink "DotPress" (37 : Nat) "DotPress" "source" "LDotPress$Source;") ∈ lw_tbl := mT2 (List.mem_of_getElem? (i := 49) rfl)
theorem w2_49 : (Jvm.Cond.fieldLink "DotPress" (37 : Nat) "DotPress" "source" "LDotPress$Source;") ∈ lw_g := lw_in w2_49t rfl
theorem w2_50t : (Jvm.Cond.fieldLink "DotPress" (44 : Nat) "DotPress" "word" "LDotPress$Setting;") ∈ lw_tbl := mT2 (List.mem_of_getElem? (i := 50) rfl)
theorem w2_50 : (Jvm.Cond.fieldLink "DotPress" (44 : Nat) "DotPress" "word" "LDotPress$Setting;") ∈ lw_g := lw_in w2_50t rfl
theorem w2_51t : (Jvm.Cond.fieldLink "DotPress" (51 : Nat) "DotPress" "reader" "LDotPress$Reader;") ∈ lw_tbl := mT2 (List.mem_of_getElem? (i := 51) rfl)
theorem w2_51 : (Jvm.Cond.fieldLink "DotPress" (51 : Nat) "DotPress" "reader" "LDotPress$Reader;") ∈ lw_g := lw_in w2_51t rfl
theorem w2_55t : (Jvm.Cond.fieldLink "DotPress" (74 : Nat) "DotPress" "width" "I") ∈ lw_tbl := mT2 (List.mem_of_getElem? (i := 55) rfl)
theorem w2_55 : (Jvm.Cond.fieldLink "DotPress" (74 : Nat) "DotPress" "width" "I") ∈ lw_g := lw_in w2_55t rfl
theorem w2_57t : (Jvm.Cond.fieldLink "DotPress" (81 : Nat) "DotPress" "hyphen" "I") ∈ lw_tbl := mT2 (List.mem_of_getElem? (i := 57) rfl)
theorem w2_57 : (Jvm.Cond.fieldLink "DotPress" (81 : Nat) "DotPress" "hyphen" "I") ∈ lw_g := lw_in w2_57t rfl
theorem w2_61t : (Jvm.Cond.fieldLink "DotPress" (93 : Nat) "DotPress" "latestStatus" "I") ∈ lw_tbl := mT2 (List.mem_of_getElem? (i := 61) rfl)
theorem w2_61 : (Jvm.Cond.fieldLink "DotPress" (93 : Nat) "DotPress" "latestStatus" "I") ∈ lw_g := lw_in w2_61t rfl
theorem w2_62t : (Jvm.Cond.fieldLink "DotPress" (96 : Nat) "DotPress" "latestPlace" "I") ∈ lw_tbl := mT2 (List.mem_of_getElem? (i := 62) rfl)
theorem w2_62 : (Jvm.Cond.fieldLink "DotPress" (96 : Nat) "DotPress" "latestPlace" "I") ∈ lw_g := lw_in w2_62t rfl
theorem w2_63t : (Jvm.Cond.laysFinal "DotPress" "DotPress" "tape" "LDotPress$Ints;") ∈ lw_tbl := mT2 (List.mem_of_getElem? (i := 63) rfl)
theorem w2_63 : (Jvm.Cond.laysFinal "DotPress" "DotPress" "tape" "LDotPress$Ints;") ∈ lw_g := lw_in w2_63t rfl
theorem w2_65t : (Jvm.Cond.laysFinal "DotPress" "DotPress" "written" "LDotPress$Ints;") ∈ lw_tbl := mT2 (List.mem_of_getElem? (i := 65) rfl)
theorem w2_65 : (Jvm.Cond.laysFinal "DotPress" "DotPress" "written" "LDotPress$Ints;") ∈ lw_g := lw_in w2_65t rfl
theorem w2_67t : (Jvm.Cond.laysFinal "DotPress" "DotPress" "bytesRead" "LDotPress$Ints;") ∈ lw_tbl := mT2 (List.mem_of_getElem? (i := 67) rfl)
theorem w2_67 : (Jvm.Cond.laysFinal "DotPress" "DotPress" "bytesRead" "LDotPress$Ints;") ∈ lw_g := lw_in w2_67t rfl
theorem w2_69t : (Jvm.Cond.laysFinal "DotPress" "DotPress" "header" "LDotPress$Ints;") ∈ lw_tbl := mT2 (List.mem_of_getElem? (i := 69) rfl)
theorem w2_69 : (Jvm.Cond.laysFinal "DotPress" "DotPress" "header" "LDotPress$Ints;") ∈ lw_g := lw_in w2_69t rfl
theorem w2_71t : (Jvm.Cond.laysFinal "DotPress" "DotPress" "tables" "LDotPress$Tables;") ∈ lw_tbl := mT2 (List.mem_of_getElem? (i := 71) rfl)
theorem w2_71 : (Jvm.Cond.laysFinal "DotPress" "DotPress" "tables" "LDotPress$Tables;") ∈ lw_g := lw_in w2_71t rfl
theorem w2_73t : (Jvm.Cond.laysFinal "DotPress" "DotPress" "source" "LDotPress$Source;") ∈ lw_tbl := mT2 (List.mem_of_getElem? (i := 73) rfl)
theorem w2_73 : (Jvm.Cond.laysFinal "DotPress" "DotPress" "source" "LDotPress$Source;") ∈ lw_g := lw_in w2_73t rfl
theorem w2_75t : (Jvm.Cond.laysFinal "DotPress" "DotPress" "word" "LDotPress$Setting;") ∈ lw_tbl := mT2 (List.mem_of_getElem? (i := 75) rfl)
theorem w2_75 : (Jvm.Cond.laysFinal "DotPress" "DotPress" "word" "LDotPress$Setting;") ∈ lw_g := lw_in w2_75t rfl
theorem w2_77t : (Jvm.Cond.laysFinal "DotPress" "DotPress" "reader" "LDotPress$Reader;") ∈ lw_tbl := mT2 (List.mem_of_getElem? (i := 77) rfl)
theorem w2_77 : (Jvm.Cond.laysFinal "DotPress" "DotPress" "reader" "LDotPress$Reader;") ∈ lw_g := lw_in w2_77t rfl
theorem w2_79t : (Jvm.Cond.laysFinal "DotPress" "DotPress" "found" "LDotPress$Readings;") ∈ lw_tbl := mT2 (List.mem_of_getElem? (i := 79) rfl)
theorem w2_79 : (Jvm.Cond.laysFinal "DotPress" "DotPress" "found" "LDotPress$Readings;") ∈ lw_g := lw_in w2_79t rfl
theorem w2_81t : (Jvm.Cond.lays "DotPress" "DotPress" "sheet" "LDotPress$Sheet;") ∈ lw_tbl := mT2 (List.mem_of_getElem? (i := 81) rfl)
theorem w2_81 : (Jvm.Cond.lays "DotPress" "DotPress" "sheet" "LDotPress$Sheet;") ∈ lw_g := lw_in w2_81t rfl
theorem w2_83t : (Jvm.Cond.lays "DotPress" "DotPress" "draft" "LDotPress$Sheet;") ∈ lw_tbl := mT2 (List.mem_of_getElem? (i := 83) rfl)
theorem w2_83 : (Jvm.Cond.lays "DotPress" "DotPress" "draft" "LDotPress$Sheet;") ∈ lw_g := lw_in w2_83t rfl
theorem w2_85t : (Jvm.Cond.lays "DotPress" "DotPress" "width" "I") ∈ lw_tbl := mT2 (List.mem_of_getElem? (i := 85) rfl)
theorem w2_85 : (Jvm.Cond.lays "DotPress" "DotPress" "width" "I") ∈ lw_g := lw_in w2_85t rfl
theorem w2_87t : (Jvm.Cond.lays "DotPress" "DotPress" "height" "I") ∈ lw_tbl := mT2 (List.mem_of_getElem? (i := 87) rfl)
theorem w2_87 : (Jvm.Cond.lays "DotPress" "DotPress" "height" "I") ∈ lw_g := lw_in w2_87t rfl
theorem w2_89t : (Jvm.Cond.lays "DotPress" "DotPress" "hyphen" "I") ∈ lw_tbl := mT2 (List.mem_of_getElem? (i := 89) rfl)
theorem w2_89 : (Jvm.Cond.lays "DotPress" "DotPress" "hyphen" "I") ∈ lw_g := lw_in w2_89t rfl
theorem w2_91t : (Jvm.Cond.lays "DotPress" "DotPress" "failedDots" "I") ∈ lw_tbl := mT2 (List.mem_of_getElem? (i := 91) rfl)
theorem w2_91 : (Jvm.Cond.lays "DotPress" "DotPress" "failedDots" "I") ∈ lw_g := lw_in w2_91t rfl
theorem w2_93t : (Jvm.Cond.lays "DotPress" "DotPress" "linesCopied" "I") ∈ lw_tbl := mT2 (List.mem_of_getElem? (i := 93) rfl)
theorem w2_93 : (Jvm.Cond.lays "DotPress" "DotPress" "linesCopied" "I") ∈ lw_g := lw_in w2_93t rfl
theorem w2_95t : (Jvm.Cond.lays "DotPress" "DotPress" "linesClosed" "I") ∈ lw_tbl := mT2 (List.mem_of_getElem? (i := 95) rfl)
theorem w2_95 : (Jvm.Cond.lays "DotPress" "DotPress" "linesClosed" "I") ∈ lw_g := lw_in w2_95t rfl
theorem w2_97t : (Jvm.Cond.lays "DotPress" "DotPress" "latestStatus" "I") ∈ lw_tbl := mT2 (List.mem_of_getElem? (i := 97) rfl)
theorem w2_97 : (Jvm.Cond.lays "DotPress" "DotPress" "latestStatus" "I") ∈ lw_g := lw_in w2_97t rfl
theorem w2_99t : (Jvm.Cond.lays "DotPress" "DotPress" "latestPlace" "I") ∈ lw_tbl := mT2 (List.mem_of_getElem? (i := 99) rfl)
theorem w2_99 : (Jvm.Cond.lays "DotPress" "DotPress" "latestPlace" "I") ∈ lw_g := lw_in w2_99t rfl
theorem w3_0t : (Jvm.Cond.methodLink "jdk/internal/util/ArraysSupport" (194 : Nat) ({ cls := "java/lang/Math", name := "max", desc := "(II)I" } : Jvm.MethodName)) ∈ lw_tbl := mT3 (List.mem_of_getElem? (i := 0) rfl)
theorem w3_0 : (Jvm.Cond.methodLink "jdk/internal/util/ArraysSupport" (194 : Nat) ({ cls := "java/lang/Math", name := "max", desc := "(II)I" } : Jvm.MethodName)) ∈ lw_g := lw_in w3_0t rfl
theorem w3_1t : (Jvm.Cond.constant "jdk/internal/util/ArraysSupport" (200 : Nat) (2147483639 : Int32)) ∈ lw_tbl := mT3 (List.mem_of_getElem? (i := 1) rfl)
theorem w3_1 : (Jvm.Cond.constant "jdk/internal/util/ArraysSupport" (200 : Nat) (2147483639 : Int32)) ∈ lw_g := lw_in w3_1t rfl
theorem w3_112t : (Jvm.Cond.methodLink "DotPress" (171 : Nat) ({ cls := "DotPress$Ints", name := "isWithin", desc := "(IIII)Z" } : Jvm.MethodName)) ∈ lw_tbl := mT3 (List.mem_of_getElem? (i := 112) rfl)
theorem w3_112 : (Jvm.Cond.methodLink "DotPress" (171 : Nat) ({ cls := "DotPress$Ints", name := "isWithin", desc := "(IIII)Z" } : Jvm.MethodName)) ∈ lw_g := lw_in w3_112t rfl
theorem w3_113t : (Jvm.Cond.instanceMethod ({ cls := "DotPress$Ints", name := "isWithin", desc := "(IIII)Z" } : Jvm.MethodName)) ∈ lw_tbl := mT3 (List.mem_of_getElem? (i := 113) rfl)
theorem w3_113 : (Jvm.Cond.instanceMethod ({ cls := "DotPress$Ints", name := "isWithin", desc := "(IIII)Z" } : Jvm.MethodName)) ∈ lw_g := lw_in w3_113t rfl
theorem w3_114t : (Jvm.Cond.selects "DotPress$Ints" ({ cls := "DotPress$Ints", name := "isWithin", desc := "(IIII)Z" } : Jvm.MethodName) ({ cls := "DotPress$Ints", name := "isWithin", desc := "(IIII)Z" } : Jvm.MethodName)) ∈ lw_tbl := mT3 (List.mem_of_getElem? (i := 114) rfl)
theorem w3_114 : (Jvm.Cond.selects "DotPress$Ints" ({ cls := "DotPress$Ints", name := "isWithin", desc := "(IIII)Z" } : Jvm.MethodName) ({ cls := "DotPress$Ints", name := "isWithin", desc := "(IIII)Z" } : Jvm.MethodName)) ∈ lw_g := lw_in w3_114t rfl
theorem w3_115t : (Jvm.Cond.code ({ cls := "DotPress$Ints", name := "isWithin", desc := "(IIII)Z" } : Jvm.MethodName) prog_3_method_7_code (6 : Nat) (Option.some Jvm.ClassFile.FieldType.boolean)) ∈ lw_tbl := mT3 (List.mem_of_getElem? (i := 115) rfl)
theorem w3_115 : (Jvm.Cond.code ({ cls := "DotPress$Ints", name := "isWithin", desc := "(IIII)Z" } : Jvm.MethodName) prog_3_method_7_code (6 : Nat) (Option.some Jvm.ClassFile.FieldType.boolean)) ∈ lw_g := lw_in w3_115t rfl
theorem w3_116t : (Jvm.Cond.methodLink "DotPress$Ints" (39 : Nat) ({ cls := "DotPress$Ints", name := "at", desc := "(I)I" } : Jvm.MethodName)) ∈ lw_tbl := mT3 (List.mem_of_getElem? (i := 116) rfl)
theorem w3_116 : (Jvm.Cond.methodLink "DotPress$Ints" (39 : Nat) ({ cls := "DotPress$Ints", name := "at", desc := "(I)I" } : Jvm.MethodName)) ∈ lw_g := lw_in w3_116t rfl
theorem w3_117t : (Jvm.Cond.instanceMethod ({ cls := "DotPress$Ints", name := "at", desc := "(I)I" } : Jvm.MethodName)) ∈ lw_tbl := mT3 (List.mem_of_getElem? (i := 117) rfl)
theorem w3_117 : (Jvm.Cond.instanceMethod ({ cls := "DotPress$Ints", name := "at", desc := "(I)I" } : Jvm.MethodName)) ∈ lw_g := lw_in w3_117t rfl
theorem w3_118t : (Jvm.Cond.selects "DotPress$Ints" ({ cls := "DotPress$Ints", name := "at", desc := "(I)I" } : Jvm.MethodName) ({ cls := "DotPress$Ints", name := "at", desc := "(I)I" } : Jvm.MethodName)) ∈ lw_tbl := mT3 (List.mem_of_getElem? (i := 118) rfl)
theorem w3_118 : (Jvm.Cond.selects "DotPress$Ints" ({ cls := "DotPress$Ints", name := "at", desc := "(I)I" } : Jvm.MethodName) ({ cls := "DotPress$Ints", name := "at", desc := "(I)I" } : Jvm.MethodName)) ∈ lw_g := lw_in w3_118t rfl
theorem w3_119t : (Jvm.Cond.code ({ cls := "DotPress$Ints", name := "at", desc := "(I)I" } : Jvm.MethodName) prog_3_method_4_code (2 : Nat) (Option.some Jvm.ClassFile.FieldType.int)) ∈ lw_tbl := mT3 (List.mem_of_getElem? (i := 119) rfl)
theorem w3_119 : (Jvm.Cond.code ({ cls := "DotPress$Ints", name := "at", desc := "(I)I" } : Jvm.MethodName) prog_3_method_4_code (2 : Nat) (Option.some Jvm.ClassFile.FieldType.int)) ∈ lw_g := lw_in w3_119t rfl
theorem w3_124t : (Jvm.Cond.methodLink "DotPress" (183 : Nat) ({ cls := "java/util/ArrayList", name := "size", desc := "()I" } : Jvm.MethodName)) ∈ lw_tbl := mT3 (List.mem_of_getElem? (i := 124) rfl)
theorem w3_124 : (Jvm.Cond.methodLink "DotPress" (183 : Nat) ({ cls := "java/util/ArrayList", name := "size", desc := "()I" } : Jvm.MethodName)) ∈ lw_g := lw_in w3_124t rfl
theorem w3_125t : (Jvm.Cond.classLink "DotPress" (188 : Nat) "DotPress$Row") ∈ lw_tbl := mT3 (List.mem_of_getElem? (i := 125) rfl)
theorem w3_125 : (Jvm.Cond.classLink "DotPress" (188 : Nat) "DotPress$Row") ∈ lw_g := lw_in w3_125t rfl
theorem w3_141t : (Jvm.Cond.fieldLink "DotPress$Setting" (102 : Nat) "DotPress$Row" "letters" "[I") ∈ lw_tbl := mT3 (List.mem_of_getElem? (i := 141) rfl)
theorem w3_141 : (Jvm.Cond.fieldLink "DotPress$Setting" (102 : Nat) "DotPress$Row" "letters" "[I") ∈ lw_g := lw_in w3_141t rfl
theorem w3_142t : (Jvm.Cond.fieldLink "DotPress$Row" (22 : Nat) "DotPress$Row" "cells" "[I") ∈ lw_tbl := mT3 (List.mem_of_getElem? (i := 142) rfl)
theorem w3_142 : (Jvm.Cond.fieldLink "DotPress$Row" (22 : Nat) "DotPress$Row" "cells" "[I") ∈ lw_g := lw_in w3_142t rfl
theorem w3_143t : (Jvm.Cond.fieldLink "DotPress$Reader" (88 : Nat) "DotPress$Row" "cells" "[I") ∈ lw_tbl := mT3 (List.mem_of_getElem? (i := 143) rfl)
theorem w3_143 : (Jvm.Cond.fieldLink "DotPress$Reader" (88 : Nat) "DotPress$Row" "cells" "[I") ∈ lw_g := lw_in w3_143t rfl
theorem w3_145t : (Jvm.Cond.fieldLink "DotPress$Setting" (118 : Nat) "DotPress$Row" "cells" "[I") ∈ lw_tbl := mT3 (List.mem_of_getElem? (i := 145) rfl)
theorem w3_145 : (Jvm.Cond.fieldLink "DotPress$Setting" (118 : Nat) "DotPress$Row" "cells" "[I") ∈ lw_g := lw_in w3_145t rfl
theorem w3_146t : (Jvm.Cond.fieldLink "DotPress" (384 : Nat) "DotPress$Row" "cells" "[I") ∈ lw_tbl := mT3 (List.mem_of_getElem? (i := 146) rfl)
theorem w3_146 : (Jvm.Cond.fieldLink "DotPress" (384 : Nat) "DotPress$Row" "cells" "[I") ∈ lw_g := lw_in w3_146t rfl
theorem w3_150t : (Jvm.Cond.fieldLink "DotPress$Setting" (153 : Nat) "DotPress$Row" "condition" "I") ∈ lw_tbl := mT3 (List.mem_of_getElem? (i := 150) rfl)
theorem w3_150 : (Jvm.Cond.fieldLink "DotPress$Setting" (153 : Nat) "DotPress$Row" "condition" "I") ∈ lw_g := lw_in w3_150t rfl
theorem w3_151t : (Jvm.Cond.laysFinal "DotPress$Row" "DotPress$Row" "role" "I") ∈ lw_tbl := mT3 (List.mem_of_getElem? (i := 151) rfl)
theorem w3_151 : (Jvm.Cond.laysFinal "DotPress$Row" "DotPress$Row" "role" "I") ∈ lw_g := lw_in w3_151t rfl
theorem w3_153t : (Jvm.Cond.laysFinal "DotPress$Row" "DotPress$Row" "letters" "[I") ∈ lw_tbl := mT3 (List.mem_of_getElem? (i := 153) rfl)
theorem w3_153 : (Jvm.Cond.laysFinal "DotPress$Row" "DotPress$Row" "letters" "[I") ∈ lw_g := lw_in w3_153t rfl
theorem w3_155t : (Jvm.Cond.laysFinal "DotPress$Row" "DotPress$Row" "cells" "[I") ∈ lw_tbl := mT3 (List.mem_of_getElem? (i := 155) rfl)
theorem w3_155 : (Jvm.Cond.laysFinal "DotPress$Row" "DotPress$Row" "cells" "[I") ∈ lw_g := lw_in w3_155t rfl
theorem w3_157t : (Jvm.Cond.lays "DotPress$Row" "DotPress$Row" "condition" "I") ∈ lw_tbl := mT3 (List.mem_of_getElem? (i := 157) rfl)
theorem w3_157 : (Jvm.Cond.lays "DotPress$Row" "DotPress$Row" "condition" "I") ∈ lw_g := lw_in w3_157t rfl
theorem w3_166t : (Jvm.Cond.methodLink "DotPress" (164 : Nat) ({ cls := "DotPress$Ints", name := "clear", desc := "()V" } : Jvm.MethodName)) ∈ lw_tbl := mT3 (List.mem_of_getElem? (i := 166) rfl)
theorem w3_166 : (Jvm.Cond.methodLink "DotPress" (164 : Nat) ({ cls := "DotPress$Ints", name := "clear", desc := "()V" } : Jvm.MethodName)) ∈ lw_g := lw_in w3_166t rfl
theorem w3_167t : (Jvm.Cond.instanceMethod ({ cls := "DotPress$Ints", name := "clear", desc := "()V" } : Jvm.MethodName)) ∈ lw_tbl := mT3 (List.mem_of_getElem? (i := 167) rfl)
theorem w3_167 : (Jvm.Cond.instanceMethod ({ cls := "DotPress$Ints", name := "clear", desc := "()V" } : Jvm.MethodName)) ∈ lw_g := lw_in w3_167t rfl
theorem w3_168t : (Jvm.Cond.selects "DotPress$Ints" ({ cls := "DotPress$Ints", name := "clear", desc := "()V" } : Jvm.MethodName) ({ cls := "DotPress$Ints", name := "clear", desc := "()V" } : Jvm.MethodName)) ∈ lw_tbl := mT3 (List.mem_of_getElem? (i := 168) rfl)
theorem w3_168 : (Jvm.Cond.selects "DotPress$Ints" ({ cls := "DotPress$Ints", name := "clear", desc := "()V" } : Jvm.MethodName) ({ cls := "DotPress$Ints", name := "clear", desc := "()V" } : Jvm.MethodName)) ∈ lw_g := lw_in w3_168t rfl
theorem w3_169t : (Jvm.Cond.code ({ cls := "DotPress$Ints", name := "clear", desc := "()V" } : Jvm.MethodName) prog_3_method_5_code (1 : Nat) (Option.none : Option Jvm.ClassFile.FieldType)) ∈ lw_tbl := mT3 (List.mem_of_getElem? (i := 169) rfl)
theorem w3_169 : (Jvm.Cond.code ({ cls := "DotPress$Ints", name := "clear", desc := "()V" } : Jvm.MethodName) prog_3_method_5_code (1 : Nat) (Option.none : Option Jvm.ClassFile.FieldType)) ∈ lw_g := lw_in w3_169t rfl
theorem w3_174t : (Jvm.Cond.methodLink "DotPress" (204 : Nat) ({ cls := "java/util/ArrayList", name := "get", desc := "(I)Ljava/lang/Object;" } : Jvm.MethodName)) ∈ lw_tbl := mT3 (List.mem_of_getElem? (i := 174) rfl)
theorem w3_174 : (Jvm.Cond.methodLink "DotPress" (204 : Nat) ({ cls := "java/util/ArrayList", name := "get", desc := "(I)Ljava/lang/Object;" } : Jvm.MethodName)) ∈ lw_g := lw_in w3_174t rfl
theorem w3_215t : (Jvm.Cond.methodLink "DotPress" (224 : Nat) ({ cls := "DotPress$Ints", name := "at", desc := "(I)I" } : Jvm.MethodName)) ∈ lw_tbl := mT3 (List.mem_of_getElem? (i := 215) rfl)
theorem w3_215 : (Jvm.Cond.methodLink "DotPress" (224 : Nat) ({ cls := "DotPress$Ints", name := "at", desc := "(I)I" } : Jvm.MethodName)) ∈ lw_g := lw_in w3_215t rfl
theorem w3_229t : (Jvm.Cond.methodLink "DotPress" (231 : Nat) ({ cls := "DotPress$Tables", name := "whole", desc := "(I)LDotPress$Table;" } : Jvm.MethodName)) ∈ lw_tbl := mT3 (List.mem_of_getElem? (i := 229) rfl)
theorem w3_229 : (Jvm.Cond.methodLink "DotPress" (231 : Nat) ({ cls := "DotPress$Tables", name := "whole", desc := "(I)LDotPress$Table;" } : Jvm.MethodName)) ∈ lw_g := lw_in w3_229t rfl
theorem w3_230t : (Jvm.Cond.instanceMethod ({ cls := "DotPress$Tables", name := "whole", desc := "(I)LDotPress$Table;" } : Jvm.MethodName)) ∈ lw_tbl := mT3 (List.mem_of_getElem? (i := 230) rfl)
theorem w3_230 : (Jvm.Cond.instanceMethod ({ cls := "DotPress$Tables", name := "whole", desc := "(I)LDotPress$Table;" } : Jvm.MethodName)) ∈ lw_g := lw_in w3_230t rfl
theorem w3_231t : (Jvm.Cond.selects "DotPress$Tables" ({ cls := "DotPress$Tables", name := "whole", desc := "(I)LDotPress$Table;" } : Jvm.MethodName) ({ cls := "DotPress$Tables", name := "whole", desc := "(I)LDotPress$Table;" } : Jvm.MethodName)) ∈ lw_tbl := mT3 (List.mem_of_getElem? (i := 231) rfl)
theorem w3_231 : (Jvm.Cond.selects "DotPress$Tables" ({ cls := "DotPress$Tables", name := "whole", desc := "(I)LDotPress$Table;" } : Jvm.MethodName) ({ cls := "DotPress$Tables", name := "whole", desc := "(I)LDotPress$Table;" } : Jvm.MethodName)) ∈ lw_g := lw_in w3_231t rfl
theorem w3_232t : (Jvm.Cond.code ({ cls := "DotPress$Tables", name := "whole", desc := "(I)LDotPress$Table;" } : Jvm.MethodName) prog_12_method_4_code (3 : Nat) (Option.some (Jvm.ClassFile.FieldType.object "DotPress$Table"))) ∈ lw_tbl := mT3 (List.mem_of_getElem? (i := 232) rfl)
theorem w3_232 : (Jvm.Cond.code ({ cls := "DotPress$Tables", name := "whole", desc := "(I)LDotPress$Table;" } : Jvm.MethodName) prog_12_method_4_code (3 : Nat) (Option.some (Jvm.ClassFile.FieldType.object "DotPress$Table"))) ∈ lw_g := lw_in w3_232t rfl
theorem w3_233t : (Jvm.Cond.methodLink "DotPress$Tables" (35 : Nat) ({ cls := "DotPress$Tables", name := "alive", desc := "(I)LDotPress$Table;" } : Jvm.MethodName)) ∈ lw_tbl := mT3 (List.mem_of_getElem? (i := 233) rfl)
theorem w3_233 : (Jvm.Cond.methodLink "DotPress$Tables" (35 : Nat) ({ cls := "DotPress$Tables", name := "alive", desc := "(I)LDotPress$Table;" } : Jvm.MethodName)) ∈ lw_g := lw_in w3_233t rfl
theorem w3_234t : (Jvm.Cond.methodLink "DotPress$Tables" (39 : Nat) ({ cls := "DotPress$Table", name := "isWhole", desc := "()Z" } : Jvm.MethodName)) ∈ lw_tbl := mT3 (List.mem_of_getElem? (i := 234) rfl)
theorem w3_234 : (Jvm.Cond.methodLink "DotPress$Tables" (39 : Nat) ({ cls := "DotPress$Table", name := "isWhole", desc := "()Z" } : Jvm.MethodName)) ∈ lw_g := lw_in w3_234t rfl
theorem w3_235t : (Jvm.Cond.instanceMethod ({ cls := "DotPress$Table", name := "isWhole", desc := "()Z" } : Jvm.MethodName)) ∈ lw_tbl := mT3 (List.mem_of_getElem? (i := 235) rfl)
theorem w3_235 : (Jvm.Cond.instanceMethod ({ cls := "DotPress$Table", name := "isWhole", desc := "()Z" } : Jvm.MethodName)) ∈ lw_g := lw_in w3_235t rfl
theorem w3_236t : (Jvm.Cond.selects "DotPress$Table" ({ cls := "DotPress$Table", name := "isWhole", desc := "()Z" } : Jvm.MethodName) ({ cls := "DotPress$Table", name := "isWhole", desc := "()Z" } : Jvm.MethodName)) ∈ lw_tbl := mT3 (List.mem_of_getElem? (i := 236) rfl)
theorem w3_236 : (Jvm.Cond.selects "DotPress$Table" ({ cls := "DotPress$Table", name := "isWhole", desc := "()Z" } : Jvm.MethodName) ({ cls := "DotPress$Table", name := "isWhole", desc := "()Z" } : Jvm.MethodName)) ∈ lw_g := lw_in w3_236t rfl
theorem w3_237t : (Jvm.Cond.code ({ cls := "DotPress$Table", name := "isWhole", desc := "()Z" } : Jvm.MethodName) prog_11_method_5_code (1 : Nat) (Option.some Jvm.ClassFile.FieldType.boolean)) ∈ lw_tbl := mT3 (List.mem_of_getElem? (i := 237) rfl)
theorem w3_237 : (Jvm.Cond.code ({ cls := "DotPress$Table", name := "isWhole", desc := "()Z" } : Jvm.MethodName) prog_11_method_5_code (1 : Nat) (Option.some Jvm.ClassFile.FieldType.boolean)) ∈ lw_g := lw_in w3_237t rfl
theorem w3_238t : (Jvm.Cond.methodLink "DotPress$Table" (76 : Nat) ({ cls := "DotPress$Table", name := "isUpright", desc := "(LDotPress$Table;)Z" } : Jvm.MethodName)) ∈ lw_tbl := mT3 (List.mem_of_getElem? (i := 238) rfl)
theorem w3_238 : (Jvm.Cond.methodLink "DotPress$Table" (76 : Nat) ({ cls := "DotPress$Table", name := "isUpright", desc := "(LDotPress$Table;)Z" } : Jvm.MethodName)) ∈ lw_g := lw_in w3_238t rfl
theorem w3_239t : (Jvm.Cond.static ({ cls := "DotPress$Table", name := "isUpright", desc := "(LDotPress$Table;)Z" } : Jvm.MethodName)) ∈ lw_tbl := mT3 (List.mem_of_getElem? (i := 239) rfl)
theorem w3_239 : (Jvm.Cond.static ({ cls := "DotPress$Table", name := "isUpright", desc := "(LDotPress$Table;)Z" } : Jvm.MethodName)) ∈ lw_g := lw_in w3_239t rfl
theorem w3_25t : (Jvm.Cond.native ({ cls := "java/lang/Object", name := "getClass", desc := "()Ljava/lang/Class;" } : Jvm.MethodName)) ∈ lw_tbl := mT3 (List.mem_of_getElem? (i := 25) rfl)
theorem w3_25 : (Jvm.Cond.native ({ cls := "java/lang/Object", name := "getClass", desc := "()Ljava/lang/Class;" } : Jvm.MethodName)) ∈ lw_g := lw_in w3_25t rfl
theorem w3_26t : (Jvm.Cond.methodLink "java/util/Arrays" (300 : Nat) ({ cls := "java/util/Arrays", name := "copyOf", desc := "([Ljava/lang/Object;ILjava/lang/Class;)[Ljava/lang/Object;" } : Jvm.MethodName)) ∈ lw_tbl := mT3 (List.mem_of_getElem? (i := 26) rfl)
theorem w3_26 : (Jvm.Cond.methodLink "java/util/Arrays" (300 : Nat) ({ cls := "java/util/Arrays", name := "copyOf", desc := "([Ljava/lang/Object;ILjava/lang/Class;)[Ljava/lang/Object;" } : Jvm.MethodName)) ∈ lw_g := lw_in w3_26t rfl
theorem w3_27t : (Jvm.Cond.static ({ cls := "java/util/Arrays", name := "copyOf", desc := "([Ljava/lang/Object;ILjava/lang/Class;)[Ljava/lang/Object;" } : Jvm.MethodName)) ∈ lw_tbl := mT3 (List.mem_of_getElem? (i := 27) rfl)
theorem w3_27 : (Jvm.Cond.static ({ cls := "java/util/Arrays", name := "copyOf", desc := "([Ljava/lang/Object;ILjava/lang/Class;)[Ljava/lang/Object;" } : Jvm.MethodName)) ∈ lw_g := lw_in w3_27t rfl
theorem w3_28t : (Jvm.Cond.code ({ cls := "java/util/Arrays", name := "copyOf", desc := "([Ljava/lang/Object;ILjava/lang/Class;)[Ljava/lang/Object;" } : Jvm.MethodName) prog_24_method_120_code (4 : Nat) (Option.some (Jvm.ClassFile.FieldType.array (Jvm.ClassFile.FieldType.object "java/lang/Object")))) ∈ lw_tbl := mT3 (List.mem_of_getElem? (i := 28) rfl)
theorem w3_28 : (Jvm.Cond.code ({ cls := "java/util/Arrays", name := "copyOf", desc := "([Ljava/lang/Object;ILjava/lang/Class;)[Ljava/lang/Object;" } : Jvm.MethodName) prog_24_method_120_code (4 : Nat) (Option.some (Jvm.ClassFile.FieldType.array (Jvm.ClassFile.FieldType.object "java/lang/Object")))) ∈ lw_g := lw_in w3_28t rfl
theorem w3_29t : (Jvm.Cond.classLink "java/util/Arrays" (110 : Nat) "[Ljava/lang/Object;") ∈ lw_tbl := mT3 (List.mem_of_getElem? (i := 29) rfl)
theorem w3_29 : (Jvm.Cond.classLink "java/util/Arrays" (110 : Nat) "[Ljava/lang/Object;") ∈ lw_g := lw_in w3_29t rfl
theorem w3_30t : (Jvm.Cond.arrayOver (Jvm.ClassFile.FieldType.object "java/lang/Object")) ∈ lw_tbl := mT3 (List.mem_of_getElem? (i := 30) rfl)
theorem w3_31t : (Jvm.Cond.classLink "java/util/Arrays" (2 : Nat) "java/lang/Object") ∈ lw_tbl := mT3 (List.mem_of_getElem? (i := 31) rfl)
theorem w3_31 : (Jvm.Cond.classLink "java/util/Arrays" (2 : Nat) "java/lang/Object") ∈ lw_g := lw_in w3_31t rfl
theorem w3_32t : (Jvm.Cond.methodLink "java/util/ArrayList" (79 : Nat) ({ cls := "java/lang/Math", name := "max", desc := "(II)I" } : Jvm.MethodName)) ∈ lw_tbl := mT3 (List.mem_of_getElem? (i := 32) rfl)
theorem w3_32 : (Jvm.Cond.methodLink "java/util/ArrayList" (79 : Nat) ({ cls := "java/lang/Math", name := "max", desc := "(II)I" } : Jvm.MethodName)) ∈ lw_g := lw_in w3_32t rfl
theorem w3_33t : (Jvm.Cond.classLink "java/util/ArrayList" (7 : Nat) "java/lang/Object") ∈ lw_tbl := mT3 (List.mem_of_getElem? (i := 33) rfl)
theorem w3_33 : (Jvm.Cond.classLink "java/util/ArrayList" (7 : Nat) "java/lang/Object") ∈ lw_g := lw_in w3_33t rfl
theorem w3_5t : (Jvm.Cond.methodLink "java/util/ArrayList" (66 : Nat) ({ cls := "java/util/Arrays", name := "copyOf", desc := "([Ljava/lang/Object;I)[Ljava/lang/Object;" } : Jvm.MethodName)) ∈ lw_tbl := mT3 (List.mem_of_getElem? (i := 5) rfl)
theorem w3_5 : (Jvm.Cond.methodLink "java/util/ArrayList" (66 : Nat) ({ cls := "java/util/Arrays", name := "copyOf", desc := "([Ljava/lang/Object;I)[Ljava/lang/Object;" } : Jvm.MethodName)) ∈ lw_g := lw_in w3_5t rfl
theorem w3_6t : (Jvm.Cond.static ({ cls := "java/util/Arrays", name := "copyOf", desc := "([Ljava/lang/Object;I)[Ljava/lang/Object;" } : Jvm.MethodName)) ∈ lw_tbl := mT3 (List.mem_of_getElem? (i := 6) rfl)
theorem w3_6 : (Jvm.Cond.static ({ cls := "java/util/Arrays", name := "copyOf", desc := "([Ljava/lang/Object;I)[Ljava/lang/Object;" } : Jvm.MethodName)) ∈ lw_g := lw_in w3_6t rfl
theorem w3_65t : (Jvm.Cond.methodLink "java/util/ArrayList" (118 : Nat) ({ cls := "java/util/Objects", name := "checkIndex", desc := "(II)I" } : Jvm.MethodName)) ∈ lw_tbl := mT3 (List.mem_of_getElem? (i := 65) rfl)
theorem w3_65 : (Jvm.Cond.methodLink "java/util/ArrayList" (118 : Nat) ({ cls := "java/util/Objects", name := "checkIndex", desc := "(II)I" } : Jvm.MethodName)) ∈ lw_g := lw_in w3_65t rfl
theorem w3_66t : (Jvm.Cond.static ({ cls := "java/util/Objects", name := "checkIndex", desc := "(II)I" } : Jvm.MethodName)) ∈ lw_tbl := mT3 (List.mem_of_getElem? (i := 66) rfl)
theorem w3_66 : (Jvm.Cond.static ({ cls := "java/util/Objects", name := "checkIndex", desc := "(II)I" } : Jvm.MethodName)) ∈ lw_g := lw_in w3_66t rfl
theorem w3_67t : (Jvm.Cond.code ({ cls := "java/util/Objects", name := "checkIndex", desc := "(II)I" } : Jvm.MethodName) prog_27_method_17_code (2 : Nat) (Option.some Jvm.ClassFile.FieldType.int)) ∈ lw_tbl := mT3 (List.mem_of_getElem? (i := 67) rfl)
theorem w3_67 : (Jvm.Cond.code ({ cls := "java/util/Objects", name := "checkIndex", desc := "(II)I" } : Jvm.MethodName) prog_27_method_17_code (2 : Nat) (Option.some Jvm.ClassFile.FieldType.int)) ∈ lw_g := lw_in w3_67t rfl
theorem w3_68t : (Jvm.Cond.methodLink "java/util/Objects" (105 : Nat) ({ cls := "jdk/internal/util/Preconditions", name := "checkIndex", desc := "(IILjava/util/function/BiFunction;)I" } : Jvm.MethodName)) ∈ lw_tbl := mT3 (List.mem_of_getElem? (i := 68) rfl)
theorem w3_68 : (Jvm.Cond.methodLink "java/util/Objects" (105 : Nat) ({ cls := "jdk/internal/util/Preconditions", name := "checkIndex", desc := "(IILjava/util/function/BiFunction;)I" } : Jvm.MethodName)) ∈ lw_g := lw_in w3_68t rfl
theorem w3_69t : (Jvm.Cond.static ({ cls := "jdk/internal/util/Preconditions", name := "checkIndex", desc := "(IILjava/util/function/BiFunction;)I" } : Jvm.MethodName)) ∈ lw_tbl := mT3 (List.mem_of_getElem? (i := 69) rfl)
theorem w3_69 : (Jvm.Cond.static ({ cls := "jdk/internal/util/Preconditions", name := "checkIndex", desc := "(IILjava/util/function/BiFunction;)I" } : Jvm.MethodName)) ∈ lw_g := lw_in w3_69t rfl
theorem w3_7t : (Jvm.Cond.code ({ cls := "java/util/Arrays", name := "copyOf", desc := "([Ljava/lang/Object;I)[Ljava/lang/Object;" } : Jvm.MethodName) prog_24_method_119_code (2 : Nat) (Option.some (Jvm.ClassFile.FieldType.array (Jvm.ClassFile.FieldType.object "java/lang/Object")))) ∈ lw_tbl := mT3 (List.mem_of_getElem? (i := 7) rfl)
theorem w3_7 : (Jvm.Cond.code ({ cls := "java/util/Arrays", name := "copyOf", desc := "([Ljava/lang/Object;I)[Ljava/lang/Object;" } : Jvm.MethodName) prog_24_method_119_code (2 : Nat) (Option.some (Jvm.ClassFile.FieldType.array (Jvm.ClassFile.FieldType.object "java/lang/Object")))) ∈ lw_g := lw_in w3_7t rfl
theorem w3_70t : (Jvm.Cond.code ({ cls := "jdk/internal/util/Preconditions", name := "checkIndex", desc := "(IILjava/util/function/BiFunction;)I" } : Jvm.MethodName) prog_31_method_11_code (3 : Nat) (Option.some Jvm.ClassFile.FieldType.int)) ∈ lw_tbl := mT3 (List.mem_of_getElem? (i := 70) rfl)
theorem w3_70 : (Jvm.Cond.code ({ cls := "jdk/internal/util/Preconditions", name := "checkIndex", desc := "(IILjava/util/function/BiFunction;)I" } : Jvm.MethodName) prog_31_method_11_code (3 : Nat) (Option.some Jvm.ClassFile.FieldType.int)) ∈ lw_g := lw_in w3_70t rfl
theorem w3_76t : (Jvm.Cond.methodLink "DotPress" (131 : Nat) ({ cls := "DotPress$Tables", name := "alive", desc := "(I)LDotPress$Table;" } : Jvm.MethodName)) ∈ lw_tbl := mT3 (List.mem_of_getElem? (i := 76) rfl)
theorem w3_76 : (Jvm.Cond.methodLink "DotPress" (131 : Nat) ({ cls := "DotPress$Tables", name := "alive", desc := "(I)LDotPress$Table;" } : Jvm.MethodName)) ∈ lw_g := lw_in w3_76t rfl
theorem w3_77t : (Jvm.Cond.instanceMethod ({ cls := "DotPress$Tables", name := "alive", desc := "(I)LDotPress$Table;" } : Jvm.MethodName)) ∈ lw_tbl := mT3 (List.mem_of_getElem? (i := 77) rfl)
theorem w3_77 : (Jvm.Cond.instanceMethod ({ cls := "DotPress$Tables", name := "alive", desc := "(I)LDotPress$Table;" } : Jvm.MethodName)) ∈ lw_g := lw_in w3_77t rfl
theorem w3_78t : (Jvm.Cond.selects "DotPress$Tables" ({ cls := "DotPress$Tables", name := "alive", desc := "(I)LDotPress$Table;" } : Jvm.MethodName) ({ cls := "DotPress$Tables", name := "alive", desc := "(I)LDotPress$Table;" } : Jvm.MethodName)) ∈ lw_tbl := mT3 (List.mem_of_getElem? (i := 78) rfl)
theorem w3_78 : (Jvm.Cond.selects "DotPress$Tables" ({ cls := "DotPress$Tables", name := "alive", desc := "(I)LDotPress$Table;" } : Jvm.MethodName) ({ cls := "DotPress$Tables", name := "alive", desc := "(I)LDotPress$Table;" } : Jvm.MethodName)) ∈ lw_g := lw_in w3_78t rfl
theorem w3_79t : (Jvm.Cond.code ({ cls := "DotPress$Tables", name := "alive", desc := "(I)LDotPress$Table;" } : Jvm.MethodName) prog_12_method_3_code (3 : Nat) (Option.some (Jvm.ClassFile.FieldType.object "DotPress$Table"))) ∈ lw_tbl := mT3 (List.mem_of_getElem? (i := 79) rfl)
theorem w3_79 : (Jvm.Cond.code ({ cls := "DotPress$Tables", name := "alive", desc := "(I)LDotPress$Table;" } : Jvm.MethodName) prog_12_method_3_code (3 : Nat) (Option.some (Jvm.ClassFile.FieldType.object "DotPress$Table"))) ∈ lw_g := lw_in w3_79t rfl
theorem w3_8t : (Jvm.Cond.methodLink "java/util/Arrays" (86 : Nat) ({ cls := "java/lang/Object", name := "getClass", desc := "()Ljava/lang/Class;" } : Jvm.MethodName)) ∈ lw_tbl := mT3 (List.mem_of_getElem? (i := 8) rfl)
theorem w3_8 : (Jvm.Cond.methodLink "java/util/Arrays" (86 : Nat) ({ cls := "java/lang/Object", name := "getClass", desc := "()Ljava/lang/Class;" } : Jvm.MethodName)) ∈ lw_g := lw_in w3_8t rfl
theorem w3_80t : (Jvm.Cond.methodLink "DotPress$Tables" (25 : Nat) ({ cls := "java/util/ArrayList", name := "get", desc := "(I)Ljava/lang/Object;" } : Jvm.MethodName)) ∈ lw_tbl := mT3 (List.mem_of_getElem? (i := 80) rfl)
theorem w3_80 : (Jvm.Cond.methodLink "DotPress$Tables" (25 : Nat) ({ cls := "java/util/ArrayList", name := "get", desc := "(I)Ljava/lang/Object;" } : Jvm.MethodName)) ∈ lw_g := lw_in w3_80t rfl
theorem w3_81t : (Jvm.Cond.instanceMethod ({ cls := "java/util/ArrayList", name := "get", desc := "(I)Ljava/lang/Object;" } : Jvm.MethodName)) ∈ lw_tbl := mT3 (List.mem_of_getElem? (i := 81) rfl)
theorem w3_81 : (Jvm.Cond.instanceMethod ({ cls := "java/util/ArrayList", name := "get", desc := "(I)Ljava/lang/Object;" } : Jvm.MethodName)) ∈ lw_g := lw_in w3_81t rfl
theorem w3_82t : (Jvm.Cond.selects "java/util/ArrayList" ({ cls := "java/util/ArrayList", name := "get", desc := "(I)Ljava/lang/Object;" } : Jvm.MethodName) ({ cls := "java/util/ArrayList", name := "get", desc := "(I)Ljava/lang/Object;" } : Jvm.MethodName)) ∈ lw_tbl := mT3 (List.mem_of_getElem? (i := 82) rfl)
theorem w3_82 : (Jvm.Cond.selects "java/util/ArrayList" ({ cls := "java/util/ArrayList", name := "get", desc := "(I)Ljava/lang/Object;" } : Jvm.MethodName) ({ cls := "java/util/ArrayList", name := "get", desc := "(I)Ljava/lang/Object;" } : Jvm.MethodName)) ∈ lw_g := lw_in w3_82t rfl
theorem w3_83t : (Jvm.Cond.code ({ cls := "java/util/ArrayList", name := "get", desc := "(I)Ljava/lang/Object;" } : Jvm.MethodName) prog_23_method_20_code (2 : Nat) (Option.some (Jvm.ClassFile.FieldType.object "java/lang/Object"))) ∈ lw_tbl := mT3 (List.mem_of_getElem? (i := 83) rfl)
theorem w3_83 : (Jvm.Cond.code ({ cls := "java/util/ArrayList", name := "get", desc := "(I)Ljava/lang/Object;" } : Jvm.MethodName) prog_23_method_20_code (2 : Nat) (Option.some (Jvm.ClassFile.FieldType.object "java/lang/Object"))) ∈ lw_g := lw_in w3_83t rfl
theorem w3_84t : (Jvm.Cond.methodLink "java/util/ArrayList" (123 : Nat) ({ cls := "java/util/ArrayList", name := "elementData", desc := "(I)Ljava/lang/Object;" } : Jvm.MethodName)) ∈ lw_tbl := mT3 (List.mem_of_getElem? (i := 84) rfl)
theorem w3_84 : (Jvm.Cond.methodLink "java/util/ArrayList" (123 : Nat) ({ cls := "java/util/ArrayList", name := "elementData", desc := "(I)Ljava/lang/Object;" } : Jvm.MethodName)) ∈ lw_g := lw_in w3_84t rfl
theorem w3_85t : (Jvm.Cond.instanceMethod ({ cls := "java/util/ArrayList", name := "elementData", desc := "(I)Ljava/lang/Object;" } : Jvm.MethodName)) ∈ lw_tbl := mT3 (List.mem_of_getElem? (i := 85) rfl)
theorem w3_85 : (Jvm.Cond.instanceMethod ({ cls := "java/util/ArrayList", name := "elementData", desc := "(I)Ljava/lang/Object;" } : Jvm.MethodName)) ∈ lw_g := lw_in w3_85t rfl
theorem w3_86t : (Jvm.Cond.selects "java/util/ArrayList" ({ cls := "java/util/ArrayList", name := "elementData", desc := "(I)Ljava/lang/Object;" } : Jvm.MethodName) ({ cls := "java/util/ArrayList", name := "elementData", desc := "(I)Ljava/lang/Object;" } : Jvm.MethodName)) ∈ lw_tbl := mT3 (List.mem_of_getElem? (i := 86) rfl)
theorem w3_86 : (Jvm.Cond.selects "java/util/ArrayList" ({ cls := "java/util/ArrayList", name := "elementData", desc := "(I)Ljava/lang/Object;" } : Jvm.MethodName) ({ cls := "java/util/ArrayList", name := "elementData", desc := "(I)Ljava/lang/Object;" } : Jvm.MethodName)) ∈ lw_g := lw_in w3_86t rfl
theorem w3_87t : (Jvm.Cond.code ({ cls := "java/util/ArrayList", name := "elementData", desc := "(I)Ljava/lang/Object;" } : Jvm.MethodName) prog_23_method_18_code (2 : Nat) (Option.some (Jvm.ClassFile.FieldType.object "java/lang/Object"))) ∈ lw_tbl := mT3 (List.mem_of_getElem? (i := 87) rfl)
theorem w3_87 : (Jvm.Cond.code ({ cls := "java/util/ArrayList", name := "elementData", desc := "(I)Ljava/lang/Object;" } : Jvm.MethodName) prog_23_method_18_code (2 : Nat) (Option.some (Jvm.ClassFile.FieldType.object "java/lang/Object"))) ∈ lw_g := lw_in w3_87t rfl
theorem w3_88t : (Jvm.Cond.classLink "DotPress$Tables" (29 : Nat) "DotPress$Table") ∈ lw_tbl := mT3 (List.mem_of_getElem? (i := 88) rfl)
theorem w3_88 : (Jvm.Cond.classLink "DotPress$Tables" (29 : Nat) "DotPress$Table") ∈ lw_g := lw_in w3_88t rfl
theorem w3_9t : (Jvm.Cond.instanceMethod ({ cls := "java/lang/Object", name := "getClass", desc := "()Ljava/lang/Class;" } : Jvm.MethodName)) ∈ lw_tbl := mT3 (List.mem_of_getElem? (i := 9) rfl)
theorem w3_9 : (Jvm.Cond.instanceMethod ({ cls := "java/lang/Object", name := "getClass", desc := "()Ljava/lang/Class;" } : Jvm.MethodName)) ∈ lw_g := lw_in w3_9t rfl
theorem w4_0t : (Jvm.Cond.code ({ cls := "DotPress$Table", name := "isUpright", desc := "(LDotPress$Table;)Z" } : Jvm.MethodName) prog_11_method_6_code (2 : Nat) (Option.some Jvm.ClassFile.FieldType.boolean)) ∈ lw_tbl := mT4 (List.mem_of_getElem? (i := 0) rfl)
theorem w4_0 : (Jvm.Cond.code ({ cls := "DotPress$Table", name := "isUpright", desc := "(LDotPress$Table;)Z" } : Jvm.MethodName) prog_11_method_6_code (2 : Nat) (Option.some Jvm.ClassFile.FieldType.boolean)) ∈ lw_g := lw_in w4_0t rfl
theorem w4_10t : (Jvm.Cond.instanceMethod ({ cls := "DotPress$Source", name := "step", desc := "(LDotPress$Ints;LDotPress$Setting;)I" } : Jvm.MethodName)) ∈ lw_tbl := mT4 (List.mem_of_getElem? (i := 10) rfl)
theorem w4_10 : (Jvm.Cond.instanceMethod ({ cls := "DotPress$Source", name := "step", desc := "(LDotPress$Ints;LDotPress$Setting;)I" } : Jvm.MethodName)) ∈ lw_g := lw_in w4_10t rfl
theorem w4_100t : (Jvm.Cond.methodLink "DotPress$Setting" (119 : Nat) ({ cls := "DotPress$Setting", name := "countFind", desc := "(I)V" } : Jvm.MethodName)) ∈ lw_tbl := mT4 (List.mem_of_getElem? (i := 100) rfl)
theorem w4_100 : (Jvm.Cond.methodLink "DotPress$Setting" (119 : Nat) ({ cls := "DotPress$Setting", name := "countFind", desc := "(I)V" } : Jvm.MethodName)) ∈ lw_g := lw_in w4_100t rfl
theorem w4_102t : (Jvm.Cond.instanceMethod ({ cls := "DotPress$Setting", name := "countFind", desc := "(I)V" } : Jvm.MethodName)) ∈ lw_tbl := mT4 (List.mem_of_getElem? (i := 102) rfl)
theorem w4_102 : (Jvm.Cond.instanceMethod ({ cls := "DotPress$Setting", name := "countFind", desc := "(I)V" } : Jvm.MethodName)) ∈ lw_g := lw_in w4_102t rfl
theorem w4_103t : (Jvm.Cond.code ({ cls := "DotPress$Setting", name := "countFind", desc := "(I)V" } : Jvm.MethodName) prog_8_method_16_code (2 : Nat) (Option.none : Option Jvm.ClassFile.FieldType)) ∈ lw_tbl := mT4 (List.mem_of_getElem? (i := 103) rfl)
theorem w4_103 : (Jvm.Cond.code ({ cls := "DotPress$Setting", name := "countFind", desc := "(I)V" } : Jvm.MethodName) prog_8_method_16_code (2 : Nat) (Option.none : Option Jvm.ClassFile.FieldType)) ∈ lw_g := lw_in w4_103t rfl
theorem w4_104t : (Jvm.Cond.methodLink "DotPress$Setting" (122 : Nat) ({ cls := "DotPress$Setting", name := "findOwn", desc := "(LDotPress$Table;IILDotPress$Row;)LDotPress$Row;" } : Jvm.MethodName)) ∈ lw_tbl := mT4 (List.mem_of_getElem? (i := 104) rfl)
theorem w4_104 : (Jvm.Cond.methodLink "DotPress$Setting" (122 : Nat) ({ cls := "DotPress$Setting", name := "findOwn", desc := "(LDotPress$Table;IILDotPress$Row;)LDotPress$Row;" } : Jvm.MethodName)) ∈ lw_g := lw_in w4_104t rfl
theorem w4_106t : (Jvm.Cond.instanceMethod ({ cls := "DotPress$Setting", name := "findOwn", desc := "(LDotPress$Table;IILDotPress$Row;)LDotPress$Row;" } : Jvm.MethodName)) ∈ lw_tbl := mT4 (List.mem_of_getElem? (i := 106) rfl)
theorem w4_106 : (Jvm.Cond.instanceMethod ({ cls := "DotPress$Setting", name := "findOwn", desc := "(LDotPress$Table;IILDotPress$Row;)LDotPress$Row;" } : Jvm.MethodName)) ∈ lw_g := lw_in w4_106t rfl
theorem w4_107t : (Jvm.Cond.code ({ cls := "DotPress$Setting", name := "findOwn", desc := "(LDotPress$Table;IILDotPress$Row;)LDotPress$Row;" } : Jvm.MethodName) prog_8_method_17_code (11 : Nat) (Option.some (Jvm.ClassFile.FieldType.object "DotPress$Row"))) ∈ lw_tbl := mT4 (List.mem_of_getElem? (i := 107) rfl)
theorem w4_107 : (Jvm.Cond.code ({ cls := "DotPress$Setting", name := "findOwn", desc := "(LDotPress$Table;IILDotPress$Row;)LDotPress$Row;" } : Jvm.MethodName) prog_8_method_17_code (11 : Nat) (Option.some (Jvm.ClassFile.FieldType.object "DotPress$Row"))) ∈ lw_g := lw_in w4_107t rfl
theorem w4_108t : (Jvm.Cond.methodLink "DotPress$Setting" (134 : Nat) ({ cls := "java/util/ArrayList", name := "size", desc := "()I" } : Jvm.MethodName)) ∈ lw_tbl := mT4 (List.mem_of_getElem? (i := 108) rfl)
theorem w4_108 : (Jvm.Cond.methodLink "DotPress$Setting" (134 : Nat) ({ cls := "java/util/ArrayList", name := "size", desc := "()I" } : Jvm.MethodName)) ∈ lw_g := lw_in w4_108t rfl
theorem w4_109t : (Jvm.Cond.methodLink "DotPress$Setting" (139 : Nat) ({ cls := "java/lang/Math", name := "min", desc := "(II)I" } : Jvm.MethodName)) ∈ lw_tbl := mT4 (List.mem_of_getElem? (i := 109) rfl)
theorem w4_109 : (Jvm.Cond.methodLink "DotPress$Setting" (139 : Nat) ({ cls := "java/lang/Math", name := "min", desc := "(II)I" } : Jvm.MethodName)) ∈ lw_g := lw_in w4_109t rfl
theorem w4_11t : (Jvm.Cond.selects "DotPress$Source" ({ cls := "DotPress$Source", name := "step", desc := "(LDotPress$Ints;LDotPress$Setting;)I" } : Jvm.MethodName) ({ cls := "DotPress$Source", name := "step", desc := "(LDotPress$Ints;LDotPress$Setting;)I" } : Jvm.MethodName)) ∈ lw_tbl := mT4 (List.mem_of_getElem? (i := 11) rfl)
theorem w4_11 : (Jvm.Cond.selects "DotPress$Source" ({ cls := "DotPress$Source", name := "step", desc := "(LDotPress$Ints;LDotPress$Setting;)I" } : Jvm.MethodName) ({ cls := "DotPress$Source", name := "step", desc := "(LDotPress$Ints;LDotPress$Setting;)I" } : Jvm.MethodName)) ∈ lw_g := lw_in w4_11t rfl
theorem w4_110t : (Jvm.Cond.methodLink "DotPress$Setting" (145 : Nat) ({ cls := "java/util/ArrayList", name := "get", desc := "(I)Ljava/lang/Object;" } : Jvm.MethodName)) ∈ lw_tbl := mT4 (List.mem_of_getElem? (i := 110) rfl)
theorem w4_110 : (Jvm.Cond.methodLink "DotPress$Setting" (145 : Nat) ({ cls := "java/util/ArrayList", name := "get", desc := "(I)Ljava/lang/Object;" } : Jvm.MethodName)) ∈ lw_g := lw_in w4_110t rfl
theorem w4_111t : (Jvm.Cond.classLink "DotPress$Setting" (103 : Nat) "DotPress$Row") ∈ lw_tbl := mT4 (List.mem_of_getElem? (i := 111) rfl)
theorem w4_111 : (Jvm.Cond.classLink "DotPress$Setting" (103 : Nat) "DotPress$Row") ∈ lw_g := lw_in w4_111t rfl
theorem w4_112t : (Jvm.Cond.methodLink "DotPress$Setting" (149 : Nat) ({ cls := "DotPress$Setting", name := "fits", desc := "(LDotPress$Row;I)Z" } : Jvm.MethodName)) ∈ lw_tbl := mT4 (List.mem_of_getElem? (i := 112) rfl)
theorem w4_112 : (Jvm.Cond.methodLink "DotPress$Setting" (149 : Nat) ({ cls := "DotPress$Setting", name := "fits", desc := "(LDotPress$Row;I)Z" } : Jvm.MethodName)) ∈ lw_g := lw_in w4_112t rfl
theorem w4_114t : (Jvm.Cond.instanceMethod ({ cls := "DotPress$Setting", name := "fits", desc := "(LDotPress$Row;I)Z" } : Jvm.MethodName)) ∈ lw_tbl := mT4 (List.mem_of_getElem? (i := 114) rfl)
theorem w4_114 : (Jvm.Cond.instanceMethod ({ cls := "DotPress$Setting", name := "fits", desc := "(LDotPress$Row;I)Z" } : Jvm.MethodName)) ∈ lw_g := lw_in w4_114t rfl
theorem w4_115t : (Jvm.Cond.code ({ cls := "DotPress$Setting", name := "fits", desc := "(LDotPress$Row;I)Z" } : Jvm.MethodName) prog_8_method_18_code (6 : Nat) (Option.some Jvm.ClassFile.FieldType.boolean)) ∈ lw_tbl := mT4 (List.mem_of_getElem? (i := 115) rfl)
theorem w4_115 : (Jvm.Cond.code ({ cls := "DotPress$Setting", name := "fits", desc := "(LDotPress$Row;I)Z" } : Jvm.MethodName) prog_8_method_18_code (6 : Nat) (Option.some Jvm.ClassFile.FieldType.boolean)) ∈ lw_g := lw_in w4_115t rfl
theorem w4_116t : (Jvm.Cond.methodLink "DotPress$Setting" (156 : Nat) ({ cls := "DotPress$Setting", name := "isSign", desc := "(I)Z" } : Jvm.MethodName)) ∈ lw_tbl := mT4 (List.mem_of_getElem? (i := 116) rfl)
theorem w4_116 : (Jvm.Cond.methodLink "DotPress$Setting" (156 : Nat) ({ cls := "DotPress$Setting", name := "isSign", desc := "(I)Z" } : Jvm.MethodName)) ∈ lw_g := lw_in w4_116t rfl
theorem w4_117t : (Jvm.Cond.static ({ cls := "DotPress$Setting", name := "isSign", desc := "(I)Z" } : Jvm.MethodName)) ∈ lw_tbl := mT4 (List.mem_of_getElem? (i := 117) rfl)
theorem w4_117 : (Jvm.Cond.static ({ cls := "DotPress$Setting", name := "isSign", desc := "(I)Z" } : Jvm.MethodName)) ∈ lw_g := lw_in w4_117t rfl
theorem w4_118t : (Jvm.Cond.code ({ cls := "DotPress$Setting", name := "isSign", desc := "(I)Z" } : Jvm.MethodName) prog_8_method_19_code (1 : Nat) (Option.some Jvm.ClassFile.FieldType.boolean)) ∈ lw_tbl := mT4 (List.mem_of_getElem? (i := 118) rfl)
theorem w4_118 : (Jvm.Cond.code ({ cls := "DotPress$Setting", name := "isSign", desc := "(I)Z" } : Jvm.MethodName) prog_8_method_19_code (1 : Nat) (Option.some Jvm.ClassFile.FieldType.boolean)) ∈ lw_g := lw_in w4_118t rfl
theorem w4_119t : (Jvm.Cond.methodLinkNest "DotPress$Setting" (98 : Nat) ({ cls := "DotPress", name := "isGreat", desc := "(I)Z" } : Jvm.MethodName) "DotPress") ∈ lw_tbl := mT4 (List.mem_of_getElem? (i := 119) rfl)
theorem w4_12t : (Jvm.Cond.code ({ cls := "DotPress$Source", name := "step", desc := "(LDotPress$Ints;LDotPress$Setting;)I" } : Jvm.MethodName) prog_10_method_3_code (4 : Nat) (Option.some Jvm.ClassFile.FieldType.int)) ∈ lw_tbl := mT4 (List.mem_of_getElem? (i := 12) rfl)
theorem w4_12 : (Jvm.Cond.code ({ cls := "DotPress$Source", name := "step", desc := "(LDotPress$Ints;LDotPress$Setting;)I" } : Jvm.MethodName) prog_10_method_3_code (4 : Nat) (Option.some Jvm.ClassFile.FieldType.int)) ∈ lw_g := lw_in w4_12t rfl
theorem w4_120t : (Jvm.Cond.static ({ cls := "DotPress", name := "isGreat", desc := "(I)Z" } : Jvm.MethodName)) ∈ lw_tbl := mT4 (List.mem_of_getElem? (i := 120) rfl)
theorem w4_120 : (Jvm.Cond.static ({ cls := "DotPress", name := "isGreat", desc := "(I)Z" } : Jvm.MethodName)) ∈ lw_g := lw_in w4_120t rfl
theorem w4_121t : (Jvm.Cond.code ({ cls := "DotPress", name := "isGreat", desc := "(I)Z" } : Jvm.MethodName) prog_1_method_57_code (1 : Nat) (Option.some Jvm.ClassFile.FieldType.boolean)) ∈ lw_tbl := mT4 (List.mem_of_getElem? (i := 121) rfl)
theorem w4_121 : (Jvm.Cond.code ({ cls := "DotPress", name := "isGreat", desc := "(I)Z" } : Jvm.MethodName) prog_1_method_57_code (1 : Nat) (Option.some Jvm.ClassFile.FieldType.boolean)) ∈ lw_g := lw_in w4_121t rfl
theorem w4_122t : (Jvm.Cond.methodLink "DotPress$Setting" (105 : Nat) ({ cls := "DotPress$Setting", name := "markStart", desc := "(II)V" } : Jvm.MethodName)) ∈ lw_tbl := mT4 (List.mem_of_getElem? (i := 122) rfl)
theorem w4_122 : (Jvm.Cond.methodLink "DotPress$Setting" (105 : Nat) ({ cls := "DotPress$Setting", name := "markStart", desc := "(II)V" } : Jvm.MethodName)) ∈ lw_g := lw_in w4_122t rfl
theorem w4_124t : (Jvm.Cond.instanceMethod ({ cls := "DotPress$Setting", name := "markStart", desc := "(II)V" } : Jvm.MethodName)) ∈ lw_tbl := mT4 (List.mem_of_getElem? (i := 124) rfl)
theorem w4_124 : (Jvm.Cond.instanceMethod ({ cls := "DotPress$Setting", name := "markStart", desc := "(II)V" } : Jvm.MethodName)) ∈ lw_g := lw_in w4_124t rfl
theorem w4_125t : (Jvm.Cond.code ({ cls := "DotPress$Setting", name := "markStart", desc := "(II)V" } : Jvm.MethodName) prog_8_method_12_code (4 : Nat) (Option.none : Option Jvm.ClassFile.FieldType)) ∈ lw_tbl := mT4 (List.mem_of_getElem? (i := 125) rfl)
theorem w4_125 : (Jvm.Cond.code ({ cls := "DotPress$Setting", name := "markStart", desc := "(II)V" } : Jvm.MethodName) prog_8_method_12_code (4 : Nat) (Option.none : Option Jvm.ClassFile.FieldType)) ∈ lw_g := lw_in w4_125t rfl
theorem w4_126t : (Jvm.Cond.methodLink "DotPress$Setting" (86 : Nat) ({ cls := "DotPress$Setting", name := "push", desc := "(LDotPress$Row;)V" } : Jvm.MethodName)) ∈ lw_tbl := mT4 (List.mem_of_getElem? (i := 126) rfl)
theorem w4_126 : (Jvm.Cond.methodLink "DotPress$Setting" (86 : Nat) ({ cls := "DotPress$Setting", name := "push", desc := "(LDotPress$Row;)V" } : Jvm.MethodName)) ∈ lw_g := lw_in w4_126t rfl
theorem w4_128t : (Jvm.Cond.instanceMethod ({ cls := "DotPress$Setting", name := "push", desc := "(LDotPress$Row;)V" } : Jvm.MethodName)) ∈ lw_tbl := mT4 (List.mem_of_getElem? (i := 128) rfl)
theorem w4_128 : (Jvm.Cond.instanceMethod ({ cls := "DotPress$Setting", name := "push", desc := "(LDotPress$Row;)V" } : Jvm.MethodName)) ∈ lw_g := lw_in w4_128t rfl
theorem w4_129t : (Jvm.Cond.code ({ cls := "DotPress$Setting", name := "push", desc := "(LDotPress$Row;)V" } : Jvm.MethodName) prog_8_method_14_code (3 : Nat) (Option.none : Option Jvm.ClassFile.FieldType)) ∈ lw_tbl := mT4 (List.mem_of_getElem? (i := 129) rfl)
theorem w4_129 : (Jvm.Cond.code ({ cls := "DotPress$Setting", name := "push", desc := "(LDotPress$Row;)V" } : Jvm.MethodName) prog_8_method_14_code (3 : Nat) (Option.none : Option Jvm.ClassFile.FieldType)) ∈ lw_g := lw_in w4_129t rfl
theorem w4_13t : (Jvm.Cond.methodLink "DotPress$Source" (39 : Nat) ({ cls := "DotPress$Source", name := "enterLine", desc := "(LDotPress$Ints;)I" } : Jvm.MethodName)) ∈ lw_tbl := mT4 (List.mem_of_getElem? (i := 13) rfl)
theorem w4_13 : (Jvm.Cond.methodLink "DotPress$Source" (39 : Nat) ({ cls := "DotPress$Source", name := "enterLine", desc := "(LDotPress$Ints;)I" } : Jvm.MethodName)) ∈ lw_g := lw_in w4_13t rfl
theorem w4_130t : (Jvm.Cond.methodLink "DotPress$Setting" (109 : Nat) ({ cls := "java/lang/Math", name := "max", desc := "(II)I" } : Jvm.MethodName)) ∈ lw_tbl := mT4 (List.mem_of_getElem? (i := 130) rfl)
theorem w4_130 : (Jvm.Cond.methodLink "DotPress$Setting" (109 : Nat) ({ cls := "java/lang/Math", name := "max", desc := "(II)I" } : Jvm.MethodName)) ∈ lw_g := lw_in w4_130t rfl
theorem w4_131t : (Jvm.Cond.methodLink "DotPress$Setting" (82 : Nat) ({ cls := "DotPress$Setting", name := "setTurn", desc := "(LDotPress$Row;I)I" } : Jvm.MethodName)) ∈ lw_tbl := mT4 (List.mem_of_getElem? (i := 131) rfl)
theorem w4_131 : (Jvm.Cond.methodLink "DotPress$Setting" (82 : Nat) ({ cls := "DotPress$Setting", name := "setTurn", desc := "(LDotPress$Row;I)I" } : Jvm.MethodName)) ∈ lw_g := lw_in w4_131t rfl
theorem w4_133t : (Jvm.Cond.instanceMethod ({ cls := "DotPress$Setting", name := "setTurn", desc := "(LDotPress$Row;I)I" } : Jvm.MethodName)) ∈ lw_tbl := mT4 (List.mem_of_getElem? (i := 133) rfl)
theorem w4_133 : (Jvm.Cond.instanceMethod ({ cls := "DotPress$Setting", name := "setTurn", desc := "(LDotPress$Row;I)I" } : Jvm.MethodName)) ∈ lw_g := lw_in w4_133t rfl
theorem w4_134t : (Jvm.Cond.code ({ cls := "DotPress$Setting", name := "setTurn", desc := "(LDotPress$Row;I)I" } : Jvm.MethodName) prog_8_method_10_code (3 : Nat) (Option.some Jvm.ClassFile.FieldType.int)) ∈ lw_tbl := mT4 (List.mem_of_getElem? (i := 134) rfl)
theorem w4_134 : (Jvm.Cond.code ({ cls := "DotPress$Setting", name := "setTurn", desc := "(LDotPress$Row;I)I" } : Jvm.MethodName) prog_8_method_10_code (3 : Nat) (Option.some Jvm.ClassFile.FieldType.int)) ∈ lw_g := lw_in w4_134t rfl
theorem w4_15t : (Jvm.Cond.instanceMethod ({ cls := "DotPress$Source", name := "enterLine", desc := "(LDotPress$Ints;)I" } : Jvm.MethodName)) ∈ lw_tbl := mT4 (List.mem_of_getElem? (i := 15) rfl)
theorem w4_15 : (Jvm.Cond.instanceMethod ({ cls := "DotPress$Source", name := "enterLine", desc := "(LDotPress$Ints;)I" } : Jvm.MethodName)) ∈ lw_g := lw_in w4_15t rfl
theorem w4_156t : (Jvm.Cond.methodLink "DotPress" (263 : Nat) ({ cls := "DotPress$Setting", name := "placeOfUnknown", desc := "()I" } : Jvm.MethodName)) ∈ lw_tbl := mT4 (List.mem_of_getElem? (i := 156) rfl)
theorem w4_156 : (Jvm.Cond.methodLink "DotPress" (263 : Nat) ({ cls := "DotPress$Setting", name := "placeOfUnknown", desc := "()I" } : Jvm.MethodName)) ∈ lw_g := lw_in w4_156t rfl
theorem w4_157t : (Jvm.Cond.instanceMethod ({ cls := "DotPress$Setting", name := "placeOfUnknown", desc := "()I" } : Jvm.MethodName)) ∈ lw_tbl := mT4 (List.mem_of_getElem? (i := 157) rfl)
theorem w4_157 : (Jvm.Cond.instanceMethod ({ cls := "DotPress$Setting", name := "placeOfUnknown", desc := "()I" } : Jvm.MethodName)) ∈ lw_g := lw_in w4_157t rfl
theorem w4_158t : (Jvm.Cond.selects "DotPress$Setting" ({ cls := "DotPress$Setting", name := "placeOfUnknown", desc := "()I" } : Jvm.MethodName) ({ cls := "DotPress$Setting", name := "placeOfUnknown", desc := "()I" } : Jvm.MethodName)) ∈ lw_tbl := mT4 (List.mem_of_getElem? (i := 158) rfl)
theorem w4_158 : (Jvm.Cond.selects "DotPress$Setting" ({ cls := "DotPress$Setting", name := "placeOfUnknown", desc := "()I" } : Jvm.MethodName) ({ cls := "DotPress$Setting", name := "placeOfUnknown", desc := "()I" } : Jvm.MethodName)) ∈ lw_g := lw_in w4_158t rfl
theorem w4_159t : (Jvm.Cond.code ({ cls := "DotPress$Setting", name := "placeOfUnknown", desc := "()I" } : Jvm.MethodName) prog_8_method_5_code (1 : Nat) (Option.some Jvm.ClassFile.FieldType.int)) ∈ lw_tbl := mT4 (List.mem_of_getElem? (i := 159) rfl)
theorem w4_159 : (Jvm.Cond.code ({ cls := "DotPress$Setting", name := "placeOfUnknown", desc := "()I" } : Jvm.MethodName) prog_8_method_5_code (1 : Nat) (Option.some Jvm.ClassFile.FieldType.int)) ∈ lw_g := lw_in w4_159t rfl
theorem w4_16t : (Jvm.Cond.code ({ cls := "DotPress$Source", name := "enterLine", desc := "(LDotPress$Ints;)I" } : Jvm.MethodName) prog_10_method_4_code (2 : Nat) (Option.some Jvm.ClassFile.FieldType.int)) ∈ lw_tbl := mT4 (List.mem_of_getElem? (i := 16) rfl)
theorem w4_16 : (Jvm.Cond.code ({ cls := "DotPress$Source", name := "enterLine", desc := "(LDotPress$Ints;)I" } : Jvm.MethodName) prog_10_method_4_code (2 : Nat) (Option.some Jvm.ClassFile.FieldType.int)) ∈ lw_g := lw_in w4_16t rfl
theorem w4_160t : (Jvm.Cond.methodLink "DotPress" (266 : Nat) ({ cls := "DotPress", name := "refuseAt", desc := "(II)I" } : Jvm.MethodName)) ∈ lw_tbl := mT4 (List.mem_of_getElem? (i := 160) rfl)
theorem w4_160 : (Jvm.Cond.methodLink "DotPress" (266 : Nat) ({ cls := "DotPress", name := "refuseAt", desc := "(II)I" } : Jvm.MethodName)) ∈ lw_g := lw_in w4_160t rfl
theorem w4_162t : (Jvm.Cond.instanceMethod ({ cls := "DotPress", name := "refuseAt", desc := "(II)I" } : Jvm.MethodName)) ∈ lw_tbl := mT4 (List.mem_of_getElem? (i := 162) rfl)
theorem w4_162 : (Jvm.Cond.instanceMethod ({ cls := "DotPress", name := "refuseAt", desc := "(II)I" } : Jvm.MethodName)) ∈ lw_g := lw_in w4_162t rfl
theorem w4_163t : (Jvm.Cond.code ({ cls := "DotPress", name := "refuseAt", desc := "(II)I" } : Jvm.MethodName) prog_1_method_55_code (3 : Nat) (Option.some Jvm.ClassFile.FieldType.int)) ∈ lw_tbl := mT4 (List.mem_of_getElem? (i := 163) rfl)
theorem w4_163 : (Jvm.Cond.code ({ cls := "DotPress", name := "refuseAt", desc := "(II)I" } : Jvm.MethodName) prog_1_method_55_code (3 : Nat) (Option.some Jvm.ClassFile.FieldType.int)) ∈ lw_g := lw_in w4_163t rfl
theorem w4_168t : (Jvm.Cond.methodLink "DotPress" (272 : Nat) ({ cls := "DotPress$Setting", name := "clear", desc := "()V" } : Jvm.MethodName)) ∈ lw_tbl := mT4 (List.mem_of_getElem? (i := 168) rfl)
theorem w4_168 : (Jvm.Cond.methodLink "DotPress" (272 : Nat) ({ cls := "DotPress$Setting", name := "clear", desc := "()V" } : Jvm.MethodName)) ∈ lw_g := lw_in w4_168t rfl
theorem w4_169t : (Jvm.Cond.methodLink "DotPress" (273 : Nat) ({ cls := "DotPress$Setting", name := "put", desc := "(II)V" } : Jvm.MethodName)) ∈ lw_tbl := mT4 (List.mem_of_getElem? (i := 169) rfl)
theorem w4_169 : (Jvm.Cond.methodLink "DotPress" (273 : Nat) ({ cls := "DotPress$Setting", name := "put", desc := "(II)V" } : Jvm.MethodName)) ∈ lw_g := lw_in w4_169t rfl
theorem w4_17t : (Jvm.Cond.methodLink "DotPress$Source" (53 : Nat) ({ cls := "DotPress$Ints", name := "at", desc := "(I)I" } : Jvm.MethodName)) ∈ lw_tbl := mT4 (List.mem_of_getElem? (i := 17) rfl)
theorem w4_17 : (Jvm.Cond.methodLink "DotPress$Source" (53 : Nat) ({ cls := "DotPress$Ints", name := "at", desc := "(I)I" } : Jvm.MethodName)) ∈ lw_g := lw_in w4_17t rfl
theorem w4_18t : (Jvm.Cond.methodLink "DotPress$Source" (43 : Nat) ({ cls := "DotPress$Setting", name := "clear", desc := "()V" } : Jvm.MethodName)) ∈ lw_tbl := mT4 (List.mem_of_getElem? (i := 18) rfl)
theorem w4_18 : (Jvm.Cond.methodLink "DotPress$Source" (43 : Nat) ({ cls := "DotPress$Setting", name := "clear", desc := "()V" } : Jvm.MethodName)) ∈ lw_g := lw_in w4_18t rfl
theorem w4_19t : (Jvm.Cond.instanceMethod ({ cls := "DotPress$Setting", name := "clear", desc := "()V" } : Jvm.MethodName)) ∈ lw_tbl := mT4 (List.mem_of_getElem? (i := 19) rfl)
theorem w4_19 : (Jvm.Cond.instanceMethod ({ cls := "DotPress$Setting", name := "clear", desc := "()V" } : Jvm.MethodName)) ∈ lw_g := lw_in w4_19t rfl
theorem w4_20t : (Jvm.Cond.selects "DotPress$Setting" ({ cls := "DotPress$Setting", name := "clear", desc := "()V" } : Jvm.MethodName) ({ cls := "DotPress$Setting", name := "clear", desc := "()V" } : Jvm.MethodName)) ∈ lw_tbl := mT4 (List.mem_of_getElem? (i := 20) rfl)
theorem w4_20 : (Jvm.Cond.selects "DotPress$Setting" ({ cls := "DotPress$Setting", name := "clear", desc := "()V" } : Jvm.MethodName) ({ cls := "DotPress$Setting", name := "clear", desc := "()V" } : Jvm.MethodName)) ∈ lw_g := lw_in w4_20t rfl
theorem w4_21t : (Jvm.Cond.code ({ cls := "DotPress$Setting", name := "clear", desc := "()V" } : Jvm.MethodName) prog_8_method_2_code (1 : Nat) (Option.none : Option Jvm.ClassFile.FieldType)) ∈ lw_tbl := mT4 (List.mem_of_getElem? (i := 21) rfl)
theorem w4_21 : (Jvm.Cond.code ({ cls := "DotPress$Setting", name := "clear", desc := "()V" } : Jvm.MethodName) prog_8_method_2_code (1 : Nat) (Option.none : Option Jvm.ClassFile.FieldType)) ∈ lw_g := lw_in w4_21t rfl
theorem w4_22t : (Jvm.Cond.methodLink "DotPress$Source" (57 : Nat) ({ cls := "DotPress$Setting", name := "putBreak", desc := "()V" } : Jvm.MethodName)) ∈ lw_tbl := mT4 (List.mem_of_getElem? (i := 22) rfl)
theorem w4_22 : (Jvm.Cond.methodLink "DotPress$Source" (57 : Nat) ({ cls := "DotPress$Setting", name := "putBreak", desc := "()V" } : Jvm.MethodName)) ∈ lw_g := lw_in w4_22t rfl
theorem w4_23t : (Jvm.Cond.instanceMethod ({ cls := "DotPress$Setting", name := "putBreak", desc := "()V" } : Jvm.MethodName)) ∈ lw_tbl := mT4 (List.mem_of_getElem? (i := 23) rfl)
theorem w4_23 : (Jvm.Cond.instanceMethod ({ cls := "DotPress$Setting", name := "putBreak", desc := "()V" } : Jvm.MethodName)) ∈ lw_g := lw_in w4_23t rfl
theorem w4_24t : (Jvm.Cond.selects "DotPress$Setting" ({ cls := "DotPress$Setting", name := "putBreak", desc := "()V" } : Jvm.MethodName) ({ cls := "DotPress$Setting", name := "putBreak", desc := "()V" } : Jvm.MethodName)) ∈ lw_tbl := mT4 (List.mem_of_getElem? (i := 24) rfl)
theorem w4_24 : (Jvm.Cond.selects "DotPress$Setting" ({ cls := "DotPress$Setting", name := "putBreak", desc := "()V" } : Jvm.MethodName) ({ cls := "DotPress$Setting", name := "putBreak", desc := "()V" } : Jvm.MethodName)) ∈ lw_g := lw_in w4_24t rfl
theorem w4_25t : (Jvm.Cond.code ({ cls := "DotPress$Setting", name := "putBreak", desc := "()V" } : Jvm.MethodName) prog_8_method_4_code (1 : Nat) (Option.none : Option Jvm.ClassFile.FieldType)) ∈ lw_tbl := mT4 (List.mem_of_getElem? (i := 25) rfl)
theorem w4_25 : (Jvm.Cond.code ({ cls := "DotPress$Setting", name := "putBreak", desc := "()V" } : Jvm.MethodName) prog_8_method_4_code (1 : Nat) (Option.none : Option Jvm.ClassFile.FieldType)) ∈ lw_g := lw_in w4_25t rfl
theorem w4_26t : (Jvm.Cond.methodLink "DotPress$Source" (60 : Nat) ({ cls := "DotPress$Setting", name := "put", desc := "(II)V" } : Jvm.MethodName)) ∈ lw_tbl := mT4 (List.mem_of_getElem? (i := 26) rfl)
theorem w4_26 : (Jvm.Cond.methodLink "DotPress$Source" (60 : Nat) ({ cls := "DotPress$Setting", name := "put", desc := "(II)V" } : Jvm.MethodName)) ∈ lw_g := lw_in w4_26t rfl
theorem w4_27t : (Jvm.Cond.instanceMethod ({ cls := "DotPress$Setting", name := "put", desc := "(II)V" } : Jvm.MethodName)) ∈ lw_tbl := mT4 (List.mem_of_getElem? (i := 27) rfl)
theorem w4_27 : (Jvm.Cond.instanceMethod ({ cls := "DotPress$Setting", name := "put", desc := "(II)V" } : Jvm.MethodName)) ∈ lw_g := lw_in w4_27t rfl
theorem w4_28t : (Jvm.Cond.selects "DotPress$Setting" ({ cls := "DotPress$Setting", name := "put", desc := "(II)V" } : Jvm.MethodName) ({ cls := "DotPress$Setting", name := "put", desc := "(II)V" } : Jvm.MethodName)) ∈ lw_tbl := mT4 (List.mem_of_getElem? (i := 28) rfl)
theorem w4_28 : (Jvm.Cond.selects "DotPress$Setting" ({ cls := "DotPress$Setting", name := "put", desc := "(II)V" } : Jvm.MethodName) ({ cls := "DotPress$Setting", name := "put", desc := "(II)V" } : Jvm.MethodName)) ∈ lw_g := lw_in w4_28t rfl
theorem w4_29t : (Jvm.Cond.code ({ cls := "DotPress$Setting", name := "put", desc := "(II)V" } : Jvm.MethodName) prog_8_method_3_code (3 : Nat) (Option.none : Option Jvm.ClassFile.FieldType)) ∈ lw_tbl := mT4 (List.mem_of_getElem? (i := 29) rfl)
theorem w4_29 : (Jvm.Cond.code ({ cls := "DotPress$Setting", name := "put", desc := "(II)V" } : Jvm.MethodName) prog_8_method_3_code (3 : Nat) (Option.none : Option Jvm.ClassFile.FieldType)) ∈ lw_g := lw_in w4_29t rfl
theorem w4_30t : (Jvm.Cond.constant "DotPress" (242 : Nat) (1000000 : Int32)) ∈ lw_tbl := mT4 (List.mem_of_getElem? (i := 30) rfl)
theorem w4_30 : (Jvm.Cond.constant "DotPress" (242 : Nat) (1000000 : Int32)) ∈ lw_g := lw_in w4_30t rfl
theorem w4_5t : (Jvm.Cond.methodLink "DotPress" (235 : Nat) ({ cls := "DotPress$Source", name := "restart", desc := "()V" } : Jvm.MethodName)) ∈ lw_tbl := mT4 (List.mem_of_getElem? (i := 5) rfl)
theorem w4_5 : (Jvm.Cond.methodLink "DotPress" (235 : Nat) ({ cls := "DotPress$Source", name := "restart", desc := "()V" } : Jvm.MethodName)) ∈ lw_g := lw_in w4_5t rfl
theorem w4_6t : (Jvm.Cond.instanceMethod ({ cls := "DotPress$Source", name := "restart", desc := "()V" } : Jvm.MethodName)) ∈ lw_tbl := mT4 (List.mem_of_getElem? (i := 6) rfl)
theorem w4_6 : (Jvm.Cond.instanceMethod ({ cls := "DotPress$Source", name := "restart", desc := "()V" } : Jvm.MethodName)) ∈ lw_g := lw_in w4_6t rfl
theorem w4_7t : (Jvm.Cond.selects "DotPress$Source" ({ cls := "DotPress$Source", name := "restart", desc := "()V" } : Jvm.MethodName) ({ cls := "DotPress$Source", name := "restart", desc := "()V" } : Jvm.MethodName)) ∈ lw_tbl := mT4 (List.mem_of_getElem? (i := 7) rfl)
theorem w4_7 : (Jvm.Cond.selects "DotPress$Source" ({ cls := "DotPress$Source", name := "restart", desc := "()V" } : Jvm.MethodName) ({ cls := "DotPress$Source", name := "restart", desc := "()V" } : Jvm.MethodName)) ∈ lw_g := lw_in w4_7t rfl
theorem w4_8t : (Jvm.Cond.code ({ cls := "DotPress$Source", name := "restart", desc := "()V" } : Jvm.MethodName) prog_10_method_2_code (1 : Nat) (Option.none : Option Jvm.ClassFile.FieldType)) ∈ lw_tbl := mT4 (List.mem_of_getElem? (i := 8) rfl)
theorem w4_8 : (Jvm.Cond.code ({ cls := "DotPress$Source", name := "restart", desc := "()V" } : Jvm.MethodName) prog_10_method_2_code (1 : Nat) (Option.none : Option Jvm.ClassFile.FieldType)) ∈ lw_g := lw_in w4_8t rfl
theorem w4_81t : (Jvm.Cond.methodLink "DotPress" (253 : Nat) ({ cls := "DotPress$Setting", name := "setBy", desc := "(LDotPress$Table;)I" } : Jvm.MethodName)) ∈ lw_tbl := mT4 (List.mem_of_getElem? (i := 81) rfl)
theorem w4_81 : (Jvm.Cond.methodLink "DotPress" (253 : Nat) ({ cls := "DotPress$Setting", name := "setBy", desc := "(LDotPress$Table;)I" } : Jvm.MethodName)) ∈ lw_g := lw_in w4_81t rfl
theorem w4_82t : (Jvm.Cond.instanceMethod ({ cls := "DotPress$Setting", name := "setBy", desc := "(LDotPress$Table;)I" } : Jvm.MethodName)) ∈ lw_tbl := mT4 (List.mem_of_getElem? (i := 82) rfl)
theorem w4_82 : (Jvm.Cond.instanceMethod ({ cls := "DotPress$Setting", name := "setBy", desc := "(LDotPress$Table;)I" } : Jvm.MethodName)) ∈ lw_g := lw_in w4_82t rfl
theorem w4_83t : (Jvm.Cond.selects "DotPress$Setting" ({ cls := "DotPress$Setting", name := "setBy", desc := "(LDotPress$Table;)I" } : Jvm.MethodName) ({ cls := "DotPress$Setting", name := "setBy", desc := "(LDotPress$Table;)I" } : Jvm.MethodName)) ∈ lw_tbl := mT4 (List.mem_of_getElem? (i := 83) rfl)
theorem w4_83 : (Jvm.Cond.selects "DotPress$Setting" ({ cls := "DotPress$Setting", name := "setBy", desc := "(LDotPress$Table;)I" } : Jvm.MethodName) ({ cls := "DotPress$Setting", name := "setBy", desc := "(LDotPress$Table;)I" } : Jvm.MethodName)) ∈ lw_g := lw_in w4_83t rfl
theorem w4_84t : (Jvm.Cond.code ({ cls := "DotPress$Setting", name := "setBy", desc := "(LDotPress$Table;)I" } : Jvm.MethodName) prog_8_method_9_code (9 : Nat) (Option.some Jvm.ClassFile.FieldType.int)) ∈ lw_tbl := mT4 (List.mem_of_getElem? (i := 84) rfl)
theorem w4_84 : (Jvm.Cond.code ({ cls := "DotPress$Setting", name := "setBy", desc := "(LDotPress$Table;)I" } : Jvm.MethodName) prog_8_method_9_code (9 : Nat) (Option.some Jvm.ClassFile.FieldType.int)) ∈ lw_g := lw_in w4_84t rfl
theorem w4_85t : (Jvm.Cond.methodLink "DotPress$Setting" (74 : Nat) ({ cls := "DotPress$Setting", name := "setPart", desc := "(LDotPress$Table;II)I" } : Jvm.MethodName)) ∈ lw_tbl := mT4 (List.mem_of_getElem? (i := 85) rfl)
theorem w4_85 : (Jvm.Cond.methodLink "DotPress$Setting" (74 : Nat) ({ cls := "DotPress$Setting", name := "setPart", desc := "(LDotPress$Table;II)I" } : Jvm.MethodName)) ∈ lw_g := lw_in w4_85t rfl
theorem w4_87t : (Jvm.Cond.instanceMethod ({ cls := "DotPress$Setting", name := "setPart", desc := "(LDotPress$Table;II)I" } : Jvm.MethodName)) ∈ lw_tbl := mT4 (List.mem_of_getElem? (i := 87) rfl)
theorem w4_87 : (Jvm.Cond.instanceMethod ({ cls := "DotPress$Setting", name := "setPart", desc := "(LDotPress$Table;II)I" } : Jvm.MethodName)) ∈ lw_g := lw_in w4_87t rfl
theorem w4_88t : (Jvm.Cond.code ({ cls := "DotPress$Setting", name := "setPart", desc := "(LDotPress$Table;II)I" } : Jvm.MethodName) prog_8_method_11_code (9 : Nat) (Option.some Jvm.ClassFile.FieldType.int)) ∈ lw_tbl := mT4 (List.mem_of_getElem? (i := 88) rfl)
theorem w4_88 : (Jvm.Cond.code ({ cls := "DotPress$Setting", name := "setPart", desc := "(LDotPress$Table;II)I" } : Jvm.MethodName) prog_8_method_11_code (9 : Nat) (Option.some Jvm.ClassFile.FieldType.int)) ∈ lw_g := lw_in w4_88t rfl
theorem w4_89t : (Jvm.Cond.methodLink "DotPress$Setting" (90 : Nat) ({ cls := "DotPress$Setting", name := "numberAhead", desc := "(LDotPress$Table;I)LDotPress$Row;" } : Jvm.MethodName)) ∈ lw_tbl := mT4 (List.mem_of_getElem? (i := 89) rfl)
theorem w4_89 : (Jvm.Cond.methodLink "DotPress$Setting" (90 : Nat) ({ cls := "DotPress$Setting", name := "numberAhead", desc := "(LDotPress$Table;I)LDotPress$Row;" } : Jvm.MethodName)) ∈ lw_g := lw_in w4_89t rfl
theorem w4_9t : (Jvm.Cond.methodLink "DotPress" (238 : Nat) ({ cls := "DotPress$Source", name := "step", desc := "(LDotPress$Ints;LDotPress$Setting;)I" } : Jvm.MethodName)) ∈ lw_tbl := mT4 (List.mem_of_getElem? (i := 9) rfl)
theorem w4_9 : (Jvm.Cond.methodLink "DotPress" (238 : Nat) ({ cls := "DotPress$Source", name := "step", desc := "(LDotPress$Ints;LDotPress$Setting;)I" } : Jvm.MethodName)) ∈ lw_g := lw_in w4_9t rfl
theorem w4_91t : (Jvm.Cond.instanceMethod ({ cls := "DotPress$Setting", name := "numberAhead", desc := "(LDotPress$Table;I)LDotPress$Row;" } : Jvm.MethodName)) ∈ lw_tbl := mT4 (List.mem_of_getElem? (i := 91) rfl)
theorem w4_91 : (Jvm.Cond.instanceMethod ({ cls := "DotPress$Setting", name := "numberAhead", desc := "(LDotPress$Table;I)LDotPress$Row;" } : Jvm.MethodName)) ∈ lw_g := lw_in w4_91t rfl
theorem w4_92t : (Jvm.Cond.code ({ cls := "DotPress$Setting", name := "numberAhead", desc := "(LDotPress$Table;I)LDotPress$Row;" } : Jvm.MethodName) prog_8_method_13_code (4 : Nat) (Option.some (Jvm.ClassFile.FieldType.object "DotPress$Row"))) ∈ lw_tbl := mT4 (List.mem_of_getElem? (i := 92) rfl)
theorem w4_92 : (Jvm.Cond.code ({ cls := "DotPress$Setting", name := "numberAhead", desc := "(LDotPress$Table;I)LDotPress$Row;" } : Jvm.MethodName) prog_8_method_13_code (4 : Nat) (Option.some (Jvm.ClassFile.FieldType.object "DotPress$Row"))) ∈ lw_g := lw_in w4_92t rfl
theorem w4_93t : (Jvm.Cond.methodLinkNest "DotPress$Setting" (115 : Nat) ({ cls := "DotPress", name := "isDigit", desc := "(I)Z" } : Jvm.MethodName) "DotPress") ∈ lw_tbl := mT4 (List.mem_of_getElem? (i := 93) rfl)
theorem w4_94t : (Jvm.Cond.static ({ cls := "DotPress", name := "isDigit", desc := "(I)Z" } : Jvm.MethodName)) ∈ lw_tbl := mT4 (List.mem_of_getElem? (i := 94) rfl)
theorem w4_94 : (Jvm.Cond.static ({ cls := "DotPress", name := "isDigit", desc := "(I)Z" } : Jvm.MethodName)) ∈ lw_g := lw_in w4_94t rfl
theorem w4_95t : (Jvm.Cond.code ({ cls := "DotPress", name := "isDigit", desc := "(I)Z" } : Jvm.MethodName) prog_1_method_56_code (1 : Nat) (Option.some Jvm.ClassFile.FieldType.boolean)) ∈ lw_tbl := mT4 (List.mem_of_getElem? (i := 95) rfl)
theorem w4_95 : (Jvm.Cond.code ({ cls := "DotPress", name := "isDigit", desc := "(I)Z" } : Jvm.MethodName) prog_1_method_56_code (1 : Nat) (Option.some Jvm.ClassFile.FieldType.boolean)) ∈ lw_g := lw_in w4_95t rfl
theorem w4_96t : (Jvm.Cond.methodLink "DotPress$Setting" (94 : Nat) ({ cls := "DotPress$Setting", name := "find", desc := "(LDotPress$Table;II)LDotPress$Row;" } : Jvm.MethodName)) ∈ lw_tbl := mT4 (List.mem_of_getElem? (i := 96) rfl)
theorem w4_96 : (Jvm.Cond.methodLink "DotPress$Setting" (94 : Nat) ({ cls := "DotPress$Setting", name := "find", desc := "(LDotPress$Table;II)LDotPress$Row;" } : Jvm.MethodName)) ∈ lw_g := lw_in w4_96t rfl
theorem w4_98t : (Jvm.Cond.instanceMethod ({ cls := "DotPress$Setting", name := "find", desc := "(LDotPress$Table;II)LDotPress$Row;" } : Jvm.MethodName)) ∈ lw_tbl := mT4 (List.mem_of_getElem? (i := 98) rfl)
theorem w4_98 : (Jvm.Cond.instanceMethod ({ cls := "DotPress$Setting", name := "find", desc := "(LDotPress$Table;II)LDotPress$Row;" } : Jvm.MethodName)) ∈ lw_g := lw_in w4_98t rfl
theorem w4_99t : (Jvm.Cond.code ({ cls := "DotPress$Setting", name := "find", desc := "(LDotPress$Table;II)LDotPress$Row;" } : Jvm.MethodName) prog_8_method_15_code (7 : Nat) (Option.some (Jvm.ClassFile.FieldType.object "DotPress$Row"))) ∈ lw_tbl := mT4 (List.mem_of_getElem? (i := 99) rfl)
theorem w4_99 : (Jvm.Cond.code ({ cls := "DotPress$Setting", name := "find", desc := "(LDotPress$Table;II)LDotPress$Row;" } : Jvm.MethodName) prog_8_method_15_code (7 : Nat) (Option.some (Jvm.ClassFile.FieldType.object "DotPress$Row"))) ∈ lw_g := lw_in w4_99t rfl
theorem w5_183t : (Jvm.Cond.methodLink "DotPress" (367 : Nat) ({ cls := "DotPress$Table", name := "hasShort", desc := "()Z" } : Jvm.MethodName)) ∈ lw_tbl := mT5 (List.mem_of_getElem? (i := 183) rfl)
theorem w5_183 : (Jvm.Cond.methodLink "DotPress" (367 : Nat) ({ cls := "DotPress$Table", name := "hasShort", desc := "()Z" } : Jvm.MethodName)) ∈ lw_g := lw_in w5_183t rfl
theorem w5_184t : (Jvm.Cond.instanceMethod ({ cls := "DotPress$Table", name := "hasShort", desc := "()Z" } : Jvm.MethodName)) ∈ lw_tbl := mT5 (List.mem_of_getElem? (i := 184) rfl)
theorem w5_184 : (Jvm.Cond.instanceMethod ({ cls := "DotPress$Table", name := "hasShort", desc := "()Z" } : Jvm.MethodName)) ∈ lw_g := lw_in w5_184t rfl
theorem w5_185t : (Jvm.Cond.selects "DotPress$Table" ({ cls := "DotPress$Table", name := "hasShort", desc := "()Z" } : Jvm.MethodName) ({ cls := "DotPress$Table", name := "hasShort", desc := "()Z" } : Jvm.MethodName)) ∈ lw_tbl := mT5 (List.mem_of_getElem? (i := 185) rfl)
theorem w5_185 : (Jvm.Cond.selects "DotPress$Table" ({ cls := "DotPress$Table", name := "hasShort", desc := "()Z" } : Jvm.MethodName) ({ cls := "DotPress$Table", name := "hasShort", desc := "()Z" } : Jvm.MethodName)) ∈ lw_g := lw_in w5_185t rfl
theorem w5_186t : (Jvm.Cond.code ({ cls := "DotPress$Table", name := "hasShort", desc := "()Z" } : Jvm.MethodName) prog_11_method_7_code (1 : Nat) (Option.some Jvm.ClassFile.FieldType.boolean)) ∈ lw_tbl := mT5 (List.mem_of_getElem? (i := 186) rfl)
theorem w5_186 : (Jvm.Cond.code ({ cls := "DotPress$Table", name := "hasShort", desc := "()Z" } : Jvm.MethodName) prog_11_method_7_code (1 : Nat) (Option.some Jvm.ClassFile.FieldType.boolean)) ∈ lw_g := lw_in w5_186t rfl
theorem w5_187t : (Jvm.Cond.methodLink "DotPress$Table" (80 : Nat) ({ cls := "DotPress$Table", name := "isOverShort", desc := "(LDotPress$Table;)Z" } : Jvm.MethodName)) ∈ lw_tbl := mT5 (List.mem_of_getElem? (i := 187) rfl)
theorem w5_187 : (Jvm.Cond.methodLink "DotPress$Table" (80 : Nat) ({ cls := "DotPress$Table", name := "isOverShort", desc := "(LDotPress$Table;)Z" } : Jvm.MethodName)) ∈ lw_g := lw_in w5_187t rfl
theorem w5_188t : (Jvm.Cond.static ({ cls := "DotPress$Table", name := "isOverShort", desc := "(LDotPress$Table;)Z" } : Jvm.MethodName)) ∈ lw_tbl := mT5 (List.mem_of_getElem? (i := 188) rfl)
theorem w5_188 : (Jvm.Cond.static ({ cls := "DotPress$Table", name := "isOverShort", desc := "(LDotPress$Table;)Z" } : Jvm.MethodName)) ∈ lw_g := lw_in w5_188t rfl
theorem w5_189t : (Jvm.Cond.code ({ cls := "DotPress$Table", name := "isOverShort", desc := "(LDotPress$Table;)Z" } : Jvm.MethodName) prog_11_method_8_code (2 : Nat) (Option.some Jvm.ClassFile.FieldType.boolean)) ∈ lw_tbl := mT5 (List.mem_of_getElem? (i := 189) rfl)
theorem w5_189 : (Jvm.Cond.code ({ cls := "DotPress$Table", name := "isOverShort", desc := "(LDotPress$Table;)Z" } : Jvm.MethodName) prog_11_method_8_code (2 : Nat) (Option.some Jvm.ClassFile.FieldType.boolean)) ∈ lw_g := lw_in w5_189t rfl
theorem w5_190t : (Jvm.Cond.methodLink "DotPress" (373 : Nat) ({ cls := "DotPress$Reader", name := "isReadable", desc := "(Ljava/util/ArrayList;I)Z" } : Jvm.MethodName)) ∈ lw_tbl := mT5 (List.mem_of_getElem? (i := 190) rfl)
theorem w5_190 : (Jvm.Cond.methodLink "DotPress" (373 : Nat) ({ cls := "DotPress$Reader", name := "isReadable", desc := "(Ljava/util/ArrayList;I)Z" } : Jvm.MethodName)) ∈ lw_g := lw_in w5_190t rfl
theorem w5_191t : (Jvm.Cond.static ({ cls := "DotPress$Reader", name := "isReadable", desc := "(Ljava/util/ArrayList;I)Z" } : Jvm.MethodName)) ∈ lw_tbl := mT5 (List.mem_of_getElem? (i := 191) rfl)
theorem w5_191 : (Jvm.Cond.static ({ cls := "DotPress$Reader", name := "isReadable", desc := "(Ljava/util/ArrayList;I)Z" } : Jvm.MethodName)) ∈ lw_g := lw_in w5_191t rfl
theorem w5_192t : (Jvm.Cond.code ({ cls := "DotPress$Reader", name := "isReadable", desc := "(Ljava/util/ArrayList;I)Z" } : Jvm.MethodName) prog_5_method_7_code (6 : Nat) (Option.some Jvm.ClassFile.FieldType.boolean)) ∈ lw_tbl := mT5 (List.mem_of_getElem? (i := 192) rfl)
theorem w5_192 : (Jvm.Cond.code ({ cls := "DotPress$Reader", name := "isReadable", desc := "(Ljava/util/ArrayList;I)Z" } : Jvm.MethodName) prog_5_method_7_code (6 : Nat) (Option.some Jvm.ClassFile.FieldType.boolean)) ∈ lw_g := lw_in w5_192t rfl
theorem w5_193t : (Jvm.Cond.methodLink "DotPress$Reader" (100 : Nat) ({ cls := "DotPress$Row", name := "endsWith", desc := "(I)Z" } : Jvm.MethodName)) ∈ lw_tbl := mT5 (List.mem_of_getElem? (i := 193) rfl)
theorem w5_193 : (Jvm.Cond.methodLink "DotPress$Reader" (100 : Nat) ({ cls := "DotPress$Row", name := "endsWith", desc := "(I)Z" } : Jvm.MethodName)) ∈ lw_g := lw_in w5_193t rfl
theorem w5_194t : (Jvm.Cond.instanceMethod ({ cls := "DotPress$Row", name := "endsWith", desc := "(I)Z" } : Jvm.MethodName)) ∈ lw_tbl := mT5 (List.mem_of_getElem? (i := 194) rfl)
theorem w5_194 : (Jvm.Cond.instanceMethod ({ cls := "DotPress$Row", name := "endsWith", desc := "(I)Z" } : Jvm.MethodName)) ∈ lw_g := lw_in w5_194t rfl
theorem w5_195t : (Jvm.Cond.selects "DotPress$Row" ({ cls := "DotPress$Row", name := "endsWith", desc := "(I)Z" } : Jvm.MethodName) ({ cls := "DotPress$Row", name := "endsWith", desc := "(I)Z" } : Jvm.MethodName)) ∈ lw_tbl := mT5 (List.mem_of_getElem? (i := 195) rfl)
theorem w5_195 : (Jvm.Cond.selects "DotPress$Row" ({ cls := "DotPress$Row", name := "endsWith", desc := "(I)Z" } : Jvm.MethodName) ({ cls := "DotPress$Row", name := "endsWith", desc := "(I)Z" } : Jvm.MethodName)) ∈ lw_g := lw_in w5_195t rfl
theorem w5_196t : (Jvm.Cond.code ({ cls := "DotPress$Row", name := "endsWith", desc := "(I)Z" } : Jvm.MethodName) prog_7_method_5_code (2 : Nat) (Option.some Jvm.ClassFile.FieldType.boolean)) ∈ lw_tbl := mT5 (List.mem_of_getElem? (i := 196) rfl)
theorem w5_196 : (Jvm.Cond.code ({ cls := "DotPress$Row", name := "endsWith", desc := "(I)Z" } : Jvm.MethodName) prog_7_method_5_code (2 : Nat) (Option.some Jvm.ClassFile.FieldType.boolean)) ∈ lw_g := lw_in w5_196t rfl
theorem w5_197t : (Jvm.Cond.methodLink "DotPress$Reader" (104 : Nat) ({ cls := "DotPress$Row", name := "isAtBeginOf", desc := "(LDotPress$Row;)Z" } : Jvm.MethodName)) ∈ lw_tbl := mT5 (List.mem_of_getElem? (i := 197) rfl)
theorem w5_197 : (Jvm.Cond.methodLink "DotPress$Reader" (104 : Nat) ({ cls := "DotPress$Row", name := "isAtBeginOf", desc := "(LDotPress$Row;)Z" } : Jvm.MethodName)) ∈ lw_g := lw_in w5_197t rfl
theorem w5_198t : (Jvm.Cond.instanceMethod ({ cls := "DotPress$Row", name := "isAtBeginOf", desc := "(LDotPress$Row;)Z" } : Jvm.MethodName)) ∈ lw_tbl := mT5 (List.mem_of_getElem? (i := 198) rfl)
theorem w5_198 : (Jvm.Cond.instanceMethod ({ cls := "DotPress$Row", name := "isAtBeginOf", desc := "(LDotPress$Row;)Z" } : Jvm.MethodName)) ∈ lw_g := lw_in w5_198t rfl
theorem w5_199t : (Jvm.Cond.selects "DotPress$Row" ({ cls := "DotPress$Row", name := "isAtBeginOf", desc := "(LDotPress$Row;)Z" } : Jvm.MethodName) ({ cls := "DotPress$Row", name := "isAtBeginOf", desc := "(LDotPress$Row;)Z" } : Jvm.MethodName)) ∈ lw_tbl := mT5 (List.mem_of_getElem? (i := 199) rfl)
theorem w5_199 : (Jvm.Cond.selects "DotPress$Row" ({ cls := "DotPress$Row", name := "isAtBeginOf", desc := "(LDotPress$Row;)Z" } : Jvm.MethodName) ({ cls := "DotPress$Row", name := "isAtBeginOf", desc := "(LDotPress$Row;)Z" } : Jvm.MethodName)) ∈ lw_g := lw_in w5_199t rfl
theorem w5_200t : (Jvm.Cond.code ({ cls := "DotPress$Row", name := "isAtBeginOf", desc := "(LDotPress$Row;)Z" } : Jvm.MethodName) prog_7_method_4_code (2 : Nat) (Option.some Jvm.ClassFile.FieldType.boolean)) ∈ lw_tbl := mT5 (List.mem_of_getElem? (i := 200) rfl)
theorem w5_200 : (Jvm.Cond.code ({ cls := "DotPress$Row", name := "isAtBeginOf", desc := "(LDotPress$Row;)Z" } : Jvm.MethodName) prog_7_method_4_code (2 : Nat) (Option.some Jvm.ClassFile.FieldType.boolean)) ∈ lw_g := lw_in w5_200t rfl
theorem w5_201t : (Jvm.Cond.methodLink "DotPress$Row" (35 : Nat) ({ cls := "DotPress$Row", name := "alike", desc := "(LDotPress$Row;)I" } : Jvm.MethodName)) ∈ lw_tbl := mT5 (List.mem_of_getElem? (i := 201) rfl)
theorem w5_201 : (Jvm.Cond.methodLink "DotPress$Row" (35 : Nat) ({ cls := "DotPress$Row", name := "alike", desc := "(LDotPress$Row;)I" } : Jvm.MethodName)) ∈ lw_g := lw_in w5_201t rfl
theorem w5_202t : (Jvm.Cond.instanceMethod ({ cls := "DotPress$Row", name := "alike", desc := "(LDotPress$Row;)I" } : Jvm.MethodName)) ∈ lw_tbl := mT5 (List.mem_of_getElem? (i := 202) rfl)
theorem w5_202 : (Jvm.Cond.instanceMethod ({ cls := "DotPress$Row", name := "alike", desc := "(LDotPress$Row;)I" } : Jvm.MethodName)) ∈ lw_g := lw_in w5_202t rfl
theorem w5_203t : (Jvm.Cond.selects "DotPress$Row" ({ cls := "DotPress$Row", name := "alike", desc := "(LDotPress$Row;)I" } : Jvm.MethodName) ({ cls := "DotPress$Row", name := "alike", desc := "(LDotPress$Row;)I" } : Jvm.MethodName)) ∈ lw_tbl := mT5 (List.mem_of_getElem? (i := 203) rfl)
theorem w5_203 : (Jvm.Cond.selects "DotPress$Row" ({ cls := "DotPress$Row", name := "alike", desc := "(LDotPress$Row;)I" } : Jvm.MethodName) ({ cls := "DotPress$Row", name := "alike", desc := "(LDotPress$Row;)I" } : Jvm.MethodName)) ∈ lw_g := lw_in w5_203t rfl
theorem w5_204t : (Jvm.Cond.code ({ cls := "DotPress$Row", name := "alike", desc := "(LDotPress$Row;)I" } : Jvm.MethodName) prog_7_method_3_code (4 : Nat) (Option.some Jvm.ClassFile.FieldType.int)) ∈ lw_tbl := mT5 (List.mem_of_getElem? (i := 204) rfl)
theorem w5_204 : (Jvm.Cond.code ({ cls := "DotPress$Row", name := "alike", desc := "(LDotPress$Row;)I" } : Jvm.MethodName) prog_7_method_3_code (4 : Nat) (Option.some Jvm.ClassFile.FieldType.int)) ∈ lw_g := lw_in w5_204t rfl
theorem w5_205t : (Jvm.Cond.methodLink "DotPress$Row" (29 : Nat) ({ cls := "java/lang/Math", name := "min", desc := "(II)I" } : Jvm.MethodName)) ∈ lw_tbl := mT5 (List.mem_of_getElem? (i := 205) rfl)
theorem w5_205 : (Jvm.Cond.methodLink "DotPress$Row" (29 : Nat) ({ cls := "java/lang/Math", name := "min", desc := "(II)I" } : Jvm.MethodName)) ∈ lw_g := lw_in w5_205t rfl
theorem w5_210t : (Jvm.Cond.methodLink "DotPress" (380 : Nat) ({ cls := "DotPress$Row", name := "alike", desc := "(LDotPress$Row;)I" } : Jvm.MethodName)) ∈ lw_tbl := mT5 (List.mem_of_getElem? (i := 210) rfl)
theorem w5_210 : (Jvm.Cond.methodLink "DotPress" (380 : Nat) ({ cls := "DotPress$Row", name := "alike", desc := "(LDotPress$Row;)I" } : Jvm.MethodName)) ∈ lw_g := lw_in w5_210t rfl
theorem w5_36t : (Jvm.Cond.methodLink "DotPress$Reader" (77 : Nat) ({ cls := "DotPress$Ints", name := "clear", desc := "()V" } : Jvm.MethodName)) ∈ lw_tbl := mT5 (List.mem_of_getElem? (i := 36) rfl)
theorem w5_36 : (Jvm.Cond.methodLink "DotPress$Reader" (77 : Nat) ({ cls := "DotPress$Ints", name := "clear", desc := "()V" } : Jvm.MethodName)) ∈ lw_g := lw_in w5_36t rfl
theorem w5_49t : (Jvm.Cond.methodLink "DotPress$Reader" (91 : Nat) ({ cls := "DotPress$Ints", name := "add", desc := "(I)V" } : Jvm.MethodName)) ∈ lw_tbl := mT5 (List.mem_of_getElem? (i := 49) rfl)
theorem w5_49 : (Jvm.Cond.methodLink "DotPress$Reader" (91 : Nat) ({ cls := "DotPress$Ints", name := "add", desc := "(I)V" } : Jvm.MethodName)) ∈ lw_g := lw_in w5_49t rfl
theorem w5_50t : (Jvm.Cond.methodLink "DotPress" (331 : Nat) ({ cls := "DotPress$Reader", name := "gather", desc := "(LDotPress$Table;)V" } : Jvm.MethodName)) ∈ lw_tbl := mT5 (List.mem_of_getElem? (i := 50) rfl)
theorem w5_50 : (Jvm.Cond.methodLink "DotPress" (331 : Nat) ({ cls := "DotPress$Reader", name := "gather", desc := "(LDotPress$Table;)V" } : Jvm.MethodName)) ∈ lw_g := lw_in w5_50t rfl
theorem w5_51t : (Jvm.Cond.instanceMethod ({ cls := "DotPress$Reader", name := "gather", desc := "(LDotPress$Table;)V" } : Jvm.MethodName)) ∈ lw_tbl := mT5 (List.mem_of_getElem? (i := 51) rfl)
theorem w5_51 : (Jvm.Cond.instanceMethod ({ cls := "DotPress$Reader", name := "gather", desc := "(LDotPress$Table;)V" } : Jvm.MethodName)) ∈ lw_g := lw_in w5_51t rfl
theorem w5_52t : (Jvm.Cond.selects "DotPress$Reader" ({ cls := "DotPress$Reader", name := "gather", desc := "(LDotPress$Table;)V" } : Jvm.MethodName) ({ cls := "DotPress$Reader", name := "gather", desc := "(LDotPress$Table;)V" } : Jvm.MethodName)) ∈ lw_tbl := mT5 (List.mem_of_getElem? (i := 52) rfl)
theorem w5_52 : (Jvm.Cond.selects "DotPress$Reader" ({ cls := "DotPress$Reader", name := "gather", desc := "(LDotPress$Table;)V" } : Jvm.MethodName) ({ cls := "DotPress$Reader", name := "gather", desc := "(LDotPress$Table;)V" } : Jvm.MethodName)) ∈ lw_g := lw_in w5_52t rfl
theorem w5_53t : (Jvm.Cond.code ({ cls := "DotPress$Reader", name := "gather", desc := "(LDotPress$Table;)V" } : Jvm.MethodName) prog_5_method_2_code (2 : Nat) (Option.none : Option Jvm.ClassFile.FieldType)) ∈ lw_tbl := mT5 (List.mem_of_getElem? (i := 53) rfl)
theorem w5_53 : (Jvm.Cond.code ({ cls := "DotPress$Reader", name := "gather", desc := "(LDotPress$Table;)V" } : Jvm.MethodName) prog_5_method_2_code (2 : Nat) (Option.none : Option Jvm.ClassFile.FieldType)) ∈ lw_g := lw_in w5_53t rfl
theorem w5_54t : (Jvm.Cond.methodLink "DotPress$Reader" (47 : Nat) ({ cls := "java/util/ArrayList", name := "clear", desc := "()V" } : Jvm.MethodName)) ∈ lw_tbl := mT5 (List.mem_of_getElem? (i := 54) rfl)
theorem w5_54 : (Jvm.Cond.methodLink "DotPress$Reader" (47 : Nat) ({ cls := "java/util/ArrayList", name := "clear", desc := "()V" } : Jvm.MethodName)) ∈ lw_g := lw_in w5_54t rfl
theorem w5_55t : (Jvm.Cond.instanceMethod ({ cls := "java/util/ArrayList", name := "clear", desc := "()V" } : Jvm.MethodName)) ∈ lw_tbl := mT5 (List.mem_of_getElem? (i := 55) rfl)
theorem w5_55 : (Jvm.Cond.instanceMethod ({ cls := "java/util/ArrayList", name := "clear", desc := "()V" } : Jvm.MethodName)) ∈ lw_g := lw_in w5_55t rfl
theorem w5_56t : (Jvm.Cond.selects "java/util/ArrayList" ({ cls := "java/util/ArrayList", name := "clear", desc := "()V" } : Jvm.MethodName) ({ cls := "java/util/ArrayList", name := "clear", desc := "()V" } : Jvm.MethodName)) ∈ lw_tbl := mT5 (List.mem_of_getElem? (i := 56) rfl)
theorem w5_56 : (Jvm.Cond.selects "java/util/ArrayList" ({ cls := "java/util/ArrayList", name := "clear", desc := "()V" } : Jvm.MethodName) ({ cls := "java/util/ArrayList", name := "clear", desc := "()V" } : Jvm.MethodName)) ∈ lw_g := lw_in w5_56t rfl
theorem w5_57t : (Jvm.Cond.code ({ cls := "java/util/ArrayList", name := "clear", desc := "()V" } : Jvm.MethodName) prog_23_method_40_code (4 : Nat) (Option.none : Option Jvm.ClassFile.FieldType)) ∈ lw_tbl := mT5 (List.mem_of_getElem? (i := 57) rfl)
theorem w5_57 : (Jvm.Cond.code ({ cls := "java/util/ArrayList", name := "clear", desc := "()V" } : Jvm.MethodName) prog_23_method_40_code (4 : Nat) (Option.none : Option Jvm.ClassFile.FieldType)) ∈ lw_g := lw_in w5_57t rfl
theorem w5_58t : (Jvm.Cond.methodLink "DotPress$Reader" (59 : Nat) ({ cls := "DotPress$Reader", name := "gatherPart", desc := "(Ljava/util/ArrayList;LDotPress$Table;)V" } : Jvm.MethodName)) ∈ lw_tbl := mT5 (List.mem_of_getElem? (i := 58) rfl)
theorem w5_58 : (Jvm.Cond.methodLink "DotPress$Reader" (59 : Nat) ({ cls := "DotPress$Reader", name := "gatherPart", desc := "(Ljava/util/ArrayList;LDotPress$Table;)V" } : Jvm.MethodName)) ∈ lw_g := lw_in w5_58t rfl
theorem w5_59t : (Jvm.Cond.static ({ cls := "DotPress$Reader", name := "gatherPart", desc := "(Ljava/util/ArrayList;LDotPress$Table;)V" } : Jvm.MethodName)) ∈ lw_tbl := mT5 (List.mem_of_getElem? (i := 59) rfl)
theorem w5_59 : (Jvm.Cond.static ({ cls := "DotPress$Reader", name := "gatherPart", desc := "(Ljava/util/ArrayList;LDotPress$Table;)V" } : Jvm.MethodName)) ∈ lw_g := lw_in w5_59t rfl
theorem w5_60t : (Jvm.Cond.code ({ cls := "DotPress$Reader", name := "gatherPart", desc := "(Ljava/util/ArrayList;LDotPress$Table;)V" } : Jvm.MethodName) prog_5_method_4_code (4 : Nat) (Option.none : Option Jvm.ClassFile.FieldType)) ∈ lw_tbl := mT5 (List.mem_of_getElem? (i := 60) rfl)
theorem w5_60 : (Jvm.Cond.code ({ cls := "DotPress$Reader", name := "gatherPart", desc := "(Ljava/util/ArrayList;LDotPress$Table;)V" } : Jvm.MethodName) prog_5_method_4_code (4 : Nat) (Option.none : Option Jvm.ClassFile.FieldType)) ∈ lw_g := lw_in w5_60t rfl
theorem w5_61t : (Jvm.Cond.methodLink "DotPress$Reader" (78 : Nat) ({ cls := "java/util/ArrayList", name := "size", desc := "()I" } : Jvm.MethodName)) ∈ lw_tbl := mT5 (List.mem_of_getElem? (i := 61) rfl)
theorem w5_61 : (Jvm.Cond.methodLink "DotPress$Reader" (78 : Nat) ({ cls := "java/util/ArrayList", name := "size", desc := "()I" } : Jvm.MethodName)) ∈ lw_g := lw_in w5_61t rfl
theorem w5_62t : (Jvm.Cond.methodLink "DotPress$Reader" (82 : Nat) ({ cls := "java/util/ArrayList", name := "get", desc := "(I)Ljava/lang/Object;" } : Jvm.MethodName)) ∈ lw_tbl := mT5 (List.mem_of_getElem? (i := 62) rfl)
theorem w5_62 : (Jvm.Cond.methodLink "DotPress$Reader" (82 : Nat) ({ cls := "java/util/ArrayList", name := "get", desc := "(I)Ljava/lang/Object;" } : Jvm.MethodName)) ∈ lw_g := lw_in w5_62t rfl
theorem w5_63t : (Jvm.Cond.classLink "DotPress$Reader" (86 : Nat) "DotPress$Row") ∈ lw_tbl := mT5 (List.mem_of_getElem? (i := 63) rfl)
theorem w5_63 : (Jvm.Cond.classLink "DotPress$Reader" (86 : Nat) "DotPress$Row") ∈ lw_g := lw_in w5_63t rfl
theorem w5_64t : (Jvm.Cond.methodLink "DotPress$Reader" (97 : Nat) ({ cls := "java/util/ArrayList", name := "add", desc := "(Ljava/lang/Object;)Z" } : Jvm.MethodName)) ∈ lw_tbl := mT5 (List.mem_of_getElem? (i := 64) rfl)
theorem w5_64 : (Jvm.Cond.methodLink "DotPress$Reader" (97 : Nat) ({ cls := "java/util/ArrayList", name := "add", desc := "(Ljava/lang/Object;)Z" } : Jvm.MethodName)) ∈ lw_g := lw_in w5_64t rfl
theorem w5_65t : (Jvm.Cond.methodLink "DotPress$Reader" (67 : Nat) ({ cls := "DotPress$Reader", name := "addIndicator", desc := "(Ljava/util/ArrayList;LDotPress$Row;)V" } : Jvm.MethodName)) ∈ lw_tbl := mT5 (List.mem_of_getElem? (i := 65) rfl)
theorem w5_65 : (Jvm.Cond.methodLink "DotPress$Reader" (67 : Nat) ({ cls := "DotPress$Reader", name := "addIndicator", desc := "(Ljava/util/ArrayList;LDotPress$Row;)V" } : Jvm.MethodName)) ∈ lw_g := lw_in w5_65t rfl
theorem w5_66t : (Jvm.Cond.static ({ cls := "DotPress$Reader", name := "addIndicator", desc := "(Ljava/util/ArrayList;LDotPress$Row;)V" } : Jvm.MethodName)) ∈ lw_tbl := mT5 (List.mem_of_getElem? (i := 66) rfl)
theorem w5_66 : (Jvm.Cond.static ({ cls := "DotPress$Reader", name := "addIndicator", desc := "(Ljava/util/ArrayList;LDotPress$Row;)V" } : Jvm.MethodName)) ∈ lw_g := lw_in w5_66t rfl
theorem w5_67t : (Jvm.Cond.code ({ cls := "DotPress$Reader", name := "addIndicator", desc := "(Ljava/util/ArrayList;LDotPress$Row;)V" } : Jvm.MethodName) prog_5_method_5_code (2 : Nat) (Option.none : Option Jvm.ClassFile.FieldType)) ∈ lw_tbl := mT5 (List.mem_of_getElem? (i := 67) rfl)
theorem w5_67 : (Jvm.Cond.code ({ cls := "DotPress$Reader", name := "addIndicator", desc := "(Ljava/util/ArrayList;LDotPress$Row;)V" } : Jvm.MethodName) prog_5_method_5_code (2 : Nat) (Option.none : Option Jvm.ClassFile.FieldType)) ∈ lw_g := lw_in w5_67t rfl
theorem w5_68t : (Jvm.Cond.methodLink "DotPress$Reader" (73 : Nat) ({ cls := "DotPress$Reader", name := "markBegins", desc := "(Ljava/util/ArrayList;LDotPress$Ints;)V" } : Jvm.MethodName)) ∈ lw_tbl := mT5 (List.mem_of_getElem? (i := 68) rfl)
theorem w5_68 : (Jvm.Cond.methodLink "DotPress$Reader" (73 : Nat) ({ cls := "DotPress$Reader", name := "markBegins", desc := "(Ljava/util/ArrayList;LDotPress$Ints;)V" } : Jvm.MethodName)) ∈ lw_g := lw_in w5_68t rfl
theorem w5_69t : (Jvm.Cond.static ({ cls := "DotPress$Reader", name := "markBegins", desc := "(Ljava/util/ArrayList;LDotPress$Ints;)V" } : Jvm.MethodName)) ∈ lw_tbl := mT5 (List.mem_of_getElem? (i := 69) rfl)
theorem w5_69 : (Jvm.Cond.static ({ cls := "DotPress$Reader", name := "markBegins", desc := "(Ljava/util/ArrayList;LDotPress$Ints;)V" } : Jvm.MethodName)) ∈ lw_g := lw_in w5_69t rfl
theorem w5_70t : (Jvm.Cond.code ({ cls := "DotPress$Reader", name := "markBegins", desc := "(Ljava/util/ArrayList;LDotPress$Ints;)V" } : Jvm.MethodName) prog_5_method_3_code (5 : Nat) (Option.none : Option Jvm.ClassFile.FieldType)) ∈ lw_tbl := mT5 (List.mem_of_getElem? (i := 70) rfl)
theorem w5_70 : (Jvm.Cond.code ({ cls := "DotPress$Reader", name := "markBegins", desc := "(Ljava/util/ArrayList;LDotPress$Ints;)V" } : Jvm.MethodName) prog_5_method_3_code (5 : Nat) (Option.none : Option Jvm.ClassFile.FieldType)) ∈ lw_g := lw_in w5_70t rfl
theorem w8_168t : (Jvm.Cond.castable "DotPress$Table" "DotPress$Table") ∈ lw_tbl := mT8 (List.mem_of_getElem? (i := 168) rfl)
theorem w8_169t : (Jvm.Cond.castable "DotPress$Row" "DotPress$Row") ∈ lw_tbl := mT8 (List.mem_of_getElem? (i := 169) rfl)
theorem w8_172t : (Jvm.Cond.selects "[Ljava/lang/Object;" ({ cls := "java/lang/Object", name := "getClass", desc := "()Ljava/lang/Class;" } : Jvm.MethodName) ({ cls := "java/lang/Object", name := "getClass", desc := "()Ljava/lang/Class;" } : Jvm.MethodName)) ∈ lw_tbl := mT8 (List.mem_of_getElem? (i := 172) rfl)
theorem w8_172 : (Jvm.Cond.selects "[Ljava/lang/Object;" ({ cls := "java/lang/Object", name := "getClass", desc := "()Ljava/lang/Class;" } : Jvm.MethodName) ({ cls := "java/lang/Object", name := "getClass", desc := "()Ljava/lang/Class;" } : Jvm.MethodName)) ∈ lw_g := lw_in w8_172t rfl
theorem w8_185t : (Jvm.Cond.castable "DotPress$Row" "java/lang/Object") ∈ lw_tbl := mT8 (List.mem_of_getElem? (i := 185) rfl)
theorem wp_0 : Cond.selects "DotPress" ⟨"DotPress", "refuse", "(I)I"⟩ ⟨"DotPress", "refuse", "(I)I"⟩ ∈ lw_g := lw_in (List.mem_append_left _ (List.mem_map.mpr ⟨(⟨"DotPress", "refuse", "(I)I"⟩, _), List.mem_of_getElem? (i := 0) rfl, rfl⟩)) rfl
theorem wp_11 : Cond.selects "DotPress$Source" ⟨"DotPress$Source", "enterLine", "(LDotPress$Ints;)I"⟩ ⟨"DotPress$Source", "enterLine", "(LDotPress$Ints;)I"⟩ ∈ lw_g := lw_in (List.mem_append_left _ (List.mem_map.mpr ⟨(⟨"DotPress$Source", "enterLine", "(LDotPress$Ints;)I"⟩, _), List.mem_of_getElem? (i := 11) rfl, rfl⟩)) rfl
theorem wp_12 : Cond.selects "DotPress$Setting" ⟨"DotPress$Setting", "setPart", "(LDotPress$Table;II)I"⟩ ⟨"DotPress$Setting", "setPart", "(LDotPress$Table;II)I"⟩ ∈ lw_g := lw_in (List.mem_append_left _ (List.mem_map.mpr ⟨(⟨"DotPress$Setting", "setPart", "(LDotPress$Table;II)I"⟩, _), List.mem_of_getElem? (i := 12) rfl, rfl⟩)) rfl
theorem wp_13 : Cond.selects "DotPress$Setting" ⟨"DotPress$Setting", "numberAhead", "(LDotPress$Table;I)LDotPress$Row;"⟩ ⟨"DotPress$Setting", "numberAhead", "(LDotPress$Table;I)LDotPress$Row;"⟩ ∈ lw_g := lw_in (List.mem_append_left _ (List.mem_map.mpr ⟨(⟨"DotPress$Setting", "numberAhead", "(LDotPress$Table;I)LDotPress$Row;"⟩, _), List.mem_of_getElem? (i := 13) rfl, rfl⟩)) rfl
theorem wp_14 : Cond.selects "DotPress$Setting" ⟨"DotPress$Setting", "find", "(LDotPress$Table;II)LDotPress$Row;"⟩ ⟨"DotPress$Setting", "find", "(LDotPress$Table;II)LDotPress$Row;"⟩ ∈ lw_g := lw_in (List.mem_append_left _ (List.mem_map.mpr ⟨(⟨"DotPress$Setting", "find", "(LDotPress$Table;II)LDotPress$Row;"⟩, _), List.mem_of_getElem? (i := 14) rfl, rfl⟩)) rfl
theorem wp_15 : Cond.selects "DotPress$Setting" ⟨"DotPress$Setting", "countFind", "(I)V"⟩ ⟨"DotPress$Setting", "countFind", "(I)V"⟩ ∈ lw_g := lw_in (List.mem_append_left _ (List.mem_map.mpr ⟨(⟨"DotPress$Setting", "countFind", "(I)V"⟩, _), List.mem_of_getElem? (i := 15) rfl, rfl⟩)) rfl
theorem wp_16 : Cond.selects "DotPress$Setting" ⟨"DotPress$Setting", "findOwn", "(LDotPress$Table;IILDotPress$Row;)LDotPress$Row;"⟩ ⟨"DotPress$Setting", "findOwn", "(LDotPress$Table;IILDotPress$Row;)LDotPress$Row;"⟩ ∈ lw_g := lw_in (List.mem_append_left _ (List.mem_map.mpr ⟨(⟨"DotPress$Setting", "findOwn", "(LDotPress$Table;IILDotPress$Row;)LDotPress$Row;"⟩, _), List.mem_of_getElem? (i := 16) rfl, rfl⟩)) rfl
theorem wp_17 : Cond.selects "DotPress$Setting" ⟨"DotPress$Setting", "fits", "(LDotPress$Row;I)Z"⟩ ⟨"DotPress$Setting", "fits", "(LDotPress$Row;I)Z"⟩ ∈ lw_g := lw_in (List.mem_append_left _ (List.mem_map.mpr ⟨(⟨"DotPress$Setting", "fits", "(LDotPress$Row;I)Z"⟩, _), List.mem_of_getElem? (i := 17) rfl, rfl⟩)) rfl
theorem wp_18 : Cond.selects "DotPress$Setting" ⟨"DotPress$Setting", "markStart", "(II)V"⟩ ⟨"DotPress$Setting", "markStart", "(II)V"⟩ ∈ lw_g := lw_in (List.mem_append_left _ (List.mem_map.mpr ⟨(⟨"DotPress$Setting", "markStart", "(II)V"⟩, _), List.mem_of_getElem? (i := 18) rfl, rfl⟩)) rfl
theorem wp_19 : Cond.selects "DotPress$Setting" ⟨"DotPress$Setting", "push", "(LDotPress$Row;)V"⟩ ⟨"DotPress$Setting", "push", "(LDotPress$Row;)V"⟩ ∈ lw_g := lw_in (List.mem_append_left _ (List.mem_map.mpr ⟨(⟨"DotPress$Setting", "push", "(LDotPress$Row;)V"⟩, _), List.mem_of_getElem? (i := 19) rfl, rfl⟩)) rfl
theorem wp_2 : Cond.selects "DotPress" ⟨"DotPress", "done", "(I)I"⟩ ⟨"DotPress", "done", "(I)I"⟩ ∈ lw_g := lw_in (List.mem_append_left _ (List.mem_map.mpr ⟨(⟨"DotPress", "done", "(I)I"⟩, _), List.mem_of_getElem? (i := 2) rfl, rfl⟩)) rfl
theorem wp_20 : Cond.selects "DotPress$Setting" ⟨"DotPress$Setting", "setTurn", "(LDotPress$Row;I)I"⟩ ⟨"DotPress$Setting", "setTurn", "(LDotPress$Row;I)I"⟩ ∈ lw_g := lw_in (List.mem_append_left _ (List.mem_map.mpr ⟨(⟨"DotPress$Setting", "setTurn", "(LDotPress$Row;I)I"⟩, _), List.mem_of_getElem? (i := 20) rfl, rfl⟩)) rfl
theorem wp_22 : Cond.selects "DotPress" ⟨"DotPress", "refuseAt", "(II)I"⟩ ⟨"DotPress", "refuseAt", "(II)I"⟩ ∈ lw_g := lw_in (List.mem_append_left _ (List.mem_map.mpr ⟨(⟨"DotPress", "refuseAt", "(II)I"⟩, _), List.mem_of_getElem? (i := 22) rfl, rfl⟩)) rfl
theorem wp_3 : Cond.selects "java/util/ArrayList" ⟨"java/util/ArrayList", "add", "(Ljava/lang/Object;[Ljava/lang/Object;I)V"⟩ ⟨"java/util/ArrayList", "add", "(Ljava/lang/Object;[Ljava/lang/Object;I)V"⟩ ∈ lw_g := lw_in (List.mem_append_left _ (List.mem_map.mpr ⟨(⟨"java/util/ArrayList", "add", "(Ljava/lang/Object;[Ljava/lang/Object;I)V"⟩, _), List.mem_of_getElem? (i := 3) rfl, rfl⟩)) rfl
theorem wp_4 : Cond.selects "java/util/ArrayList" ⟨"java/util/ArrayList", "grow", "()[Ljava/lang/Object;"⟩ ⟨"java/util/ArrayList", "grow", "()[Ljava/lang/Object;"⟩ ∈ lw_g := lw_in (List.mem_append_left _ (List.mem_map.mpr ⟨(⟨"java/util/ArrayList", "grow", "()[Ljava/lang/Object;"⟩, _), List.mem_of_getElem? (i := 4) rfl, rfl⟩)) rfl
theorem wp_5 : Cond.selects "java/util/ArrayList" ⟨"java/util/ArrayList", "grow", "(I)[Ljava/lang/Object;"⟩ ⟨"java/util/ArrayList", "grow", "(I)[Ljava/lang/Object;"⟩ ∈ lw_g := lw_in (List.mem_append_left _ (List.mem_map.mpr ⟨(⟨"java/util/ArrayList", "grow", "(I)[Ljava/lang/Object;"⟩, _), List.mem_of_getElem? (i := 5) rfl, rfl⟩)) rfl
theorem ckw_0 : ∀ k, k < 3 → u_lay RJx4a65c TJx4a65c k ∈ lw_g := fun k hk => match k, hk with
  | 0, _ => w1_87
  | 1, _ => w1_83
  | 2, _ => w1_85
  | n + 3, h => absurd h (by omega)
theorem ck_0 : Ck 0 RJx4a65c TJx4a65c 3 tyJx4a65c := ⟨rfl, fun w hw => by obtain ⟨k, hk, e⟩ := List.mem_map.mp hw; rw [← e]; exact ckw_0 k (List.mem_range.mp hk), tyJx4a65c_ok, nmJx4a65c⟩
theorem ckw_2 : ∀ k, k < 3 → u_lay RX1 TX1 k ∈ lw_g := fun k hk => match k, hk with
  | 0, _ => w1_50
  | 1, _ => w1_52
  | 2, _ => w1_54
  | n + 3, h => absurd h (by omega)
theorem ck_2 : Ck 2 RX1 TX1 3 tyX1 := ⟨rfl, fun w hw => by obtain ⟨k, hk, e⟩ := List.mem_map.mp hw; rw [← e]; exact ckw_2 k (List.mem_range.mp hk), tyX1_ok, nmX1⟩
theorem ckw_4 : ∀ k, k < 8 → u_lay RX3 TX3 k ∈ lw_g := fun k hk => match k, hk with
  | 0, _ => w1_203
  | 1, _ => w1_205
  | 2, _ => w1_207
  | 3, _ => w1_209
  | 4, _ => w1_211
  | 5, _ => w1_213
  | 6, _ => w1_215
  | 7, _ => w1_217
  | n + 8, h => absurd h (by omega)
theorem ck_4 : Ck 4 RX3 TX3 8 tyX3 := ⟨rfl, fun w hw => by obtain ⟨k, hk, e⟩ := List.mem_map.mp hw; rw [← e]; exact ckw_4 k (List.mem_range.mp hk), tyX3_ok, nmX3⟩
theorem ckw_6 : ∀ k, k < 4 → u_lay RX5 TX5 k ∈ lw_g := fun k hk => match k, hk with
  | 0, _ => w3_151
  | 1, _ => w3_153
  | 2, _ => w3_155
  | 3, _ => w3_157
  | n + 4, h => absurd h (by omega)
theorem ck_6 : Ck 6 RX5 TX5 4 tyX5 := ⟨rfl, fun w hw => by obtain ⟨k, hk, e⟩ := List.mem_map.mp hw; rw [← e]; exact ckw_6 k (List.mem_range.mp hk), tyX5_ok, nmX5⟩
theorem ckw_7 : ∀ k, k < 12 → u_lay RX6 TX6 k ∈ lw_g := fun k hk => match k, hk with
  | 0, _ => w1_154
  | 1, _ => w1_156
  | 2, _ => w1_158
  | 3, _ => w1_160
  | 4, _ => w1_162
  | 5, _ => w1_164
  | 6, _ => w1_166
  | 7, _ => w1_168
  | 8, _ => w1_170
  | 9, _ => w1_172
  | 10, _ => w1_174
  | 11, _ => w1_176
  | n + 12, h => absurd h (by omega)
theorem ck_7 : Ck 7 RX6 TX6 12 tyX6 := ⟨rfl, fun w hw => by obtain ⟨k, hk, e⟩ := List.mem_map.mp hw; rw [← e]; exact ckw_7 k (List.mem_range.mp hk), tyX6_ok, nmX6⟩
theorem ckw_9 : ∀ k, k < 8 → u_lay RX8 TX8 k ∈ lw_g := fun k hk => match k, hk with
  | 0, _ => w1_112
  | 1, _ => w1_114
  | 2, _ => w1_116
  | 3, _ => w1_118
  | 4, _ => w1_120
  | 5, _ => w1_122
  | 6, _ => w1_124
  | 7, _ => w1_126
  | n + 8, h => absurd h (by omega)
theorem ck_9 : Ck 9 RX8 TX8 8 tyX8 := ⟨rfl, fun w hw => by obtain ⟨k, hk, e⟩ := List.mem_map.mp hw; rw [← e]; exact ckw_9 k (List.mem_range.mp hk), tyX8_ok, nmX8⟩
theorem ckw_10 : ∀ k, k < 8 → u_lay RX9 TX9 k ∈ lw_g := fun k hk => match k, hk with
  | 0, _ => w2_200
  | 1, _ => w2_202
  | 2, _ => w2_204
  | 3, _ => w2_206
  | 4, _ => w2_208
  | 5, _ => w2_210
  | 6, _ => w2_212
  | 7, _ => w2_214
  | n + 8, h => absurd h (by omega)
theorem ck_10 : Ck 10 RX9 TX9 8 tyX9 := ⟨rfl, fun w hw => by obtain ⟨k, hk, e⟩ := List.mem_map.mp hw; rw [← e]; exact ckw_10 k (List.mem_range.mp hk), tyX9_ok, nmX9⟩
theorem ckw_11 : ∀ k, k < 2 → u_lay RX10 TX10 k ∈ lw_g := fun k hk => match k, hk with
  | 0, _ => w1_92
  | 1, _ => w1_94
  | n + 2, h => absurd h (by omega)
theorem ck_11 : Ck 11 RX10 TX10 2 tyX10 := ⟨rfl, fun w hw => by obtain ⟨k, hk, e⟩ := List.mem_map.mp hw; rw [← e]; exact ckw_11 k (List.mem_range.mp hk), tyX10_ok, nmX10⟩
theorem ckw_12 : ∀ k, k < 19 → u_lay RX11 TX11 k ∈ lw_g := fun k hk => match k, hk with
  | 0, _ => w2_63
  | 1, _ => w2_65
  | 2, _ => w2_67
  | 3, _ => w2_69
  | 4, _ => w2_71
  | 5, _ => w2_73
  | 6, _ => w2_75
  | 7, _ => w2_77
  | 8, _ => w2_79
  | 9, _ => w2_81
  | 10, _ => w2_83
  | 11, _ => w2_85
  | 12, _ => w2_87
  | 13, _ => w2_89
  | 14, _ => w2_91
  | 15, _ => w2_93
  | 16, _ => w2_95
  | 17, _ => w2_97
  | 18, _ => w2_99
  | n + 19, h => absurd h (by omega)
theorem ck_12 : Ck 12 RX11 TX11 19 tyX11 := ⟨rfl, fun w hw => by obtain ⟨k, hk, e⟩ := List.mem_map.mp hw; rw [← e]; exact ckw_12 k (List.mem_range.mp hk), tyX11_ok, nmX11⟩
