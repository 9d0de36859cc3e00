theorem mT1 {w : Cond} (h : w ∈ tables_1_1) : w ∈ lw_tbl := List.mem_append_right _ (show w ∈ tables_1 from List.mem_append_left _ h)
theorem mT2 {w : Cond} (h : w ∈ tables_1_2) : w ∈ lw_tbl := List.mem_append_right _ (show w ∈ tables_1 from List.mem_append_right _ (List.mem_append_left _ h))
theorem mT3 {w : Cond} (h : w ∈ tables_1_3) : w ∈ lw_tbl := List.mem_append_right _ (show w ∈ tables_1 from List.mem_append_right _ (List.mem_append_right _ (List.mem_append_left _ h)))
theorem mT4 {w : Cond} (h : w ∈ tables_1_4) : w ∈ lw_tbl := List.mem_append_right _ (show w ∈ tables_1 from List.mem_append_right _ (List.mem_append_right _ (List.mem_append_right _ (List.mem_append_left _ h))))
theorem mT5 {w : Cond} (h : w ∈ tables_1_5) : w ∈ lw_tbl := List.mem_append_right _ (show w ∈ tables_1 from List.mem_append_right _ (List.mem_append_right _ (List.mem_append_right _ (List.mem_append_right _ (List.mem_append_left _ h)))))
theorem mT6 {w : Cond} (h : w ∈ tables_1_6) : w ∈ lw_tbl := List.mem_append_right _ (show w ∈ tables_1 from List.mem_append_right _ (List.mem_append_right _ (List.mem_append_right _ (List.mem_append_right _ (List.mem_append_right _ (List.mem_append_left _ h))))))
theorem mT7 {w : Cond} (h : w ∈ tables_1_7) : w ∈ lw_tbl := List.mem_append_right _ (show w ∈ tables_1 from List.mem_append_right _ (List.mem_append_right _ (List.mem_append_right _ (List.mem_append_right _ (List.mem_append_right _ (List.mem_append_right _ (List.mem_append_left _ h)))))))
theorem mT8 {w : Cond} (h : w ∈ tables_1_8) : w ∈ lw_tbl := List.mem_append_right _ (show w ∈ tables_1 from List.mem_append_right _ (List.mem_append_right _ (List.mem_append_right _ (List.mem_append_right _ (List.mem_append_right _ (List.mem_append_right _ (List.mem_append_right _ (h))))))))
theorem w1_1t : (Jvm.Cond.initialized "DotPress") ∈ lw_tbl := mT1 (List.mem_of_getElem? (i := 1) rfl)
theorem w1_1 : (Jvm.Cond.initialized "DotPress") ∈ lw_g := lw_in w1_1t rfl
theorem w1_10t : (Jvm.Cond.initialized "DotPress$Readings") ∈ lw_tbl := mT1 (List.mem_of_getElem? (i := 10) rfl)
theorem w1_10 : (Jvm.Cond.initialized "DotPress$Readings") ∈ lw_g := lw_in w1_10t rfl
theorem w1_100t : (Jvm.Cond.instanceMethod ({ cls := "DotPress$Source", name := "<init>", desc := "()V" } : Jvm.MethodName)) ∈ lw_tbl := mT1 (List.mem_of_getElem? (i := 100) rfl)
theorem w1_100 : (Jvm.Cond.instanceMethod ({ cls := "DotPress$Source", name := "<init>", desc := "()V" } : Jvm.MethodName)) ∈ lw_g := lw_in w1_100t rfl
theorem w1_101t : (Jvm.Cond.code ({ cls := "DotPress$Source", name := "<init>", desc := "()V" } : Jvm.MethodName) prog_10_method_1_code (1 : Nat) (Option.none : Option Jvm.ClassFile.FieldType)) ∈ lw_tbl := mT1 (List.mem_of_getElem? (i := 101) rfl)
theorem w1_101 : (Jvm.Cond.code ({ cls := "DotPress$Source", name := "<init>", desc := "()V" } : Jvm.MethodName) prog_10_method_1_code (1 : Nat) (Option.none : Option Jvm.ClassFile.FieldType)) ∈ lw_g := lw_in w1_101t rfl
theorem w1_102t : (Jvm.Cond.methodLink "DotPress$Source" (3 : Nat) ({ cls := "java/lang/Object", name := "<init>", desc := "()V" } : Jvm.MethodName)) ∈ lw_tbl := mT1 (List.mem_of_getElem? (i := 102) rfl)
theorem w1_102 : (Jvm.Cond.methodLink "DotPress$Source" (3 : Nat) ({ cls := "java/lang/Object", name := "<init>", desc := "()V" } : Jvm.MethodName)) ∈ lw_g := lw_in w1_102t rfl
theorem w1_103t : (Jvm.Cond.fieldLink "DotPress$Source" (9 : Nat) "DotPress$Source" "at" "I") ∈ lw_tbl := mT1 (List.mem_of_getElem? (i := 103) rfl)
theorem w1_103 : (Jvm.Cond.fieldLink "DotPress$Source" (9 : Nat) "DotPress$Source" "at" "I") ∈ lw_g := lw_in w1_103t rfl
theorem w1_104t : (Jvm.Cond.fieldLink "DotPress$Source" (15 : Nat) "DotPress$Source" "inLine" "Z") ∈ lw_tbl := mT1 (List.mem_of_getElem? (i := 104) rfl)
theorem w1_104 : (Jvm.Cond.fieldLink "DotPress$Source" (15 : Nat) "DotPress$Source" "inLine" "Z") ∈ lw_g := lw_in w1_104t rfl
theorem w1_105t : (Jvm.Cond.fieldLink "DotPress$Source" (19 : Nat) "DotPress$Source" "centred" "Z") ∈ lw_tbl := mT1 (List.mem_of_getElem? (i := 105) rfl)
theorem w1_105 : (Jvm.Cond.fieldLink "DotPress$Source" (19 : Nat) "DotPress$Source" "centred" "Z") ∈ lw_g := lw_in w1_105t rfl
theorem w1_107t : (Jvm.Cond.fieldLink "DotPress$Source" (22 : Nat) "DotPress$Source" "isSpelt" "[Z") ∈ lw_tbl := mT1 (List.mem_of_getElem? (i := 107) rfl)
theorem w1_107 : (Jvm.Cond.fieldLink "DotPress$Source" (22 : Nat) "DotPress$Source" "isSpelt" "[Z") ∈ lw_g := lw_in w1_107t rfl
theorem w1_108t : (Jvm.Cond.fieldLink "DotPress$Source" (26 : Nat) "DotPress$Source" "alphabet" "[I") ∈ lw_tbl := mT1 (List.mem_of_getElem? (i := 108) rfl)
theorem w1_108 : (Jvm.Cond.fieldLink "DotPress$Source" (26 : Nat) "DotPress$Source" "alphabet" "[I") ∈ lw_g := lw_in w1_108t rfl
theorem w1_109t : (Jvm.Cond.fieldLink "DotPress$Source" (30 : Nat) "DotPress$Source" "alphabetSize" "I") ∈ lw_tbl := mT1 (List.mem_of_getElem? (i := 109) rfl)
theorem w1_109 : (Jvm.Cond.fieldLink "DotPress$Source" (30 : Nat) "DotPress$Source" "alphabetSize" "I") ∈ lw_g := lw_in w1_109t rfl
theorem w1_11t : (Jvm.Cond.initialized "DotPress$Sheet") ∈ lw_tbl := mT1 (List.mem_of_getElem? (i := 11) rfl)
theorem w1_11 : (Jvm.Cond.initialized "DotPress$Sheet") ∈ lw_g := lw_in w1_11t rfl
theorem w1_110t : (Jvm.Cond.fieldLink "DotPress$Source" (33 : Nat) "DotPress$Source" "turns" "[I") ∈ lw_tbl := mT1 (List.mem_of_getElem? (i := 110) rfl)
theorem w1_110 : (Jvm.Cond.fieldLink "DotPress$Source" (33 : Nat) "DotPress$Source" "turns" "[I") ∈ lw_g := lw_in w1_110t rfl
theorem w1_111t : (Jvm.Cond.fieldLink "DotPress$Source" (36 : Nat) "DotPress$Source" "spelling" "I") ∈ lw_tbl := mT1 (List.mem_of_getElem? (i := 111) rfl)
theorem w1_111 : (Jvm.Cond.fieldLink "DotPress$Source" (36 : Nat) "DotPress$Source" "spelling" "I") ∈ lw_g := lw_in w1_111t rfl
theorem w1_112t : (Jvm.Cond.lays "DotPress$Source" "DotPress$Source" "at" "I") ∈ lw_tbl := mT1 (List.mem_of_getElem? (i := 112) rfl)
theorem w1_112 : (Jvm.Cond.lays "DotPress$Source" "DotPress$Source" "at" "I") ∈ lw_g := lw_in w1_112t rfl
theorem w1_114t : (Jvm.Cond.lays "DotPress$Source" "DotPress$Source" "inLine" "Z") ∈ lw_tbl := mT1 (List.mem_of_getElem? (i := 114) rfl)
theorem w1_114 : (Jvm.Cond.lays "DotPress$Source" "DotPress$Source" "inLine" "Z") ∈ lw_g := lw_in w1_114t rfl
theorem w1_116t : (Jvm.Cond.lays "DotPress$Source" "DotPress$Source" "centred" "Z") ∈ lw_tbl := mT1 (List.mem_of_getElem? (i := 116) rfl)
theorem w1_116 : (Jvm.Cond.lays "DotPress$Source" "DotPress$Source" "centred" "Z") ∈ lw_g := lw_in w1_116t rfl
theorem w1_118t : (Jvm.Cond.laysFinal "DotPress$Source" "DotPress$Source" "isSpelt" "[Z") ∈ lw_tbl := mT1 (List.mem_of_getElem? (i := 118) rfl)
theorem w1_118 : (Jvm.Cond.laysFinal "DotPress$Source" "DotPress$Source" "isSpelt" "[Z") ∈ lw_g := lw_in w1_118t rfl
theorem w1_12t : (Jvm.Cond.initialized "DotPressModel") ∈ lw_tbl := mT1 (List.mem_of_getElem? (i := 12) rfl)
theorem w1_12 : (Jvm.Cond.initialized "DotPressModel") ∈ lw_g := lw_in w1_12t rfl
theorem w1_120t : (Jvm.Cond.laysFinal "DotPress$Source" "DotPress$Source" "alphabet" "[I") ∈ lw_tbl := mT1 (List.mem_of_getElem? (i := 120) rfl)
theorem w1_120 : (Jvm.Cond.laysFinal "DotPress$Source" "DotPress$Source" "alphabet" "[I") ∈ lw_g := lw_in w1_120t rfl
theorem w1_122t : (Jvm.Cond.lays "DotPress$Source" "DotPress$Source" "alphabetSize" "I") ∈ lw_tbl := mT1 (List.mem_of_getElem? (i := 122) rfl)
theorem w1_122 : (Jvm.Cond.lays "DotPress$Source" "DotPress$Source" "alphabetSize" "I") ∈ lw_g := lw_in w1_122t rfl
theorem w1_124t : (Jvm.Cond.laysFinal "DotPress$Source" "DotPress$Source" "turns" "[I") ∈ lw_tbl := mT1 (List.mem_of_getElem? (i := 124) rfl)
theorem w1_124 : (Jvm.Cond.laysFinal "DotPress$Source" "DotPress$Source" "turns" "[I") ∈ lw_g := lw_in w1_124t rfl
theorem w1_126t : (Jvm.Cond.lays "DotPress$Source" "DotPress$Source" "spelling" "I") ∈ lw_tbl := mT1 (List.mem_of_getElem? (i := 126) rfl)
theorem w1_126 : (Jvm.Cond.lays "DotPress$Source" "DotPress$Source" "spelling" "I") ∈ lw_g := lw_in w1_126t rfl
theorem w1_129t : (Jvm.Cond.arrayClass Jvm.ClassFile.FieldType.boolean) ∈ lw_tbl := mT1 (List.mem_of_getElem? (i := 129) rfl)
theorem w1_129 : (Jvm.Cond.arrayClass Jvm.ClassFile.FieldType.boolean) ∈ lw_g := lw_in w1_129t rfl
theorem w1_13t : (Jvm.Cond.initialized "java/util/Arrays") ∈ lw_tbl := mT1 (List.mem_of_getElem? (i := 13) rfl)
theorem w1_13 : (Jvm.Cond.initialized "java/util/Arrays") ∈ lw_g := lw_in w1_13t rfl
theorem w1_130t : (Jvm.Cond.classLink "DotPress" (41 : Nat) "DotPress$Setting") ∈ lw_tbl := mT1 (List.mem_of_getElem? (i := 130) rfl)
theorem w1_130 : (Jvm.Cond.classLink "DotPress" (41 : Nat) "DotPress$Setting") ∈ lw_g := lw_in w1_130t rfl
theorem w1_131t : (Jvm.Cond.instantiable "DotPress$Setting" (12 : Nat)) ∈ lw_tbl := mT1 (List.mem_of_getElem? (i := 131) rfl)
theorem w1_131 : (Jvm.Cond.instantiable "DotPress$Setting" (12 : Nat)) ∈ lw_g := lw_in w1_131t rfl
theorem w1_132t : (Jvm.Cond.methodLinkNest "DotPress" (43 : Nat) ({ cls := "DotPress$Setting", name := "<init>", desc := "()V" } : Jvm.MethodName) "DotPress") ∈ lw_tbl := mT1 (List.mem_of_getElem? (i := 132) rfl)
theorem w1_133t : (Jvm.Cond.instanceMethod ({ cls := "DotPress$Setting", name := "<init>", desc := "()V" } : Jvm.MethodName)) ∈ lw_tbl := mT1 (List.mem_of_getElem? (i := 133) rfl)
theorem w1_133 : (Jvm.Cond.instanceMethod ({ cls := "DotPress$Setting", name := "<init>", desc := "()V" } : Jvm.MethodName)) ∈ lw_g := lw_in w1_133t rfl
theorem w1_134t : (Jvm.Cond.code ({ cls := "DotPress$Setting", name := "<init>", desc := "()V" } : Jvm.MethodName) prog_8_method_1_code (1 : Nat) (Option.none : Option Jvm.ClassFile.FieldType)) ∈ lw_tbl := mT1 (List.mem_of_getElem? (i := 134) rfl)
theorem w1_134 : (Jvm.Cond.code ({ cls := "DotPress$Setting", name := "<init>", desc := "()V" } : Jvm.MethodName) prog_8_method_1_code (1 : Nat) (Option.none : Option Jvm.ClassFile.FieldType)) ∈ lw_g := lw_in w1_134t rfl
theorem w1_135t : (Jvm.Cond.methodLink "DotPress$Setting" (3 : Nat) ({ cls := "java/lang/Object", name := "<init>", desc := "()V" } : Jvm.MethodName)) ∈ lw_tbl := mT1 (List.mem_of_getElem? (i := 135) rfl)
theorem w1_135 : (Jvm.Cond.methodLink "DotPress$Setting" (3 : Nat) ({ cls := "java/lang/Object", name := "<init>", desc := "()V" } : Jvm.MethodName)) ∈ lw_g := lw_in w1_135t rfl
theorem w1_136t : (Jvm.Cond.fieldLink "DotPress$Setting" (9 : Nat) "DotPress$Setting" "letters" "[I") ∈ lw_tbl := mT1 (List.mem_of_getElem? (i := 136) rfl)
theorem w1_136 : (Jvm.Cond.fieldLink "DotPress$Setting" (9 : Nat) "DotPress$Setting" "letters" "[I") ∈ lw_g := lw_in w1_136t rfl
theorem w1_137t : (Jvm.Cond.fieldLink "DotPress$Setting" (15 : Nat) "DotPress$Setting" "places" "[I") ∈ lw_tbl := mT1 (List.mem_of_getElem? (i := 137) rfl)
theorem w1_137 : (Jvm.Cond.fieldLink "DotPress$Setting" (15 : Nat) "DotPress$Setting" "places" "[I") ∈ lw_g := lw_in w1_137t rfl
theorem w1_138t : (Jvm.Cond.fieldLink "DotPress$Setting" (18 : Nat) "DotPress$Setting" "breaks" "[Z") ∈ lw_tbl := mT1 (List.mem_of_getElem? (i := 138) rfl)
theorem w1_138 : (Jvm.Cond.fieldLink "DotPress$Setting" (18 : Nat) "DotPress$Setting" "breaks" "[Z") ∈ lw_g := lw_in w1_138t rfl
theorem w1_139t : (Jvm.Cond.fieldLink "DotPress$Setting" (22 : Nat) "DotPress$Setting" "starts" "[I") ∈ lw_tbl := mT1 (List.mem_of_getElem? (i := 139) rfl)
theorem w1_139 : (Jvm.Cond.fieldLink "DotPress$Setting" (22 : Nat) "DotPress$Setting" "starts" "[I") ∈ lw_g := lw_in w1_139t rfl
theorem w1_14t : (Jvm.Cond.initialized "java/lang/Math") ∈ lw_tbl := mT1 (List.mem_of_getElem? (i := 14) rfl)
theorem w1_14 : (Jvm.Cond.initialized "java/lang/Math") ∈ lw_g := lw_in w1_14t rfl
theorem w1_140t : (Jvm.Cond.fieldLink "DotPress$Setting" (25 : Nat) "DotPress$Setting" "size" "I") ∈ lw_tbl := mT1 (List.mem_of_getElem? (i := 140) rfl)
theorem w1_140 : (Jvm.Cond.fieldLink "DotPress$Setting" (25 : Nat) "DotPress$Setting" "size" "I") ∈ lw_g := lw_in w1_140t rfl
theorem w1_143t : (Jvm.Cond.fieldLink "DotPress$Setting" (29 : Nat) "DotPress$Setting" "breakComes" "Z") ∈ lw_tbl := mT1 (List.mem_of_getElem? (i := 143) rfl)
theorem w1_143 : (Jvm.Cond.fieldLink "DotPress$Setting" (29 : Nat) "DotPress$Setting" "breakComes" "Z") ∈ lw_g := lw_in w1_143t rfl
theorem w1_144t : (Jvm.Cond.fieldLink "DotPress$Setting" (33 : Nat) "DotPress$Setting" "cells" "[I") ∈ lw_tbl := mT1 (List.mem_of_getElem? (i := 144) rfl)
theorem w1_144 : (Jvm.Cond.fieldLink "DotPress$Setting" (33 : Nat) "DotPress$Setting" "cells" "[I") ∈ lw_g := lw_in w1_144t rfl
theorem w1_147t : (Jvm.Cond.fieldLink "DotPress$Setting" (36 : Nat) "DotPress$Setting" "count" "I") ∈ lw_tbl := mT1 (List.mem_of_getElem? (i := 147) rfl)
theorem w1_147 : (Jvm.Cond.fieldLink "DotPress$Setting" (36 : Nat) "DotPress$Setting" "count" "I") ∈ lw_g := lw_in w1_147t rfl
theorem w1_15t : (Jvm.Cond.initialized "java/lang/System") ∈ lw_tbl := mT1 (List.mem_of_getElem? (i := 15) rfl)
theorem w1_15 : (Jvm.Cond.initialized "java/lang/System") ∈ lw_g := lw_in w1_15t rfl
theorem w1_150t : (Jvm.Cond.fieldLink "DotPress$Setting" (39 : Nat) "DotPress$Setting" "finds" "[I") ∈ lw_tbl := mT1 (List.mem_of_getElem? (i := 150) rfl)
theorem w1_150 : (Jvm.Cond.fieldLink "DotPress$Setting" (39 : Nat) "DotPress$Setting" "finds" "[I") ∈ lw_g := lw_in w1_150t rfl
theorem w1_151t : (Jvm.Cond.fieldLink "DotPress$Setting" (42 : Nat) "DotPress$Setting" "unknown" "I") ∈ lw_tbl := mT1 (List.mem_of_getElem? (i := 151) rfl)
theorem w1_151 : (Jvm.Cond.fieldLink "DotPress$Setting" (42 : Nat) "DotPress$Setting" "unknown" "I") ∈ lw_g := lw_in w1_151t rfl
theorem w1_152t : (Jvm.Cond.fieldLink "DotPress$Setting" (45 : Nat) "DotPress$Setting" "partBegin" "I") ∈ lw_tbl := mT1 (List.mem_of_getElem? (i := 152) rfl)
theorem w1_152 : (Jvm.Cond.fieldLink "DotPress$Setting" (45 : Nat) "DotPress$Setting" "partBegin" "I") ∈ lw_g := lw_in w1_152t rfl
theorem w1_153t : (Jvm.Cond.fieldLink "DotPress$Setting" (48 : Nat) "DotPress$Setting" "partEnd" "I") ∈ lw_tbl := mT1 (List.mem_of_getElem? (i := 153) rfl)
theorem w1_153 : (Jvm.Cond.fieldLink "DotPress$Setting" (48 : Nat) "DotPress$Setting" "partEnd" "I") ∈ lw_g := lw_in w1_153t rfl
theorem w1_154t : (Jvm.Cond.laysFinal "DotPress$Setting" "DotPress$Setting" "letters" "[I") ∈ lw_tbl := mT1 (List.mem_of_getElem? (i := 154) rfl)
theorem w1_154 : (Jvm.Cond.laysFinal "DotPress$Setting" "DotPress$Setting" "letters" "[I") ∈ lw_g := lw_in w1_154t rfl
theorem w1_156t : (Jvm.Cond.laysFinal "DotPress$Setting" "DotPress$Setting" "places" "[I") ∈ lw_tbl := mT1 (List.mem_of_getElem? (i := 156) rfl)
theorem w1_156 : (Jvm.Cond.laysFinal "DotPress$Setting" "DotPress$Setting" "places" "[I") ∈ lw_g := lw_in w1_156t rfl
theorem w1_158t : (Jvm.Cond.laysFinal "DotPress$Setting" "DotPress$Setting" "breaks" "[Z") ∈ lw_tbl := mT1 (List.mem_of_getElem? (i := 158) rfl)
theorem w1_158 : (Jvm.Cond.laysFinal "DotPress$Setting" "DotPress$Setting" "breaks" "[Z") ∈ lw_g := lw_in w1_158t rfl
theorem w1_16t : (Jvm.Cond.initialized "DotPress$Table") ∈ lw_tbl := mT1 (List.mem_of_getElem? (i := 16) rfl)
theorem w1_16 : (Jvm.Cond.initialized "DotPress$Table") ∈ lw_g := lw_in w1_16t rfl
theorem w1_160t : (Jvm.Cond.laysFinal "DotPress$Setting" "DotPress$Setting" "starts" "[I") ∈ lw_tbl := mT1 (List.mem_of_getElem? (i := 160) rfl)
theorem w1_160 : (Jvm.Cond.laysFinal "DotPress$Setting" "DotPress$Setting" "starts" "[I") ∈ lw_g := lw_in w1_160t rfl
theorem w1_162t : (Jvm.Cond.lays "DotPress$Setting" "DotPress$Setting" "size" "I") ∈ lw_tbl := mT1 (List.mem_of_getElem? (i := 162) rfl)
theorem w1_162 : (Jvm.Cond.lays "DotPress$Setting" "DotPress$Setting" "size" "I") ∈ lw_g := lw_in w1_162t rfl
theorem w1_164t : (Jvm.Cond.lays "DotPress$Setting" "DotPress$Setting" "breakComes" "Z") ∈ lw_tbl := mT1 (List.mem_of_getElem? (i := 164) rfl)
theorem w1_164 : (Jvm.Cond.lays "DotPress$Setting" "DotPress$Setting" "breakComes" "Z") ∈ lw_g := lw_in w1_164t rfl
theorem w1_166t : (Jvm.Cond.laysFinal "DotPress$Setting" "DotPress$Setting" "cells" "[I") ∈ lw_tbl := mT1 (List.mem_of_getElem? (i := 166) rfl)
theorem w1_166 : (Jvm.Cond.laysFinal "DotPress$Setting" "DotPress$Setting" "cells" "[I") ∈ lw_g := lw_in w1_166t rfl
theorem w1_168t : (Jvm.Cond.lays "DotPress$Setting" "DotPress$Setting" "count" "I") ∈ lw_tbl := mT1 (List.mem_of_getElem? (i := 168) rfl)
theorem w1_168 : (Jvm.Cond.lays "DotPress$Setting" "DotPress$Setting" "count" "I") ∈ lw_g := lw_in w1_168t rfl
theorem w1_170t : (Jvm.Cond.laysFinal "DotPress$Setting" "DotPress$Setting" "finds" "[I") ∈ lw_tbl := mT1 (List.mem_of_getElem? (i := 170) rfl)
theorem w1_170 : (Jvm.Cond.laysFinal "DotPress$Setting" "DotPress$Setting" "finds" "[I") ∈ lw_g := lw_in w1_170t rfl
theorem w1_172t : (Jvm.Cond.lays "DotPress$Setting" "DotPress$Setting" "unknown" "I") ∈ lw_tbl := mT1 (List.mem_of_getElem? (i := 172) rfl)
theorem w1_172 : (Jvm.Cond.lays "DotPress$Setting" "DotPress$Setting" "unknown" "I") ∈ lw_g := lw_in w1_172t rfl
theorem w1_174t : (Jvm.Cond.lays "DotPress$Setting" "DotPress$Setting" "partBegin" "I") ∈ lw_tbl := mT1 (List.mem_of_getElem? (i := 174) rfl)
theorem w1_174 : (Jvm.Cond.lays "DotPress$Setting" "DotPress$Setting" "partBegin" "I") ∈ lw_g := lw_in w1_174t rfl
theorem w1_176t : (Jvm.Cond.lays "DotPress$Setting" "DotPress$Setting" "partEnd" "I") ∈ lw_tbl := mT1 (List.mem_of_getElem? (i := 176) rfl)
theorem w1_176 : (Jvm.Cond.lays "DotPress$Setting" "DotPress$Setting" "partEnd" "I") ∈ lw_g := lw_in w1_176t rfl
theorem w1_179t : (Jvm.Cond.classLink "DotPress" (48 : Nat) "DotPress$Reader") ∈ lw_tbl := mT1 (List.mem_of_getElem? (i := 179) rfl)
theorem w1_179 : (Jvm.Cond.classLink "DotPress" (48 : Nat) "DotPress$Reader") ∈ lw_g := lw_in w1_179t rfl
theorem w1_18t : (Jvm.Cond.initialized "DotPress$Change") ∈ lw_tbl := mT1 (List.mem_of_getElem? (i := 18) rfl)
theorem w1_18 : (Jvm.Cond.initialized "DotPress$Change") ∈ lw_g := lw_in w1_18t rfl
theorem w1_180t : (Jvm.Cond.instantiable "DotPress$Reader" (8 : Nat)) ∈ lw_tbl := mT1 (List.mem_of_getElem? (i := 180) rfl)
theorem w1_180 : (Jvm.Cond.instantiable "DotPress$Reader" (8 : Nat)) ∈ lw_g := lw_in w1_180t rfl
theorem w1_181t : (Jvm.Cond.methodLinkNest "DotPress" (50 : Nat) ({ cls := "DotPress$Reader", name := "<init>", desc := "()V" } : Jvm.MethodName) "DotPress") ∈ lw_tbl := mT1 (List.mem_of_getElem? (i := 181) rfl)
theorem w1_182t : (Jvm.Cond.instanceMethod ({ cls := "DotPress$Reader", name := "<init>", desc := "()V" } : Jvm.MethodName)) ∈ lw_tbl := mT1 (List.mem_of_getElem? (i := 182) rfl)
theorem w1_182 : (Jvm.Cond.instanceMethod ({ cls := "DotPress$Reader", name := "<init>", desc := "()V" } : Jvm.MethodName)) ∈ lw_g := lw_in w1_182t rfl
theorem w1_183t : (Jvm.Cond.code ({ cls := "DotPress$Reader", name := "<init>", desc := "()V" } : Jvm.MethodName) prog_5_method_1_code (1 : Nat) (Option.none : Option Jvm.ClassFile.FieldType)) ∈ lw_tbl := mT1 (List.mem_of_getElem? (i := 183) rfl)
theorem w1_183 : (Jvm.Cond.code ({ cls := "DotPress$Reader", name := "<init>", desc := "()V" } : Jvm.MethodName) prog_5_method_1_code (1 : Nat) (Option.none : Option Jvm.ClassFile.FieldType)) ∈ lw_g := lw_in w1_183t rfl
theorem w1_184t : (Jvm.Cond.methodLink "DotPress$Reader" (3 : Nat) ({ cls := "java/lang/Object", name := "<init>", desc := "()V" } : Jvm.MethodName)) ∈ lw_tbl := mT1 (List.mem_of_getElem? (i := 184) rfl)
theorem w1_184 : (Jvm.Cond.methodLink "DotPress$Reader" (3 : Nat) ({ cls := "java/lang/Object", name := "<init>", desc := "()V" } : Jvm.MethodName)) ∈ lw_g := lw_in w1_184t rfl
theorem w1_185t : (Jvm.Cond.classLink "DotPress$Reader" (9 : Nat) "java/util/ArrayList") ∈ lw_tbl := mT1 (List.mem_of_getElem? (i := 185) rfl)
theorem w1_185 : (Jvm.Cond.classLink "DotPress$Reader" (9 : Nat) "java/util/ArrayList") ∈ lw_g := lw_in w1_185t rfl
theorem w1_186t : (Jvm.Cond.methodLink "DotPress$Reader" (11 : Nat) ({ cls := "java/util/ArrayList", name := "<init>", desc := "()V" } : Jvm.MethodName)) ∈ lw_tbl := mT1 (List.mem_of_getElem? (i := 186) rfl)
theorem w1_186 : (Jvm.Cond.methodLink "DotPress$Reader" (11 : Nat) ({ cls := "java/util/ArrayList", name := "<init>", desc := "()V" } : Jvm.MethodName)) ∈ lw_g := lw_in w1_186t rfl
theorem w1_187t : (Jvm.Cond.classLink "DotPress$Reader" (21 : Nat) "DotPress$Ints") ∈ lw_tbl := mT1 (List.mem_of_getElem? (i := 187) rfl)
theorem w1_187 : (Jvm.Cond.classLink "DotPress$Reader" (21 : Nat) "DotPress$Ints") ∈ lw_g := lw_in w1_187t rfl
theorem w1_188t : (Jvm.Cond.methodLink "DotPress$Reader" (23 : Nat) ({ cls := "DotPress$Ints", name := "<init>", desc := "(I)V" } : Jvm.MethodName)) ∈ lw_tbl := mT1 (List.mem_of_getElem? (i := 188) rfl)
theorem w1_188 : (Jvm.Cond.methodLink "DotPress$Reader" (23 : Nat) ({ cls := "DotPress$Ints", name := "<init>", desc := "(I)V" } : Jvm.MethodName)) ∈ lw_g := lw_in w1_188t rfl
theorem w1_189t : (Jvm.Cond.constant "DotPress$Reader" (33 : Nat) (40200 : Int32)) ∈ lw_tbl := mT1 (List.mem_of_getElem? (i := 189) rfl)
theorem w1_189 : (Jvm.Cond.constant "DotPress$Reader" (33 : Nat) (40200 : Int32)) ∈ lw_g := lw_in w1_189t rfl
theorem w1_190t : (Jvm.Cond.fieldLink "DotPress$Reader" (12 : Nat) "DotPress$Reader" "first" "Ljava/util/ArrayList;") ∈ lw_tbl := mT1 (List.mem_of_getElem? (i := 190) rfl)
theorem w1_190 : (Jvm.Cond.fieldLink "DotPress$Reader" (12 : Nat) "DotPress$Reader" "first" "Ljava/util/ArrayList;") ∈ lw_g := lw_in w1_190t rfl
theorem w1_193t : (Jvm.Cond.fieldLink "DotPress$Reader" (18 : Nat) "DotPress$Reader" "second" "Ljava/util/ArrayList;") ∈ lw_tbl := mT1 (List.mem_of_getElem? (i := 193) rfl)
theorem w1_193 : (Jvm.Cond.fieldLink "DotPress$Reader" (18 : Nat) "DotPress$Reader" "second" "Ljava/util/ArrayList;") ∈ lw_g := lw_in w1_193t rfl
theorem w1_196t : (Jvm.Cond.fieldLink "DotPress$Reader" (26 : Nat) "DotPress$Reader" "firstBegins" "LDotPress$Ints;") ∈ lw_tbl := mT1 (List.mem_of_getElem? (i := 196) rfl)
theorem w1_196 : (Jvm.Cond.fieldLink "DotPress$Reader" (26 : Nat) "DotPress$Reader" "firstBegins" "LDotPress$Ints;") ∈ lw_g := lw_in w1_196t rfl
theorem w1_197t : (Jvm.Cond.fieldLink "DotPress$Reader" (30 : Nat) "DotPress$Reader" "secondBegins" "LDotPress$Ints;") ∈ lw_tbl := mT1 (List.mem_of_getElem? (i := 197) rfl)
theorem w1_197 : (Jvm.Cond.fieldLink "DotPress$Reader" (30 : Nat) "DotPress$Reader" "secondBegins" "LDotPress$Ints;") ∈ lw_g := lw_in w1_197t rfl
theorem w1_198t : (Jvm.Cond.fieldLink "DotPress$Reader" (34 : Nat) "DotPress$Reader" "cells" "LDotPress$Ints;") ∈ lw_tbl := mT1 (List.mem_of_getElem? (i := 198) rfl)
theorem w1_198 : (Jvm.Cond.fieldLink "DotPress$Reader" (34 : Nat) "DotPress$Reader" "cells" "LDotPress$Ints;") ∈ lw_g := lw_in w1_198t rfl
theorem w1_199t : (Jvm.Cond.fieldLink "DotPress$Reader" (37 : Nat) "DotPress$Reader" "places" "LDotPress$Ints;") ∈ lw_tbl := mT1 (List.mem_of_getElem? (i := 199) rfl)
theorem w1_199 : (Jvm.Cond.fieldLink "DotPress$Reader" (37 : Nat) "DotPress$Reader" "places" "LDotPress$Ints;") ∈ lw_g := lw_in w1_199t rfl
theorem w1_2t : (Jvm.Cond.initialized "DotPress$Ints") ∈ lw_tbl := mT1 (List.mem_of_getElem? (i := 2) rfl)
theorem w1_2 : (Jvm.Cond.initialized "DotPress$Ints") ∈ lw_g := lw_in w1_2t rfl
theorem w1_200t : (Jvm.Cond.fieldLink "DotPress$Reader" (40 : Nat) "DotPress$Reader" "bytes" "LDotPress$Ints;") ∈ lw_tbl := mT1 (List.mem_of_getElem? (i := 200) rfl)
theorem w1_200 : (Jvm.Cond.fieldLink "DotPress$Reader" (40 : Nat) "DotPress$Reader" "bytes" "LDotPress$Ints;") ∈ lw_g := lw_in w1_200t rfl
theorem w1_202t : (Jvm.Cond.fieldLink "DotPress$Reader" (43 : Nat) "DotPress$Reader" "wrong" "I") ∈ lw_tbl := mT1 (List.mem_of_getElem? (i := 202) rfl)
theorem w1_202 : (Jvm.Cond.fieldLink "DotPress$Reader" (43 : Nat) "DotPress$Reader" "wrong" "I") ∈ lw_g := lw_in w1_202t rfl
theorem w1_203t : (Jvm.Cond.laysFinal "DotPress$Reader" "DotPress$Reader" "first" "Ljava/util/ArrayList;") ∈ lw_tbl := mT1 (List.mem_of_getElem? (i := 203) rfl)
theorem w1_203 : (Jvm.Cond.laysFinal "DotPress$Reader" "DotPress$Reader" "first" "Ljava/util/ArrayList;") ∈ lw_g := lw_in w1_203t rfl
theorem w1_205t : (Jvm.Cond.laysFinal "DotPress$Reader" "DotPress$Reader" "second" "Ljava/util/ArrayList;") ∈ lw_tbl := mT1 (List.mem_of_getElem? (i := 205) rfl)
theorem w1_205 : (Jvm.Cond.laysFinal "DotPress$Reader" "DotPress$Reader" "second" "Ljava/util/ArrayList;") ∈ lw_g := lw_in w1_205t rfl
theorem w1_207t : (Jvm.Cond.laysFinal "DotPress$Reader" "DotPress$Reader" "firstBegins" "LDotPress$Ints;") ∈ lw_tbl := mT1 (List.mem_of_getElem? (i := 207) rfl)
theorem w1_207 : (Jvm.Cond.laysFinal "DotPress$Reader" "DotPress$Reader" "firstBegins" "LDotPress$Ints;") ∈ lw_g := lw_in w1_207t rfl
theorem w1_209t : (Jvm.Cond.laysFinal "DotPress$Reader" "DotPress$Reader" "secondBegins" "LDotPress$Ints;") ∈ lw_tbl := mT1 (List.mem_of_getElem? (i := 209) rfl)
theorem w1_209 : (Jvm.Cond.laysFinal "DotPress$Reader" "DotPress$Reader" "secondBegins" "LDotPress$Ints;") ∈ lw_g := lw_in w1_209t rfl
theorem w1_211t : (Jvm.Cond.laysFinal "DotPress$Reader" "DotPress$Reader" "cells" "LDotPress$Ints;") ∈ lw_tbl := mT1 (List.mem_of_getElem? (i := 211) rfl)
theorem w1_211 : (Jvm.Cond.laysFinal "DotPress$Reader" "DotPress$Reader" "cells" "LDotPress$Ints;") ∈ lw_g := lw_in w1_211t rfl
theorem w1_213t : (Jvm.Cond.laysFinal "DotPress$Reader" "DotPress$Reader" "places" "LDotPress$Ints;") ∈ lw_tbl := mT1 (List.mem_of_getElem? (i := 213) rfl)
theorem w1_213 : (Jvm.Cond.laysFinal "DotPress$Reader" "DotPress$Reader" "places" "LDotPress$Ints;") ∈ lw_g := lw_in w1_213t rfl
theorem w1_215t : (Jvm.Cond.laysFinal "DotPress$Reader" "DotPress$Reader" "bytes" "LDotPress$Ints;") ∈ lw_tbl := mT1 (List.mem_of_getElem? (i := 215) rfl)
theorem w1_215 : (Jvm.Cond.laysFinal "DotPress$Reader" "DotPress$Reader" "bytes" "LDotPress$Ints;") ∈ lw_g := lw_in w1_215t rfl
theorem w1_217t : (Jvm.Cond.lays "DotPress$Reader" "DotPress$Reader" "wrong" "I") ∈ lw_tbl := mT1 (List.mem_of_getElem? (i := 217) rfl)
theorem w1_217 : (Jvm.Cond.lays "DotPress$Reader" "DotPress$Reader" "wrong" "I") ∈ lw_g := lw_in w1_217t rfl
theorem w1_220t : (Jvm.Cond.classLink "DotPress" (55 : Nat) "DotPress$Readings") ∈ lw_tbl := mT1 (List.mem_of_getElem? (i := 220) rfl)
theorem w1_220 : (Jvm.Cond.classLink "DotPress" (55 : Nat) "DotPress$Readings") ∈ lw_g := lw_in w1_220t rfl
theorem w1_221t : (Jvm.Cond.instantiable "DotPress$Readings" (11 : Nat)) ∈ lw_tbl := mT1 (List.mem_of_getElem? (i := 221) rfl)
theorem w1_221 : (Jvm.Cond.instantiable "DotPress$Readings" (11 : Nat)) ∈ lw_g := lw_in w1_221t rfl
theorem w1_222t : (Jvm.Cond.methodLink "DotPress" (57 : Nat) ({ cls := "DotPress$Readings", name := "<init>", desc := "(LDotPress$Reader;)V" } : Jvm.MethodName)) ∈ lw_tbl := mT1 (List.mem_of_getElem? (i := 222) rfl)
theorem w1_222 : (Jvm.Cond.methodLink "DotPress" (57 : Nat) ({ cls := "DotPress$Readings", name := "<init>", desc := "(LDotPress$Reader;)V" } : Jvm.MethodName)) ∈ lw_g := lw_in w1_222t rfl
theorem w1_223t : (Jvm.Cond.instanceMethod ({ cls := "DotPress$Readings", name := "<init>", desc := "(LDotPress$Reader;)V" } : Jvm.MethodName)) ∈ lw_tbl := mT1 (List.mem_of_getElem? (i := 223) rfl)
theorem w1_223 : (Jvm.Cond.instanceMethod ({ cls := "DotPress$Readings", name := "<init>", desc := "(LDotPress$Reader;)V" } : Jvm.MethodName)) ∈ lw_g := lw_in w1_223t rfl
theorem w1_224t : (Jvm.Cond.code ({ cls := "DotPress$Readings", name := "<init>", desc := "(LDotPress$Reader;)V" } : Jvm.MethodName) prog_6_method_1_code (2 : Nat) (Option.none : Option Jvm.ClassFile.FieldType)) ∈ lw_tbl := mT1 (List.mem_of_getElem? (i := 224) rfl)
theorem w1_224 : (Jvm.Cond.code ({ cls := "DotPress$Readings", name := "<init>", desc := "(LDotPress$Reader;)V" } : Jvm.MethodName) prog_6_method_1_code (2 : Nat) (Option.none : Option Jvm.ClassFile.FieldType)) ∈ lw_g := lw_in w1_224t rfl
theorem w1_225t : (Jvm.Cond.methodLink "DotPress$Readings" (3 : Nat) ({ cls := "java/lang/Object", name := "<init>", desc := "()V" } : Jvm.MethodName)) ∈ lw_tbl := mT1 (List.mem_of_getElem? (i := 225) rfl)
theorem w1_225 : (Jvm.Cond.methodLink "DotPress$Readings" (3 : Nat) ({ cls := "java/lang/Object", name := "<init>", desc := "()V" } : Jvm.MethodName)) ∈ lw_g := lw_in w1_225t rfl
theorem w1_226t : (Jvm.Cond.classLink "DotPress$Readings" (25 : Nat) "DotPress$Ints") ∈ lw_tbl := mT1 (List.mem_of_getElem? (i := 226) rfl)
theorem w1_226 : (Jvm.Cond.classLink "DotPress$Readings" (25 : Nat) "DotPress$Ints") ∈ lw_g := lw_in w1_226t rfl
theorem w1_227t : (Jvm.Cond.constant "DotPress$Readings" (27 : Nat) (40000 : Int32)) ∈ lw_tbl := mT1 (List.mem_of_getElem? (i := 227) rfl)
theorem w1_227 : (Jvm.Cond.constant "DotPress$Readings" (27 : Nat) (40000 : Int32)) ∈ lw_g := lw_in w1_227t rfl
theorem w1_228t : (Jvm.Cond.methodLink "DotPress$Readings" (28 : Nat) ({ cls := "DotPress$Ints", name := "<init>", desc := "(I)V" } : Jvm.MethodName)) ∈ lw_tbl := mT1 (List.mem_of_getElem? (i := 228) rfl)
theorem w1_228 : (Jvm.Cond.methodLink "DotPress$Readings" (28 : Nat) ({ cls := "DotPress$Ints", name := "<init>", desc := "(I)V" } : Jvm.MethodName)) ∈ lw_g := lw_in w1_228t rfl
theorem w1_229t : (Jvm.Cond.fieldLink "DotPress$Readings" (9 : Nat) "DotPress$Readings" "canEnd" "[Z") ∈ lw_tbl := mT1 (List.mem_of_getElem? (i := 229) rfl)
theorem w1_229 : (Jvm.Cond.fieldLink "DotPress$Readings" (9 : Nat) "DotPress$Readings" "canEnd" "[Z") ∈ lw_g := lw_in w1_229t rfl
theorem w1_23t : (Jvm.Cond.initialized "java/lang/Integer") ∈ lw_tbl := mT1 (List.mem_of_getElem? (i := 23) rfl)
theorem w1_23 : (Jvm.Cond.initialized "java/lang/Integer") ∈ lw_g := lw_in w1_23t rfl
theorem w1_230t : (Jvm.Cond.fieldLink "DotPress$Readings" (15 : Nat) "DotPress$Readings" "nodes" "[I") ∈ lw_tbl := mT1 (List.mem_of_getElem? (i := 230) rfl)
theorem w1_230 : (Jvm.Cond.fieldLink "DotPress$Readings" (15 : Nat) "DotPress$Readings" "nodes" "[I") ∈ lw_g := lw_in w1_230t rfl
theorem w1_231t : (Jvm.Cond.fieldLink "DotPress$Readings" (19 : Nat) "DotPress$Readings" "choices" "[I") ∈ lw_tbl := mT1 (List.mem_of_getElem? (i := 231) rfl)
theorem w1_231 : (Jvm.Cond.fieldLink "DotPress$Readings" (19 : Nat) "DotPress$Readings" "choices" "[I") ∈ lw_g := lw_in w1_231t rfl
theorem w1_232t : (Jvm.Cond.fieldLink "DotPress$Readings" (22 : Nat) "DotPress$Readings" "ends" "[I") ∈ lw_tbl := mT1 (List.mem_of_getElem? (i := 232) rfl)
theorem w1_232 : (Jvm.Cond.fieldLink "DotPress$Readings" (22 : Nat) "DotPress$Readings" "ends" "[I") ∈ lw_g := lw_in w1_232t rfl
theorem w1_233t : (Jvm.Cond.fieldLink "DotPress$Readings" (31 : Nat) "DotPress$Readings" "bytes" "LDotPress$Ints;") ∈ lw_tbl := mT1 (List.mem_of_getElem? (i := 233) rfl)
theorem w1_233 : (Jvm.Cond.fieldLink "DotPress$Readings" (31 : Nat) "DotPress$Readings" "bytes" "LDotPress$Ints;") ∈ lw_g := lw_in w1_233t rfl
theorem w1_234t : (Jvm.Cond.fieldLink "DotPress$Readings" (35 : Nat) "DotPress$Readings" "count" "I") ∈ lw_tbl := mT1 (List.mem_of_getElem? (i := 234) rfl)
theorem w1_234 : (Jvm.Cond.fieldLink "DotPress$Readings" (35 : Nat) "DotPress$Readings" "count" "I") ∈ lw_g := lw_in w1_234t rfl
theorem w1_236t : (Jvm.Cond.fieldLink "DotPress$Readings" (39 : Nat) "DotPress$Readings" "leftSome" "Z") ∈ lw_tbl := mT1 (List.mem_of_getElem? (i := 236) rfl)
theorem w1_236 : (Jvm.Cond.fieldLink "DotPress$Readings" (39 : Nat) "DotPress$Readings" "leftSome" "Z") ∈ lw_g := lw_in w1_236t rfl
theorem w1_237t : (Jvm.Cond.fieldLink "DotPress" (361 : Nat) "DotPress$Readings" "leftSome" "Z") ∈ lw_tbl := mT1 (List.mem_of_getElem? (i := 237) rfl)
theorem w1_237 : (Jvm.Cond.fieldLink "DotPress" (361 : Nat) "DotPress$Readings" "leftSome" "Z") ∈ lw_g := lw_in w1_237t rfl
theorem w1_238t : (Jvm.Cond.fieldLink "DotPress$Readings" (52 : Nat) "DotPress$Readings" "rows" "LDotPress$Reader;") ∈ lw_tbl := mT1 (List.mem_of_getElem? (i := 238) rfl)
theorem w1_238 : (Jvm.Cond.fieldLink "DotPress$Readings" (52 : Nat) "DotPress$Readings" "rows" "LDotPress$Reader;") ∈ lw_g := lw_in w1_238t rfl
theorem w1_239t : (Jvm.Cond.fieldLink "DotPress$Readings" (43 : Nat) "DotPress$Readings" "cells" "[I") ∈ lw_tbl := mT1 (List.mem_of_getElem? (i := 239) rfl)
theorem w1_239 : (Jvm.Cond.fieldLink "DotPress$Readings" (43 : Nat) "DotPress$Readings" "cells" "[I") ∈ lw_g := lw_in w1_239t rfl
theorem w1_28t : (Jvm.Cond.code ({ cls := "DotPress", name := "<init>", desc := "()V" } : Jvm.MethodName) prog_1_method_1_code (1 : Nat) (Option.none : Option Jvm.ClassFile.FieldType)) ∈ lw_tbl := mT1 (List.mem_of_getElem? (i := 28) rfl)
theorem w1_28 : (Jvm.Cond.code ({ cls := "DotPress", name := "<init>", desc := "()V" } : Jvm.MethodName) prog_1_method_1_code (1 : Nat) (Option.none : Option Jvm.ClassFile.FieldType)) ∈ lw_g := lw_in w1_28t rfl
theorem w1_29t : (Jvm.Cond.methodLink "DotPress" (1 : Nat) ({ cls := "java/lang/Object", name := "<init>", desc := "()V" } : Jvm.MethodName)) ∈ lw_tbl := mT1 (List.mem_of_getElem? (i := 29) rfl)
theorem w1_29 : (Jvm.Cond.methodLink "DotPress" (1 : Nat) ({ cls := "java/lang/Object", name := "<init>", desc := "()V" } : Jvm.MethodName)) ∈ lw_g := lw_in w1_29t rfl
theorem w1_3t : (Jvm.Cond.initialized "DotPress$Tables") ∈ lw_tbl := mT1 (List.mem_of_getElem? (i := 3) rfl)
theorem w1_3 : (Jvm.Cond.initialized "DotPress$Tables") ∈ lw_g := lw_in w1_3t rfl
theorem w1_30t : (Jvm.Cond.instanceMethod ({ cls := "java/lang/Object", name := "<init>", desc := "()V" } : Jvm.MethodName)) ∈ lw_tbl := mT1 (List.mem_of_getElem? (i := 30) rfl)
theorem w1_30 : (Jvm.Cond.instanceMethod ({ cls := "java/lang/Object", name := "<init>", desc := "()V" } : Jvm.MethodName)) ∈ lw_g := lw_in w1_30t rfl
theorem w1_31t : (Jvm.Cond.code ({ cls := "java/lang/Object", name := "<init>", desc := "()V" } : Jvm.MethodName) object_method_1_code (1 : Nat) (Option.none : Option Jvm.ClassFile.FieldType)) ∈ lw_tbl := mT1 (List.mem_of_getElem? (i := 31) rfl)
theorem w1_31 : (Jvm.Cond.code ({ cls := "java/lang/Object", name := "<init>", desc := "()V" } : Jvm.MethodName) object_method_1_code (1 : Nat) (Option.none : Option Jvm.ClassFile.FieldType)) ∈ lw_g := lw_in w1_31t rfl
theorem w1_32t : (Jvm.Cond.classLink "DotPress" (7 : Nat) "DotPress$Ints") ∈ lw_tbl := mT1 (List.mem_of_getElem? (i := 32) rfl)
theorem w1_32 : (Jvm.Cond.classLink "DotPress" (7 : Nat) "DotPress$Ints") ∈ lw_g := lw_in w1_32t rfl
theorem w1_33t : (Jvm.Cond.instantiable "DotPress$Ints" (3 : Nat)) ∈ lw_tbl := mT1 (List.mem_of_getElem? (i := 33) rfl)
theorem w1_33 : (Jvm.Cond.instantiable "DotPress$Ints" (3 : Nat)) ∈ lw_g := lw_in w1_33t rfl
theorem w1_34t : (Jvm.Cond.methodLink "DotPress" (11 : Nat) ({ cls := "DotPress$Ints", name := "<init>", desc := "(I)V" } : Jvm.MethodName)) ∈ lw_tbl := mT1 (List.mem_of_getElem? (i := 34) rfl)
theorem w1_34 : (Jvm.Cond.methodLink "DotPress" (11 : Nat) ({ cls := "DotPress$Ints", name := "<init>", desc := "(I)V" } : Jvm.MethodName)) ∈ lw_g := lw_in w1_34t rfl
theorem w1_35t : (Jvm.Cond.instanceMethod ({ cls := "DotPress$Ints", name := "<init>", desc := "(I)V" } : Jvm.MethodName)) ∈ lw_tbl := mT1 (List.mem_of_getElem? (i := 35) rfl)
theorem w1_35 : (Jvm.Cond.instanceMethod ({ cls := "DotPress$Ints", name := "<init>", desc := "(I)V" } : Jvm.MethodName)) ∈ lw_g := lw_in w1_35t rfl
theorem w1_36t : (Jvm.Cond.code ({ cls := "DotPress$Ints", name := "<init>", desc := "(I)V" } : Jvm.MethodName) prog_3_method_1_code (2 : Nat) (Option.none : Option Jvm.ClassFile.FieldType)) ∈ lw_tbl := mT1 (List.mem_of_getElem? (i := 36) rfl)
theorem w1_36 : (Jvm.Cond.code ({ cls := "DotPress$Ints", name := "<init>", desc := "(I)V" } : Jvm.MethodName) prog_3_method_1_code (2 : Nat) (Option.none : Option Jvm.ClassFile.FieldType)) ∈ lw_g := lw_in w1_36t rfl
theorem w1_37t : (Jvm.Cond.methodLink "DotPress$Ints" (1 : Nat) ({ cls := "java/lang/Object", name := "<init>", desc := "()V" } : Jvm.MethodName)) ∈ lw_tbl := mT1 (List.mem_of_getElem? (i := 37) rfl)
theorem w1_37 : (Jvm.Cond.methodLink "DotPress$Ints" (1 : Nat) ({ cls := "java/lang/Object", name := "<init>", desc := "()V" } : Jvm.MethodName)) ∈ lw_g := lw_in w1_37t rfl
theorem w1_38t : (Jvm.Cond.fieldLink "DotPress$Ints" (13 : Nat) "DotPress$Ints" "limit" "I") ∈ lw_tbl := mT1 (List.mem_of_getElem? (i := 38) rfl)
theorem w1_38 : (Jvm.Cond.fieldLink "DotPress$Ints" (13 : Nat) "DotPress$Ints" "limit" "I") ∈ lw_g := lw_in w1_38t rfl
theorem w1_39t : (Jvm.Cond.fieldLink "DotPress$Ints" (16 : Nat) "DotPress$Ints" "items" "[I") ∈ lw_tbl := mT1 (List.mem_of_getElem? (i := 39) rfl)
theorem w1_39 : (Jvm.Cond.fieldLink "DotPress$Ints" (16 : Nat) "DotPress$Ints" "items" "[I") ∈ lw_g := lw_in w1_39t rfl
theorem w1_4t : (Jvm.Cond.initialized "java/util/AbstractCollection") ∈ lw_tbl := mT1 (List.mem_of_getElem? (i := 4) rfl)
theorem w1_4 : (Jvm.Cond.initialized "java/util/AbstractCollection") ∈ lw_g := lw_in w1_4t rfl
theorem w1_43t : (Jvm.Cond.fieldLink "DotPress$Ints" (7 : Nat) "DotPress$Ints" "size" "I") ∈ lw_tbl := mT1 (List.mem_of_getElem? (i := 43) rfl)
theorem w1_43 : (Jvm.Cond.fieldLink "DotPress$Ints" (7 : Nat) "DotPress$Ints" "size" "I") ∈ lw_g := lw_in w1_43t rfl
theorem w1_44t : (Jvm.Cond.fieldLink "DotPress" (99 : Nat) "DotPress$Ints" "size" "I") ∈ lw_tbl := mT1 (List.mem_of_getElem? (i := 44) rfl)
theorem w1_44 : (Jvm.Cond.fieldLink "DotPress" (99 : Nat) "DotPress$Ints" "size" "I") ∈ lw_g := lw_in w1_44t rfl
theorem w1_5t : (Jvm.Cond.initialized "java/util/AbstractList") ∈ lw_tbl := mT1 (List.mem_of_getElem? (i := 5) rfl)
theorem w1_5 : (Jvm.Cond.initialized "java/util/AbstractList") ∈ lw_g := lw_in w1_5t rfl
theorem w1_50t : (Jvm.Cond.laysFinal "DotPress$Ints" "DotPress$Ints" "limit" "I") ∈ lw_tbl := mT1 (List.mem_of_getElem? (i := 50) rfl)
theorem w1_50 : (Jvm.Cond.laysFinal "DotPress$Ints" "DotPress$Ints" "limit" "I") ∈ lw_g := lw_in w1_50t rfl
theorem w1_52t : (Jvm.Cond.lays "DotPress$Ints" "DotPress$Ints" "items" "[I") ∈ lw_tbl := mT1 (List.mem_of_getElem? (i := 52) rfl)
theorem w1_52 : (Jvm.Cond.lays "DotPress$Ints" "DotPress$Ints" "items" "[I") ∈ lw_g := lw_in w1_52t rfl
theorem w1_54t : (Jvm.Cond.lays "DotPress$Ints" "DotPress$Ints" "size" "I") ∈ lw_tbl := mT1 (List.mem_of_getElem? (i := 54) rfl)
theorem w1_54 : (Jvm.Cond.lays "DotPress$Ints" "DotPress$Ints" "size" "I") ∈ lw_g := lw_in w1_54t rfl
theorem w1_57t : (Jvm.Cond.arrayClass Jvm.ClassFile.FieldType.int) ∈ lw_tbl := mT1 (List.mem_of_getElem? (i := 57) rfl)
theorem w1_57 : (Jvm.Cond.arrayClass Jvm.ClassFile.FieldType.int) ∈ lw_g := lw_in w1_57t rfl
theorem w1_58t : (Jvm.Cond.classLink "DotPress" (27 : Nat) "DotPress$Tables") ∈ lw_tbl := mT1 (List.mem_of_getElem? (i := 58) rfl)
theorem w1_58 : (Jvm.Cond.classLink "DotPress" (27 : Nat) "DotPress$Tables") ∈ lw_g := lw_in w1_58t rfl
theorem w1_59t : (Jvm.Cond.instantiable "DotPress$Tables" (2 : Nat)) ∈ lw_tbl := mT1 (List.mem_of_getElem? (i := 59) rfl)
theorem w1_59 : (Jvm.Cond.instantiable "DotPress$Tables" (2 : Nat)) ∈ lw_g := lw_in w1_59t rfl
theorem w1_6t : (Jvm.Cond.initialized "java/util/ArrayList") ∈ lw_tbl := mT1 (List.mem_of_getElem? (i := 6) rfl)
theorem w1_6 : (Jvm.Cond.initialized "java/util/ArrayList") ∈ lw_g := lw_in w1_6t rfl
theorem w1_60t : (Jvm.Cond.methodLinkNest "DotPress" (29 : Nat) ({ cls := "DotPress$Tables", name := "<init>", desc := "()V" } : Jvm.MethodName) "DotPress") ∈ lw_tbl := mT1 (List.mem_of_getElem? (i := 60) rfl)
theorem w1_61t : (Jvm.Cond.instanceMethod ({ cls := "DotPress$Tables", name := "<init>", desc := "()V" } : Jvm.MethodName)) ∈ lw_tbl := mT1 (List.mem_of_getElem? (i := 61) rfl)
theorem w1_61 : (Jvm.Cond.instanceMethod ({ cls := "DotPress$Tables", name := "<init>", desc := "()V" } : Jvm.MethodName)) ∈ lw_g := lw_in w1_61t rfl
theorem w1_62t : (Jvm.Cond.code ({ cls := "DotPress$Tables", name := "<init>", desc := "()V" } : Jvm.MethodName) prog_12_method_1_code (1 : Nat) (Option.none : Option Jvm.ClassFile.FieldType)) ∈ lw_tbl := mT1 (List.mem_of_getElem? (i := 62) rfl)
theorem w1_62 : (Jvm.Cond.code ({ cls := "DotPress$Tables", name := "<init>", desc := "()V" } : Jvm.MethodName) prog_12_method_1_code (1 : Nat) (Option.none : Option Jvm.ClassFile.FieldType)) ∈ lw_g := lw_in w1_62t rfl
theorem w1_63t : (Jvm.Cond.methodLink "DotPress$Tables" (3 : Nat) ({ cls := "java/lang/Object", name := "<init>", desc := "()V" } : Jvm.MethodName)) ∈ lw_tbl := mT1 (List.mem_of_getElem? (i := 63) rfl)
theorem w1_63 : (Jvm.Cond.methodLink "DotPress$Tables" (3 : Nat) ({ cls := "java/lang/Object", name := "<init>", desc := "()V" } : Jvm.MethodName)) ∈ lw_g := lw_in w1_63t rfl
theorem w1_64t : (Jvm.Cond.classLink "DotPress$Tables" (9 : Nat) "java/util/ArrayList") ∈ lw_tbl := mT1 (List.mem_of_getElem? (i := 64) rfl)
theorem w1_64 : (Jvm.Cond.classLink "DotPress$Tables" (9 : Nat) "java/util/ArrayList") ∈ lw_g := lw_in w1_64t rfl
theorem w1_65t : (Jvm.Cond.instantiable "java/util/ArrayList" (3 : Nat)) ∈ lw_tbl := mT1 (List.mem_of_getElem? (i := 65) rfl)
theorem w1_65 : (Jvm.Cond.instantiable "java/util/ArrayList" (3 : Nat)) ∈ lw_g := lw_in w1_65t rfl
theorem w1_66t : (Jvm.Cond.methodLink "DotPress$Tables" (11 : Nat) ({ cls := "java/util/ArrayList", name := "<init>", desc := "()V" } : Jvm.MethodName)) ∈ lw_tbl := mT1 (List.mem_of_getElem? (i := 66) rfl)
theorem w1_66 : (Jvm.Cond.methodLink "DotPress$Tables" (11 : Nat) ({ cls := "java/util/ArrayList", name := "<init>", desc := "()V" } : Jvm.MethodName)) ∈ lw_g := lw_in w1_66t rfl
theorem w1_67t : (Jvm.Cond.instanceMethod ({ cls := "java/util/ArrayList", name := "<init>", desc := "()V" } : Jvm.MethodName)) ∈ lw_tbl := mT1 (List.mem_of_getElem? (i := 67) rfl)
theorem w1_67 : (Jvm.Cond.instanceMethod ({ cls := "java/util/ArrayList", name := "<init>", desc := "()V" } : Jvm.MethodName)) ∈ lw_g := lw_in w1_67t rfl
theorem w1_68t : (Jvm.Cond.code ({ cls := "java/util/ArrayList", name := "<init>", desc := "()V" } : Jvm.MethodName) prog_23_method_2_code (1 : Nat) (Option.none : Option Jvm.ClassFile.FieldType)) ∈ lw_tbl := mT1 (List.mem_of_getElem? (i := 68) rfl)
theorem w1_68 : (Jvm.Cond.code ({ cls := "java/util/ArrayList", name := "<init>", desc := "()V" } : Jvm.MethodName) prog_23_method_2_code (1 : Nat) (Option.none : Option Jvm.ClassFile.FieldType)) ∈ lw_g := lw_in w1_68t rfl
theorem w1_69t : (Jvm.Cond.methodLink "java/util/ArrayList" (1 : Nat) ({ cls := "java/util/AbstractList", name := "<init>", desc := "()V" } : Jvm.MethodName)) ∈ lw_tbl := mT1 (List.mem_of_getElem? (i := 69) rfl)
theorem w1_69 : (Jvm.Cond.methodLink "java/util/ArrayList" (1 : Nat) ({ cls := "java/util/AbstractList", name := "<init>", desc := "()V" } : Jvm.MethodName)) ∈ lw_g := lw_in w1_69t rfl
theorem w1_7t : (Jvm.Cond.initialized "DotPress$Source") ∈ lw_tbl := mT1 (List.mem_of_getElem? (i := 7) rfl)
theorem w1_7 : (Jvm.Cond.initialized "DotPress$Source") ∈ lw_g := lw_in w1_7t rfl
theorem w1_70t : (Jvm.Cond.instanceMethod ({ cls := "java/util/AbstractList", name := "<init>", desc := "()V" } : Jvm.MethodName)) ∈ lw_tbl := mT1 (List.mem_of_getElem? (i := 70) rfl)
theorem w1_70 : (Jvm.Cond.instanceMethod ({ cls := "java/util/AbstractList", name := "<init>", desc := "()V" } : Jvm.MethodName)) ∈ lw_g := lw_in w1_70t rfl
theorem w1_71t : (Jvm.Cond.code ({ cls := "java/util/AbstractList", name := "<init>", desc := "()V" } : Jvm.MethodName) prog_22_method_1_code (1 : Nat) (Option.none : Option Jvm.ClassFile.FieldType)) ∈ lw_tbl := mT1 (List.mem_of_getElem? (i := 71) rfl)
theorem w1_71 : (Jvm.Cond.code ({ cls := "java/util/AbstractList", name := "<init>", desc := "()V" } : Jvm.MethodName) prog_22_method_1_code (1 : Nat) (Option.none : Option Jvm.ClassFile.FieldType)) ∈ lw_g := lw_in w1_71t rfl
theorem w1_72t : (Jvm.Cond.methodLink "java/util/AbstractList" (1 : Nat) ({ cls := "java/util/AbstractCollection", name := "<init>", desc := "()V" } : Jvm.MethodName)) ∈ lw_tbl := mT1 (List.mem_of_getElem? (i := 72) rfl)
theorem w1_72 : (Jvm.Cond.methodLink "java/util/AbstractList" (1 : Nat) ({ cls := "java/util/AbstractCollection", name := "<init>", desc := "()V" } : Jvm.MethodName)) ∈ lw_g := lw_in w1_72t rfl
theorem w1_73t : (Jvm.Cond.instanceMethod ({ cls := "java/util/AbstractCollection", name := "<init>", desc := "()V" } : Jvm.MethodName)) ∈ lw_tbl := mT1 (List.mem_of_getElem? (i := 73) rfl)
theorem w1_73 : (Jvm.Cond.instanceMethod ({ cls := "java/util/AbstractCollection", name := "<init>", desc := "()V" } : Jvm.MethodName)) ∈ lw_g := lw_in w1_73t rfl
theorem w1_74t : (Jvm.Cond.code ({ cls := "java/util/AbstractCollection", name := "<init>", desc := "()V" } : Jvm.MethodName) prog_21_method_1_code (1 : Nat) (Option.none : Option Jvm.ClassFile.FieldType)) ∈ lw_tbl := mT1 (List.mem_of_getElem? (i := 74) rfl)
theorem w1_74 : (Jvm.Cond.code ({ cls := "java/util/AbstractCollection", name := "<init>", desc := "()V" } : Jvm.MethodName) prog_21_method_1_code (1 : Nat) (Option.none : Option Jvm.ClassFile.FieldType)) ∈ lw_g := lw_in w1_74t rfl
theorem w1_75t : (Jvm.Cond.methodLink "java/util/AbstractCollection" (1 : Nat) ({ cls := "java/lang/Object", name := "<init>", desc := "()V" } : Jvm.MethodName)) ∈ lw_tbl := mT1 (List.mem_of_getElem? (i := 75) rfl)
theorem w1_75 : (Jvm.Cond.methodLink "java/util/AbstractCollection" (1 : Nat) ({ cls := "java/lang/Object", name := "<init>", desc := "()V" } : Jvm.MethodName)) ∈ lw_g := lw_in w1_75t rfl
theorem w1_76t : (Jvm.Cond.fieldLink "java/util/ArrayList" (39 : Nat) "java/util/ArrayList" "DEFAULTCAPACITY_EMPTY_ELEMENTDATA" "[Ljava/lang/Object;") ∈ lw_tbl := mT1 (List.mem_of_getElem? (i := 76) rfl)
theorem w1_76 : (Jvm.Cond.fieldLink "java/util/ArrayList" (39 : Nat) "java/util/ArrayList" "DEFAULTCAPACITY_EMPTY_ELEMENTDATA" "[Ljava/lang/Object;") ∈ lw_g := lw_in w1_76t rfl
theorem w1_78t : (Jvm.Cond.fieldLink "java/util/ArrayList" (9 : Nat) "java/util/ArrayList" "elementData" "[Ljava/lang/Object;") ∈ lw_tbl := mT1 (List.mem_of_getElem? (i := 78) rfl)
theorem w1_78 : (Jvm.Cond.fieldLink "java/util/ArrayList" (9 : Nat) "java/util/ArrayList" "elementData" "[Ljava/lang/Object;") ∈ lw_g := lw_in w1_78t rfl
theorem w1_79t : (Jvm.Cond.fieldLink "java/util/ArrayList" (48 : Nat) "java/util/ArrayList" "size" "I") ∈ lw_tbl := mT1 (List.mem_of_getElem? (i := 79) rfl)
theorem w1_79 : (Jvm.Cond.fieldLink "java/util/ArrayList" (48 : Nat) "java/util/ArrayList" "size" "I") ∈ lw_g := lw_in w1_79t rfl
theorem w1_8t : (Jvm.Cond.initialized "DotPress$Setting") ∈ lw_tbl := mT1 (List.mem_of_getElem? (i := 8) rfl)
theorem w1_8 : (Jvm.Cond.initialized "DotPress$Setting") ∈ lw_g := lw_in w1_8t rfl
theorem w1_80t : (Jvm.Cond.fieldLink "java/util/AbstractList" (7 : Nat) "java/util/AbstractList" "modCount" "I") ∈ lw_tbl := mT1 (List.mem_of_getElem? (i := 80) rfl)
theorem w1_80 : (Jvm.Cond.fieldLink "java/util/AbstractList" (7 : Nat) "java/util/AbstractList" "modCount" "I") ∈ lw_g := lw_in w1_80t rfl
theorem w1_81t : (Jvm.Cond.fieldLink "java/util/ArrayList" (63 : Nat) "java/util/ArrayList" "modCount" "I") ∈ lw_tbl := mT1 (List.mem_of_getElem? (i := 81) rfl)
theorem w1_81 : (Jvm.Cond.fieldLink "java/util/ArrayList" (63 : Nat) "java/util/ArrayList" "modCount" "I") ∈ lw_g := lw_in w1_81t rfl
theorem w1_82t : (Jvm.Cond.sameField "java/util/ArrayList" "java/util/AbstractList" "modCount" "I") ∈ lw_tbl := mT1 (List.mem_of_getElem? (i := 82) rfl)
theorem w1_82 : (Jvm.Cond.sameField "java/util/ArrayList" "java/util/AbstractList" "modCount" "I") ∈ lw_g := lw_in w1_82t rfl
theorem w1_83t : (Jvm.Cond.lays "java/util/ArrayList" "java/util/ArrayList" "elementData" "[Ljava/lang/Object;") ∈ lw_tbl := mT1 (List.mem_of_getElem? (i := 83) rfl)
theorem w1_83 : (Jvm.Cond.lays "java/util/ArrayList" "java/util/ArrayList" "elementData" "[Ljava/lang/Object;") ∈ lw_g := lw_in w1_83t rfl
theorem w1_85t : (Jvm.Cond.lays "java/util/ArrayList" "java/util/ArrayList" "size" "I") ∈ lw_tbl := mT1 (List.mem_of_getElem? (i := 85) rfl)
theorem w1_85 : (Jvm.Cond.lays "java/util/ArrayList" "java/util/ArrayList" "size" "I") ∈ lw_g := lw_in w1_85t rfl
theorem w1_87t : (Jvm.Cond.lays "java/util/ArrayList" "java/util/AbstractList" "modCount" "I") ∈ lw_tbl := mT1 (List.mem_of_getElem? (i := 87) rfl)
theorem w1_87 : (Jvm.Cond.lays "java/util/ArrayList" "java/util/AbstractList" "modCount" "I") ∈ lw_g := lw_in w1_87t rfl
theorem w1_9t : (Jvm.Cond.initialized "DotPress$Reader") ∈ lw_tbl := mT1 (List.mem_of_getElem? (i := 9) rfl)
theorem w1_9 : (Jvm.Cond.initialized "DotPress$Reader") ∈ lw_g := lw_in w1_9t rfl
theorem w1_90t : (Jvm.Cond.fieldLink "DotPress$Tables" (12 : Nat) "DotPress$Tables" "made" "Ljava/util/ArrayList;") ∈ lw_tbl := mT1 (List.mem_of_getElem? (i := 90) rfl)
theorem w1_90 : (Jvm.Cond.fieldLink "DotPress$Tables" (12 : Nat) "DotPress$Tables" "made" "Ljava/util/ArrayList;") ∈ lw_g := lw_in w1_90t rfl
theorem w1_91t : (Jvm.Cond.fieldLink "DotPress$Tables" (18 : Nat) "DotPress$Tables" "changes" "Ljava/util/ArrayList;") ∈ lw_tbl := mT1 (List.mem_of_getElem? (i := 91) rfl)
theorem w1_91 : (Jvm.Cond.fieldLink "DotPress$Tables" (18 : Nat) "DotPress$Tables" "changes" "Ljava/util/ArrayList;") ∈ lw_g := lw_in w1_91t rfl
theorem w1_92t : (Jvm.Cond.laysFinal "DotPress$Tables" "DotPress$Tables" "made" "Ljava/util/ArrayList;") ∈ lw_tbl := mT1 (List.mem_of_getElem? (i := 92) rfl)
theorem w1_92 : (Jvm.Cond.laysFinal "DotPress$Tables" "DotPress$Tables" "made" "Ljava/util/ArrayList;") ∈ lw_g := lw_in w1_92t rfl
theorem w1_94t : (Jvm.Cond.laysFinal "DotPress$Tables" "DotPress$Tables" "changes" "Ljava/util/ArrayList;") ∈ lw_tbl := mT1 (List.mem_of_getElem? (i := 94) rfl)
theorem w1_94 : (Jvm.Cond.laysFinal "DotPress$Tables" "DotPress$Tables" "changes" "Ljava/util/ArrayList;") ∈ lw_g := lw_in w1_94t rfl
theorem w1_97t : (Jvm.Cond.classLink "DotPress" (34 : Nat) "DotPress$Source") ∈ lw_tbl := mT1 (List.mem_of_getElem? (i := 97) rfl)
theorem w1_97 : (Jvm.Cond.classLink "DotPress" (34 : Nat) "DotPress$Source") ∈ lw_g := lw_in w1_97t rfl
theorem w1_98t : (Jvm.Cond.instantiable "DotPress$Source" (8 : Nat)) ∈ lw_tbl := mT1 (List.mem_of_getElem? (i := 98) rfl)
theorem w1_98 : (Jvm.Cond.instantiable "DotPress$Source" (8 : Nat)) ∈ lw_g := lw_in w1_98t rfl
theorem w1_99t : (Jvm.Cond.methodLinkNest "DotPress" (36 : Nat) ({ cls := "DotPress$Source", name := "<init>", desc := "()V" } : Jvm.MethodName) "DotPress") ∈ lw_tbl := mT1 (List.mem_of_getElem? (i := 99) rfl)
theorem w2_0t : (Jvm.Cond.fieldLink "DotPress$Readings" (46 : Nat) "DotPress$Readings" "size" "I") ∈ lw_tbl := mT2 (List.mem_of_getElem? (i := 0) rfl)
theorem w2_0 : (Jvm.Cond.fieldLink "DotPress$Readings" (46 : Nat) "DotPress$Readings" "size" "I") ∈ lw_g := lw_in w2_0t rfl
theorem w2_1t : (Jvm.Cond.fieldLink "DotPress$Readings" (49 : Nat) "DotPress$Readings" "seen" "I") ∈ lw_tbl := mT2 (List.mem_of_getElem? (i := 1) rfl)
theorem w2_1 : (Jvm.Cond.fieldLink "DotPress$Readings" (49 : Nat) "DotPress$Readings" "seen" "I") ∈ lw_g := lw_in w2_1t rfl
theorem w2_10t : (Jvm.Cond.laysFinal "DotPress$Readings" "DotPress$Readings" "bytes" "LDotPress$Ints;") ∈ lw_tbl := mT2 (List.mem_of_getElem? (i := 10) rfl)
theorem w2_10 : (Jvm.Cond.laysFinal "DotPress$Readings" "DotPress$Readings" "bytes" "LDotPress$Ints;") ∈ lw_g := lw_in w2_10t rfl
theorem w2_105t : (Jvm.Cond.code ({ cls := "DotPress", name := "feed", desc := "(IIIII)I" } : Jvm.MethodName) prog_1_method_2_code (6 : Nat) (Option.some Jvm.ClassFile.FieldType.int)) ∈ lw_tbl := mT2 (List.mem_of_getElem? (i := 105) rfl)
theorem w2_105 : (Jvm.Cond.code ({ cls := "DotPress", name := "feed", desc := "(IIIII)I" } : Jvm.MethodName) prog_1_method_2_code (6 : Nat) (Option.some Jvm.ClassFile.FieldType.int)) ∈ lw_g := lw_in w2_105t rfl
theorem w2_106t : (Jvm.Cond.methodLink "DotPress" (102 : Nat) ({ cls := "DotPress", name := "refuse", desc := "(I)I" } : Jvm.MethodName)) ∈ lw_tbl := mT2 (List.mem_of_getElem? (i := 106) rfl)
theorem w2_106 : (Jvm.Cond.methodLink "DotPress" (102 : Nat) ({ cls := "DotPress", name := "refuse", desc := "(I)I" } : Jvm.MethodName)) ∈ lw_g := lw_in w2_106t rfl
theorem w2_108t : (Jvm.Cond.instanceMethod ({ cls := "DotPress", name := "refuse", desc := "(I)I" } : Jvm.MethodName)) ∈ lw_tbl := mT2 (List.mem_of_getElem? (i := 108) rfl)
theorem w2_108 : (Jvm.Cond.instanceMethod ({ cls := "DotPress", name := "refuse", desc := "(I)I" } : Jvm.MethodName)) ∈ lw_g := lw_in w2_108t rfl
theorem w2_109t : (Jvm.Cond.code ({ cls := "DotPress", name := "refuse", desc := "(I)I" } : Jvm.MethodName) prog_1_method_54_code (2 : Nat) (Option.some Jvm.ClassFile.FieldType.int)) ∈ lw_tbl := mT2 (List.mem_of_getElem? (i := 109) rfl)
theorem w2_109 : (Jvm.Cond.code ({ cls := "DotPress", name := "refuse", desc := "(I)I" } : Jvm.MethodName) prog_1_method_54_code (2 : Nat) (Option.some Jvm.ClassFile.FieldType.int)) ∈ lw_g := lw_in w2_109t rfl
theorem w2_110t : (Jvm.Cond.methodLink "DotPress" (106 : Nat) ({ cls := "DotPress", name := "feedFour", desc := "(I)V" } : Jvm.MethodName)) ∈ lw_tbl := mT2 (List.mem_of_getElem? (i := 110) rfl)
theorem w2_110 : (Jvm.Cond.methodLink "DotPress" (106 : Nat) ({ cls := "DotPress", name := "feedFour", desc := "(I)V" } : Jvm.MethodName)) ∈ lw_g := lw_in w2_110t rfl
theorem w2_112t : (Jvm.Cond.instanceMethod ({ cls := "DotPress", name := "feedFour", desc := "(I)V" } : Jvm.MethodName)) ∈ lw_tbl := mT2 (List.mem_of_getElem? (i := 112) rfl)
theorem w2_112 : (Jvm.Cond.instanceMethod ({ cls := "DotPress", name := "feedFour", desc := "(I)V" } : Jvm.MethodName)) ∈ lw_g := lw_in w2_112t rfl
theorem w2_113t : (Jvm.Cond.code ({ cls := "DotPress", name := "feedFour", desc := "(I)V" } : Jvm.MethodName) prog_1_method_3_code (3 : Nat) (Option.none : Option Jvm.ClassFile.FieldType)) ∈ lw_tbl := mT2 (List.mem_of_getElem? (i := 113) rfl)
theorem w2_113 : (Jvm.Cond.code ({ cls := "DotPress", name := "feedFour", desc := "(I)V" } : Jvm.MethodName) prog_1_method_3_code (3 : Nat) (Option.none : Option Jvm.ClassFile.FieldType)) ∈ lw_g := lw_in w2_113t rfl
theorem w2_114t : (Jvm.Cond.methodLink "DotPress" (112 : Nat) ({ cls := "DotPress$Ints", name := "add", desc := "(I)V" } : Jvm.MethodName)) ∈ lw_tbl := mT2 (List.mem_of_getElem? (i := 114) rfl)
theorem w2_114 : (Jvm.Cond.methodLink "DotPress" (112 : Nat) ({ cls := "DotPress$Ints", name := "add", desc := "(I)V" } : Jvm.MethodName)) ∈ lw_g := lw_in w2_114t rfl
theorem w2_115t : (Jvm.Cond.instanceMethod ({ cls := "DotPress$Ints", name := "add", desc := "(I)V" } : Jvm.MethodName)) ∈ lw_tbl := mT2 (List.mem_of_getElem? (i := 115) rfl)
theorem w2_115 : (Jvm.Cond.instanceMethod ({ cls := "DotPress$Ints", name := "add", desc := "(I)V" } : Jvm.MethodName)) ∈ lw_g := lw_in w2_115t rfl
theorem w2_116t : (Jvm.Cond.selects "DotPress$Ints" ({ cls := "DotPress$Ints", name := "add", desc := "(I)V" } : Jvm.MethodName) ({ cls := "DotPress$Ints", name := "add", desc := "(I)V" } : Jvm.MethodName)) ∈ lw_tbl := mT2 (List.mem_of_getElem? (i := 116) rfl)
theorem w2_116 : (Jvm.Cond.selects "DotPress$Ints" ({ cls := "DotPress$Ints", name := "add", desc := "(I)V" } : Jvm.MethodName) ({ cls := "DotPress$Ints", name := "add", desc := "(I)V" } : Jvm.MethodName)) ∈ lw_g := lw_in w2_116t rfl
theorem w2_117t : (Jvm.Cond.code ({ cls := "DotPress$Ints", name := "add", desc := "(I)V" } : Jvm.MethodName) prog_3_method_2_code (2 : Nat) (Option.none : Option Jvm.ClassFile.FieldType)) ∈ lw_tbl := mT2 (List.mem_of_getElem? (i := 117) rfl)
theorem w2_117 : (Jvm.Cond.code ({ cls := "DotPress$Ints", name := "add", desc := "(I)V" } : Jvm.MethodName) prog_3_method_2_code (2 : Nat) (Option.none : Option Jvm.ClassFile.FieldType)) ∈ lw_g := lw_in w2_117t rfl
theorem w2_118t : (Jvm.Cond.methodLink "DotPress$Ints" (20 : Nat) ({ cls := "java/util/Arrays", name := "copyOf", desc := "([II)[I" } : Jvm.MethodName)) ∈ lw_tbl := mT2 (List.mem_of_getElem? (i := 118) rfl)
theorem w2_118 : (Jvm.Cond.methodLink "DotPress$Ints" (20 : Nat) ({ cls := "java/util/Arrays", name := "copyOf", desc := "([II)[I" } : Jvm.MethodName)) ∈ lw_g := lw_in w2_118t rfl
theorem w2_119t : (Jvm.Cond.static ({ cls := "java/util/Arrays", name := "copyOf", desc := "([II)[I" } : Jvm.MethodName)) ∈ lw_tbl := mT2 (List.mem_of_getElem? (i := 119) rfl)
theorem w2_119 : (Jvm.Cond.static ({ cls := "java/util/Arrays", name := "copyOf", desc := "([II)[I" } : Jvm.MethodName)) ∈ lw_g := lw_in w2_119t rfl
theorem w2_12t : (Jvm.Cond.lays "DotPress$Readings" "DotPress$Readings" "count" "I") ∈ lw_tbl := mT2 (List.mem_of_getElem? (i := 12) rfl)
theorem w2_12 : (Jvm.Cond.lays "DotPress$Readings" "DotPress$Readings" "count" "I") ∈ lw_g := lw_in w2_12t rfl
theorem w2_120t : (Jvm.Cond.code ({ cls := "java/util/Arrays", name := "copyOf", desc := "([II)[I" } : Jvm.MethodName) prog_24_method_123_code (3 : Nat) (Option.some (Jvm.ClassFile.FieldType.array Jvm.ClassFile.FieldType.int))) ∈ lw_tbl := mT2 (List.mem_of_getElem? (i := 120) rfl)
theorem w2_120 : (Jvm.Cond.code ({ cls := "java/util/Arrays", name := "copyOf", desc := "([II)[I" } : Jvm.MethodName) prog_24_method_123_code (3 : Nat) (Option.some (Jvm.ClassFile.FieldType.array Jvm.ClassFile.FieldType.int))) ∈ lw_g := lw_in w2_120t rfl
theorem w2_128t : (Jvm.Cond.methodLink "java/util/Arrays" (304 : Nat) ({ cls := "java/lang/Math", name := "min", desc := "(II)I" } : Jvm.MethodName)) ∈ lw_tbl := mT2 (List.mem_of_getElem? (i := 128) rfl)
theorem w2_128 : (Jvm.Cond.methodLink "java/util/Arrays" (304 : Nat) ({ cls := "java/lang/Math", name := "min", desc := "(II)I" } : Jvm.MethodName)) ∈ lw_g := lw_in w2_128t rfl
theorem w2_129t : (Jvm.Cond.static ({ cls := "java/lang/Math", name := "min", desc := "(II)I" } : Jvm.MethodName)) ∈ lw_tbl := mT2 (List.mem_of_getElem? (i := 129) rfl)
theorem w2_129 : (Jvm.Cond.static ({ cls := "java/lang/Math", name := "min", desc := "(II)I" } : Jvm.MethodName)) ∈ lw_g := lw_in w2_129t rfl
theorem w2_130t : (Jvm.Cond.code ({ cls := "java/lang/Math", name := "min", desc := "(II)I" } : Jvm.MethodName) prog_19_method_69_code (2 : Nat) (Option.some Jvm.ClassFile.FieldType.int)) ∈ lw_tbl := mT2 (List.mem_of_getElem? (i := 130) rfl)
theorem w2_130 : (Jvm.Cond.code ({ cls := "java/lang/Math", name := "min", desc := "(II)I" } : Jvm.MethodName) prog_19_method_69_code (2 : Nat) (Option.some Jvm.ClassFile.FieldType.int)) ∈ lw_g := lw_in w2_130t rfl
theorem w2_131t : (Jvm.Cond.methodLink "java/util/Arrays" (150 : Nat) ({ cls := "java/lang/System", name := "arraycopy", desc := "(Ljava/lang/Object;ILjava/lang/Object;II)V" } : Jvm.MethodName)) ∈ lw_tbl := mT2 (List.mem_of_getElem? (i := 131) rfl)
theorem w2_131 : (Jvm.Cond.methodLink "java/util/Arrays" (150 : Nat) ({ cls := "java/lang/System", name := "arraycopy", desc := "(Ljava/lang/Object;ILjava/lang/Object;II)V" } : Jvm.MethodName)) ∈ lw_g := lw_in w2_131t rfl
theorem w2_132t : (Jvm.Cond.static ({ cls := "java/lang/System", name := "arraycopy", desc := "(Ljava/lang/Object;ILjava/lang/Object;II)V" } : Jvm.MethodName)) ∈ lw_tbl := mT2 (List.mem_of_getElem? (i := 132) rfl)
theorem w2_132 : (Jvm.Cond.static ({ cls := "java/lang/System", name := "arraycopy", desc := "(Ljava/lang/Object;ILjava/lang/Object;II)V" } : Jvm.MethodName)) ∈ lw_g := lw_in w2_132t rfl
theorem w2_133t : (Jvm.Cond.native ({ cls := "java/lang/System", name := "arraycopy", desc := "(Ljava/lang/Object;ILjava/lang/Object;II)V" } : Jvm.MethodName)) ∈ lw_tbl := mT2 (List.mem_of_getElem? (i := 133) rfl)
theorem w2_133 : (Jvm.Cond.native ({ cls := "java/lang/System", name := "arraycopy", desc := "(Ljava/lang/Object;ILjava/lang/Object;II)V" } : Jvm.MethodName)) ∈ lw_g := lw_in w2_133t rfl
theorem w2_134t : (Jvm.Cond.methodLink "DotPress" (109 : Nat) ({ cls := "DotPress", name := "done", desc := "(I)I" } : Jvm.MethodName)) ∈ lw_tbl := mT2 (List.mem_of_getElem? (i := 134) rfl)
theorem w2_134 : (Jvm.Cond.methodLink "DotPress" (109 : Nat) ({ cls := "DotPress", name := "done", desc := "(I)I" } : Jvm.MethodName)) ∈ lw_g := lw_in w2_134t rfl
theorem w2_136t : (Jvm.Cond.instanceMethod ({ cls := "DotPress", name := "done", desc := "(I)I" } : Jvm.MethodName)) ∈ lw_tbl := mT2 (List.mem_of_getElem? (i := 136) rfl)
theorem w2_136 : (Jvm.Cond.instanceMethod ({ cls := "DotPress", name := "done", desc := "(I)I" } : Jvm.MethodName)) ∈ lw_g := lw_in w2_136t rfl
theorem w2_137t : (Jvm.Cond.code ({ cls := "DotPress", name := "done", desc := "(I)I" } : Jvm.MethodName) prog_1_method_53_code (2 : Nat) (Option.some Jvm.ClassFile.FieldType.int)) ∈ lw_tbl := mT2 (List.mem_of_getElem? (i := 137) rfl)
theorem w2_137 : (Jvm.Cond.code ({ cls := "DotPress", name := "done", desc := "(I)I" } : Jvm.MethodName) prog_1_method_53_code (2 : Nat) (Option.some Jvm.ClassFile.FieldType.int)) ∈ lw_g := lw_in w2_137t rfl
theorem w2_14t : (Jvm.Cond.lays "DotPress$Readings" "DotPress$Readings" "leftSome" "Z") ∈ lw_tbl := mT2 (List.mem_of_getElem? (i := 14) rfl)
theorem w2_14 : (Jvm.Cond.lays "DotPress$Readings" "DotPress$Readings" "leftSome" "Z") ∈ lw_g := lw_in w2_14t rfl
theorem w2_141t : (Jvm.Cond.code ({ cls := "DotPress", name := "end", desc := "(I)I" } : Jvm.MethodName) prog_1_method_4_code (2 : Nat) (Option.some Jvm.ClassFile.FieldType.int)) ∈ lw_tbl := mT2 (List.mem_of_getElem? (i := 141) rfl)
theorem w2_141 : (Jvm.Cond.code ({ cls := "DotPress", name := "end", desc := "(I)I" } : Jvm.MethodName) prog_1_method_4_code (2 : Nat) (Option.some Jvm.ClassFile.FieldType.int)) ∈ lw_g := lw_in w2_141t rfl
theorem w2_142t : (Jvm.Cond.methodLink "DotPress" (115 : Nat) ({ cls := "DotPress$Ints", name := "keep", desc := "(I)V" } : Jvm.MethodName)) ∈ lw_tbl := mT2 (List.mem_of_getElem? (i := 142) rfl)
theorem w2_142 : (Jvm.Cond.methodLink "DotPress" (115 : Nat) ({ cls := "DotPress$Ints", name := "keep", desc := "(I)V" } : Jvm.MethodName)) ∈ lw_g := lw_in w2_142t rfl
theorem w2_143t : (Jvm.Cond.instanceMethod ({ cls := "DotPress$Ints", name := "keep", desc := "(I)V" } : Jvm.MethodName)) ∈ lw_tbl := mT2 (List.mem_of_getElem? (i := 143) rfl)
theorem w2_143 : (Jvm.Cond.instanceMethod ({ cls := "DotPress$Ints", name := "keep", desc := "(I)V" } : Jvm.MethodName)) ∈ lw_g := lw_in w2_143t rfl
theorem w2_144t : (Jvm.Cond.selects "DotPress$Ints" ({ cls := "DotPress$Ints", name := "keep", desc := "(I)V" } : Jvm.MethodName) ({ cls := "DotPress$Ints", name := "keep", desc := "(I)V" } : Jvm.MethodName)) ∈ lw_tbl := mT2 (List.mem_of_getElem? (i := 144) rfl)
theorem w2_144 : (Jvm.Cond.selects "DotPress$Ints" ({ cls := "DotPress$Ints", name := "keep", desc := "(I)V" } : Jvm.MethodName) ({ cls := "DotPress$Ints", name := "keep", desc := "(I)V" } : Jvm.MethodName)) ∈ lw_g := lw_in w2_144t rfl
theorem w2_145t : (Jvm.Cond.code ({ cls := "DotPress$Ints", name := "keep", desc := "(I)V" } : Jvm.MethodName) prog_3_method_6_code (2 : Nat) (Option.none : Option Jvm.ClassFile.FieldType)) ∈ lw_tbl := mT2 (List.mem_of_getElem? (i := 145) rfl)
theorem w2_145 : (Jvm.Cond.code ({ cls := "DotPress$Ints", name := "keep", desc := "(I)V" } : Jvm.MethodName) prog_3_method_6_code (2 : Nat) (Option.none : Option Jvm.ClassFile.FieldType)) ∈ lw_g := lw_in w2_145t rfl
theorem w2_146t : (Jvm.Cond.methodLink "DotPress$Ints" (30 : Nat) ({ cls := "java/lang/Math", name := "min", desc := "(II)I" } : Jvm.MethodName)) ∈ lw_tbl := mT2 (List.mem_of_getElem? (i := 146) rfl)
theorem w2_146 : (Jvm.Cond.methodLink "DotPress$Ints" (30 : Nat) ({ cls := "java/lang/Math", name := "min", desc := "(II)I" } : Jvm.MethodName)) ∈ lw_g := lw_in w2_146t rfl
theorem w2_147t : (Jvm.Cond.methodLink "DotPress$Ints" (36 : Nat) ({ cls := "java/lang/Math", name := "max", desc := "(II)I" } : Jvm.MethodName)) ∈ lw_tbl := mT2 (List.mem_of_getElem? (i := 147) rfl)
theorem w2_147 : (Jvm.Cond.methodLink "DotPress$Ints" (36 : Nat) ({ cls := "java/lang/Math", name := "max", desc := "(II)I" } : Jvm.MethodName)) ∈ lw_g := lw_in w2_147t rfl
theorem w2_148t : (Jvm.Cond.static ({ cls := "java/lang/Math", name := "max", desc := "(II)I" } : Jvm.MethodName)) ∈ lw_tbl := mT2 (List.mem_of_getElem? (i := 148) rfl)
theorem w2_148 : (Jvm.Cond.static ({ cls := "java/lang/Math", name := "max", desc := "(II)I" } : Jvm.MethodName)) ∈ lw_g := lw_in w2_148t rfl
theorem w2_149t : (Jvm.Cond.code ({ cls := "java/lang/Math", name := "max", desc := "(II)I" } : Jvm.MethodName) prog_19_method_65_code (2 : Nat) (Option.some Jvm.ClassFile.FieldType.int)) ∈ lw_tbl := mT2 (List.mem_of_getElem? (i := 149) rfl)
theorem w2_149 : (Jvm.Cond.code ({ cls := "java/lang/Math", name := "max", desc := "(II)I" } : Jvm.MethodName) prog_19_method_65_code (2 : Nat) (Option.some Jvm.ClassFile.FieldType.int)) ∈ lw_g := lw_in w2_149t rfl
theorem w2_153t : (Jvm.Cond.code ({ cls := "DotPress", name := "table", desc := "(III)I" } : Jvm.MethodName) prog_1_method_5_code (5 : Nat) (Option.some Jvm.ClassFile.FieldType.int)) ∈ lw_tbl := mT2 (List.mem_of_getElem? (i := 153) rfl)
theorem w2_153 : (Jvm.Cond.code ({ cls := "DotPress", name := "table", desc := "(III)I" } : Jvm.MethodName) prog_1_method_5_code (5 : Nat) (Option.some Jvm.ClassFile.FieldType.int)) ∈ lw_g := lw_in w2_153t rfl
theorem w2_154t : (Jvm.Cond.methodLink "DotPress" (118 : Nat) ({ cls := "DotPress$Tables", name := "isFull", desc := "()Z" } : Jvm.MethodName)) ∈ lw_tbl := mT2 (List.mem_of_getElem? (i := 154) rfl)
theorem w2_154 : (Jvm.Cond.methodLink "DotPress" (118 : Nat) ({ cls := "DotPress$Tables", name := "isFull", desc := "()Z" } : Jvm.MethodName)) ∈ lw_g := lw_in w2_154t rfl
theorem w2_155t : (Jvm.Cond.instanceMethod ({ cls := "DotPress$Tables", name := "isFull", desc := "()Z" } : Jvm.MethodName)) ∈ lw_tbl := mT2 (List.mem_of_getElem? (i := 155) rfl)
theorem w2_155 : (Jvm.Cond.instanceMethod ({ cls := "DotPress$Tables", name := "isFull", desc := "()Z" } : Jvm.MethodName)) ∈ lw_g := lw_in w2_155t rfl
theorem w2_156t : (Jvm.Cond.selects "DotPress$Tables" ({ cls := "DotPress$Tables", name := "isFull", desc := "()Z" } : Jvm.MethodName) ({ cls := "DotPress$Tables", name := "isFull", desc := "()Z" } : Jvm.MethodName)) ∈ lw_tbl := mT2 (List.mem_of_getElem? (i := 156) rfl)
theorem w2_156 : (Jvm.Cond.selects "DotPress$Tables" ({ cls := "DotPress$Tables", name := "isFull", desc := "()Z" } : Jvm.MethodName) ({ cls := "DotPress$Tables", name := "isFull", desc := "()Z" } : Jvm.MethodName)) ∈ lw_g := lw_in w2_156t rfl
theorem w2_157t : (Jvm.Cond.code ({ cls := "DotPress$Tables", name := "isFull", desc := "()Z" } : Jvm.MethodName) prog_12_method_2_code (1 : Nat) (Option.some Jvm.ClassFile.FieldType.boolean)) ∈ lw_tbl := mT2 (List.mem_of_getElem? (i := 157) rfl)
theorem w2_157 : (Jvm.Cond.code ({ cls := "DotPress$Tables", name := "isFull", desc := "()Z" } : Jvm.MethodName) prog_12_method_2_code (1 : Nat) (Option.some Jvm.ClassFile.FieldType.boolean)) ∈ lw_g := lw_in w2_157t rfl
theorem w2_158t : (Jvm.Cond.methodLink "DotPress$Tables" (21 : Nat) ({ cls := "java/util/ArrayList", name := "size", desc := "()I" } : Jvm.MethodName)) ∈ lw_tbl := mT2 (List.mem_of_getElem? (i := 158) rfl)
theorem w2_158 : (Jvm.Cond.methodLink "DotPress$Tables" (21 : Nat) ({ cls := "java/util/ArrayList", name := "size", desc := "()I" } : Jvm.MethodName)) ∈ lw_g := lw_in w2_158t rfl
theorem w2_159t : (Jvm.Cond.instanceMethod ({ cls := "java/util/ArrayList", name := "size", desc := "()I" } : Jvm.MethodName)) ∈ lw_tbl := mT2 (List.mem_of_getElem? (i := 159) rfl)
theorem w2_159 : (Jvm.Cond.instanceMethod ({ cls := "java/util/ArrayList", name := "size", desc := "()I" } : Jvm.MethodName)) ∈ lw_g := lw_in w2_159t rfl
theorem w2_16t : (Jvm.Cond.laysFinal "DotPress$Readings" "DotPress$Readings" "rows" "LDotPress$Reader;") ∈ lw_tbl := mT2 (List.mem_of_getElem? (i := 16) rfl)
theorem w2_16 : (Jvm.Cond.laysFinal "DotPress$Readings" "DotPress$Readings" "rows" "LDotPress$Reader;") ∈ lw_g := lw_in w2_16t rfl
theorem w2_160t : (Jvm.Cond.selects "java/util/ArrayList" ({ cls := "java/util/ArrayList", name := "size", desc := "()I" } : Jvm.MethodName) ({ cls := "java/util/ArrayList", name := "size", desc := "()I" } : Jvm.MethodName)) ∈ lw_tbl := mT2 (List.mem_of_getElem? (i := 160) rfl)
theorem w2_160 : (Jvm.Cond.selects "java/util/ArrayList" ({ cls := "java/util/ArrayList", name := "size", desc := "()I" } : Jvm.MethodName) ({ cls := "java/util/ArrayList", name := "size", desc := "()I" } : Jvm.MethodName)) ∈ lw_g := lw_in w2_160t rfl
theorem w2_161t : (Jvm.Cond.code ({ cls := "java/util/ArrayList", name := "size", desc := "()I" } : Jvm.MethodName) prog_23_method_8_code (1 : Nat) (Option.some Jvm.ClassFile.FieldType.int)) ∈ lw_tbl := mT2 (List.mem_of_getElem? (i := 161) rfl)
theorem w2_161 : (Jvm.Cond.code ({ cls := "java/util/ArrayList", name := "size", desc := "()I" } : Jvm.MethodName) prog_23_method_8_code (1 : Nat) (Option.some Jvm.ClassFile.FieldType.int)) ∈ lw_g := lw_in w2_161t rfl
theorem w2_162t : (Jvm.Cond.classLink "DotPress" (122 : Nat) "DotPress$Table") ∈ lw_tbl := mT2 (List.mem_of_getElem? (i := 162) rfl)
theorem w2_162 : (Jvm.Cond.classLink "DotPress" (122 : Nat) "DotPress$Table") ∈ lw_g := lw_in w2_162t rfl
theorem w2_163t : (Jvm.Cond.instantiable "DotPress$Table" (8 : Nat)) ∈ lw_tbl := mT2 (List.mem_of_getElem? (i := 163) rfl)
theorem w2_163 : (Jvm.Cond.instantiable "DotPress$Table" (8 : Nat)) ∈ lw_g := lw_in w2_163t rfl
theorem w2_164t : (Jvm.Cond.methodLink "DotPress" (124 : Nat) ({ cls := "DotPress$Table", name := "<init>", desc := "(IILDotPress$Table;LDotPress$Table;)V" } : Jvm.MethodName)) ∈ lw_tbl := mT2 (List.mem_of_getElem? (i := 164) rfl)
theorem w2_164 : (Jvm.Cond.methodLink "DotPress" (124 : Nat) ({ cls := "DotPress$Table", name := "<init>", desc := "(IILDotPress$Table;LDotPress$Table;)V" } : Jvm.MethodName)) ∈ lw_g := lw_in w2_164t rfl
theorem w2_165t : (Jvm.Cond.instanceMethod ({ cls := "DotPress$Table", name := "<init>", desc := "(IILDotPress$Table;LDotPress$Table;)V" } : Jvm.MethodName)) ∈ lw_tbl := mT2 (List.mem_of_getElem? (i := 165) rfl)
theorem w2_165 : (Jvm.Cond.instanceMethod ({ cls := "DotPress$Table", name := "<init>", desc := "(IILDotPress$Table;LDotPress$Table;)V" } : Jvm.MethodName)) ∈ lw_g := lw_in w2_165t rfl
theorem w2_166t : (Jvm.Cond.code ({ cls := "DotPress$Table", name := "<init>", desc := "(IILDotPress$Table;LDotPress$Table;)V" } : Jvm.MethodName) prog_11_method_1_code (5 : Nat) (Option.none : Option Jvm.ClassFile.FieldType)) ∈ lw_tbl := mT2 (List.mem_of_getElem? (i := 166) rfl)
theorem w2_166 : (Jvm.Cond.code ({ cls := "DotPress$Table", name := "<init>", desc := "(IILDotPress$Table;LDotPress$Table;)V" } : Jvm.MethodName) prog_11_method_1_code (5 : Nat) (Option.none : Option Jvm.ClassFile.FieldType)) ∈ lw_g := lw_in w2_166t rfl
theorem w2_167t : (Jvm.Cond.methodLink "DotPress$Table" (3 : Nat) ({ cls := "java/lang/Object", name := "<init>", desc := "()V" } : Jvm.MethodName)) ∈ lw_tbl := mT2 (List.mem_of_getElem? (i := 167) rfl)
theorem w2_167 : (Jvm.Cond.methodLink "DotPress$Table" (3 : Nat) ({ cls := "java/lang/Object", name := "<init>", desc := "()V" } : Jvm.MethodName)) ∈ lw_g := lw_in w2_167t rfl
theorem w2_168t : (Jvm.Cond.classLink "DotPress$Table" (9 : Nat) "java/util/ArrayList") ∈ lw_tbl := mT2 (List.mem_of_getElem? (i := 168) rfl)
theorem w2_168 : (Jvm.Cond.classLink "DotPress$Table" (9 : Nat) "java/util/ArrayList") ∈ lw_g := lw_in w2_168t rfl
theorem w2_169t : (Jvm.Cond.methodLink "DotPress$Table" (11 : Nat) ({ cls := "java/util/ArrayList", name := "<init>", desc := "()V" } : Jvm.MethodName)) ∈ lw_tbl := mT2 (List.mem_of_getElem? (i := 169) rfl)
theorem w2_169 : (Jvm.Cond.methodLink "DotPress$Table" (11 : Nat) ({ cls := "java/util/ArrayList", name := "<init>", desc := "()V" } : Jvm.MethodName)) ∈ lw_g := lw_in w2_169t rfl
theorem w2_170t : (Jvm.Cond.classLink "DotPress$Table" (18 : Nat) "DotPress$Ints") ∈ lw_tbl := mT2 (List.mem_of_getElem? (i := 170) rfl)
theorem w2_170 : (Jvm.Cond.classLink "DotPress$Table" (18 : Nat) "DotPress$Ints") ∈ lw_g := lw_in w2_170t rfl
theorem w2_171t : (Jvm.Cond.methodLink "DotPress$Table" (20 : Nat) ({ cls := "DotPress$Ints", name := "<init>", desc := "(I)V" } : Jvm.MethodName)) ∈ lw_tbl := mT2 (List.mem_of_getElem? (i := 171) rfl)
theorem w2_171 : (Jvm.Cond.methodLink "DotPress$Table" (20 : Nat) ({ cls := "DotPress$Ints", name := "<init>", desc := "(I)V" } : Jvm.MethodName)) ∈ lw_g := lw_in w2_171t rfl
theorem w2_172t : (Jvm.Cond.classLink "DotPress$Table" (27 : Nat) "DotPress$Row") ∈ lw_tbl := mT2 (List.mem_of_getElem? (i := 172) rfl)
theorem w2_172 : (Jvm.Cond.classLink "DotPress$Table" (27 : Nat) "DotPress$Row") ∈ lw_g := lw_in w2_172t rfl
theorem w2_173t : (Jvm.Cond.arrayOver (Jvm.ClassFile.FieldType.object "DotPress$Row")) ∈ lw_tbl := mT2 (List.mem_of_getElem? (i := 173) rfl)
theorem w2_174t : (Jvm.Cond.fieldLink "DotPress$Table" (37 : Nat) "DotPress$Table" "kind" "I") ∈ lw_tbl := mT2 (List.mem_of_getElem? (i := 174) rfl)
theorem w2_174 : (Jvm.Cond.fieldLink "DotPress$Table" (37 : Nat) "DotPress$Table" "kind" "I") ∈ lw_g := lw_in w2_174t rfl
theorem w2_178t : (Jvm.Cond.fieldLink "DotPress$Table" (41 : Nat) "DotPress$Table" "dots" "I") ∈ lw_tbl := mT2 (List.mem_of_getElem? (i := 178) rfl)
theorem w2_178 : (Jvm.Cond.fieldLink "DotPress$Table" (41 : Nat) "DotPress$Table" "dots" "I") ∈ lw_g := lw_in w2_178t rfl
theorem w2_18t : (Jvm.Cond.laysFinal "DotPress$Readings" "DotPress$Readings" "cells" "[I") ∈ lw_tbl := mT2 (List.mem_of_getElem? (i := 18) rfl)
theorem w2_18 : (Jvm.Cond.laysFinal "DotPress$Readings" "DotPress$Readings" "cells" "[I") ∈ lw_g := lw_in w2_18t rfl
theorem w2_180t : (Jvm.Cond.fieldLink "DotPress$Table" (44 : Nat) "DotPress$Table" "base" "LDotPress$Table;") ∈ lw_tbl := mT2 (List.mem_of_getElem? (i := 180) rfl)
theorem w2_180 : (Jvm.Cond.fieldLink "DotPress$Table" (44 : Nat) "DotPress$Table" "base" "LDotPress$Table;") ∈ lw_g := lw_in w2_180t rfl
theorem w2_183t : (Jvm.Cond.fieldLink "DotPress$Table" (48 : Nat) "DotPress$Table" "second" "LDotPress$Table;") ∈ lw_tbl := mT2 (List.mem_of_getElem? (i := 183) rfl)
theorem w2_183 : (Jvm.Cond.fieldLink "DotPress$Table" (48 : Nat) "DotPress$Table" "second" "LDotPress$Table;") ∈ lw_g := lw_in w2_183t rfl
theorem w2_186t : (Jvm.Cond.fieldLink "DotPress$Table" (12 : Nat) "DotPress$Table" "rules" "Ljava/util/ArrayList;") ∈ lw_tbl := mT2 (List.mem_of_getElem? (i := 186) rfl)
theorem w2_186 : (Jvm.Cond.fieldLink "DotPress$Table" (12 : Nat) "DotPress$Table" "rules" "Ljava/util/ArrayList;") ∈ lw_g := lw_in w2_186t rfl
theorem w2_190t : (Jvm.Cond.fieldLink "DotPress$Table" (23 : Nat) "DotPress$Table" "initials" "LDotPress$Ints;") ∈ lw_tbl := mT2 (List.mem_of_getElem? (i := 190) rfl)
theorem w2_190 : (Jvm.Cond.fieldLink "DotPress$Table" (23 : Nat) "DotPress$Table" "initials" "LDotPress$Ints;") ∈ lw_g := lw_in w2_190t rfl
theorem w2_192t : (Jvm.Cond.fieldLink "DotPress$Table" (29 : Nat) "DotPress$Table" "indicators" "[LDotPress$Row;") ∈ lw_tbl := mT2 (List.mem_of_getElem? (i := 192) rfl)
theorem w2_192 : (Jvm.Cond.fieldLink "DotPress$Table" (29 : Nat) "DotPress$Table" "indicators" "[LDotPress$Row;") ∈ lw_g := lw_in w2_192t rfl
theorem w2_197t : (Jvm.Cond.fieldLink "DotPress$Table" (33 : Nat) "DotPress$Table" "dropped" "Z") ∈ lw_tbl := mT2 (List.mem_of_getElem? (i := 197) rfl)
theorem w2_197 : (Jvm.Cond.fieldLink "DotPress$Table" (33 : Nat) "DotPress$Table" "dropped" "Z") ∈ lw_g := lw_in w2_197t rfl
theorem w2_2t : (Jvm.Cond.laysFinal "DotPress$Readings" "DotPress$Readings" "canEnd" "[Z") ∈ lw_tbl := mT2 (List.mem_of_getElem? (i := 2) rfl)
theorem w2_2 : (Jvm.Cond.laysFinal "DotPress$Readings" "DotPress$Readings" "canEnd" "[Z") ∈ lw_g := lw_in w2_2t rfl
theorem w2_20t : (Jvm.Cond.lays "DotPress$Readings" "DotPress$Readings" "size" "I") ∈ lw_tbl := mT2 (List.mem_of_getElem? (i := 20) rfl)
theorem w2_20 : (Jvm.Cond.lays "DotPress$Readings" "DotPress$Readings" "size" "I") ∈ lw_g := lw_in w2_20t rfl
theorem w2_200t : (Jvm.Cond.laysFinal "DotPress$Table" "DotPress$Table" "kind" "I") ∈ lw_tbl := mT2 (List.mem_of_getElem? (i := 200) rfl)
theorem w2_200 : (Jvm.Cond.laysFinal "DotPress$Table" "DotPress$Table" "kind" "I") ∈ lw_g := lw_in w2_200t rfl
theorem w2_202t : (Jvm.Cond.laysFinal "DotPress$Table" "DotPress$Table" "dots" "I") ∈ lw_tbl := mT2 (List.mem_of_getElem? (i := 202) rfl)
theorem w2_202 : (Jvm.Cond.laysFinal "DotPress$Table" "DotPress$Table" "dots" "I") ∈ lw_g := lw_in w2_202t rfl
theorem w2_204t : (Jvm.Cond.laysFinal "DotPress$Table" "DotPress$Table" "base" "LDotPress$Table;") ∈ lw_tbl := mT2 (List.mem_of_getElem? (i := 204) rfl)
theorem w2_204 : (Jvm.Cond.laysFinal "DotPress$Table" "DotPress$Table" "base" "LDotPress$Table;") ∈ lw_g := lw_in w2_204t rfl
theorem w2_206t : (Jvm.Cond.laysFinal "DotPress$Table" "DotPress$Table" "second" "LDotPress$Table;") ∈ lw_tbl := mT2 (List.mem_of_getElem? (i := 206) rfl)
theorem w2_206 : (Jvm.Cond.laysFinal "DotPress$Table" "DotPress$Table" "second" "LDotPress$Table;") ∈ lw_g := lw_in w2_206t rfl
theorem w2_208t : (Jvm.Cond.laysFinal "DotPress$Table" "DotPress$Table" "rules" "Ljava/util/ArrayList;") ∈ lw_tbl := mT2 (List.mem_of_getElem? (i := 208) rfl)
theorem w2_208 : (Jvm.Cond.laysFinal "DotPress$Table" "DotPress$Table" "rules" "Ljava/util/ArrayList;") ∈ lw_g := lw_in w2_208t rfl
theorem w2_210t : (Jvm.Cond.laysFinal "DotPress$Table" "DotPress$Table" "initials" "LDotPress$Ints;") ∈ lw_tbl := mT2 (List.mem_of_getElem? (i := 210) rfl)
theorem w2_210 : (Jvm.Cond.laysFinal "DotPress$Table" "DotPress$Table" "initials" "LDotPress$Ints;") ∈ lw_g := lw_in w2_210t rfl
theorem w2_212t : (Jvm.Cond.laysFinal "DotPress$Table" "DotPress$Table" "indicators" "[LDotPress$Row;") ∈ lw_tbl := mT2 (List.mem_of_getElem? (i := 212) rfl)
theorem w2_212 : (Jvm.Cond.laysFinal "DotPress$Table" "DotPress$Table" "indicators" "[LDotPress$Row;") ∈ lw_g := lw_in w2_212t rfl
theorem w2_214t : (Jvm.Cond.lays "DotPress$Table" "DotPress$Table" "dropped" "Z") ∈ lw_tbl := mT2 (List.mem_of_getElem? (i := 214) rfl)
theorem w2_214 : (Jvm.Cond.lays "DotPress$Table" "DotPress$Table" "dropped" "Z") ∈ lw_g := lw_in w2_214t rfl
theorem w2_217t : (Jvm.Cond.methodLink "DotPress" (127 : Nat) ({ cls := "DotPress$Tables", name := "make", desc := "(LDotPress$Table;)I" } : Jvm.MethodName)) ∈ lw_tbl := mT2 (List.mem_of_getElem? (i := 217) rfl)
theorem w2_217 : (Jvm.Cond.methodLink "DotPress" (127 : Nat) ({ cls := "DotPress$Tables", name := "make", desc := "(LDotPress$Table;)I" } : Jvm.MethodName)) ∈ lw_g := lw_in w2_217t rfl
theorem w2_218t : (Jvm.Cond.instanceMethod ({ cls := "DotPress$Tables", name := "make", desc := "(LDotPress$Table;)I" } : Jvm.MethodName)) ∈ lw_tbl := mT2 (List.mem_of_getElem? (i := 218) rfl)
theorem w2_218 : (Jvm.Cond.instanceMethod ({ cls := "DotPress$Tables", name := "make", desc := "(LDotPress$Table;)I" } : Jvm.MethodName)) ∈ lw_g := lw_in w2_218t rfl
theorem w2_219t : (Jvm.Cond.selects "DotPress$Tables" ({ cls := "DotPress$Tables", name := "make", desc := "(LDotPress$Table;)I" } : Jvm.MethodName) ({ cls := "DotPress$Tables", name := "make", desc := "(LDotPress$Table;)I" } : Jvm.MethodName)) ∈ lw_tbl := mT2 (List.mem_of_getElem? (i := 219) rfl)
theorem w2_219 : (Jvm.Cond.selects "DotPress$Tables" ({ cls := "DotPress$Tables", name := "make", desc := "(LDotPress$Table;)I" } : Jvm.MethodName) ({ cls := "DotPress$Tables", name := "make", desc := "(LDotPress$Table;)I" } : Jvm.MethodName)) ∈ lw_g := lw_in w2_219t rfl
theorem w2_22t : (Jvm.Cond.lays "DotPress$Readings" "DotPress$Readings" "seen" "I") ∈ lw_tbl := mT2 (List.mem_of_getElem? (i := 22) rfl)
theorem w2_22 : (Jvm.Cond.lays "DotPress$Readings" "DotPress$Readings" "seen" "I") ∈ lw_g := lw_in w2_22t rfl
theorem w2_220t : (Jvm.Cond.code ({ cls := "DotPress$Tables", name := "make", desc := "(LDotPress$Table;)I" } : Jvm.MethodName) prog_12_method_5_code (2 : Nat) (Option.some Jvm.ClassFile.FieldType.int)) ∈ lw_tbl := mT2 (List.mem_of_getElem? (i := 220) rfl)
theorem w2_220 : (Jvm.Cond.code ({ cls := "DotPress$Tables", name := "make", desc := "(LDotPress$Table;)I" } : Jvm.MethodName) prog_12_method_5_code (2 : Nat) (Option.some Jvm.ClassFile.FieldType.int)) ∈ lw_g := lw_in w2_220t rfl
theorem w2_221t : (Jvm.Cond.methodLink "DotPress$Tables" (43 : Nat) ({ cls := "java/util/ArrayList", name := "add", desc := "(Ljava/lang/Object;)Z" } : Jvm.MethodName)) ∈ lw_tbl := mT2 (List.mem_of_getElem? (i := 221) rfl)
theorem w2_221 : (Jvm.Cond.methodLink "DotPress$Tables" (43 : Nat) ({ cls := "java/util/ArrayList", name := "add", desc := "(Ljava/lang/Object;)Z" } : Jvm.MethodName)) ∈ lw_g := lw_in w2_221t rfl
theorem w2_222t : (Jvm.Cond.instanceMethod ({ cls := "java/util/ArrayList", name := "add", desc := "(Ljava/lang/Object;)Z" } : Jvm.MethodName)) ∈ lw_tbl := mT2 (List.mem_of_getElem? (i := 222) rfl)
theorem w2_222 : (Jvm.Cond.instanceMethod ({ cls := "java/util/ArrayList", name := "add", desc := "(Ljava/lang/Object;)Z" } : Jvm.MethodName)) ∈ lw_g := lw_in w2_222t rfl
theorem w2_223t : (Jvm.Cond.selects "java/util/ArrayList" ({ cls := "java/util/ArrayList", name := "add", desc := "(Ljava/lang/Object;)Z" } : Jvm.MethodName) ({ cls := "java/util/ArrayList", name := "add", desc := "(Ljava/lang/Object;)Z" } : Jvm.MethodName)) ∈ lw_tbl := mT2 (List.mem_of_getElem? (i := 223) rfl)
theorem w2_223 : (Jvm.Cond.selects "java/util/ArrayList" ({ cls := "java/util/ArrayList", name := "add", desc := "(Ljava/lang/Object;)Z" } : Jvm.MethodName) ({ cls := "java/util/ArrayList", name := "add", desc := "(Ljava/lang/Object;)Z" } : Jvm.MethodName)) ∈ lw_g := lw_in w2_223t rfl
theorem w2_224t : (Jvm.Cond.code ({ cls := "java/util/ArrayList", name := "add", desc := "(Ljava/lang/Object;)Z" } : Jvm.MethodName) prog_23_method_25_code (2 : Nat) (Option.some Jvm.ClassFile.FieldType.boolean)) ∈ lw_tbl := mT2 (List.mem_of_getElem? (i := 224) rfl)
theorem w2_224 : (Jvm.Cond.code ({ cls := "java/util/ArrayList", name := "add", desc := "(Ljava/lang/Object;)Z" } : Jvm.MethodName) prog_23_method_25_code (2 : Nat) (Option.some Jvm.ClassFile.FieldType.boolean)) ∈ lw_g := lw_in w2_224t rfl
theorem w2_225t : (Jvm.Cond.methodLink "java/util/ArrayList" (131 : Nat) ({ cls := "java/util/ArrayList", name := "add", desc := "(Ljava/lang/Object;[Ljava/lang/Object;I)V" } : Jvm.MethodName)) ∈ lw_tbl := mT2 (List.mem_of_getElem? (i := 225) rfl)
theorem w2_225 : (Jvm.Cond.methodLink "java/util/ArrayList" (131 : Nat) ({ cls := "java/util/ArrayList", name := "add", desc := "(Ljava/lang/Object;[Ljava/lang/Object;I)V" } : Jvm.MethodName)) ∈ lw_g := lw_in w2_225t rfl
theorem w2_227t : (Jvm.Cond.instanceMethod ({ cls := "java/util/ArrayList", name := "add", desc := "(Ljava/lang/Object;[Ljava/lang/Object;I)V" } : Jvm.MethodName)) ∈ lw_tbl := mT2 (List.mem_of_getElem? (i := 227) rfl)
theorem w2_227 : (Jvm.Cond.instanceMethod ({ cls := "java/util/ArrayList", name := "add", desc := "(Ljava/lang/Object;[Ljava/lang/Object;I)V" } : Jvm.MethodName)) ∈ lw_g := lw_in w2_227t rfl
theorem w2_228t : (Jvm.Cond.code ({ cls := "java/util/ArrayList", name := "add", desc := "(Ljava/lang/Object;[Ljava/lang/Object;I)V" } : Jvm.MethodName) prog_23_method_24_code (4 : Nat) (Option.none : Option Jvm.ClassFile.FieldType)) ∈ lw_tbl := mT2 (List.mem_of_getElem? (i := 228) rfl)
theorem w2_228 : (Jvm.Cond.code ({ cls := "java/util/ArrayList", name := "add", desc := "(Ljava/lang/Object;[Ljava/lang/Object;I)V" } : Jvm.MethodName) prog_23_method_24_code (4 : Nat) (Option.none : Option Jvm.ClassFile.FieldType)) ∈ lw_g := lw_in w2_228t rfl
theorem w2_229t : (Jvm.Cond.methodLink "java/util/ArrayList" (129 : Nat) ({ cls := "java/util/ArrayList", name := "grow", desc := "()[Ljava/lang/Object;" } : Jvm.MethodName)) ∈ lw_tbl := mT2 (List.mem_of_getElem? (i := 229) rfl)
theorem w2_229 : (Jvm.Cond.methodLink "java/util/ArrayList" (129 : Nat) ({ cls := "java/util/ArrayList", name := "grow", desc := "()[Ljava/lang/Object;" } : Jvm.MethodName)) ∈ lw_g := lw_in w2_229t rfl
theorem w2_231t : (Jvm.Cond.instanceMethod ({ cls := "java/util/ArrayList", name := "grow", desc := "()[Ljava/lang/Object;" } : Jvm.MethodName)) ∈ lw_tbl := mT2 (List.mem_of_getElem? (i := 231) rfl)
theorem w2_231 : (Jvm.Cond.instanceMethod ({ cls := "java/util/ArrayList", name := "grow", desc := "()[Ljava/lang/Object;" } : Jvm.MethodName)) ∈ lw_g := lw_in w2_231t rfl
theorem w2_232t : (Jvm.Cond.code ({ cls := "java/util/ArrayList", name := "grow", desc := "()[Ljava/lang/Object;" } : Jvm.MethodName) prog_23_method_7_code (1 : Nat) (Option.some (Jvm.ClassFile.FieldType.array (Jvm.ClassFile.FieldType.object "java/lang/Object")))) ∈ lw_tbl := mT2 (List.mem_of_getElem? (i := 232) rfl)
theorem w2_232 : (Jvm.Cond.code ({ cls := "java/util/ArrayList", name := "grow", desc := "()[Ljava/lang/Object;" } : Jvm.MethodName) prog_23_method_7_code (1 : Nat) (Option.some (Jvm.ClassFile.FieldType.array (Jvm.ClassFile.FieldType.object "java/lang/Object")))) ∈ lw_g := lw_in w2_232t rfl
theorem w2_233t : (Jvm.Cond.methodLink "java/util/ArrayList" (69 : Nat) ({ cls := "java/util/ArrayList", name := "grow", desc := "(I)[Ljava/lang/Object;" } : Jvm.MethodName)) ∈ lw_tbl := mT2 (List.mem_of_getElem? (i := 233) rfl)
theorem w2_233 : (Jvm.Cond.methodLink "java/util/ArrayList" (69 : Nat) ({ cls := "java/util/ArrayList", name := "grow", desc := "(I)[Ljava/lang/Object;" } : Jvm.MethodName)) ∈ lw_g := lw_in w2_233t rfl
theorem w2_235t : (Jvm.Cond.instanceMethod ({ cls := "java/util/ArrayList", name := "grow", desc := "(I)[Ljava/lang/Object;" } : Jvm.MethodName)) ∈ lw_tbl := mT2 (List.mem_of_getElem? (i := 235) rfl)
theorem w2_235 : (Jvm.Cond.instanceMethod ({ cls := "java/util/ArrayList", name := "grow", desc := "(I)[Ljava/lang/Object;" } : Jvm.MethodName)) ∈ lw_g := lw_in w2_235t rfl
theorem w2_236t : (Jvm.Cond.code ({ cls := "java/util/ArrayList", name := "grow", desc := "(I)[Ljava/lang/Object;" } : Jvm.MethodName) prog_23_method_6_code (4 : Nat) (Option.some (Jvm.ClassFile.FieldType.array (Jvm.ClassFile.FieldType.object "java/lang/Object")))) ∈ lw_tbl := mT2 (List.mem_of_getElem? (i := 236) rfl)
theorem w2_236 : (Jvm.Cond.code ({ cls := "java/util/ArrayList", name := "grow", desc := "(I)[Ljava/lang/Object;" } : Jvm.MethodName) prog_23_method_6_code (4 : Nat) (Option.some (Jvm.ClassFile.FieldType.array (Jvm.ClassFile.FieldType.object "java/lang/Object")))) ∈ lw_g := lw_in w2_236t rfl
theorem w2_25t : (Jvm.Cond.classLink "DotPress" (64 : Nat) "DotPress$Sheet") ∈ lw_tbl := mT2 (List.mem_of_getElem? (i := 25) rfl)
theorem w2_25 : (Jvm.Cond.classLink "DotPress" (64 : Nat) "DotPress$Sheet") ∈ lw_g := lw_in w2_25t rfl
theorem w2_26t : (Jvm.Cond.instantiable "DotPress$Sheet" (3 : Nat)) ∈ lw_tbl := mT2 (List.mem_of_getElem? (i := 26) rfl)
theorem w2_26 : (Jvm.Cond.instantiable "DotPress$Sheet" (3 : Nat)) ∈ lw_g := lw_in w2_26t rfl
theorem w2_27t : (Jvm.Cond.methodLinkNest "DotPress" (66 : Nat) ({ cls := "DotPress$Sheet", name := "<init>", desc := "()V" } : Jvm.MethodName) "DotPress") ∈ lw_tbl := mT2 (List.mem_of_getElem? (i := 27) rfl)
theorem w2_28t : (Jvm.Cond.instanceMethod ({ cls := "DotPress$Sheet", name := "<init>", desc := "()V" } : Jvm.MethodName)) ∈ lw_tbl := mT2 (List.mem_of_getElem? (i := 28) rfl)
theorem w2_28 : (Jvm.Cond.instanceMethod ({ cls := "DotPress$Sheet", name := "<init>", desc := "()V" } : Jvm.MethodName)) ∈ lw_g := lw_in w2_28t rfl
theorem w2_29t : (Jvm.Cond.code ({ cls := "DotPress$Sheet", name := "<init>", desc := "()V" } : Jvm.MethodName) prog_9_method_1_code (1 : Nat) (Option.none : Option Jvm.ClassFile.FieldType)) ∈ lw_tbl := mT2 (List.mem_of_getElem? (i := 29) rfl)
theorem w2_29 : (Jvm.Cond.code ({ cls := "DotPress$Sheet", name := "<init>", desc := "()V" } : Jvm.MethodName) prog_9_method_1_code (1 : Nat) (Option.none : Option Jvm.ClassFile.FieldType)) ∈ lw_g := lw_in w2_29t rfl
theorem w2_30t : (Jvm.Cond.methodLink "DotPress$Sheet" (3 : Nat) ({ cls := "java/lang/Object", name := "<init>", desc := "()V" } : Jvm.MethodName)) ∈ lw_tbl := mT2 (List.mem_of_getElem? (i := 30) rfl)
theorem w2_30 : (Jvm.Cond.methodLink "DotPress$Sheet" (3 : Nat) ({ cls := "java/lang/Object", name := "<init>", desc := "()V" } : Jvm.MethodName)) ∈ lw_g := lw_in w2_30t rfl
theorem w2_31t : (Jvm.Cond.classLink "DotPress$Sheet" (9 : Nat) "DotPress$Line") ∈ lw_tbl := mT2 (List.mem_of_getElem? (i := 31) rfl)
theorem w2_31 : (Jvm.Cond.classLink "DotPress$Sheet" (9 : Nat) "DotPress$Line") ∈ lw_g := lw_in w2_31t rfl
theorem w2_32t : (Jvm.Cond.arrayOver (Jvm.ClassFile.FieldType.object "DotPress$Line")) ∈ lw_tbl := mT2 (List.mem_of_getElem? (i := 32) rfl)
theorem w2_33t : (Jvm.Cond.fieldLink "DotPress$Sheet" (11 : Nat) "DotPress$Sheet" "rows" "[LDotPress$Line;") ∈ lw_tbl := mT2 (List.mem_of_getElem? (i := 33) rfl)
theorem w2_33 : (Jvm.Cond.fieldLink "DotPress$Sheet" (11 : Nat) "DotPress$Sheet" "rows" "[LDotPress$Line;") ∈ lw_g := lw_in w2_33t rfl
theorem w2_34t : (Jvm.Cond.fieldLink "DotPress$Sheet" (17 : Nat) "DotPress$Sheet" "count" "I") ∈ lw_tbl := mT2 (List.mem_of_getElem? (i := 34) rfl)
theorem w2_34 : (Jvm.Cond.fieldLink "DotPress$Sheet" (17 : Nat) "DotPress$Sheet" "count" "I") ∈ lw_g := lw_in w2_34t rfl
theorem w2_35t : (Jvm.Cond.fieldLink "DotPress" (269 : Nat) "DotPress$Sheet" "count" "I") ∈ lw_tbl := mT2 (List.mem_of_getElem? (i := 35) rfl)
theorem w2_35 : (Jvm.Cond.fieldLink "DotPress" (269 : Nat) "DotPress$Sheet" "count" "I") ∈ lw_g := lw_in w2_35t rfl
theorem w2_36t : (Jvm.Cond.fieldLink "DotPress$Sheet" (21 : Nat) "DotPress$Sheet" "textBegin" "I") ∈ lw_tbl := mT2 (List.mem_of_getElem? (i := 36) rfl)
theorem w2_36 : (Jvm.Cond.fieldLink "DotPress$Sheet" (21 : Nat) "DotPress$Sheet" "textBegin" "I") ∈ lw_g := lw_in w2_36t rfl
theorem w2_37t : (Jvm.Cond.laysFinal "DotPress$Sheet" "DotPress$Sheet" "rows" "[LDotPress$Line;") ∈ lw_tbl := mT2 (List.mem_of_getElem? (i := 37) rfl)
theorem w2_37 : (Jvm.Cond.laysFinal "DotPress$Sheet" "DotPress$Sheet" "rows" "[LDotPress$Line;") ∈ lw_g := lw_in w2_37t rfl
theorem w2_39t : (Jvm.Cond.lays "DotPress$Sheet" "DotPress$Sheet" "count" "I") ∈ lw_tbl := mT2 (List.mem_of_getElem? (i := 39) rfl)
theorem w2_39 : (Jvm.Cond.lays "DotPress$Sheet" "DotPress$Sheet" "count" "I") ∈ lw_g := lw_in w2_39t rfl
theorem w2_4t : (Jvm.Cond.laysFinal "DotPress$Readings" "DotPress$Readings" "nodes" "[I") ∈ lw_tbl := mT2 (List.mem_of_getElem? (i := 4) rfl)
theorem w2_4 : (Jvm.Cond.laysFinal "DotPress$Readings" "DotPress$Readings" "nodes" "[I") ∈ lw_g := lw_in w2_4t rfl
theorem w2_41t : (Jvm.Cond.lays "DotPress$Sheet" "DotPress$Sheet" "textBegin" "I") ∈ lw_tbl := mT2 (List.mem_of_getElem? (i := 41) rfl)
theorem w2_41 : (Jvm.Cond.lays "DotPress$Sheet" "DotPress$Sheet" "textBegin" "I") ∈ lw_g := lw_in w2_41t rfl
theorem w2_44t : (Jvm.Cond.fieldLink "DotPress" (14 : Nat) "DotPress" "tape" "LDotPress$Ints;") ∈ lw_tbl := mT2 (List.mem_of_getElem? (i := 44) rfl)
theorem w2_44 : (Jvm.Cond.fieldLink "DotPress" (14 : Nat) "DotPress" "tape" "LDotPress$Ints;") ∈ lw_g := lw_in w2_44t rfl
theorem w2_45t : (Jvm.Cond.fieldLink "DotPress" (18 : Nat) "DotPress" "written" "LDotPress$Ints;") ∈ lw_tbl := mT2 (List.mem_of_getElem? (i := 45) rfl)
theorem w2_45 : (Jvm.Cond.fieldLink "DotPress" (18 : Nat) "DotPress" "written" "LDotPress$Ints;") ∈ lw_g := lw_in w2_45t rfl
theorem w2_46t : (Jvm.Cond.fieldLink "DotPress" (21 : Nat) "DotPress" "bytesRead" "LDotPress$Ints;") ∈ lw_tbl := mT2 (List.mem_of_getElem? (i := 46) rfl)
theorem w2_46 : (Jvm.Cond.fieldLink "DotPress" (21 : Nat) "DotPress" "bytesRead" "LDotPress$Ints;") ∈ lw_g := lw_in w2_46t rfl
theorem w2_47t : (Jvm.Cond.fieldLink "DotPress" (24 : Nat) "DotPress" "header" "LDotPress$Ints;") ∈ lw_tbl := mT2 (List.mem_of_getElem? (i := 47) rfl)
theorem w2_47 : (Jvm.Cond.fieldLink "DotPress" (24 : Nat) "DotPress" "header" "LDotPress$Ints;") ∈ lw_g := lw_in w2_47t rfl
theorem w2_48t : (Jvm.Cond.fieldLink "DotPress" (30 : Nat) "DotPress" "tables" "LDotPress$Tables;") ∈ lw_tbl := mT2 (List.mem_of_getElem? (i := 48) rfl)
theorem w2_48 : (Jvm.Cond.fieldLink "DotPress" (30 : Nat) "DotPress" "tables" "LDotPress$Tables;") ∈ lw_g := lw_in w2_48t rfl
theorem w2_49t : (Jvm.Cond.fieldLink "DotPress" (37 : Nat) "DotPress" "source" "LDotPress$Source;") ∈ lw_tbl := mT2 (List.mem_of_getElem? (i := 49) rfl)
theorem w2_49 : (Jvm.Cond.fieldLink "DotPress" (37 : Nat) "DotPress" "source" "LDotPress$Source;") ∈ lw_g := lw_in w2_49t rfl
theorem w2_50t : (Jvm.Cond.fieldLink "DotPress" (44 : Nat) "DotPress" "word" "LDotPress$Setting;") ∈ lw_tbl := mT2 (List.mem_of_getElem? (i := 50) rfl)
theorem w2_50 : (Jvm.Cond.fieldLink "DotPress" (44 : Nat) "DotPress" "word" "LDotPress$Setting;") ∈ lw_g := lw_in w2_50t rfl
theorem w2_51t : (Jvm.Cond.fieldLink "DotPress" (51 : Nat) "DotPress" "reader" "LDotPress$Reader;") ∈ lw_tbl := mT2 (List.mem_of_getElem? (i := 51) rfl)
theorem w2_51 : (Jvm.Cond.fieldLink "DotPress" (51 : Nat) "DotPress" "reader" "LDotPress$Reader;") ∈ lw_g := lw_in w2_51t rfl
theorem w2_52t : (Jvm.Cond.fieldLink "DotPress" (60 : Nat) "DotPress" "found" "LDotPress$Readings;") ∈ lw_tbl := mT2 (List.mem_of_getElem? (i := 52) rfl)
theorem w2_52 : (Jvm.Cond.fieldLink "DotPress" (60 : Nat) "DotPress" "found" "LDotPress$Readings;") ∈ lw_g := lw_in w2_52t rfl
theorem w2_53t : (Jvm.Cond.fieldLink "DotPress" (67 : Nat) "DotPress" "sheet" "LDotPress$Sheet;") ∈ lw_tbl := mT2 (List.mem_of_getElem? (i := 53) rfl)
theorem w2_53 : (Jvm.Cond.fieldLink "DotPress" (67 : Nat) "DotPress" "sheet" "LDotPress$Sheet;") ∈ lw_g := lw_in w2_53t rfl
theorem w2_54t : (Jvm.Cond.fieldLink "DotPress" (71 : Nat) "DotPress" "draft" "LDotPress$Sheet;") ∈ lw_tbl := mT2 (List.mem_of_getElem? (i := 54) rfl)
theorem w2_54 : (Jvm.Cond.fieldLink "DotPress" (71 : Nat) "DotPress" "draft" "LDotPress$Sheet;") ∈ lw_g := lw_in w2_54t rfl
theorem w2_55t : (Jvm.Cond.fieldLink "DotPress" (74 : Nat) "DotPress" "width" "I") ∈ lw_tbl := mT2 (List.mem_of_getElem? (i := 55) rfl)
theorem w2_55 : (Jvm.Cond.fieldLink "DotPress" (74 : Nat) "DotPress" "width" "I") ∈ lw_g := lw_in w2_55t rfl
theorem w2_56t : (Jvm.Cond.fieldLink "DotPress" (78 : Nat) "DotPress" "height" "I") ∈ lw_tbl := mT2 (List.mem_of_getElem? (i := 56) rfl)
theorem w2_56 : (Jvm.Cond.fieldLink "DotPress" (78 : Nat) "DotPress" "height" "I") ∈ lw_g := lw_in w2_56t rfl
theorem w2_57t : (Jvm.Cond.fieldLink "DotPress" (81 : Nat) "DotPress" "hyphen" "I") ∈ lw_tbl := mT2 (List.mem_of_getElem? (i := 57) rfl)
theorem w2_57 : (Jvm.Cond.fieldLink "DotPress" (81 : Nat) "DotPress" "hyphen" "I") ∈ lw_g := lw_in w2_57t rfl
theorem w2_58t : (Jvm.Cond.fieldLink "DotPress" (84 : Nat) "DotPress" "failedDots" "I") ∈ lw_tbl := mT2 (List.mem_of_getElem? (i := 58) rfl)
theorem w2_58 : (Jvm.Cond.fieldLink "DotPress" (84 : Nat) "DotPress" "failedDots" "I") ∈ lw_g := lw_in w2_58t rfl
theorem w2_59t : (Jvm.Cond.fieldLink "DotPress" (87 : Nat) "DotPress" "linesCopied" "I") ∈ lw_tbl := mT2 (List.mem_of_getElem? (i := 59) rfl)
theorem w2_59 : (Jvm.Cond.fieldLink "DotPress" (87 : Nat) "DotPress" "linesCopied" "I") ∈ lw_g := lw_in w2_59t rfl
theorem w2_6t : (Jvm.Cond.laysFinal "DotPress$Readings" "DotPress$Readings" "choices" "[I") ∈ lw_tbl := mT2 (List.mem_of_getElem? (i := 6) rfl)
theorem w2_6 : (Jvm.Cond.laysFinal "DotPress$Readings" "DotPress$Readings" "choices" "[I") ∈ lw_g := lw_in w2_6t rfl
theorem w2_60t : (Jvm.Cond.fieldLink "DotPress" (90 : Nat) "DotPress" "linesClosed" "I") ∈ lw_tbl := mT2 (List.mem_of_getElem? (i := 60) rfl)
theorem w2_60 : (Jvm.Cond.fieldLink "DotPress" (90 : Nat) "DotPress" "linesClosed" "I") ∈ lw_g := lw_in w2_60t rfl
theorem w2_61t : (Jvm.Cond.fieldLink "DotPress" (93 : Nat) "DotPress" "latestStatus" "I") ∈ lw_tbl := mT2 (List.mem_of_getElem? (i := 61) rfl)
theorem w2_61 : (Jvm.Cond.fieldLink "DotPress" (93 : Nat) "DotPress" "latestStatus" "I") ∈ lw_g := lw_in w2_61t rfl
theorem w2_62t : (Jvm.Cond.fieldLink "DotPress" (96 : Nat) "DotPress" "latestPlace" "I") ∈ lw_tbl := mT2 (List.mem_of_getElem? (i := 62) rfl)
theorem w2_62 : (Jvm.Cond.fieldLink "DotPress" (96 : Nat) "DotPress" "latestPlace" "I") ∈ lw_g := lw_in w2_62t rfl
theorem w2_63t : (Jvm.Cond.laysFinal "DotPress" "DotPress" "tape" "LDotPress$Ints;") ∈ lw_tbl := mT2 (List.mem_of_getElem? (i := 63) rfl)
theorem w2_63 : (Jvm.Cond.laysFinal "DotPress" "DotPress" "tape" "LDotPress$Ints;") ∈ lw_g := lw_in w2_63t rfl
theorem w2_65t : (Jvm.Cond.laysFinal "DotPress" "DotPress" "written" "LDotPress$Ints;") ∈ lw_tbl := mT2 (List.mem_of_getElem? (i := 65) rfl)
theorem w2_65 : (Jvm.Cond.laysFinal "DotPress" "DotPress" "written" "LDotPress$Ints;") ∈ lw_g := lw_in w2_65t rfl
theorem w2_67t : (Jvm.Cond.laysFinal "DotPress" "DotPress" "bytesRead" "LDotPress$Ints;") ∈ lw_tbl := mT2 (List.mem_of_getElem? (i := 67) rfl)
theorem w2_67 : (Jvm.Cond.laysFinal "DotPress" "DotPress" "bytesRead" "LDotPress$Ints;") ∈ lw_g := lw_in w2_67t rfl
theorem w2_69t : (Jvm.Cond.laysFinal "DotPress" "DotPress" "header" "LDotPress$Ints;") ∈ lw_tbl := mT2 (List.mem_of_getElem? (i := 69) rfl)
theorem w2_69 : (Jvm.Cond.laysFinal "DotPress" "DotPress" "header" "LDotPress$Ints;") ∈ lw_g := lw_in w2_69t rfl
theorem w2_71t : (Jvm.Cond.laysFinal "DotPress" "DotPress" "tables" "LDotPress$Tables;") ∈ lw_tbl := mT2 (List.mem_of_getElem? (i := 71) rfl)
theorem w2_71 : (Jvm.Cond.laysFinal "DotPress" "DotPress" "tables" "LDotPress$Tables;") ∈ lw_g := lw_in w2_71t rfl
theorem w2_73t : (Jvm.Cond.laysFinal "DotPress" "DotPress" "source" "LDotPress$Source;") ∈ lw_tbl := mT2 (List.mem_of_getElem? (i := 73) rfl)
theorem w2_73 : (Jvm.Cond.laysFinal "DotPress" "DotPress" "source" "LDotPress$Source;") ∈ lw_g := lw_in w2_73t rfl
theorem w2_75t : (Jvm.Cond.laysFinal "DotPress" "DotPress" "word" "LDotPress$Setting;") ∈ lw_tbl := mT2 (List.mem_of_getElem? (i := 75) rfl)
theorem w2_75 : (Jvm.Cond.laysFinal "DotPress" "DotPress" "word" "LDotPress$Setting;") ∈ lw_g := lw_in w2_75t rfl
theorem w2_77t : (Jvm.Cond.laysFinal "DotPress" "DotPress" "reader" "LDotPress$Reader;") ∈ lw_tbl := mT2 (List.mem_of_getElem? (i := 77) rfl)
theorem w2_77 : (Jvm.Cond.laysFinal "DotPress" "DotPress" "reader" "LDotPress$Reader;") ∈ lw_g := lw_in w2_77t rfl
theorem w2_79t : (Jvm.Cond.laysFinal "DotPress" "DotPress" "found" "LDotPress$Readings;") ∈ lw_tbl := mT2 (List.mem_of_getElem? (i := 79) rfl)
theorem w2_79 : (Jvm.Cond.laysFinal "DotPress" "DotPress" "found" "LDotPress$Readings;") ∈ lw_g := lw_in w2_79t rfl
theorem w2_8t : (Jvm.Cond.laysFinal "DotPress$Readings" "DotPress$Readings" "ends" "[I") ∈ lw_tbl := mT2 (List.mem_of_getElem? (i := 8) rfl)
theorem w2_8 : (Jvm.Cond.laysFinal "DotPress$Readings" "DotPress$Readings" "ends" "[I") ∈ lw_g := lw_in w2_8t rfl
theorem w2_81t : (Jvm.Cond.lays "DotPress" "DotPress" "sheet" "LDotPress$Sheet;") ∈ lw_tbl := mT2 (List.mem_of_getElem? (i := 81) rfl)
theorem w2_81 : (Jvm.Cond.lays "DotPress" "DotPress" "sheet" "LDotPress$Sheet;") ∈ lw_g := lw_in w2_81t rfl
theorem w2_83t : (Jvm.Cond.lays "DotPress" "DotPress" "draft" "LDotPress$Sheet;") ∈ lw_tbl := mT2 (List.mem_of_getElem? (i := 83) rfl)
theorem w2_83 : (Jvm.Cond.lays "DotPress" "DotPress" "draft" "LDotPress$Sheet;") ∈ lw_g := lw_in w2_83t rfl
theorem w2_85t : (Jvm.Cond.lays "DotPress" "DotPress" "width" "I") ∈ lw_tbl := mT2 (List.mem_of_getElem? (i := 85) rfl)
theorem w2_85 : (Jvm.Cond.lays "DotPress" "DotPress" "width" "I") ∈ lw_g := lw_in w2_85t rfl
theorem w2_87t : (Jvm.Cond.lays "DotPress" "DotPress" "height" "I") ∈ lw_tbl := mT2 (List.mem_of_getElem? (i := 87) rfl)
theorem w2_87 : (Jvm.Cond.lays "DotPress" "DotPress" "height" "I") ∈ lw_g := lw_in w2_87t rfl
theorem w2_89t : (Jvm.Cond.lays "DotPress" "DotPress" "hyphen" "I") ∈ lw_tbl := mT2 (List.mem_of_getElem? (i := 89) rfl)
theorem w2_89 : (Jvm.Cond.lays "DotPress" "DotPress" "hyphen" "I") ∈ lw_g := lw_in w2_89t rfl
theorem w2_91t : (Jvm.Cond.lays "DotPress" "DotPress" "failedDots" "I") ∈ lw_tbl := mT2 (List.mem_of_getElem? (i := 91) rfl)
theorem w2_91 : (Jvm.Cond.lays "DotPress" "DotPress" "failedDots" "I") ∈ lw_g := lw_in w2_91t rfl
theorem w2_93t : (Jvm.Cond.lays "DotPress" "DotPress" "linesCopied" "I") ∈ lw_tbl := mT2 (List.mem_of_getElem? (i := 93) rfl)
theorem w2_93 : (Jvm.Cond.lays "DotPress" "DotPress" "linesCopied" "I") ∈ lw_g := lw_in w2_93t rfl
theorem w2_95t : (Jvm.Cond.lays "DotPress" "DotPress" "linesClosed" "I") ∈ lw_tbl := mT2 (List.mem_of_getElem? (i := 95) rfl)
theorem w2_95 : (Jvm.Cond.lays "DotPress" "DotPress" "linesClosed" "I") ∈ lw_g := lw_in w2_95t rfl
theorem w2_97t : (Jvm.Cond.lays "DotPress" "DotPress" "latestStatus" "I") ∈ lw_tbl := mT2 (List.mem_of_getElem? (i := 97) rfl)
theorem w2_97 : (Jvm.Cond.lays "DotPress" "DotPress" "latestStatus" "I") ∈ lw_g := lw_in w2_97t rfl
theorem w2_99t : (Jvm.Cond.lays "DotPress" "DotPress" "latestPlace" "I") ∈ lw_tbl := mT2 (List.mem_of_getElem? (i := 99) rfl)
theorem w2_99 : (Jvm.Cond.lays "DotPress" "DotPress" "latestPlace" "I") ∈ lw_g := lw_in w2_99t rfl
theorem w3_104t : (Jvm.Cond.code ({ cls := "DotPress", name := "rule", desc := "(III)I" } : Jvm.MethodName) prog_1_method_8_code (5 : Nat) (Option.some Jvm.ClassFile.FieldType.int)) ∈ lw_tbl := mT3 (List.mem_of_getElem? (i := 104) rfl)
theorem w3_104 : (Jvm.Cond.code ({ cls := "DotPress", name := "rule", desc := "(III)I" } : Jvm.MethodName) prog_1_method_8_code (5 : Nat) (Option.some Jvm.ClassFile.FieldType.int)) ∈ lw_g := lw_in w3_104t rfl
theorem w3_105t : (Jvm.Cond.methodLink "DotPress" (160 : Nat) ({ cls := "DotPress", name := "addRule", desc := "(III)I" } : Jvm.MethodName)) ∈ lw_tbl := mT3 (List.mem_of_getElem? (i := 105) rfl)
theorem w3_105 : (Jvm.Cond.methodLink "DotPress" (160 : Nat) ({ cls := "DotPress", name := "addRule", desc := "(III)I" } : Jvm.MethodName)) ∈ lw_g := lw_in w3_105t rfl
theorem w3_107t : (Jvm.Cond.instanceMethod ({ cls := "DotPress", name := "addRule", desc := "(III)I" } : Jvm.MethodName)) ∈ lw_tbl := mT3 (List.mem_of_getElem? (i := 107) rfl)
theorem w3_107 : (Jvm.Cond.instanceMethod ({ cls := "DotPress", name := "addRule", desc := "(III)I" } : Jvm.MethodName)) ∈ lw_g := lw_in w3_107t rfl
theorem w3_108t : (Jvm.Cond.code ({ cls := "DotPress", name := "addRule", desc := "(III)I" } : Jvm.MethodName) prog_1_method_9_code (6 : Nat) (Option.some Jvm.ClassFile.FieldType.int)) ∈ lw_tbl := mT3 (List.mem_of_getElem? (i := 108) rfl)
theorem w3_108 : (Jvm.Cond.code ({ cls := "DotPress", name := "addRule", desc := "(III)I" } : Jvm.MethodName) prog_1_method_9_code (6 : Nat) (Option.some Jvm.ClassFile.FieldType.int)) ∈ lw_g := lw_in w3_108t rfl
theorem w3_112t : (Jvm.Cond.methodLink "DotPress" (171 : Nat) ({ cls := "DotPress$Ints", name := "isWithin", desc := "(IIII)Z" } : Jvm.MethodName)) ∈ lw_tbl := mT3 (List.mem_of_getElem? (i := 112) rfl)
theorem w3_112 : (Jvm.Cond.methodLink "DotPress" (171 : Nat) ({ cls := "DotPress$Ints", name := "isWithin", desc := "(IIII)Z" } : Jvm.MethodName)) ∈ lw_g := lw_in w3_112t rfl
theorem w3_113t : (Jvm.Cond.instanceMethod ({ cls := "DotPress$Ints", name := "isWithin", desc := "(IIII)Z" } : Jvm.MethodName)) ∈ lw_tbl := mT3 (List.mem_of_getElem? (i := 113) rfl)
theorem w3_113 : (Jvm.Cond.instanceMethod ({ cls := "DotPress$Ints", name := "isWithin", desc := "(IIII)Z" } : Jvm.MethodName)) ∈ lw_g := lw_in w3_113t rfl
theorem w3_114t : (Jvm.Cond.selects "DotPress$Ints" ({ cls := "DotPress$Ints", name := "isWithin", desc := "(IIII)Z" } : Jvm.MethodName) ({ cls := "DotPress$Ints", name := "isWithin", desc := "(IIII)Z" } : Jvm.MethodName)) ∈ lw_tbl := mT3 (List.mem_of_getElem? (i := 114) rfl)
theorem w3_114 : (Jvm.Cond.selects "DotPress$Ints" ({ cls := "DotPress$Ints", name := "isWithin", desc := "(IIII)Z" } : Jvm.MethodName) ({ cls := "DotPress$Ints", name := "isWithin", desc := "(IIII)Z" } : Jvm.MethodName)) ∈ lw_g := lw_in w3_114t rfl
theorem w3_115t : (Jvm.Cond.code ({ cls := "DotPress$Ints", name := "isWithin", desc := "(IIII)Z" } : Jvm.MethodName) prog_3_method_7_code (6 : Nat) (Option.some Jvm.ClassFile.FieldType.boolean)) ∈ lw_tbl := mT3 (List.mem_of_getElem? (i := 115) rfl)
theorem w3_115 : (Jvm.Cond.code ({ cls := "DotPress$Ints", name := "isWithin", desc := "(IIII)Z" } : Jvm.MethodName) prog_3_method_7_code (6 : Nat) (Option.some Jvm.ClassFile.FieldType.boolean)) ∈ lw_g := lw_in w3_115t rfl
theorem w3_151t : (Jvm.Cond.laysFinal "DotPress$Row" "DotPress$Row" "role" "I") ∈ lw_tbl := mT3 (List.mem_of_getElem? (i := 151) rfl)
theorem w3_151 : (Jvm.Cond.laysFinal "DotPress$Row" "DotPress$Row" "role" "I") ∈ lw_g := lw_in w3_151t rfl
theorem w3_153t : (Jvm.Cond.laysFinal "DotPress$Row" "DotPress$Row" "letters" "[I") ∈ lw_tbl := mT3 (List.mem_of_getElem? (i := 153) rfl)
theorem w3_153 : (Jvm.Cond.laysFinal "DotPress$Row" "DotPress$Row" "letters" "[I") ∈ lw_g := lw_in w3_153t rfl
theorem w3_155t : (Jvm.Cond.laysFinal "DotPress$Row" "DotPress$Row" "cells" "[I") ∈ lw_tbl := mT3 (List.mem_of_getElem? (i := 155) rfl)
theorem w3_155 : (Jvm.Cond.laysFinal "DotPress$Row" "DotPress$Row" "cells" "[I") ∈ lw_g := lw_in w3_155t rfl
theorem w3_157t : (Jvm.Cond.lays "DotPress$Row" "DotPress$Row" "condition" "I") ∈ lw_tbl := mT3 (List.mem_of_getElem? (i := 157) rfl)
theorem w3_157 : (Jvm.Cond.lays "DotPress$Row" "DotPress$Row" "condition" "I") ∈ lw_g := lw_in w3_157t rfl
theorem w3_166t : (Jvm.Cond.methodLink "DotPress" (164 : Nat) ({ cls := "DotPress$Ints", name := "clear", desc := "()V" } : Jvm.MethodName)) ∈ lw_tbl := mT3 (List.mem_of_getElem? (i := 166) rfl)
theorem w3_166 : (Jvm.Cond.methodLink "DotPress" (164 : Nat) ({ cls := "DotPress$Ints", name := "clear", desc := "()V" } : Jvm.MethodName)) ∈ lw_g := lw_in w3_166t rfl
theorem w3_167t : (Jvm.Cond.instanceMethod ({ cls := "DotPress$Ints", name := "clear", desc := "()V" } : Jvm.MethodName)) ∈ lw_tbl := mT3 (List.mem_of_getElem? (i := 167) rfl)
theorem w3_167 : (Jvm.Cond.instanceMethod ({ cls := "DotPress$Ints", name := "clear", desc := "()V" } : Jvm.MethodName)) ∈ lw_g := lw_in w3_167t rfl
theorem w3_168t : (Jvm.Cond.selects "DotPress$Ints" ({ cls := "DotPress$Ints", name := "clear", desc := "()V" } : Jvm.MethodName) ({ cls := "DotPress$Ints", name := "clear", desc := "()V" } : Jvm.MethodName)) ∈ lw_tbl := mT3 (List.mem_of_getElem? (i := 168) rfl)
theorem w3_168 : (Jvm.Cond.selects "DotPress$Ints" ({ cls := "DotPress$Ints", name := "clear", desc := "()V" } : Jvm.MethodName) ({ cls := "DotPress$Ints", name := "clear", desc := "()V" } : Jvm.MethodName)) ∈ lw_g := lw_in w3_168t rfl
theorem w3_169t : (Jvm.Cond.code ({ cls := "DotPress$Ints", name := "clear", desc := "()V" } : Jvm.MethodName) prog_3_method_5_code (1 : Nat) (Option.none : Option Jvm.ClassFile.FieldType)) ∈ lw_tbl := mT3 (List.mem_of_getElem? (i := 169) rfl)
theorem w3_169 : (Jvm.Cond.code ({ cls := "DotPress$Ints", name := "clear", desc := "()V" } : Jvm.MethodName) prog_3_method_5_code (1 : Nat) (Option.none : Option Jvm.ClassFile.FieldType)) ∈ lw_g := lw_in w3_169t rfl
theorem w3_173t : (Jvm.Cond.code ({ cls := "DotPress", name := "condition", desc := "(III)I" } : Jvm.MethodName) prog_1_method_12_code (7 : Nat) (Option.some Jvm.ClassFile.FieldType.int)) ∈ lw_tbl := mT3 (List.mem_of_getElem? (i := 173) rfl)
theorem w3_173 : (Jvm.Cond.code ({ cls := "DotPress", name := "condition", desc := "(III)I" } : Jvm.MethodName) prog_1_method_12_code (7 : Nat) (Option.some Jvm.ClassFile.FieldType.int)) ∈ lw_g := lw_in w3_173t rfl
theorem w3_178t : (Jvm.Cond.code ({ cls := "DotPress", name := "indicator", desc := "(II)I" } : Jvm.MethodName) prog_1_method_13_code (4 : Nat) (Option.some Jvm.ClassFile.FieldType.int)) ∈ lw_tbl := mT3 (List.mem_of_getElem? (i := 178) rfl)
theorem w3_178 : (Jvm.Cond.code ({ cls := "DotPress", name := "indicator", desc := "(II)I" } : Jvm.MethodName) prog_1_method_13_code (4 : Nat) (Option.some Jvm.ClassFile.FieldType.int)) ∈ lw_g := lw_in w3_178t rfl
theorem w3_179t : (Jvm.Cond.methodLink "DotPress" (208 : Nat) ({ cls := "DotPress", name := "changeIndicator", desc := "(II)I" } : Jvm.MethodName)) ∈ lw_tbl := mT3 (List.mem_of_getElem? (i := 179) rfl)
theorem w3_179 : (Jvm.Cond.methodLink "DotPress" (208 : Nat) ({ cls := "DotPress", name := "changeIndicator", desc := "(II)I" } : Jvm.MethodName)) ∈ lw_g := lw_in w3_179t rfl
theorem w3_181t : (Jvm.Cond.instanceMethod ({ cls := "DotPress", name := "changeIndicator", desc := "(II)I" } : Jvm.MethodName)) ∈ lw_tbl := mT3 (List.mem_of_getElem? (i := 181) rfl)
theorem w3_181 : (Jvm.Cond.instanceMethod ({ cls := "DotPress", name := "changeIndicator", desc := "(II)I" } : Jvm.MethodName)) ∈ lw_g := lw_in w3_181t rfl
theorem w3_182t : (Jvm.Cond.code ({ cls := "DotPress", name := "changeIndicator", desc := "(II)I" } : Jvm.MethodName) prog_1_method_14_code (4 : Nat) (Option.some Jvm.ClassFile.FieldType.int)) ∈ lw_tbl := mT3 (List.mem_of_getElem? (i := 182) rfl)
theorem w3_182 : (Jvm.Cond.code ({ cls := "DotPress", name := "changeIndicator", desc := "(II)I" } : Jvm.MethodName) prog_1_method_14_code (4 : Nat) (Option.some Jvm.ClassFile.FieldType.int)) ∈ lw_g := lw_in w3_182t rfl
theorem w3_190t : (Jvm.Cond.code ({ cls := "DotPress", name := "undo", desc := "()I" } : Jvm.MethodName) prog_1_method_15_code (1 : Nat) (Option.some Jvm.ClassFile.FieldType.int)) ∈ lw_tbl := mT3 (List.mem_of_getElem? (i := 190) rfl)
theorem w3_190 : (Jvm.Cond.code ({ cls := "DotPress", name := "undo", desc := "()I" } : Jvm.MethodName) prog_1_method_15_code (1 : Nat) (Option.some Jvm.ClassFile.FieldType.int)) ∈ lw_g := lw_in w3_190t rfl
theorem w3_191t : (Jvm.Cond.methodLink "DotPress" (218 : Nat) ({ cls := "DotPress$Tables", name := "takeBack", desc := "()Z" } : Jvm.MethodName)) ∈ lw_tbl := mT3 (List.mem_of_getElem? (i := 191) rfl)
theorem w3_191 : (Jvm.Cond.methodLink "DotPress" (218 : Nat) ({ cls := "DotPress$Tables", name := "takeBack", desc := "()Z" } : Jvm.MethodName)) ∈ lw_g := lw_in w3_191t rfl
theorem w3_192t : (Jvm.Cond.instanceMethod ({ cls := "DotPress$Tables", name := "takeBack", desc := "()Z" } : Jvm.MethodName)) ∈ lw_tbl := mT3 (List.mem_of_getElem? (i := 192) rfl)
theorem w3_192 : (Jvm.Cond.instanceMethod ({ cls := "DotPress$Tables", name := "takeBack", desc := "()Z" } : Jvm.MethodName)) ∈ lw_g := lw_in w3_192t rfl
theorem w3_193t : (Jvm.Cond.selects "DotPress$Tables" ({ cls := "DotPress$Tables", name := "takeBack", desc := "()Z" } : Jvm.MethodName) ({ cls := "DotPress$Tables", name := "takeBack", desc := "()Z" } : Jvm.MethodName)) ∈ lw_tbl := mT3 (List.mem_of_getElem? (i := 193) rfl)
theorem w3_193 : (Jvm.Cond.selects "DotPress$Tables" ({ cls := "DotPress$Tables", name := "takeBack", desc := "()Z" } : Jvm.MethodName) ({ cls := "DotPress$Tables", name := "takeBack", desc := "()Z" } : Jvm.MethodName)) ∈ lw_g := lw_in w3_193t rfl
theorem w3_194t : (Jvm.Cond.code ({ cls := "DotPress$Tables", name := "takeBack", desc := "()Z" } : Jvm.MethodName) prog_12_method_7_code (2 : Nat) (Option.some Jvm.ClassFile.FieldType.boolean)) ∈ lw_tbl := mT3 (List.mem_of_getElem? (i := 194) rfl)
theorem w3_194 : (Jvm.Cond.code ({ cls := "DotPress$Tables", name := "takeBack", desc := "()Z" } : Jvm.MethodName) prog_12_method_7_code (2 : Nat) (Option.some Jvm.ClassFile.FieldType.boolean)) ∈ lw_g := lw_in w3_194t rfl
theorem w3_195t : (Jvm.Cond.methodLink "DotPress$Tables" (59 : Nat) ({ cls := "java/util/ArrayList", name := "isEmpty", desc := "()Z" } : Jvm.MethodName)) ∈ lw_tbl := mT3 (List.mem_of_getElem? (i := 195) rfl)
theorem w3_195 : (Jvm.Cond.methodLink "DotPress$Tables" (59 : Nat) ({ cls := "java/util/ArrayList", name := "isEmpty", desc := "()Z" } : Jvm.MethodName)) ∈ lw_g := lw_in w3_195t rfl
theorem w3_196t : (Jvm.Cond.instanceMethod ({ cls := "java/util/ArrayList", name := "isEmpty", desc := "()Z" } : Jvm.MethodName)) ∈ lw_tbl := mT3 (List.mem_of_getElem? (i := 196) rfl)
theorem w3_196 : (Jvm.Cond.instanceMethod ({ cls := "java/util/ArrayList", name := "isEmpty", desc := "()Z" } : Jvm.MethodName)) ∈ lw_g := lw_in w3_196t rfl
theorem w3_197t : (Jvm.Cond.selects "java/util/ArrayList" ({ cls := "java/util/ArrayList", name := "isEmpty", desc := "()Z" } : Jvm.MethodName) ({ cls := "java/util/ArrayList", name := "isEmpty", desc := "()Z" } : Jvm.MethodName)) ∈ lw_tbl := mT3 (List.mem_of_getElem? (i := 197) rfl)
theorem w3_197 : (Jvm.Cond.selects "java/util/ArrayList" ({ cls := "java/util/ArrayList", name := "isEmpty", desc := "()Z" } : Jvm.MethodName) ({ cls := "java/util/ArrayList", name := "isEmpty", desc := "()Z" } : Jvm.MethodName)) ∈ lw_g := lw_in w3_197t rfl
theorem w3_198t : (Jvm.Cond.code ({ cls := "java/util/ArrayList", name := "isEmpty", desc := "()Z" } : Jvm.MethodName) prog_23_method_9_code (1 : Nat) (Option.some Jvm.ClassFile.FieldType.boolean)) ∈ lw_tbl := mT3 (List.mem_of_getElem? (i := 198) rfl)
theorem w3_198 : (Jvm.Cond.code ({ cls := "java/util/ArrayList", name := "isEmpty", desc := "()Z" } : Jvm.MethodName) prog_23_method_9_code (1 : Nat) (Option.some Jvm.ClassFile.FieldType.boolean)) ∈ lw_g := lw_in w3_198t rfl
theorem w3_210t : (Jvm.Cond.code ({ cls := "DotPress", name := "text", desc := "()I" } : Jvm.MethodName) prog_1_method_16_code (2 : Nat) (Option.some Jvm.ClassFile.FieldType.int)) ∈ lw_tbl := mT3 (List.mem_of_getElem? (i := 210) rfl)
theorem w3_210 : (Jvm.Cond.code ({ cls := "DotPress", name := "text", desc := "()I" } : Jvm.MethodName) prog_1_method_16_code (2 : Nat) (Option.some Jvm.ClassFile.FieldType.int)) ∈ lw_g := lw_in w3_210t rfl
theorem w3_211t : (Jvm.Cond.methodLink "DotPress" (221 : Nat) ({ cls := "DotPress", name := "addText", desc := "()I" } : Jvm.MethodName)) ∈ lw_tbl := mT3 (List.mem_of_getElem? (i := 211) rfl)
theorem w3_211 : (Jvm.Cond.methodLink "DotPress" (221 : Nat) ({ cls := "DotPress", name := "addText", desc := "()I" } : Jvm.MethodName)) ∈ lw_g := lw_in w3_211t rfl
theorem w3_213t : (Jvm.Cond.instanceMethod ({ cls := "DotPress", name := "addText", desc := "()I" } : Jvm.MethodName)) ∈ lw_tbl := mT3 (List.mem_of_getElem? (i := 213) rfl)
theorem w3_213 : (Jvm.Cond.instanceMethod ({ cls := "DotPress", name := "addText", desc := "()I" } : Jvm.MethodName)) ∈ lw_g := lw_in w3_213t rfl
theorem w3_214t : (Jvm.Cond.code ({ cls := "DotPress", name := "addText", desc := "()I" } : Jvm.MethodName) prog_1_method_17_code (3 : Nat) (Option.some Jvm.ClassFile.FieldType.int)) ∈ lw_tbl := mT3 (List.mem_of_getElem? (i := 214) rfl)
theorem w3_214 : (Jvm.Cond.code ({ cls := "DotPress", name := "addText", desc := "()I" } : Jvm.MethodName) prog_1_method_17_code (3 : Nat) (Option.some Jvm.ClassFile.FieldType.int)) ∈ lw_g := lw_in w3_214t rfl
theorem w3_216t : (Jvm.Cond.methodLink "DotPress" (227 : Nat) ({ cls := "DotPress$Ints", name := "addAll", desc := "(LDotPress$Ints;)V" } : Jvm.MethodName)) ∈ lw_tbl := mT3 (List.mem_of_getElem? (i := 216) rfl)
theorem w3_216 : (Jvm.Cond.methodLink "DotPress" (227 : Nat) ({ cls := "DotPress$Ints", name := "addAll", desc := "(LDotPress$Ints;)V" } : Jvm.MethodName)) ∈ lw_g := lw_in w3_216t rfl
theorem w3_217t : (Jvm.Cond.instanceMethod ({ cls := "DotPress$Ints", name := "addAll", desc := "(LDotPress$Ints;)V" } : Jvm.MethodName)) ∈ lw_tbl := mT3 (List.mem_of_getElem? (i := 217) rfl)
theorem w3_217 : (Jvm.Cond.instanceMethod ({ cls := "DotPress$Ints", name := "addAll", desc := "(LDotPress$Ints;)V" } : Jvm.MethodName)) ∈ lw_g := lw_in w3_217t rfl
theorem w3_218t : (Jvm.Cond.selects "DotPress$Ints" ({ cls := "DotPress$Ints", name := "addAll", desc := "(LDotPress$Ints;)V" } : Jvm.MethodName) ({ cls := "DotPress$Ints", name := "addAll", desc := "(LDotPress$Ints;)V" } : Jvm.MethodName)) ∈ lw_tbl := mT3 (List.mem_of_getElem? (i := 218) rfl)
theorem w3_218 : (Jvm.Cond.selects "DotPress$Ints" ({ cls := "DotPress$Ints", name := "addAll", desc := "(LDotPress$Ints;)V" } : Jvm.MethodName) ({ cls := "DotPress$Ints", name := "addAll", desc := "(LDotPress$Ints;)V" } : Jvm.MethodName)) ∈ lw_g := lw_in w3_218t rfl
theorem w3_219t : (Jvm.Cond.code ({ cls := "DotPress$Ints", name := "addAll", desc := "(LDotPress$Ints;)V" } : Jvm.MethodName) prog_3_method_3_code (3 : Nat) (Option.none : Option Jvm.ClassFile.FieldType)) ∈ lw_tbl := mT3 (List.mem_of_getElem? (i := 219) rfl)
theorem w3_219 : (Jvm.Cond.code ({ cls := "DotPress$Ints", name := "addAll", desc := "(LDotPress$Ints;)V" } : Jvm.MethodName) prog_3_method_3_code (3 : Nat) (Option.none : Option Jvm.ClassFile.FieldType)) ∈ lw_g := lw_in w3_219t rfl
theorem w3_224t : (Jvm.Cond.code ({ cls := "DotPress", name := "measure", desc := "(III)I" } : Jvm.MethodName) prog_1_method_18_code (4 : Nat) (Option.some Jvm.ClassFile.FieldType.int)) ∈ lw_tbl := mT3 (List.mem_of_getElem? (i := 224) rfl)
theorem w3_224 : (Jvm.Cond.code ({ cls := "DotPress", name := "measure", desc := "(III)I" } : Jvm.MethodName) prog_1_method_18_code (4 : Nat) (Option.some Jvm.ClassFile.FieldType.int)) ∈ lw_g := lw_in w3_224t rfl
theorem w3_228t : (Jvm.Cond.code ({ cls := "DotPress", name := "set", desc := "(I)I" } : Jvm.MethodName) prog_1_method_19_code (7 : Nat) (Option.some Jvm.ClassFile.FieldType.int)) ∈ lw_tbl := mT3 (List.mem_of_getElem? (i := 228) rfl)
theorem w3_228 : (Jvm.Cond.code ({ cls := "DotPress", name := "set", desc := "(I)I" } : Jvm.MethodName) prog_1_method_19_code (7 : Nat) (Option.some Jvm.ClassFile.FieldType.int)) ∈ lw_g := lw_in w3_228t rfl
theorem w3_229t : (Jvm.Cond.methodLink "DotPress" (231 : Nat) ({ cls := "DotPress$Tables", name := "whole", desc := "(I)LDotPress$Table;" } : Jvm.MethodName)) ∈ lw_tbl := mT3 (List.mem_of_getElem? (i := 229) rfl)
theorem w3_229 : (Jvm.Cond.methodLink "DotPress" (231 : Nat) ({ cls := "DotPress$Tables", name := "whole", desc := "(I)LDotPress$Table;" } : Jvm.MethodName)) ∈ lw_g := lw_in w3_229t rfl
theorem w3_230t : (Jvm.Cond.instanceMethod ({ cls := "DotPress$Tables", name := "whole", desc := "(I)LDotPress$Table;" } : Jvm.MethodName)) ∈ lw_tbl := mT3 (List.mem_of_getElem? (i := 230) rfl)
theorem w3_230 : (Jvm.Cond.instanceMethod ({ cls := "DotPress$Tables", name := "whole", desc := "(I)LDotPress$Table;" } : Jvm.MethodName)) ∈ lw_g := lw_in w3_230t rfl
theorem w3_231t : (Jvm.Cond.selects "DotPress$Tables" ({ cls := "DotPress$Tables", name := "whole", desc := "(I)LDotPress$Table;" } : Jvm.MethodName) ({ cls := "DotPress$Tables", name := "whole", desc := "(I)LDotPress$Table;" } : Jvm.MethodName)) ∈ lw_tbl := mT3 (List.mem_of_getElem? (i := 231) rfl)
theorem w3_231 : (Jvm.Cond.selects "DotPress$Tables" ({ cls := "DotPress$Tables", name := "whole", desc := "(I)LDotPress$Table;" } : Jvm.MethodName) ({ cls := "DotPress$Tables", name := "whole", desc := "(I)LDotPress$Table;" } : Jvm.MethodName)) ∈ lw_g := lw_in w3_231t rfl
theorem w3_232t : (Jvm.Cond.code ({ cls := "DotPress$Tables", name := "whole", desc := "(I)LDotPress$Table;" } : Jvm.MethodName) prog_12_method_4_code (3 : Nat) (Option.some (Jvm.ClassFile.FieldType.object "DotPress$Table"))) ∈ lw_tbl := mT3 (List.mem_of_getElem? (i := 232) rfl)
theorem w3_232 : (Jvm.Cond.code ({ cls := "DotPress$Tables", name := "whole", desc := "(I)LDotPress$Table;" } : Jvm.MethodName) prog_12_method_4_code (3 : Nat) (Option.some (Jvm.ClassFile.FieldType.object "DotPress$Table"))) ∈ lw_g := lw_in w3_232t rfl
theorem w3_233t : (Jvm.Cond.methodLink "DotPress$Tables" (35 : Nat) ({ cls := "DotPress$Tables", name := "alive", desc := "(I)LDotPress$Table;" } : Jvm.MethodName)) ∈ lw_tbl := mT3 (List.mem_of_getElem? (i := 233) rfl)
theorem w3_233 : (Jvm.Cond.methodLink "DotPress$Tables" (35 : Nat) ({ cls := "DotPress$Tables", name := "alive", desc := "(I)LDotPress$Table;" } : Jvm.MethodName)) ∈ lw_g := lw_in w3_233t rfl
theorem w3_30t : (Jvm.Cond.arrayOver (Jvm.ClassFile.FieldType.object "java/lang/Object")) ∈ lw_tbl := mT3 (List.mem_of_getElem? (i := 30) rfl)
theorem w3_32t : (Jvm.Cond.methodLink "java/util/ArrayList" (79 : Nat) ({ cls := "java/lang/Math", name := "max", desc := "(II)I" } : Jvm.MethodName)) ∈ lw_tbl := mT3 (List.mem_of_getElem? (i := 32) rfl)
theorem w3_32 : (Jvm.Cond.methodLink "java/util/ArrayList" (79 : Nat) ({ cls := "java/lang/Math", name := "max", desc := "(II)I" } : Jvm.MethodName)) ∈ lw_g := lw_in w3_32t rfl
theorem w3_33t : (Jvm.Cond.classLink "java/util/ArrayList" (7 : Nat) "java/lang/Object") ∈ lw_tbl := mT3 (List.mem_of_getElem? (i := 33) rfl)
theorem w3_33 : (Jvm.Cond.classLink "java/util/ArrayList" (7 : Nat) "java/lang/Object") ∈ lw_g := lw_in w3_33t rfl
theorem w3_34t : (Jvm.Cond.classLink "DotPress$Tables" (47 : Nat) "DotPress$Change") ∈ lw_tbl := mT3 (List.mem_of_getElem? (i := 34) rfl)
theorem w3_34 : (Jvm.Cond.classLink "DotPress$Tables" (47 : Nat) "DotPress$Change") ∈ lw_g := lw_in w3_34t rfl
theorem w3_35t : (Jvm.Cond.instantiable "DotPress$Change" (4 : Nat)) ∈ lw_tbl := mT3 (List.mem_of_getElem? (i := 35) rfl)
theorem w3_35 : (Jvm.Cond.instantiable "DotPress$Change" (4 : Nat)) ∈ lw_g := lw_in w3_35t rfl
theorem w3_36t : (Jvm.Cond.methodLink "DotPress$Tables" (49 : Nat) ({ cls := "DotPress$Change", name := "<init>", desc := "(ILDotPress$Table;LDotPress$Row;I)V" } : Jvm.MethodName)) ∈ lw_tbl := mT3 (List.mem_of_getElem? (i := 36) rfl)
theorem w3_36 : (Jvm.Cond.methodLink "DotPress$Tables" (49 : Nat) ({ cls := "DotPress$Change", name := "<init>", desc := "(ILDotPress$Table;LDotPress$Row;I)V" } : Jvm.MethodName)) ∈ lw_g := lw_in w3_36t rfl
theorem w3_37t : (Jvm.Cond.instanceMethod ({ cls := "DotPress$Change", name := "<init>", desc := "(ILDotPress$Table;LDotPress$Row;I)V" } : Jvm.MethodName)) ∈ lw_tbl := mT3 (List.mem_of_getElem? (i := 37) rfl)
theorem w3_37 : (Jvm.Cond.instanceMethod ({ cls := "DotPress$Change", name := "<init>", desc := "(ILDotPress$Table;LDotPress$Row;I)V" } : Jvm.MethodName)) ∈ lw_g := lw_in w3_37t rfl
theorem w3_38t : (Jvm.Cond.code ({ cls := "DotPress$Change", name := "<init>", desc := "(ILDotPress$Table;LDotPress$Row;I)V" } : Jvm.MethodName) prog_2_method_1_code (5 : Nat) (Option.none : Option Jvm.ClassFile.FieldType)) ∈ lw_tbl := mT3 (List.mem_of_getElem? (i := 38) rfl)
theorem w3_38 : (Jvm.Cond.code ({ cls := "DotPress$Change", name := "<init>", desc := "(ILDotPress$Table;LDotPress$Row;I)V" } : Jvm.MethodName) prog_2_method_1_code (5 : Nat) (Option.none : Option Jvm.ClassFile.FieldType)) ∈ lw_g := lw_in w3_38t rfl
theorem w3_39t : (Jvm.Cond.methodLink "DotPress$Change" (1 : Nat) ({ cls := "java/lang/Object", name := "<init>", desc := "()V" } : Jvm.MethodName)) ∈ lw_tbl := mT3 (List.mem_of_getElem? (i := 39) rfl)
theorem w3_39 : (Jvm.Cond.methodLink "DotPress$Change" (1 : Nat) ({ cls := "java/lang/Object", name := "<init>", desc := "()V" } : Jvm.MethodName)) ∈ lw_g := lw_in w3_39t rfl
theorem w3_40t : (Jvm.Cond.fieldLink "DotPress$Change" (7 : Nat) "DotPress$Change" "what" "I") ∈ lw_tbl := mT3 (List.mem_of_getElem? (i := 40) rfl)
theorem w3_40 : (Jvm.Cond.fieldLink "DotPress$Change" (7 : Nat) "DotPress$Change" "what" "I") ∈ lw_g := lw_in w3_40t rfl
theorem w3_42t : (Jvm.Cond.fieldLink "DotPress$Change" (13 : Nat) "DotPress$Change" "table" "LDotPress$Table;") ∈ lw_tbl := mT3 (List.mem_of_getElem? (i := 42) rfl)
theorem w3_42 : (Jvm.Cond.fieldLink "DotPress$Change" (13 : Nat) "DotPress$Change" "table" "LDotPress$Table;") ∈ lw_g := lw_in w3_42t rfl
theorem w3_44t : (Jvm.Cond.fieldLink "DotPress$Change" (17 : Nat) "DotPress$Change" "row" "LDotPress$Row;") ∈ lw_tbl := mT3 (List.mem_of_getElem? (i := 44) rfl)
theorem w3_44 : (Jvm.Cond.fieldLink "DotPress$Change" (17 : Nat) "DotPress$Change" "row" "LDotPress$Row;") ∈ lw_g := lw_in w3_44t rfl
theorem w3_46t : (Jvm.Cond.fieldLink "DotPress$Change" (21 : Nat) "DotPress$Change" "number" "I") ∈ lw_tbl := mT3 (List.mem_of_getElem? (i := 46) rfl)
theorem w3_46 : (Jvm.Cond.fieldLink "DotPress$Change" (21 : Nat) "DotPress$Change" "number" "I") ∈ lw_g := lw_in w3_46t rfl
theorem w3_48t : (Jvm.Cond.laysFinal "DotPress$Change" "DotPress$Change" "what" "I") ∈ lw_tbl := mT3 (List.mem_of_getElem? (i := 48) rfl)
theorem w3_48 : (Jvm.Cond.laysFinal "DotPress$Change" "DotPress$Change" "what" "I") ∈ lw_g := lw_in w3_48t rfl
theorem w3_50t : (Jvm.Cond.laysFinal "DotPress$Change" "DotPress$Change" "table" "LDotPress$Table;") ∈ lw_tbl := mT3 (List.mem_of_getElem? (i := 50) rfl)
theorem w3_50 : (Jvm.Cond.laysFinal "DotPress$Change" "DotPress$Change" "table" "LDotPress$Table;") ∈ lw_g := lw_in w3_50t rfl
theorem w3_52t : (Jvm.Cond.laysFinal "DotPress$Change" "DotPress$Change" "row" "LDotPress$Row;") ∈ lw_tbl := mT3 (List.mem_of_getElem? (i := 52) rfl)
theorem w3_52 : (Jvm.Cond.laysFinal "DotPress$Change" "DotPress$Change" "row" "LDotPress$Row;") ∈ lw_g := lw_in w3_52t rfl
theorem w3_54t : (Jvm.Cond.laysFinal "DotPress$Change" "DotPress$Change" "number" "I") ∈ lw_tbl := mT3 (List.mem_of_getElem? (i := 54) rfl)
theorem w3_54 : (Jvm.Cond.laysFinal "DotPress$Change" "DotPress$Change" "number" "I") ∈ lw_g := lw_in w3_54t rfl
theorem w3_57t : (Jvm.Cond.methodLink "DotPress$Tables" (52 : Nat) ({ cls := "DotPress$Tables", name := "remember", desc := "(LDotPress$Change;)V" } : Jvm.MethodName)) ∈ lw_tbl := mT3 (List.mem_of_getElem? (i := 57) rfl)
theorem w3_57 : (Jvm.Cond.methodLink "DotPress$Tables" (52 : Nat) ({ cls := "DotPress$Tables", name := "remember", desc := "(LDotPress$Change;)V" } : Jvm.MethodName)) ∈ lw_g := lw_in w3_57t rfl
theorem w3_58t : (Jvm.Cond.instanceMethod ({ cls := "DotPress$Tables", name := "remember", desc := "(LDotPress$Change;)V" } : Jvm.MethodName)) ∈ lw_tbl := mT3 (List.mem_of_getElem? (i := 58) rfl)
theorem w3_58 : (Jvm.Cond.instanceMethod ({ cls := "DotPress$Tables", name := "remember", desc := "(LDotPress$Change;)V" } : Jvm.MethodName)) ∈ lw_g := lw_in w3_58t rfl
theorem w3_59t : (Jvm.Cond.selects "DotPress$Tables" ({ cls := "DotPress$Tables", name := "remember", desc := "(LDotPress$Change;)V" } : Jvm.MethodName) ({ cls := "DotPress$Tables", name := "remember", desc := "(LDotPress$Change;)V" } : Jvm.MethodName)) ∈ lw_tbl := mT3 (List.mem_of_getElem? (i := 59) rfl)
theorem w3_59 : (Jvm.Cond.selects "DotPress$Tables" ({ cls := "DotPress$Tables", name := "remember", desc := "(LDotPress$Change;)V" } : Jvm.MethodName) ({ cls := "DotPress$Tables", name := "remember", desc := "(LDotPress$Change;)V" } : Jvm.MethodName)) ∈ lw_g := lw_in w3_59t rfl
theorem w3_60t : (Jvm.Cond.code ({ cls := "DotPress$Tables", name := "remember", desc := "(LDotPress$Change;)V" } : Jvm.MethodName) prog_12_method_6_code (2 : Nat) (Option.none : Option Jvm.ClassFile.FieldType)) ∈ lw_tbl := mT3 (List.mem_of_getElem? (i := 60) rfl)
theorem w3_60 : (Jvm.Cond.code ({ cls := "DotPress$Tables", name := "remember", desc := "(LDotPress$Change;)V" } : Jvm.MethodName) prog_12_method_6_code (2 : Nat) (Option.none : Option Jvm.ClassFile.FieldType)) ∈ lw_g := lw_in w3_60t rfl
theorem w3_76t : (Jvm.Cond.methodLink "DotPress" (131 : Nat) ({ cls := "DotPress$Tables", name := "alive", desc := "(I)LDotPress$Table;" } : Jvm.MethodName)) ∈ lw_tbl := mT3 (List.mem_of_getElem? (i := 76) rfl)
theorem w3_76 : (Jvm.Cond.methodLink "DotPress" (131 : Nat) ({ cls := "DotPress$Tables", name := "alive", desc := "(I)LDotPress$Table;" } : Jvm.MethodName)) ∈ lw_g := lw_in w3_76t rfl
theorem w3_77t : (Jvm.Cond.instanceMethod ({ cls := "DotPress$Tables", name := "alive", desc := "(I)LDotPress$Table;" } : Jvm.MethodName)) ∈ lw_tbl := mT3 (List.mem_of_getElem? (i := 77) rfl)
theorem w3_77 : (Jvm.Cond.instanceMethod ({ cls := "DotPress$Tables", name := "alive", desc := "(I)LDotPress$Table;" } : Jvm.MethodName)) ∈ lw_g := lw_in w3_77t rfl
theorem w3_78t : (Jvm.Cond.selects "DotPress$Tables" ({ cls := "DotPress$Tables", name := "alive", desc := "(I)LDotPress$Table;" } : Jvm.MethodName) ({ cls := "DotPress$Tables", name := "alive", desc := "(I)LDotPress$Table;" } : Jvm.MethodName)) ∈ lw_tbl := mT3 (List.mem_of_getElem? (i := 78) rfl)
theorem w3_78 : (Jvm.Cond.selects "DotPress$Tables" ({ cls := "DotPress$Tables", name := "alive", desc := "(I)LDotPress$Table;" } : Jvm.MethodName) ({ cls := "DotPress$Tables", name := "alive", desc := "(I)LDotPress$Table;" } : Jvm.MethodName)) ∈ lw_g := lw_in w3_78t rfl
theorem w3_79t : (Jvm.Cond.code ({ cls := "DotPress$Tables", name := "alive", desc := "(I)LDotPress$Table;" } : Jvm.MethodName) prog_12_method_3_code (3 : Nat) (Option.some (Jvm.ClassFile.FieldType.object "DotPress$Table"))) ∈ lw_tbl := mT3 (List.mem_of_getElem? (i := 79) rfl)
theorem w3_79 : (Jvm.Cond.code ({ cls := "DotPress$Tables", name := "alive", desc := "(I)LDotPress$Table;" } : Jvm.MethodName) prog_12_method_3_code (3 : Nat) (Option.some (Jvm.ClassFile.FieldType.object "DotPress$Table"))) ∈ lw_g := lw_in w3_79t rfl
theorem w3_92t : (Jvm.Cond.code ({ cls := "DotPress", name := "join", desc := "(II)I" } : Jvm.MethodName) prog_1_method_6_code (5 : Nat) (Option.some Jvm.ClassFile.FieldType.int)) ∈ lw_tbl := mT3 (List.mem_of_getElem? (i := 92) rfl)
theorem w3_92 : (Jvm.Cond.code ({ cls := "DotPress", name := "join", desc := "(II)I" } : Jvm.MethodName) prog_1_method_6_code (5 : Nat) (Option.some Jvm.ClassFile.FieldType.int)) ∈ lw_g := lw_in w3_92t rfl
theorem w3_93t : (Jvm.Cond.methodLink "DotPress" (141 : Nat) ({ cls := "java/lang/Math", name := "max", desc := "(II)I" } : Jvm.MethodName)) ∈ lw_tbl := mT3 (List.mem_of_getElem? (i := 93) rfl)
theorem w3_93 : (Jvm.Cond.methodLink "DotPress" (141 : Nat) ({ cls := "java/lang/Math", name := "max", desc := "(II)I" } : Jvm.MethodName)) ∈ lw_g := lw_in w3_93t rfl
theorem w3_97t : (Jvm.Cond.code ({ cls := "DotPress", name := "drop", desc := "(I)I" } : Jvm.MethodName) prog_1_method_7_code (3 : Nat) (Option.some Jvm.ClassFile.FieldType.int)) ∈ lw_tbl := mT3 (List.mem_of_getElem? (i := 97) rfl)
theorem w3_97 : (Jvm.Cond.code ({ cls := "DotPress", name := "drop", desc := "(I)I" } : Jvm.MethodName) prog_1_method_7_code (3 : Nat) (Option.some Jvm.ClassFile.FieldType.int)) ∈ lw_g := lw_in w3_97t rfl
theorem w4_167t : (Jvm.Cond.code ({ cls := "DotPress", name := "head", desc := "(I)I" } : Jvm.MethodName) prog_1_method_21_code (6 : Nat) (Option.some Jvm.ClassFile.FieldType.int)) ∈ lw_tbl := mT4 (List.mem_of_getElem? (i := 167) rfl)
theorem w4_167 : (Jvm.Cond.code ({ cls := "DotPress", name := "head", desc := "(I)I" } : Jvm.MethodName) prog_1_method_21_code (6 : Nat) (Option.some Jvm.ClassFile.FieldType.int)) ∈ lw_g := lw_in w4_167t rfl
theorem w4_168t : (Jvm.Cond.methodLink "DotPress" (272 : Nat) ({ cls := "DotPress$Setting", name := "clear", desc := "()V" } : Jvm.MethodName)) ∈ lw_tbl := mT4 (List.mem_of_getElem? (i := 168) rfl)
theorem w4_168 : (Jvm.Cond.methodLink "DotPress" (272 : Nat) ({ cls := "DotPress$Setting", name := "clear", desc := "()V" } : Jvm.MethodName)) ∈ lw_g := lw_in w4_168t rfl
theorem w4_173t : (Jvm.Cond.code ({ cls := "DotPress", name := "lines", desc := "()I" } : Jvm.MethodName) prog_1_method_22_code (1 : Nat) (Option.some Jvm.ClassFile.FieldType.int)) ∈ lw_tbl := mT4 (List.mem_of_getElem? (i := 173) rfl)
theorem w4_173 : (Jvm.Cond.code ({ cls := "DotPress", name := "lines", desc := "()I" } : Jvm.MethodName) prog_1_method_22_code (1 : Nat) (Option.some Jvm.ClassFile.FieldType.int)) ∈ lw_g := lw_in w4_173t rfl
theorem w4_175t : (Jvm.Cond.instanceMethod ({ cls := "DotPress", name := "pages", desc := "()I" } : Jvm.MethodName)) ∈ lw_tbl := mT4 (List.mem_of_getElem? (i := 175) rfl)
theorem w4_175 : (Jvm.Cond.instanceMethod ({ cls := "DotPress", name := "pages", desc := "()I" } : Jvm.MethodName)) ∈ lw_g := lw_in w4_175t rfl
theorem w4_176t : (Jvm.Cond.selects "DotPress" ({ cls := "DotPress", name := "pages", desc := "()I" } : Jvm.MethodName) ({ cls := "DotPress", name := "pages", desc := "()I" } : Jvm.MethodName)) ∈ lw_tbl := mT4 (List.mem_of_getElem? (i := 176) rfl)
theorem w4_176 : (Jvm.Cond.selects "DotPress" ({ cls := "DotPress", name := "pages", desc := "()I" } : Jvm.MethodName) ({ cls := "DotPress", name := "pages", desc := "()I" } : Jvm.MethodName)) ∈ lw_g := lw_in w4_176t rfl
theorem w4_177t : (Jvm.Cond.code ({ cls := "DotPress", name := "pages", desc := "()I" } : Jvm.MethodName) prog_1_method_23_code (2 : Nat) (Option.some Jvm.ClassFile.FieldType.int)) ∈ lw_tbl := mT4 (List.mem_of_getElem? (i := 177) rfl)
theorem w4_177 : (Jvm.Cond.code ({ cls := "DotPress", name := "pages", desc := "()I" } : Jvm.MethodName) prog_1_method_23_code (2 : Nat) (Option.some Jvm.ClassFile.FieldType.int)) ∈ lw_g := lw_in w4_177t rfl
theorem w4_178t : (Jvm.Cond.methodLink "DotPress" (282 : Nat) ({ cls := "DotPress", name := "linesOfPage", desc := "()I" } : Jvm.MethodName)) ∈ lw_tbl := mT4 (List.mem_of_getElem? (i := 178) rfl)
theorem w4_178 : (Jvm.Cond.methodLink "DotPress" (282 : Nat) ({ cls := "DotPress", name := "linesOfPage", desc := "()I" } : Jvm.MethodName)) ∈ lw_g := lw_in w4_178t rfl
theorem w4_180t : (Jvm.Cond.instanceMethod ({ cls := "DotPress", name := "linesOfPage", desc := "()I" } : Jvm.MethodName)) ∈ lw_tbl := mT4 (List.mem_of_getElem? (i := 180) rfl)
theorem w4_180 : (Jvm.Cond.instanceMethod ({ cls := "DotPress", name := "linesOfPage", desc := "()I" } : Jvm.MethodName)) ∈ lw_g := lw_in w4_180t rfl
theorem w4_181t : (Jvm.Cond.code ({ cls := "DotPress", name := "linesOfPage", desc := "()I" } : Jvm.MethodName) prog_1_method_25_code (1 : Nat) (Option.some Jvm.ClassFile.FieldType.int)) ∈ lw_tbl := mT4 (List.mem_of_getElem? (i := 181) rfl)
theorem w4_181 : (Jvm.Cond.code ({ cls := "DotPress", name := "linesOfPage", desc := "()I" } : Jvm.MethodName) prog_1_method_25_code (1 : Nat) (Option.some Jvm.ClassFile.FieldType.int)) ∈ lw_g := lw_in w4_181t rfl
theorem w4_182t : (Jvm.Cond.methodLink "DotPress" (285 : Nat) ({ cls := "DotPress", name := "pagesHaveHeader", desc := "()Z" } : Jvm.MethodName)) ∈ lw_tbl := mT4 (List.mem_of_getElem? (i := 182) rfl)
theorem w4_182 : (Jvm.Cond.methodLink "DotPress" (285 : Nat) ({ cls := "DotPress", name := "pagesHaveHeader", desc := "()Z" } : Jvm.MethodName)) ∈ lw_g := lw_in w4_182t rfl
theorem w4_184t : (Jvm.Cond.instanceMethod ({ cls := "DotPress", name := "pagesHaveHeader", desc := "()Z" } : Jvm.MethodName)) ∈ lw_tbl := mT4 (List.mem_of_getElem? (i := 184) rfl)
theorem w4_184 : (Jvm.Cond.instanceMethod ({ cls := "DotPress", name := "pagesHaveHeader", desc := "()Z" } : Jvm.MethodName)) ∈ lw_g := lw_in w4_184t rfl
theorem w4_185t : (Jvm.Cond.code ({ cls := "DotPress", name := "pagesHaveHeader", desc := "()Z" } : Jvm.MethodName) prog_1_method_24_code (1 : Nat) (Option.some Jvm.ClassFile.FieldType.boolean)) ∈ lw_tbl := mT4 (List.mem_of_getElem? (i := 185) rfl)
theorem w4_185 : (Jvm.Cond.code ({ cls := "DotPress", name := "pagesHaveHeader", desc := "()Z" } : Jvm.MethodName) prog_1_method_24_code (1 : Nat) (Option.some Jvm.ClassFile.FieldType.boolean)) ∈ lw_g := lw_in w4_185t rfl
theorem w4_189t : (Jvm.Cond.code ({ cls := "DotPress", name := "length", desc := "(I)I" } : Jvm.MethodName) prog_1_method_26_code (3 : Nat) (Option.some Jvm.ClassFile.FieldType.int)) ∈ lw_tbl := mT4 (List.mem_of_getElem? (i := 189) rfl)
theorem w4_189 : (Jvm.Cond.code ({ cls := "DotPress", name := "length", desc := "(I)I" } : Jvm.MethodName) prog_1_method_26_code (3 : Nat) (Option.some Jvm.ClassFile.FieldType.int)) ∈ lw_g := lw_in w4_189t rfl
theorem w4_19t : (Jvm.Cond.instanceMethod ({ cls := "DotPress$Setting", name := "clear", desc := "()V" } : Jvm.MethodName)) ∈ lw_tbl := mT4 (List.mem_of_getElem? (i := 19) rfl)
theorem w4_19 : (Jvm.Cond.instanceMethod ({ cls := "DotPress$Setting", name := "clear", desc := "()V" } : Jvm.MethodName)) ∈ lw_g := lw_in w4_19t rfl
theorem w4_190t : (Jvm.Cond.methodLink "DotPress" (288 : Nat) ({ cls := "DotPress$Sheet", name := "present", desc := "(I)LDotPress$Line;" } : Jvm.MethodName)) ∈ lw_tbl := mT4 (List.mem_of_getElem? (i := 190) rfl)
theorem w4_190 : (Jvm.Cond.methodLink "DotPress" (288 : Nat) ({ cls := "DotPress$Sheet", name := "present", desc := "(I)LDotPress$Line;" } : Jvm.MethodName)) ∈ lw_g := lw_in w4_190t rfl
theorem w4_191t : (Jvm.Cond.instanceMethod ({ cls := "DotPress$Sheet", name := "present", desc := "(I)LDotPress$Line;" } : Jvm.MethodName)) ∈ lw_tbl := mT4 (List.mem_of_getElem? (i := 191) rfl)
theorem w4_191 : (Jvm.Cond.instanceMethod ({ cls := "DotPress$Sheet", name := "present", desc := "(I)LDotPress$Line;" } : Jvm.MethodName)) ∈ lw_g := lw_in w4_191t rfl
theorem w4_192t : (Jvm.Cond.selects "DotPress$Sheet" ({ cls := "DotPress$Sheet", name := "present", desc := "(I)LDotPress$Line;" } : Jvm.MethodName) ({ cls := "DotPress$Sheet", name := "present", desc := "(I)LDotPress$Line;" } : Jvm.MethodName)) ∈ lw_tbl := mT4 (List.mem_of_getElem? (i := 192) rfl)
theorem w4_192 : (Jvm.Cond.selects "DotPress$Sheet" ({ cls := "DotPress$Sheet", name := "present", desc := "(I)LDotPress$Line;" } : Jvm.MethodName) ({ cls := "DotPress$Sheet", name := "present", desc := "(I)LDotPress$Line;" } : Jvm.MethodName)) ∈ lw_g := lw_in w4_192t rfl
theorem w4_193t : (Jvm.Cond.code ({ cls := "DotPress$Sheet", name := "present", desc := "(I)LDotPress$Line;" } : Jvm.MethodName) prog_9_method_4_code (3 : Nat) (Option.some (Jvm.ClassFile.FieldType.object "DotPress$Line"))) ∈ lw_tbl := mT4 (List.mem_of_getElem? (i := 193) rfl)
theorem w4_193 : (Jvm.Cond.code ({ cls := "DotPress$Sheet", name := "present", desc := "(I)LDotPress$Line;" } : Jvm.MethodName) prog_9_method_4_code (3 : Nat) (Option.some (Jvm.ClassFile.FieldType.object "DotPress$Line"))) ∈ lw_g := lw_in w4_193t rfl
theorem w4_194t : (Jvm.Cond.methodLink "DotPress" (292 : Nat) ({ cls := "DotPress$Sheet", name := "whyNone", desc := "(I)I" } : Jvm.MethodName)) ∈ lw_tbl := mT4 (List.mem_of_getElem? (i := 194) rfl)
theorem w4_194 : (Jvm.Cond.methodLink "DotPress" (292 : Nat) ({ cls := "DotPress$Sheet", name := "whyNone", desc := "(I)I" } : Jvm.MethodName)) ∈ lw_g := lw_in w4_194t rfl
theorem w4_195t : (Jvm.Cond.instanceMethod ({ cls := "DotPress$Sheet", name := "whyNone", desc := "(I)I" } : Jvm.MethodName)) ∈ lw_tbl := mT4 (List.mem_of_getElem? (i := 195) rfl)
theorem w4_195 : (Jvm.Cond.instanceMethod ({ cls := "DotPress$Sheet", name := "whyNone", desc := "(I)I" } : Jvm.MethodName)) ∈ lw_g := lw_in w4_195t rfl
theorem w4_196t : (Jvm.Cond.selects "DotPress$Sheet" ({ cls := "DotPress$Sheet", name := "whyNone", desc := "(I)I" } : Jvm.MethodName) ({ cls := "DotPress$Sheet", name := "whyNone", desc := "(I)I" } : Jvm.MethodName)) ∈ lw_tbl := mT4 (List.mem_of_getElem? (i := 196) rfl)
theorem w4_196 : (Jvm.Cond.selects "DotPress$Sheet" ({ cls := "DotPress$Sheet", name := "whyNone", desc := "(I)I" } : Jvm.MethodName) ({ cls := "DotPress$Sheet", name := "whyNone", desc := "(I)I" } : Jvm.MethodName)) ∈ lw_g := lw_in w4_196t rfl
theorem w4_197t : (Jvm.Cond.code ({ cls := "DotPress$Sheet", name := "whyNone", desc := "(I)I" } : Jvm.MethodName) prog_9_method_5_code (2 : Nat) (Option.some Jvm.ClassFile.FieldType.int)) ∈ lw_tbl := mT4 (List.mem_of_getElem? (i := 197) rfl)
theorem w4_197 : (Jvm.Cond.code ({ cls := "DotPress$Sheet", name := "whyNone", desc := "(I)I" } : Jvm.MethodName) prog_9_method_5_code (2 : Nat) (Option.some Jvm.ClassFile.FieldType.int)) ∈ lw_g := lw_in w4_197t rfl
theorem w4_20t : (Jvm.Cond.selects "DotPress$Setting" ({ cls := "DotPress$Setting", name := "clear", desc := "()V" } : Jvm.MethodName) ({ cls := "DotPress$Setting", name := "clear", desc := "()V" } : Jvm.MethodName)) ∈ lw_tbl := mT4 (List.mem_of_getElem? (i := 20) rfl)
theorem w4_20 : (Jvm.Cond.selects "DotPress$Setting" ({ cls := "DotPress$Setting", name := "clear", desc := "()V" } : Jvm.MethodName) ({ cls := "DotPress$Setting", name := "clear", desc := "()V" } : Jvm.MethodName)) ∈ lw_g := lw_in w4_20t rfl
theorem w4_201t : (Jvm.Cond.code ({ cls := "DotPress", name := "cell", desc := "(II)I" } : Jvm.MethodName) prog_1_method_27_code (3 : Nat) (Option.some Jvm.ClassFile.FieldType.int)) ∈ lw_tbl := mT4 (List.mem_of_getElem? (i := 201) rfl)
theorem w4_201 : (Jvm.Cond.code ({ cls := "DotPress", name := "cell", desc := "(II)I" } : Jvm.MethodName) prog_1_method_27_code (3 : Nat) (Option.some Jvm.ClassFile.FieldType.int)) ∈ lw_g := lw_in w4_201t rfl
theorem w4_202t : (Jvm.Cond.methodLink "DotPress" (298 : Nat) ({ cls := "DotPress", name := "cellOfLine", desc := "(II)I" } : Jvm.MethodName)) ∈ lw_tbl := mT4 (List.mem_of_getElem? (i := 202) rfl)
theorem w4_202 : (Jvm.Cond.methodLink "DotPress" (298 : Nat) ({ cls := "DotPress", name := "cellOfLine", desc := "(II)I" } : Jvm.MethodName)) ∈ lw_g := lw_in w4_202t rfl
theorem w4_204t : (Jvm.Cond.instanceMethod ({ cls := "DotPress", name := "cellOfLine", desc := "(II)I" } : Jvm.MethodName)) ∈ lw_tbl := mT4 (List.mem_of_getElem? (i := 204) rfl)
theorem w4_204 : (Jvm.Cond.instanceMethod ({ cls := "DotPress", name := "cellOfLine", desc := "(II)I" } : Jvm.MethodName)) ∈ lw_g := lw_in w4_204t rfl
theorem w4_205t : (Jvm.Cond.code ({ cls := "DotPress", name := "cellOfLine", desc := "(II)I" } : Jvm.MethodName) prog_1_method_28_code (4 : Nat) (Option.some Jvm.ClassFile.FieldType.int)) ∈ lw_tbl := mT4 (List.mem_of_getElem? (i := 205) rfl)
theorem w4_205 : (Jvm.Cond.code ({ cls := "DotPress", name := "cellOfLine", desc := "(II)I" } : Jvm.MethodName) prog_1_method_28_code (4 : Nat) (Option.some Jvm.ClassFile.FieldType.int)) ∈ lw_g := lw_in w4_205t rfl
theorem w4_209t : (Jvm.Cond.code ({ cls := "DotPress", name := "page", desc := "(III)I" } : Jvm.MethodName) prog_1_method_29_code (5 : Nat) (Option.some Jvm.ClassFile.FieldType.int)) ∈ lw_tbl := mT4 (List.mem_of_getElem? (i := 209) rfl)
theorem w4_209 : (Jvm.Cond.code ({ cls := "DotPress", name := "page", desc := "(III)I" } : Jvm.MethodName) prog_1_method_29_code (5 : Nat) (Option.some Jvm.ClassFile.FieldType.int)) ∈ lw_g := lw_in w4_209t rfl
theorem w4_21t : (Jvm.Cond.code ({ cls := "DotPress$Setting", name := "clear", desc := "()V" } : Jvm.MethodName) prog_8_method_2_code (1 : Nat) (Option.none : Option Jvm.ClassFile.FieldType)) ∈ lw_tbl := mT4 (List.mem_of_getElem? (i := 21) rfl)
theorem w4_21 : (Jvm.Cond.code ({ cls := "DotPress$Setting", name := "clear", desc := "()V" } : Jvm.MethodName) prog_8_method_2_code (1 : Nat) (Option.none : Option Jvm.ClassFile.FieldType)) ∈ lw_g := lw_in w4_21t rfl
theorem w4_210t : (Jvm.Cond.methodLink "DotPress" (302 : Nat) ({ cls := "DotPress", name := "pages", desc := "()I" } : Jvm.MethodName)) ∈ lw_tbl := mT4 (List.mem_of_getElem? (i := 210) rfl)
theorem w4_210 : (Jvm.Cond.methodLink "DotPress" (302 : Nat) ({ cls := "DotPress", name := "pages", desc := "()I" } : Jvm.MethodName)) ∈ lw_g := lw_in w4_210t rfl
theorem w4_214t : (Jvm.Cond.code ({ cls := "DotPress", name := "cut", desc := "(II)I" } : Jvm.MethodName) prog_1_method_30_code (4 : Nat) (Option.some Jvm.ClassFile.FieldType.int)) ∈ lw_tbl := mT4 (List.mem_of_getElem? (i := 214) rfl)
theorem w4_214 : (Jvm.Cond.code ({ cls := "DotPress", name := "cut", desc := "(II)I" } : Jvm.MethodName) prog_1_method_30_code (4 : Nat) (Option.some Jvm.ClassFile.FieldType.int)) ∈ lw_g := lw_in w4_214t rfl
theorem w4_223t : (Jvm.Cond.code ({ cls := "DotPress", name := "lose", desc := "(I)I" } : Jvm.MethodName) prog_1_method_31_code (3 : Nat) (Option.some Jvm.ClassFile.FieldType.int)) ∈ lw_tbl := mT4 (List.mem_of_getElem? (i := 223) rfl)
theorem w4_223 : (Jvm.Cond.code ({ cls := "DotPress", name := "lose", desc := "(I)I" } : Jvm.MethodName) prog_1_method_31_code (3 : Nat) (Option.some Jvm.ClassFile.FieldType.int)) ∈ lw_g := lw_in w4_223t rfl
theorem w4_224t : (Jvm.Cond.methodLink "DotPress" (308 : Nat) ({ cls := "DotPress$Sheet", name := "at", desc := "(I)LDotPress$Line;" } : Jvm.MethodName)) ∈ lw_tbl := mT4 (List.mem_of_getElem? (i := 224) rfl)
theorem w4_224 : (Jvm.Cond.methodLink "DotPress" (308 : Nat) ({ cls := "DotPress$Sheet", name := "at", desc := "(I)LDotPress$Line;" } : Jvm.MethodName)) ∈ lw_g := lw_in w4_224t rfl
theorem w4_228t : (Jvm.Cond.code ({ cls := "DotPress", name := "copyRow", desc := "(IIIII)I" } : Jvm.MethodName) prog_1_method_32_code (8 : Nat) (Option.some Jvm.ClassFile.FieldType.int)) ∈ lw_tbl := mT4 (List.mem_of_getElem? (i := 228) rfl)
theorem w4_228 : (Jvm.Cond.code ({ cls := "DotPress", name := "copyRow", desc := "(IIIII)I" } : Jvm.MethodName) prog_1_method_32_code (8 : Nat) (Option.some Jvm.ClassFile.FieldType.int)) ∈ lw_g := lw_in w4_228t rfl
theorem w4_237t : (Jvm.Cond.code ({ cls := "DotPress", name := "copyLines", desc := "(III)I" } : Jvm.MethodName) prog_1_method_33_code (7 : Nat) (Option.some Jvm.ClassFile.FieldType.int)) ∈ lw_tbl := mT4 (List.mem_of_getElem? (i := 237) rfl)
theorem w4_237 : (Jvm.Cond.code ({ cls := "DotPress", name := "copyLines", desc := "(III)I" } : Jvm.MethodName) prog_1_method_33_code (7 : Nat) (Option.some Jvm.ClassFile.FieldType.int)) ∈ lw_g := lw_in w4_237t rfl
theorem w4_57t : (Jvm.Cond.laysFinal "DotPress$Line" "DotPress$Line" "cells" "[I") ∈ lw_tbl := mT4 (List.mem_of_getElem? (i := 57) rfl)
theorem w4_57 : (Jvm.Cond.laysFinal "DotPress$Line" "DotPress$Line" "cells" "[I") ∈ lw_g := lw_in w4_57t rfl
theorem w4_59t : (Jvm.Cond.lays "DotPress$Line" "DotPress$Line" "size" "I") ∈ lw_tbl := mT4 (List.mem_of_getElem? (i := 59) rfl)
theorem w4_59 : (Jvm.Cond.lays "DotPress$Line" "DotPress$Line" "size" "I") ∈ lw_g := lw_in w4_59t rfl
theorem w4_61t : (Jvm.Cond.lays "DotPress$Line" "DotPress$Line" "lacking" "Z") ∈ lw_tbl := mT4 (List.mem_of_getElem? (i := 61) rfl)
theorem w4_61 : (Jvm.Cond.lays "DotPress$Line" "DotPress$Line" "lacking" "Z") ∈ lw_g := lw_in w4_61t rfl
theorem w4_72t : (Jvm.Cond.methodLink "DotPress$Sheet" (24 : Nat) ({ cls := "DotPress$Sheet", name := "at", desc := "(I)LDotPress$Line;" } : Jvm.MethodName)) ∈ lw_tbl := mT4 (List.mem_of_getElem? (i := 72) rfl)
theorem w4_72 : (Jvm.Cond.methodLink "DotPress$Sheet" (24 : Nat) ({ cls := "DotPress$Sheet", name := "at", desc := "(I)LDotPress$Line;" } : Jvm.MethodName)) ∈ lw_g := lw_in w4_72t rfl
theorem w4_73t : (Jvm.Cond.instanceMethod ({ cls := "DotPress$Sheet", name := "at", desc := "(I)LDotPress$Line;" } : Jvm.MethodName)) ∈ lw_tbl := mT4 (List.mem_of_getElem? (i := 73) rfl)
theorem w4_73 : (Jvm.Cond.instanceMethod ({ cls := "DotPress$Sheet", name := "at", desc := "(I)LDotPress$Line;" } : Jvm.MethodName)) ∈ lw_g := lw_in w4_73t rfl
theorem w4_74t : (Jvm.Cond.selects "DotPress$Sheet" ({ cls := "DotPress$Sheet", name := "at", desc := "(I)LDotPress$Line;" } : Jvm.MethodName) ({ cls := "DotPress$Sheet", name := "at", desc := "(I)LDotPress$Line;" } : Jvm.MethodName)) ∈ lw_tbl := mT4 (List.mem_of_getElem? (i := 74) rfl)
theorem w4_74 : (Jvm.Cond.selects "DotPress$Sheet" ({ cls := "DotPress$Sheet", name := "at", desc := "(I)LDotPress$Line;" } : Jvm.MethodName) ({ cls := "DotPress$Sheet", name := "at", desc := "(I)LDotPress$Line;" } : Jvm.MethodName)) ∈ lw_g := lw_in w4_74t rfl
theorem w4_75t : (Jvm.Cond.code ({ cls := "DotPress$Sheet", name := "at", desc := "(I)LDotPress$Line;" } : Jvm.MethodName) prog_9_method_3_code (2 : Nat) (Option.some (Jvm.ClassFile.FieldType.object "DotPress$Line"))) ∈ lw_tbl := mT4 (List.mem_of_getElem? (i := 75) rfl)
theorem w4_75 : (Jvm.Cond.code ({ cls := "DotPress$Sheet", name := "at", desc := "(I)LDotPress$Line;" } : Jvm.MethodName) prog_9_method_3_code (2 : Nat) (Option.some (Jvm.ClassFile.FieldType.object "DotPress$Line"))) ∈ lw_g := lw_in w4_75t rfl
theorem w5_113t : (Jvm.Cond.code ({ cls := "DotPress", name := "letter", desc := "(I)I" } : Jvm.MethodName) prog_1_method_39_code (2 : Nat) (Option.some Jvm.ClassFile.FieldType.int)) ∈ lw_tbl := mT5 (List.mem_of_getElem? (i := 113) rfl)
theorem w5_113 : (Jvm.Cond.code ({ cls := "DotPress", name := "letter", desc := "(I)I" } : Jvm.MethodName) prog_1_method_39_code (2 : Nat) (Option.some Jvm.ClassFile.FieldType.int)) ∈ lw_g := lw_in w5_113t rfl
theorem w5_117t : (Jvm.Cond.code ({ cls := "DotPress", name := "failed", desc := "(IZ)I" } : Jvm.MethodName) prog_1_method_40_code (4 : Nat) (Option.some Jvm.ClassFile.FieldType.int)) ∈ lw_tbl := mT5 (List.mem_of_getElem? (i := 117) rfl)
theorem w5_117 : (Jvm.Cond.code ({ cls := "DotPress", name := "failed", desc := "(IZ)I" } : Jvm.MethodName) prog_1_method_40_code (4 : Nat) (Option.some Jvm.ClassFile.FieldType.int)) ∈ lw_g := lw_in w5_117t rfl
theorem w5_118t : (Jvm.Cond.methodLink "DotPress" (351 : Nat) ({ cls := "java/lang/Integer", name := "bitCount", desc := "(I)I" } : Jvm.MethodName)) ∈ lw_tbl := mT5 (List.mem_of_getElem? (i := 118) rfl)
theorem w5_118 : (Jvm.Cond.methodLink "DotPress" (351 : Nat) ({ cls := "java/lang/Integer", name := "bitCount", desc := "(I)I" } : Jvm.MethodName)) ∈ lw_g := lw_in w5_118t rfl
theorem w5_122t : (Jvm.Cond.code ({ cls := "DotPress", name := "readings", desc := "(III)I" } : Jvm.MethodName) prog_1_method_41_code (6 : Nat) (Option.some Jvm.ClassFile.FieldType.int)) ∈ lw_tbl := mT5 (List.mem_of_getElem? (i := 122) rfl)
theorem w5_122 : (Jvm.Cond.code ({ cls := "DotPress", name := "readings", desc := "(III)I" } : Jvm.MethodName) prog_1_method_41_code (6 : Nat) (Option.some Jvm.ClassFile.FieldType.int)) ∈ lw_g := lw_in w5_122t rfl
theorem w5_15t : (Jvm.Cond.static ({ cls := "java/lang/Integer", name := "bitCount", desc := "(I)I" } : Jvm.MethodName)) ∈ lw_tbl := mT5 (List.mem_of_getElem? (i := 15) rfl)
theorem w5_15 : (Jvm.Cond.static ({ cls := "java/lang/Integer", name := "bitCount", desc := "(I)I" } : Jvm.MethodName)) ∈ lw_g := lw_in w5_15t rfl
theorem w5_16t : (Jvm.Cond.code ({ cls := "java/lang/Integer", name := "bitCount", desc := "(I)I" } : Jvm.MethodName) prog_17_method_49_code (1 : Nat) (Option.some Jvm.ClassFile.FieldType.int)) ∈ lw_tbl := mT5 (List.mem_of_getElem? (i := 16) rfl)
theorem w5_16 : (Jvm.Cond.code ({ cls := "java/lang/Integer", name := "bitCount", desc := "(I)I" } : Jvm.MethodName) prog_17_method_49_code (1 : Nat) (Option.some Jvm.ClassFile.FieldType.int)) ∈ lw_g := lw_in w5_16t rfl
theorem w5_169t : (Jvm.Cond.code ({ cls := "DotPress", name := "more", desc := "()I" } : Jvm.MethodName) prog_1_method_42_code (1 : Nat) (Option.some Jvm.ClassFile.FieldType.int)) ∈ lw_tbl := mT5 (List.mem_of_getElem? (i := 169) rfl)
theorem w5_169 : (Jvm.Cond.code ({ cls := "DotPress", name := "more", desc := "()I" } : Jvm.MethodName) prog_1_method_42_code (1 : Nat) (Option.some Jvm.ClassFile.FieldType.int)) ∈ lw_g := lw_in w5_169t rfl
theorem w5_17t : (Jvm.Cond.constant "java/lang/Integer" (265 : Nat) (1431655765 : Int32)) ∈ lw_tbl := mT5 (List.mem_of_getElem? (i := 17) rfl)
theorem w5_17 : (Jvm.Cond.constant "java/lang/Integer" (265 : Nat) (1431655765 : Int32)) ∈ lw_g := lw_in w5_17t rfl
theorem w5_173t : (Jvm.Cond.code ({ cls := "DotPress", name := "reading", desc := "(II)I" } : Jvm.MethodName) prog_1_method_43_code (4 : Nat) (Option.some Jvm.ClassFile.FieldType.int)) ∈ lw_tbl := mT5 (List.mem_of_getElem? (i := 173) rfl)
theorem w5_173 : (Jvm.Cond.code ({ cls := "DotPress", name := "reading", desc := "(II)I" } : Jvm.MethodName) prog_1_method_43_code (4 : Nat) (Option.some Jvm.ClassFile.FieldType.int)) ∈ lw_g := lw_in w5_173t rfl
theorem w5_174t : (Jvm.Cond.methodLink "DotPress" (364 : Nat) ({ cls := "DotPress$Readings", name := "byteOf", desc := "(II)I" } : Jvm.MethodName)) ∈ lw_tbl := mT5 (List.mem_of_getElem? (i := 174) rfl)
theorem w5_174 : (Jvm.Cond.methodLink "DotPress" (364 : Nat) ({ cls := "DotPress$Readings", name := "byteOf", desc := "(II)I" } : Jvm.MethodName)) ∈ lw_g := lw_in w5_174t rfl
theorem w5_175t : (Jvm.Cond.instanceMethod ({ cls := "DotPress$Readings", name := "byteOf", desc := "(II)I" } : Jvm.MethodName)) ∈ lw_tbl := mT5 (List.mem_of_getElem? (i := 175) rfl)
theorem w5_175 : (Jvm.Cond.instanceMethod ({ cls := "DotPress$Readings", name := "byteOf", desc := "(II)I" } : Jvm.MethodName)) ∈ lw_g := lw_in w5_175t rfl
theorem w5_176t : (Jvm.Cond.selects "DotPress$Readings" ({ cls := "DotPress$Readings", name := "byteOf", desc := "(II)I" } : Jvm.MethodName) ({ cls := "DotPress$Readings", name := "byteOf", desc := "(II)I" } : Jvm.MethodName)) ∈ lw_tbl := mT5 (List.mem_of_getElem? (i := 176) rfl)
theorem w5_176 : (Jvm.Cond.selects "DotPress$Readings" ({ cls := "DotPress$Readings", name := "byteOf", desc := "(II)I" } : Jvm.MethodName) ({ cls := "DotPress$Readings", name := "byteOf", desc := "(II)I" } : Jvm.MethodName)) ∈ lw_g := lw_in w5_176t rfl
theorem w5_177t : (Jvm.Cond.code ({ cls := "DotPress$Readings", name := "byteOf", desc := "(II)I" } : Jvm.MethodName) prog_6_method_2_code (4 : Nat) (Option.some Jvm.ClassFile.FieldType.int)) ∈ lw_tbl := mT5 (List.mem_of_getElem? (i := 177) rfl)
theorem w5_177 : (Jvm.Cond.code ({ cls := "DotPress$Readings", name := "byteOf", desc := "(II)I" } : Jvm.MethodName) prog_6_method_2_code (4 : Nat) (Option.some Jvm.ClassFile.FieldType.int)) ∈ lw_g := lw_in w5_177t rfl
theorem w5_18t : (Jvm.Cond.constant "java/lang/Integer" (266 : Nat) (858993459 : Int32)) ∈ lw_tbl := mT5 (List.mem_of_getElem? (i := 18) rfl)
theorem w5_18 : (Jvm.Cond.constant "java/lang/Integer" (266 : Nat) (858993459 : Int32)) ∈ lw_g := lw_in w5_18t rfl
theorem w5_182t : (Jvm.Cond.code ({ cls := "DotPress", name := "judge", desc := "(I)I" } : Jvm.MethodName) prog_1_method_44_code (4 : Nat) (Option.some Jvm.ClassFile.FieldType.int)) ∈ lw_tbl := mT5 (List.mem_of_getElem? (i := 182) rfl)
theorem w5_182 : (Jvm.Cond.code ({ cls := "DotPress", name := "judge", desc := "(I)I" } : Jvm.MethodName) prog_1_method_44_code (4 : Nat) (Option.some Jvm.ClassFile.FieldType.int)) ∈ lw_g := lw_in w5_182t rfl
theorem w5_19t : (Jvm.Cond.constant "java/lang/Integer" (267 : Nat) (252645135 : Int32)) ∈ lw_tbl := mT5 (List.mem_of_getElem? (i := 19) rfl)
theorem w5_19 : (Jvm.Cond.constant "java/lang/Integer" (267 : Nat) (252645135 : Int32)) ∈ lw_g := lw_in w5_19t rfl
theorem w5_209t : (Jvm.Cond.code ({ cls := "DotPress", name := "parts", desc := "(III)I" } : Jvm.MethodName) prog_1_method_45_code (10 : Nat) (Option.some Jvm.ClassFile.FieldType.int)) ∈ lw_tbl := mT5 (List.mem_of_getElem? (i := 209) rfl)
theorem w5_209 : (Jvm.Cond.code ({ cls := "DotPress", name := "parts", desc := "(III)I" } : Jvm.MethodName) prog_1_method_45_code (10 : Nat) (Option.some Jvm.ClassFile.FieldType.int)) ∈ lw_g := lw_in w5_209t rfl
theorem w5_214t : (Jvm.Cond.code ({ cls := "DotPress", name := "unreadable", desc := "(III)I" } : Jvm.MethodName) prog_1_method_46_code (7 : Nat) (Option.some Jvm.ClassFile.FieldType.int)) ∈ lw_tbl := mT5 (List.mem_of_getElem? (i := 214) rfl)
theorem w5_214 : (Jvm.Cond.code ({ cls := "DotPress", name := "unreadable", desc := "(III)I" } : Jvm.MethodName) prog_1_method_46_code (7 : Nat) (Option.some Jvm.ClassFile.FieldType.int)) ∈ lw_g := lw_in w5_214t rfl
theorem w5_23t : (Jvm.Cond.code ({ cls := "DotPress", name := "closed", desc := "()I" } : Jvm.MethodName) prog_1_method_36_code (1 : Nat) (Option.some Jvm.ClassFile.FieldType.int)) ∈ lw_tbl := mT5 (List.mem_of_getElem? (i := 23) rfl)
theorem w5_23 : (Jvm.Cond.code ({ cls := "DotPress", name := "closed", desc := "()I" } : Jvm.MethodName) prog_1_method_36_code (1 : Nat) (Option.some Jvm.ClassFile.FieldType.int)) ∈ lw_g := lw_in w5_23t rfl
theorem w5_27t : (Jvm.Cond.code ({ cls := "DotPress", name := "read", desc := "(III)I" } : Jvm.MethodName) prog_1_method_37_code (6 : Nat) (Option.some Jvm.ClassFile.FieldType.int)) ∈ lw_tbl := mT5 (List.mem_of_getElem? (i := 27) rfl)
theorem w5_27 : (Jvm.Cond.code ({ cls := "DotPress", name := "read", desc := "(III)I" } : Jvm.MethodName) prog_1_method_37_code (6 : Nat) (Option.some Jvm.ClassFile.FieldType.int)) ∈ lw_g := lw_in w5_27t rfl
theorem w5_5t : (Jvm.Cond.code ({ cls := "DotPress", name := "copied", desc := "()I" } : Jvm.MethodName) prog_1_method_34_code (1 : Nat) (Option.some Jvm.ClassFile.FieldType.int)) ∈ lw_tbl := mT5 (List.mem_of_getElem? (i := 5) rfl)
theorem w5_5 : (Jvm.Cond.code ({ cls := "DotPress", name := "copied", desc := "()I" } : Jvm.MethodName) prog_1_method_34_code (1 : Nat) (Option.some Jvm.ClassFile.FieldType.int)) ∈ lw_g := lw_in w5_5t rfl
theorem w5_9t : (Jvm.Cond.code ({ cls := "DotPress", name := "emboss", desc := "(II)I" } : Jvm.MethodName) prog_1_method_35_code (6 : Nat) (Option.some Jvm.ClassFile.FieldType.int)) ∈ lw_tbl := mT5 (List.mem_of_getElem? (i := 9) rfl)
theorem w5_9 : (Jvm.Cond.code ({ cls := "DotPress", name := "emboss", desc := "(II)I" } : Jvm.MethodName) prog_1_method_35_code (6 : Nat) (Option.some Jvm.ClassFile.FieldType.int)) ∈ lw_g := lw_in w5_9t rfl
theorem w6_100t : (Jvm.Cond.fieldLink "DotPressModel" (285 : Nat) "DotPressModel" "headMany" "I") ∈ lw_tbl := mT6 (List.mem_of_getElem? (i := 100) rfl)
theorem w6_100 : (Jvm.Cond.fieldLink "DotPressModel" (285 : Nat) "DotPressModel" "headMany" "I") ∈ lw_g := lw_in w6_100t rfl
theorem w6_101t : (Jvm.Cond.fieldLink "DotPressModel" (303 : Nat) "DotPressModel" "copied" "I") ∈ lw_tbl := mT6 (List.mem_of_getElem? (i := 101) rfl)
theorem w6_101 : (Jvm.Cond.fieldLink "DotPressModel" (303 : Nat) "DotPressModel" "copied" "I") ∈ lw_g := lw_in w6_101t rfl
theorem w6_102t : (Jvm.Cond.fieldLink "DotPressModel" (306 : Nat) "DotPressModel" "closed" "I") ∈ lw_tbl := mT6 (List.mem_of_getElem? (i := 102) rfl)
theorem w6_102 : (Jvm.Cond.fieldLink "DotPressModel" (306 : Nat) "DotPressModel" "closed" "I") ∈ lw_g := lw_in w6_102t rfl
theorem w6_103t : (Jvm.Cond.fieldLink "DotPressModel" (107 : Nat) "DotPressModel" "rowIs" "[I") ∈ lw_tbl := mT6 (List.mem_of_getElem? (i := 103) rfl)
theorem w6_103 : (Jvm.Cond.fieldLink "DotPressModel" (107 : Nat) "DotPressModel" "rowIs" "[I") ∈ lw_g := lw_in w6_103t rfl
theorem w6_104t : (Jvm.Cond.fieldLink "DotPressModel" (110 : Nat) "DotPressModel" "rowAt" "[I") ∈ lw_tbl := mT6 (List.mem_of_getElem? (i := 104) rfl)
theorem w6_104 : (Jvm.Cond.fieldLink "DotPressModel" (110 : Nat) "DotPressModel" "rowAt" "[I") ∈ lw_g := lw_in w6_104t rfl
theorem w6_105t : (Jvm.Cond.fieldLink "DotPressModel" (113 : Nat) "DotPressModel" "rowLong" "[I") ∈ lw_tbl := mT6 (List.mem_of_getElem? (i := 105) rfl)
theorem w6_105 : (Jvm.Cond.fieldLink "DotPressModel" (113 : Nat) "DotPressModel" "rowLong" "[I") ∈ lw_g := lw_in w6_105t rfl
theorem w6_106t : (Jvm.Cond.fieldLink "DotPressModel" (116 : Nat) "DotPressModel" "rowMany" "[I") ∈ lw_tbl := mT6 (List.mem_of_getElem? (i := 106) rfl)
theorem w6_106 : (Jvm.Cond.fieldLink "DotPressModel" (116 : Nat) "DotPressModel" "rowMany" "[I") ∈ lw_g := lw_in w6_106t rfl
theorem w6_107t : (Jvm.Cond.fieldLink "DotPressModel" (120 : Nat) "DotPressModel" "row" "[I") ∈ lw_tbl := mT6 (List.mem_of_getElem? (i := 107) rfl)
theorem w6_107 : (Jvm.Cond.fieldLink "DotPressModel" (120 : Nat) "DotPressModel" "row" "[I") ∈ lw_g := lw_in w6_107t rfl
theorem w6_108t : (Jvm.Cond.fieldLink "DotPressModel" (123 : Nat) "DotPressModel" "rowPlace" "[I") ∈ lw_tbl := mT6 (List.mem_of_getElem? (i := 108) rfl)
theorem w6_108 : (Jvm.Cond.fieldLink "DotPressModel" (123 : Nat) "DotPressModel" "rowPlace" "[I") ∈ lw_g := lw_in w6_108t rfl
theorem w6_110t : (Jvm.Cond.fieldLink "DotPressModel" (126 : Nat) "DotPressModel" "out" "[I") ∈ lw_tbl := mT6 (List.mem_of_getElem? (i := 110) rfl)
theorem w6_110 : (Jvm.Cond.fieldLink "DotPressModel" (126 : Nat) "DotPressModel" "out" "[I") ∈ lw_g := lw_in w6_110t rfl
theorem w6_111t : (Jvm.Cond.fieldLink "DotPressModel" (330 : Nat) "DotPressModel" "outs" "I") ∈ lw_tbl := mT6 (List.mem_of_getElem? (i := 111) rfl)
theorem w6_111 : (Jvm.Cond.fieldLink "DotPressModel" (330 : Nat) "DotPressModel" "outs" "I") ∈ lw_g := lw_in w6_111t rfl
theorem w6_113t : (Jvm.Cond.fieldLink "DotPressModel" (129 : Nat) "DotPressModel" "was" "[I") ∈ lw_tbl := mT6 (List.mem_of_getElem? (i := 113) rfl)
theorem w6_113 : (Jvm.Cond.fieldLink "DotPressModel" (129 : Nat) "DotPressModel" "was" "[I") ∈ lw_g := lw_in w6_113t rfl
theorem w6_115t : (Jvm.Cond.fieldLink "DotPressModel" (360 : Nat) "DotPressModel" "failed" "I") ∈ lw_tbl := mT6 (List.mem_of_getElem? (i := 115) rfl)
theorem w6_115 : (Jvm.Cond.fieldLink "DotPressModel" (360 : Nat) "DotPressModel" "failed" "I") ∈ lw_g := lw_in w6_115t rfl
theorem w6_116t : (Jvm.Cond.fieldLink "DotPressModel" (132 : Nat) "DotPressModel" "can" "[Z") ∈ lw_tbl := mT6 (List.mem_of_getElem? (i := 116) rfl)
theorem w6_116 : (Jvm.Cond.fieldLink "DotPressModel" (132 : Nat) "DotPressModel" "can" "[Z") ∈ lw_g := lw_in w6_116t rfl
theorem w6_117t : (Jvm.Cond.fieldLink "DotPressModel" (136 : Nat) "DotPressModel" "kept" "[I") ∈ lw_tbl := mT6 (List.mem_of_getElem? (i := 117) rfl)
theorem w6_117 : (Jvm.Cond.fieldLink "DotPressModel" (136 : Nat) "DotPressModel" "kept" "[I") ∈ lw_g := lw_in w6_117t rfl
theorem w6_118t : (Jvm.Cond.fieldLink "DotPressModel" (139 : Nat) "DotPressModel" "keptLong" "[I") ∈ lw_tbl := mT6 (List.mem_of_getElem? (i := 118) rfl)
theorem w6_118 : (Jvm.Cond.fieldLink "DotPressModel" (139 : Nat) "DotPressModel" "keptLong" "[I") ∈ lw_g := lw_in w6_118t rfl
theorem w6_119t : (Jvm.Cond.fieldLink "DotPressModel" (395 : Nat) "DotPressModel" "keptMany" "I") ∈ lw_tbl := mT6 (List.mem_of_getElem? (i := 119) rfl)
theorem w6_119 : (Jvm.Cond.fieldLink "DotPressModel" (395 : Nat) "DotPressModel" "keptMany" "I") ∈ lw_g := lw_in w6_119t rfl
theorem w6_120t : (Jvm.Cond.fieldLink "DotPressModel" (382 : Nat) "DotPressModel" "more" "I") ∈ lw_tbl := mT6 (List.mem_of_getElem? (i := 120) rfl)
theorem w6_120 : (Jvm.Cond.fieldLink "DotPressModel" (382 : Nat) "DotPressModel" "more" "I") ∈ lw_g := lw_in w6_120t rfl
theorem w6_121t : (Jvm.Cond.fieldLink "DotPressModel" (142 : Nat) "DotPressModel" "now" "[I") ∈ lw_tbl := mT6 (List.mem_of_getElem? (i := 121) rfl)
theorem w6_121 : (Jvm.Cond.fieldLink "DotPressModel" (142 : Nat) "DotPressModel" "now" "[I") ∈ lw_g := lw_in w6_121t rfl
theorem w6_124t : (Jvm.Cond.fieldLink "DotPressModel" (145 : Nat) "DotPressModel" "signs" "[I") ∈ lw_tbl := mT6 (List.mem_of_getElem? (i := 124) rfl)
theorem w6_124 : (Jvm.Cond.fieldLink "DotPressModel" (145 : Nat) "DotPressModel" "signs" "[I") ∈ lw_g := lw_in w6_124t rfl
theorem w6_126t : (Jvm.Cond.lays "DotPressModel" "DotPressModel" "status" "I") ∈ lw_tbl := mT6 (List.mem_of_getElem? (i := 126) rfl)
theorem w6_126 : (Jvm.Cond.lays "DotPressModel" "DotPressModel" "status" "I") ∈ lw_g := lw_in w6_126t rfl
theorem w6_128t : (Jvm.Cond.lays "DotPressModel" "DotPressModel" "place" "I") ∈ lw_tbl := mT6 (List.mem_of_getElem? (i := 128) rfl)
theorem w6_128 : (Jvm.Cond.lays "DotPressModel" "DotPressModel" "place" "I") ∈ lw_g := lw_in w6_128t rfl
theorem w6_130t : (Jvm.Cond.laysFinal "DotPressModel" "DotPressModel" "tape" "[I") ∈ lw_tbl := mT6 (List.mem_of_getElem? (i := 130) rfl)
theorem w6_130 : (Jvm.Cond.laysFinal "DotPressModel" "DotPressModel" "tape" "[I") ∈ lw_g := lw_in w6_130t rfl
theorem w6_132t : (Jvm.Cond.lays "DotPressModel" "DotPressModel" "taped" "I") ∈ lw_tbl := mT6 (List.mem_of_getElem? (i := 132) rfl)
theorem w6_132 : (Jvm.Cond.lays "DotPressModel" "DotPressModel" "taped" "I") ∈ lw_g := lw_in w6_132t rfl
theorem w6_134t : (Jvm.Cond.lays "DotPressModel" "DotPressModel" "tables" "I") ∈ lw_tbl := mT6 (List.mem_of_getElem? (i := 134) rfl)
theorem w6_134 : (Jvm.Cond.lays "DotPressModel" "DotPressModel" "tables" "I") ∈ lw_g := lw_in w6_134t rfl
theorem w6_136t : (Jvm.Cond.laysFinal "DotPressModel" "DotPressModel" "isThere" "[Z") ∈ lw_tbl := mT6 (List.mem_of_getElem? (i := 136) rfl)
theorem w6_136 : (Jvm.Cond.laysFinal "DotPressModel" "DotPressModel" "isThere" "[Z") ∈ lw_g := lw_in w6_136t rfl
theorem w6_138t : (Jvm.Cond.laysFinal "DotPressModel" "DotPressModel" "kind" "[I") ∈ lw_tbl := mT6 (List.mem_of_getElem? (i := 138) rfl)
theorem w6_138 : (Jvm.Cond.laysFinal "DotPressModel" "DotPressModel" "kind" "[I") ∈ lw_g := lw_in w6_138t rfl
theorem w6_140t : (Jvm.Cond.laysFinal "DotPressModel" "DotPressModel" "dots" "[I") ∈ lw_tbl := mT6 (List.mem_of_getElem? (i := 140) rfl)
theorem w6_140 : (Jvm.Cond.laysFinal "DotPressModel" "DotPressModel" "dots" "[I") ∈ lw_g := lw_in w6_140t rfl
theorem w6_142t : (Jvm.Cond.laysFinal "DotPressModel" "DotPressModel" "base" "[I") ∈ lw_tbl := mT6 (List.mem_of_getElem? (i := 142) rfl)
theorem w6_142 : (Jvm.Cond.laysFinal "DotPressModel" "DotPressModel" "base" "[I") ∈ lw_g := lw_in w6_142t rfl
theorem w6_144t : (Jvm.Cond.laysFinal "DotPressModel" "DotPressModel" "second" "[I") ∈ lw_tbl := mT6 (List.mem_of_getElem? (i := 144) rfl)
theorem w6_144 : (Jvm.Cond.laysFinal "DotPressModel" "DotPressModel" "second" "[I") ∈ lw_g := lw_in w6_144t rfl
theorem w6_146t : (Jvm.Cond.laysFinal "DotPressModel" "DotPressModel" "ruleMany" "[I") ∈ lw_tbl := mT6 (List.mem_of_getElem? (i := 146) rfl)
theorem w6_146 : (Jvm.Cond.laysFinal "DotPressModel" "DotPressModel" "ruleMany" "[I") ∈ lw_g := lw_in w6_146t rfl
theorem w6_148t : (Jvm.Cond.laysFinal "DotPressModel" "DotPressModel" "conditions" "[I") ∈ lw_tbl := mT6 (List.mem_of_getElem? (i := 148) rfl)
theorem w6_148 : (Jvm.Cond.laysFinal "DotPressModel" "DotPressModel" "conditions" "[I") ∈ lw_g := lw_in w6_148t rfl
theorem w6_150t : (Jvm.Cond.laysFinal "DotPressModel" "DotPressModel" "letterMany" "[I") ∈ lw_tbl := mT6 (List.mem_of_getElem? (i := 150) rfl)
theorem w6_150 : (Jvm.Cond.laysFinal "DotPressModel" "DotPressModel" "letterMany" "[I") ∈ lw_g := lw_in w6_150t rfl
theorem w6_152t : (Jvm.Cond.laysFinal "DotPressModel" "DotPressModel" "cellMany" "[I") ∈ lw_tbl := mT6 (List.mem_of_getElem? (i := 152) rfl)
theorem w6_152 : (Jvm.Cond.laysFinal "DotPressModel" "DotPressModel" "cellMany" "[I") ∈ lw_g := lw_in w6_152t rfl
theorem w6_154t : (Jvm.Cond.laysFinal "DotPressModel" "DotPressModel" "letters" "[I") ∈ lw_tbl := mT6 (List.mem_of_getElem? (i := 154) rfl)
theorem w6_154 : (Jvm.Cond.laysFinal "DotPressModel" "DotPressModel" "letters" "[I") ∈ lw_g := lw_in w6_154t rfl
theorem w6_156t : (Jvm.Cond.laysFinal "DotPressModel" "DotPressModel" "cells" "[I") ∈ lw_tbl := mT6 (List.mem_of_getElem? (i := 156) rfl)
theorem w6_156 : (Jvm.Cond.laysFinal "DotPressModel" "DotPressModel" "cells" "[I") ∈ lw_g := lw_in w6_156t rfl
theorem w6_158t : (Jvm.Cond.laysFinal "DotPressModel" "DotPressModel" "indicatorMany" "[I") ∈ lw_tbl := mT6 (List.mem_of_getElem? (i := 158) rfl)
theorem w6_158 : (Jvm.Cond.laysFinal "DotPressModel" "DotPressModel" "indicatorMany" "[I") ∈ lw_g := lw_in w6_158t rfl
theorem w6_160t : (Jvm.Cond.laysFinal "DotPressModel" "DotPressModel" "indicatorCells" "[I") ∈ lw_tbl := mT6 (List.mem_of_getElem? (i := 160) rfl)
theorem w6_160 : (Jvm.Cond.laysFinal "DotPressModel" "DotPressModel" "indicatorCells" "[I") ∈ lw_g := lw_in w6_160t rfl
theorem w6_162t : (Jvm.Cond.lays "DotPressModel" "DotPressModel" "steps" "[I") ∈ lw_tbl := mT6 (List.mem_of_getElem? (i := 162) rfl)
theorem w6_162 : (Jvm.Cond.lays "DotPressModel" "DotPressModel" "steps" "[I") ∈ lw_g := lw_in w6_162t rfl
theorem w6_164t : (Jvm.Cond.lays "DotPressModel" "DotPressModel" "stepMany" "I") ∈ lw_tbl := mT6 (List.mem_of_getElem? (i := 164) rfl)
theorem w6_164 : (Jvm.Cond.lays "DotPressModel" "DotPressModel" "stepMany" "I") ∈ lw_g := lw_in w6_164t rfl
theorem w6_166t : (Jvm.Cond.laysFinal "DotPressModel" "DotPressModel" "word" "[I") ∈ lw_tbl := mT6 (List.mem_of_getElem? (i := 166) rfl)
theorem w6_166 : (Jvm.Cond.laysFinal "DotPressModel" "DotPressModel" "word" "[I") ∈ lw_g := lw_in w6_166t rfl
theorem w6_168t : (Jvm.Cond.laysFinal "DotPressModel" "DotPressModel" "wordPlace" "[I") ∈ lw_tbl := mT6 (List.mem_of_getElem? (i := 168) rfl)
theorem w6_168 : (Jvm.Cond.laysFinal "DotPressModel" "DotPressModel" "wordPlace" "[I") ∈ lw_g := lw_in w6_168t rfl
theorem w6_170t : (Jvm.Cond.laysFinal "DotPressModel" "DotPressModel" "mayBreak" "[Z") ∈ lw_tbl := mT6 (List.mem_of_getElem? (i := 170) rfl)
theorem w6_170 : (Jvm.Cond.laysFinal "DotPressModel" "DotPressModel" "mayBreak" "[Z") ∈ lw_g := lw_in w6_170t rfl
theorem w6_172t : (Jvm.Cond.lays "DotPressModel" "DotPressModel" "wordLong" "I") ∈ lw_tbl := mT6 (List.mem_of_getElem? (i := 172) rfl)
theorem w6_172 : (Jvm.Cond.lays "DotPressModel" "DotPressModel" "wordLong" "I") ∈ lw_g := lw_in w6_172t rfl
theorem w6_174t : (Jvm.Cond.laysFinal "DotPressModel" "DotPressModel" "made" "[I") ∈ lw_tbl := mT6 (List.mem_of_getElem? (i := 174) rfl)
theorem w6_174 : (Jvm.Cond.laysFinal "DotPressModel" "DotPressModel" "made" "[I") ∈ lw_g := lw_in w6_174t rfl
theorem w6_176t : (Jvm.Cond.lays "DotPressModel" "DotPressModel" "madeMany" "I") ∈ lw_tbl := mT6 (List.mem_of_getElem? (i := 176) rfl)
theorem w6_176 : (Jvm.Cond.lays "DotPressModel" "DotPressModel" "madeMany" "I") ∈ lw_g := lw_in w6_176t rfl
theorem w6_178t : (Jvm.Cond.laysFinal "DotPressModel" "DotPressModel" "begins" "[I") ∈ lw_tbl := mT6 (List.mem_of_getElem? (i := 178) rfl)
theorem w6_178 : (Jvm.Cond.laysFinal "DotPressModel" "DotPressModel" "begins" "[I") ∈ lw_g := lw_in w6_178t rfl
theorem w6_180t : (Jvm.Cond.laysFinal "DotPressModel" "DotPressModel" "finds" "[I") ∈ lw_tbl := mT6 (List.mem_of_getElem? (i := 180) rfl)
theorem w6_180 : (Jvm.Cond.laysFinal "DotPressModel" "DotPressModel" "finds" "[I") ∈ lw_g := lw_in w6_180t rfl
theorem w6_182t : (Jvm.Cond.lays "DotPressModel" "DotPressModel" "unknown" "I") ∈ lw_tbl := mT6 (List.mem_of_getElem? (i := 182) rfl)
theorem w6_182 : (Jvm.Cond.lays "DotPressModel" "DotPressModel" "unknown" "I") ∈ lw_g := lw_in w6_182t rfl
theorem w6_184t : (Jvm.Cond.laysFinal "DotPressModel" "DotPressModel" "text" "[I") ∈ lw_tbl := mT6 (List.mem_of_getElem? (i := 184) rfl)
theorem w6_184 : (Jvm.Cond.laysFinal "DotPressModel" "DotPressModel" "text" "[I") ∈ lw_g := lw_in w6_184t rfl
theorem w6_186t : (Jvm.Cond.lays "DotPressModel" "DotPressModel" "textLong" "I") ∈ lw_tbl := mT6 (List.mem_of_getElem? (i := 186) rfl)
theorem w6_186 : (Jvm.Cond.lays "DotPressModel" "DotPressModel" "textLong" "I") ∈ lw_g := lw_in w6_186t rfl
theorem w6_188t : (Jvm.Cond.lays "DotPressModel" "DotPressModel" "width" "I") ∈ lw_tbl := mT6 (List.mem_of_getElem? (i := 188) rfl)
theorem w6_188 : (Jvm.Cond.lays "DotPressModel" "DotPressModel" "width" "I") ∈ lw_g := lw_in w6_188t rfl
theorem w6_190t : (Jvm.Cond.lays "DotPressModel" "DotPressModel" "height" "I") ∈ lw_tbl := mT6 (List.mem_of_getElem? (i := 190) rfl)
theorem w6_190 : (Jvm.Cond.lays "DotPressModel" "DotPressModel" "height" "I") ∈ lw_g := lw_in w6_190t rfl
theorem w6_192t : (Jvm.Cond.lays "DotPressModel" "DotPressModel" "hyphen" "I") ∈ lw_tbl := mT6 (List.mem_of_getElem? (i := 192) rfl)
theorem w6_192 : (Jvm.Cond.lays "DotPressModel" "DotPressModel" "hyphen" "I") ∈ lw_g := lw_in w6_192t rfl
theorem w6_194t : (Jvm.Cond.laysFinal "DotPressModel" "DotPressModel" "long0" "[I") ∈ lw_tbl := mT6 (List.mem_of_getElem? (i := 194) rfl)
theorem w6_194 : (Jvm.Cond.laysFinal "DotPressModel" "DotPressModel" "long0" "[I") ∈ lw_g := lw_in w6_194t rfl
theorem w6_196t : (Jvm.Cond.laysFinal "DotPressModel" "DotPressModel" "lineCells" "[I") ∈ lw_tbl := mT6 (List.mem_of_getElem? (i := 196) rfl)
theorem w6_196 : (Jvm.Cond.laysFinal "DotPressModel" "DotPressModel" "lineCells" "[I") ∈ lw_g := lw_in w6_196t rfl
theorem w6_198t : (Jvm.Cond.lays "DotPressModel" "DotPressModel" "lines" "I") ∈ lw_tbl := mT6 (List.mem_of_getElem? (i := 198) rfl)
theorem w6_198 : (Jvm.Cond.lays "DotPressModel" "DotPressModel" "lines" "I") ∈ lw_g := lw_in w6_198t rfl
theorem w6_200t : (Jvm.Cond.laysFinal "DotPressModel" "DotPressModel" "newLong" "[I") ∈ lw_tbl := mT6 (List.mem_of_getElem? (i := 200) rfl)
theorem w6_200 : (Jvm.Cond.laysFinal "DotPressModel" "DotPressModel" "newLong" "[I") ∈ lw_g := lw_in w6_200t rfl
theorem w6_202t : (Jvm.Cond.laysFinal "DotPressModel" "DotPressModel" "newCells" "[I") ∈ lw_tbl := mT6 (List.mem_of_getElem? (i := 202) rfl)
theorem w6_202 : (Jvm.Cond.laysFinal "DotPressModel" "DotPressModel" "newCells" "[I") ∈ lw_g := lw_in w6_202t rfl
theorem w6_204t : (Jvm.Cond.lays "DotPressModel" "DotPressModel" "newMany" "I") ∈ lw_tbl := mT6 (List.mem_of_getElem? (i := 204) rfl)
theorem w6_204 : (Jvm.Cond.lays "DotPressModel" "DotPressModel" "newMany" "I") ∈ lw_g := lw_in w6_204t rfl
theorem w6_206t : (Jvm.Cond.laysFinal "DotPressModel" "DotPressModel" "head" "[I") ∈ lw_tbl := mT6 (List.mem_of_getElem? (i := 206) rfl)
theorem w6_206 : (Jvm.Cond.laysFinal "DotPressModel" "DotPressModel" "head" "[I") ∈ lw_g := lw_in w6_206t rfl
theorem w6_208t : (Jvm.Cond.lays "DotPressModel" "DotPressModel" "headMany" "I") ∈ lw_tbl := mT6 (List.mem_of_getElem? (i := 208) rfl)
theorem w6_208 : (Jvm.Cond.lays "DotPressModel" "DotPressModel" "headMany" "I") ∈ lw_g := lw_in w6_208t rfl
theorem w6_210t : (Jvm.Cond.lays "DotPressModel" "DotPressModel" "copied" "I") ∈ lw_tbl := mT6 (List.mem_of_getElem? (i := 210) rfl)
theorem w6_210 : (Jvm.Cond.lays "DotPressModel" "DotPressModel" "copied" "I") ∈ lw_g := lw_in w6_210t rfl
theorem w6_212t : (Jvm.Cond.lays "DotPressModel" "DotPressModel" "closed" "I") ∈ lw_tbl := mT6 (List.mem_of_getElem? (i := 212) rfl)
theorem w6_212 : (Jvm.Cond.lays "DotPressModel" "DotPressModel" "closed" "I") ∈ lw_g := lw_in w6_212t rfl
theorem w6_214t : (Jvm.Cond.laysFinal "DotPressModel" "DotPressModel" "rowIs" "[I") ∈ lw_tbl := mT6 (List.mem_of_getElem? (i := 214) rfl)
theorem w6_214 : (Jvm.Cond.laysFinal "DotPressModel" "DotPressModel" "rowIs" "[I") ∈ lw_g := lw_in w6_214t rfl
theorem w6_216t : (Jvm.Cond.laysFinal "DotPressModel" "DotPressModel" "rowAt" "[I") ∈ lw_tbl := mT6 (List.mem_of_getElem? (i := 216) rfl)
theorem w6_216 : (Jvm.Cond.laysFinal "DotPressModel" "DotPressModel" "rowAt" "[I") ∈ lw_g := lw_in w6_216t rfl
theorem w6_218t : (Jvm.Cond.laysFinal "DotPressModel" "DotPressModel" "rowLong" "[I") ∈ lw_tbl := mT6 (List.mem_of_getElem? (i := 218) rfl)
theorem w6_218 : (Jvm.Cond.laysFinal "DotPressModel" "DotPressModel" "rowLong" "[I") ∈ lw_g := lw_in w6_218t rfl
theorem w6_220t : (Jvm.Cond.laysFinal "DotPressModel" "DotPressModel" "rowMany" "[I") ∈ lw_tbl := mT6 (List.mem_of_getElem? (i := 220) rfl)
theorem w6_220 : (Jvm.Cond.laysFinal "DotPressModel" "DotPressModel" "rowMany" "[I") ∈ lw_g := lw_in w6_220t rfl
theorem w6_222t : (Jvm.Cond.laysFinal "DotPressModel" "DotPressModel" "row" "[I") ∈ lw_tbl := mT6 (List.mem_of_getElem? (i := 222) rfl)
theorem w6_222 : (Jvm.Cond.laysFinal "DotPressModel" "DotPressModel" "row" "[I") ∈ lw_g := lw_in w6_222t rfl
theorem w6_224t : (Jvm.Cond.laysFinal "DotPressModel" "DotPressModel" "rowPlace" "[I") ∈ lw_tbl := mT6 (List.mem_of_getElem? (i := 224) rfl)
theorem w6_224 : (Jvm.Cond.laysFinal "DotPressModel" "DotPressModel" "rowPlace" "[I") ∈ lw_g := lw_in w6_224t rfl
theorem w6_226t : (Jvm.Cond.lays "DotPressModel" "DotPressModel" "rowEnd" "I") ∈ lw_tbl := mT6 (List.mem_of_getElem? (i := 226) rfl)
theorem w6_226 : (Jvm.Cond.lays "DotPressModel" "DotPressModel" "rowEnd" "I") ∈ lw_g := lw_in w6_226t rfl
theorem w6_228t : (Jvm.Cond.laysFinal "DotPressModel" "DotPressModel" "out" "[I") ∈ lw_tbl := mT6 (List.mem_of_getElem? (i := 228) rfl)
theorem w6_228 : (Jvm.Cond.laysFinal "DotPressModel" "DotPressModel" "out" "[I") ∈ lw_g := lw_in w6_228t rfl
theorem w6_23t : (Jvm.Cond.code ({ cls := "DotPress", name := "saved", desc := "(II)I" } : Jvm.MethodName) prog_1_method_48_code (10 : Nat) (Option.some Jvm.ClassFile.FieldType.int)) ∈ lw_tbl := mT6 (List.mem_of_getElem? (i := 23) rfl)
theorem w6_23 : (Jvm.Cond.code ({ cls := "DotPress", name := "saved", desc := "(II)I" } : Jvm.MethodName) prog_1_method_48_code (10 : Nat) (Option.some Jvm.ClassFile.FieldType.int)) ∈ lw_g := lw_in w6_23t rfl
theorem w6_230t : (Jvm.Cond.lays "DotPressModel" "DotPressModel" "outs" "I") ∈ lw_tbl := mT6 (List.mem_of_getElem? (i := 230) rfl)
theorem w6_230 : (Jvm.Cond.lays "DotPressModel" "DotPressModel" "outs" "I") ∈ lw_g := lw_in w6_230t rfl
theorem w6_232t : (Jvm.Cond.lays "DotPressModel" "DotPressModel" "wrongAt" "I") ∈ lw_tbl := mT6 (List.mem_of_getElem? (i := 232) rfl)
theorem w6_232 : (Jvm.Cond.lays "DotPressModel" "DotPressModel" "wrongAt" "I") ∈ lw_g := lw_in w6_232t rfl
theorem w6_234t : (Jvm.Cond.laysFinal "DotPressModel" "DotPressModel" "was" "[I") ∈ lw_tbl := mT6 (List.mem_of_getElem? (i := 234) rfl)
theorem w6_234 : (Jvm.Cond.laysFinal "DotPressModel" "DotPressModel" "was" "[I") ∈ lw_g := lw_in w6_234t rfl
theorem w6_236t : (Jvm.Cond.lays "DotPressModel" "DotPressModel" "wasMany" "I") ∈ lw_tbl := mT6 (List.mem_of_getElem? (i := 236) rfl)
theorem w6_236 : (Jvm.Cond.lays "DotPressModel" "DotPressModel" "wasMany" "I") ∈ lw_g := lw_in w6_236t rfl
theorem w6_238t : (Jvm.Cond.lays "DotPressModel" "DotPressModel" "failed" "I") ∈ lw_tbl := mT6 (List.mem_of_getElem? (i := 238) rfl)
theorem w6_238 : (Jvm.Cond.lays "DotPressModel" "DotPressModel" "failed" "I") ∈ lw_g := lw_in w6_238t rfl
theorem w6_27t : (Jvm.Cond.code ({ cls := "DotPress", name := "place", desc := "()I" } : Jvm.MethodName) prog_1_method_49_code (1 : Nat) (Option.some Jvm.ClassFile.FieldType.int)) ∈ lw_tbl := mT6 (List.mem_of_getElem? (i := 27) rfl)
theorem w6_27 : (Jvm.Cond.code ({ cls := "DotPress", name := "place", desc := "()I" } : Jvm.MethodName) prog_1_method_49_code (1 : Nat) (Option.some Jvm.ClassFile.FieldType.int)) ∈ lw_g := lw_in w6_27t rfl
theorem w6_31t : (Jvm.Cond.code ({ cls := "DotPress", name := "finds", desc := "(I)I" } : Jvm.MethodName) prog_1_method_50_code (2 : Nat) (Option.some Jvm.ClassFile.FieldType.int)) ∈ lw_tbl := mT6 (List.mem_of_getElem? (i := 31) rfl)
theorem w6_31 : (Jvm.Cond.code ({ cls := "DotPress", name := "finds", desc := "(I)I" } : Jvm.MethodName) prog_1_method_50_code (2 : Nat) (Option.some Jvm.ClassFile.FieldType.int)) ∈ lw_g := lw_in w6_31t rfl
theorem w6_32t : (Jvm.Cond.methodLink "DotPress" (413 : Nat) ({ cls := "DotPress$Setting", name := "findsOf", desc := "(I)I" } : Jvm.MethodName)) ∈ lw_tbl := mT6 (List.mem_of_getElem? (i := 32) rfl)
theorem w6_32 : (Jvm.Cond.methodLink "DotPress" (413 : Nat) ({ cls := "DotPress$Setting", name := "findsOf", desc := "(I)I" } : Jvm.MethodName)) ∈ lw_g := lw_in w6_32t rfl
theorem w6_33t : (Jvm.Cond.instanceMethod ({ cls := "DotPress$Setting", name := "findsOf", desc := "(I)I" } : Jvm.MethodName)) ∈ lw_tbl := mT6 (List.mem_of_getElem? (i := 33) rfl)
theorem w6_33 : (Jvm.Cond.instanceMethod ({ cls := "DotPress$Setting", name := "findsOf", desc := "(I)I" } : Jvm.MethodName)) ∈ lw_g := lw_in w6_33t rfl
theorem w6_34t : (Jvm.Cond.selects "DotPress$Setting" ({ cls := "DotPress$Setting", name := "findsOf", desc := "(I)I" } : Jvm.MethodName) ({ cls := "DotPress$Setting", name := "findsOf", desc := "(I)I" } : Jvm.MethodName)) ∈ lw_tbl := mT6 (List.mem_of_getElem? (i := 34) rfl)
theorem w6_34 : (Jvm.Cond.selects "DotPress$Setting" ({ cls := "DotPress$Setting", name := "findsOf", desc := "(I)I" } : Jvm.MethodName) ({ cls := "DotPress$Setting", name := "findsOf", desc := "(I)I" } : Jvm.MethodName)) ∈ lw_g := lw_in w6_34t rfl
theorem w6_35t : (Jvm.Cond.code ({ cls := "DotPress$Setting", name := "findsOf", desc := "(I)I" } : Jvm.MethodName) prog_8_method_6_code (2 : Nat) (Option.some Jvm.ClassFile.FieldType.int)) ∈ lw_tbl := mT6 (List.mem_of_getElem? (i := 35) rfl)
theorem w6_35 : (Jvm.Cond.code ({ cls := "DotPress$Setting", name := "findsOf", desc := "(I)I" } : Jvm.MethodName) prog_8_method_6_code (2 : Nat) (Option.some Jvm.ClassFile.FieldType.int)) ∈ lw_g := lw_in w6_35t rfl
theorem w6_39t : (Jvm.Cond.code ({ cls := "DotPress", name := "status", desc := "()I" } : Jvm.MethodName) prog_1_method_51_code (1 : Nat) (Option.some Jvm.ClassFile.FieldType.int)) ∈ lw_tbl := mT6 (List.mem_of_getElem? (i := 39) rfl)
theorem w6_39 : (Jvm.Cond.code ({ cls := "DotPress", name := "status", desc := "()I" } : Jvm.MethodName) prog_1_method_51_code (1 : Nat) (Option.some Jvm.ClassFile.FieldType.int)) ∈ lw_g := lw_in w6_39t rfl
theorem w6_43t : (Jvm.Cond.code ({ cls := "DotPress", name := "digest", desc := "()I" } : Jvm.MethodName) prog_1_method_52_code (3 : Nat) (Option.some Jvm.ClassFile.FieldType.int)) ∈ lw_tbl := mT6 (List.mem_of_getElem? (i := 43) rfl)
theorem w6_43 : (Jvm.Cond.code ({ cls := "DotPress", name := "digest", desc := "()I" } : Jvm.MethodName) prog_1_method_52_code (3 : Nat) (Option.some Jvm.ClassFile.FieldType.int)) ∈ lw_g := lw_in w6_43t rfl
theorem w6_44t : (Jvm.Cond.methodLink "DotPress" (416 : Nat) ({ cls := "DotPress$Sheet", name := "goOver", desc := "(I)I" } : Jvm.MethodName)) ∈ lw_tbl := mT6 (List.mem_of_getElem? (i := 44) rfl)
theorem w6_44 : (Jvm.Cond.methodLink "DotPress" (416 : Nat) ({ cls := "DotPress$Sheet", name := "goOver", desc := "(I)I" } : Jvm.MethodName)) ∈ lw_g := lw_in w6_44t rfl
theorem w6_45t : (Jvm.Cond.instanceMethod ({ cls := "DotPress$Sheet", name := "goOver", desc := "(I)I" } : Jvm.MethodName)) ∈ lw_tbl := mT6 (List.mem_of_getElem? (i := 45) rfl)
theorem w6_45 : (Jvm.Cond.instanceMethod ({ cls := "DotPress$Sheet", name := "goOver", desc := "(I)I" } : Jvm.MethodName)) ∈ lw_g := lw_in w6_45t rfl
theorem w6_46t : (Jvm.Cond.selects "DotPress$Sheet" ({ cls := "DotPress$Sheet", name := "goOver", desc := "(I)I" } : Jvm.MethodName) ({ cls := "DotPress$Sheet", name := "goOver", desc := "(I)I" } : Jvm.MethodName)) ∈ lw_tbl := mT6 (List.mem_of_getElem? (i := 46) rfl)
theorem w6_46 : (Jvm.Cond.selects "DotPress$Sheet" ({ cls := "DotPress$Sheet", name := "goOver", desc := "(I)I" } : Jvm.MethodName) ({ cls := "DotPress$Sheet", name := "goOver", desc := "(I)I" } : Jvm.MethodName)) ∈ lw_g := lw_in w6_46t rfl
theorem w6_47t : (Jvm.Cond.code ({ cls := "DotPress$Sheet", name := "goOver", desc := "(I)I" } : Jvm.MethodName) prog_9_method_10_code (6 : Nat) (Option.some Jvm.ClassFile.FieldType.int)) ∈ lw_tbl := mT6 (List.mem_of_getElem? (i := 47) rfl)
theorem w6_47 : (Jvm.Cond.code ({ cls := "DotPress$Sheet", name := "goOver", desc := "(I)I" } : Jvm.MethodName) prog_9_method_10_code (6 : Nat) (Option.some Jvm.ClassFile.FieldType.int)) ∈ lw_g := lw_in w6_47t rfl
theorem w6_53t : (Jvm.Cond.code ({ cls := "DotPressModel", name := "<init>", desc := "()V" } : Jvm.MethodName) prog_14_method_1_code (1 : Nat) (Option.none : Option Jvm.ClassFile.FieldType)) ∈ lw_tbl := mT6 (List.mem_of_getElem? (i := 53) rfl)
theorem w6_53 : (Jvm.Cond.code ({ cls := "DotPressModel", name := "<init>", desc := "()V" } : Jvm.MethodName) prog_14_method_1_code (1 : Nat) (Option.none : Option Jvm.ClassFile.FieldType)) ∈ lw_g := lw_in w6_53t rfl
theorem w6_54t : (Jvm.Cond.methodLink "DotPressModel" (3 : Nat) ({ cls := "java/lang/Object", name := "<init>", desc := "()V" } : Jvm.MethodName)) ∈ lw_tbl := mT6 (List.mem_of_getElem? (i := 54) rfl)
theorem w6_54 : (Jvm.Cond.methodLink "DotPressModel" (3 : Nat) ({ cls := "java/lang/Object", name := "<init>", desc := "()V" } : Jvm.MethodName)) ∈ lw_g := lw_in w6_54t rfl
theorem w6_55t : (Jvm.Cond.constant "DotPressModel" (45 : Nat) (48000 : Int32)) ∈ lw_tbl := mT6 (List.mem_of_getElem? (i := 55) rfl)
theorem w6_55 : (Jvm.Cond.constant "DotPressModel" (45 : Nat) (48000 : Int32)) ∈ lw_g := lw_in w6_55t rfl
theorem w6_56t : (Jvm.Cond.constant "DotPressModel" (94 : Nat) (40000 : Int32)) ∈ lw_tbl := mT6 (List.mem_of_getElem? (i := 56) rfl)
theorem w6_56 : (Jvm.Cond.constant "DotPressModel" (94 : Nat) (40000 : Int32)) ∈ lw_g := lw_in w6_56t rfl
theorem w6_57t : (Jvm.Cond.constant "DotPressModel" (119 : Nat) (40200 : Int32)) ∈ lw_tbl := mT6 (List.mem_of_getElem? (i := 57) rfl)
theorem w6_57 : (Jvm.Cond.constant "DotPressModel" (119 : Nat) (40200 : Int32)) ∈ lw_g := lw_in w6_57t rfl
theorem w6_58t : (Jvm.Cond.constant "DotPressModel" (135 : Nat) (40400 : Int32)) ∈ lw_tbl := mT6 (List.mem_of_getElem? (i := 58) rfl)
theorem w6_58 : (Jvm.Cond.constant "DotPressModel" (135 : Nat) (40400 : Int32)) ∈ lw_g := lw_in w6_58t rfl
theorem w6_59t : (Jvm.Cond.fieldLink "DotPressModel" (148 : Nat) "DotPressModel" "status" "I") ∈ lw_tbl := mT6 (List.mem_of_getElem? (i := 59) rfl)
theorem w6_59 : (Jvm.Cond.fieldLink "DotPressModel" (148 : Nat) "DotPressModel" "status" "I") ∈ lw_g := lw_in w6_59t rfl
theorem w6_60t : (Jvm.Cond.fieldLink "DotPressModel" (9 : Nat) "DotPressModel" "place" "I") ∈ lw_tbl := mT6 (List.mem_of_getElem? (i := 60) rfl)
theorem w6_60 : (Jvm.Cond.fieldLink "DotPressModel" (9 : Nat) "DotPressModel" "place" "I") ∈ lw_g := lw_in w6_60t rfl
theorem w6_61t : (Jvm.Cond.fieldLink "DotPressModel" (13 : Nat) "DotPressModel" "tape" "[I") ∈ lw_tbl := mT6 (List.mem_of_getElem? (i := 61) rfl)
theorem w6_61 : (Jvm.Cond.fieldLink "DotPressModel" (13 : Nat) "DotPressModel" "tape" "[I") ∈ lw_g := lw_in w6_61t rfl
theorem w6_62t : (Jvm.Cond.fieldLink "DotPressModel" (151 : Nat) "DotPressModel" "taped" "I") ∈ lw_tbl := mT6 (List.mem_of_getElem? (i := 62) rfl)
theorem w6_62 : (Jvm.Cond.fieldLink "DotPressModel" (151 : Nat) "DotPressModel" "taped" "I") ∈ lw_g := lw_in w6_62t rfl
theorem w6_63t : (Jvm.Cond.fieldLink "DotPressModel" (164 : Nat) "DotPressModel" "tables" "I") ∈ lw_tbl := mT6 (List.mem_of_getElem? (i := 63) rfl)
theorem w6_63 : (Jvm.Cond.fieldLink "DotPressModel" (164 : Nat) "DotPressModel" "tables" "I") ∈ lw_g := lw_in w6_63t rfl
theorem w6_64t : (Jvm.Cond.fieldLink "DotPressModel" (17 : Nat) "DotPressModel" "isThere" "[Z") ∈ lw_tbl := mT6 (List.mem_of_getElem? (i := 64) rfl)
theorem w6_64 : (Jvm.Cond.fieldLink "DotPressModel" (17 : Nat) "DotPressModel" "isThere" "[Z") ∈ lw_g := lw_in w6_64t rfl
theorem w6_65t : (Jvm.Cond.fieldLink "DotPressModel" (21 : Nat) "DotPressModel" "kind" "[I") ∈ lw_tbl := mT6 (List.mem_of_getElem? (i := 65) rfl)
theorem w6_65 : (Jvm.Cond.fieldLink "DotPressModel" (21 : Nat) "DotPressModel" "kind" "[I") ∈ lw_g := lw_in w6_65t rfl
theorem w6_66t : (Jvm.Cond.fieldLink "DotPressModel" (24 : Nat) "DotPressModel" "dots" "[I") ∈ lw_tbl := mT6 (List.mem_of_getElem? (i := 66) rfl)
theorem w6_66 : (Jvm.Cond.fieldLink "DotPressModel" (24 : Nat) "DotPressModel" "dots" "[I") ∈ lw_g := lw_in w6_66t rfl
theorem w6_67t : (Jvm.Cond.fieldLink "DotPressModel" (27 : Nat) "DotPressModel" "base" "[I") ∈ lw_tbl := mT6 (List.mem_of_getElem? (i := 67) rfl)
theorem w6_67 : (Jvm.Cond.fieldLink "DotPressModel" (27 : Nat) "DotPressModel" "base" "[I") ∈ lw_g := lw_in w6_67t rfl
theorem w6_68t : (Jvm.Cond.fieldLink "DotPressModel" (30 : Nat) "DotPressModel" "second" "[I") ∈ lw_tbl := mT6 (List.mem_of_getElem? (i := 68) rfl)
theorem w6_68 : (Jvm.Cond.fieldLink "DotPressModel" (30 : Nat) "DotPressModel" "second" "[I") ∈ lw_g := lw_in w6_68t rfl
theorem w6_69t : (Jvm.Cond.fieldLink "DotPressModel" (33 : Nat) "DotPressModel" "ruleMany" "[I") ∈ lw_tbl := mT6 (List.mem_of_getElem? (i := 69) rfl)
theorem w6_69 : (Jvm.Cond.fieldLink "DotPressModel" (33 : Nat) "DotPressModel" "ruleMany" "[I") ∈ lw_g := lw_in w6_69t rfl
theorem w6_70t : (Jvm.Cond.fieldLink "DotPressModel" (36 : Nat) "DotPressModel" "conditions" "[I") ∈ lw_tbl := mT6 (List.mem_of_getElem? (i := 70) rfl)
theorem w6_70 : (Jvm.Cond.fieldLink "DotPressModel" (36 : Nat) "DotPressModel" "conditions" "[I") ∈ lw_g := lw_in w6_70t rfl
theorem w6_71t : (Jvm.Cond.fieldLink "DotPressModel" (39 : Nat) "DotPressModel" "letterMany" "[I") ∈ lw_tbl := mT6 (List.mem_of_getElem? (i := 71) rfl)
theorem w6_71 : (Jvm.Cond.fieldLink "DotPressModel" (39 : Nat) "DotPressModel" "letterMany" "[I") ∈ lw_g := lw_in w6_71t rfl
theorem w6_72t : (Jvm.Cond.fieldLink "DotPressModel" (42 : Nat) "DotPressModel" "cellMany" "[I") ∈ lw_tbl := mT6 (List.mem_of_getElem? (i := 72) rfl)
theorem w6_72 : (Jvm.Cond.fieldLink "DotPressModel" (42 : Nat) "DotPressModel" "cellMany" "[I") ∈ lw_g := lw_in w6_72t rfl
theorem w6_73t : (Jvm.Cond.fieldLink "DotPressModel" (46 : Nat) "DotPressModel" "letters" "[I") ∈ lw_tbl := mT6 (List.mem_of_getElem? (i := 73) rfl)
theorem w6_73 : (Jvm.Cond.fieldLink "DotPressModel" (46 : Nat) "DotPressModel" "letters" "[I") ∈ lw_g := lw_in w6_73t rfl
theorem w6_74t : (Jvm.Cond.fieldLink "DotPressModel" (49 : Nat) "DotPressModel" "cells" "[I") ∈ lw_tbl := mT6 (List.mem_of_getElem? (i := 74) rfl)
theorem w6_74 : (Jvm.Cond.fieldLink "DotPressModel" (49 : Nat) "DotPressModel" "cells" "[I") ∈ lw_g := lw_in w6_74t rfl
theorem w6_75t : (Jvm.Cond.fieldLink "DotPressModel" (52 : Nat) "DotPressModel" "indicatorMany" "[I") ∈ lw_tbl := mT6 (List.mem_of_getElem? (i := 75) rfl)
theorem w6_75 : (Jvm.Cond.fieldLink "DotPressModel" (52 : Nat) "DotPressModel" "indicatorMany" "[I") ∈ lw_g := lw_in w6_75t rfl
theorem w6_76t : (Jvm.Cond.fieldLink "DotPressModel" (55 : Nat) "DotPressModel" "indicatorCells" "[I") ∈ lw_tbl := mT6 (List.mem_of_getElem? (i := 76) rfl)
theorem w6_76 : (Jvm.Cond.fieldLink "DotPressModel" (55 : Nat) "DotPressModel" "indicatorCells" "[I") ∈ lw_g := lw_in w6_76t rfl
theorem w6_77t : (Jvm.Cond.fieldLink "DotPressModel" (58 : Nat) "DotPressModel" "steps" "[I") ∈ lw_tbl := mT6 (List.mem_of_getElem? (i := 77) rfl)
theorem w6_77 : (Jvm.Cond.fieldLink "DotPressModel" (58 : Nat) "DotPressModel" "steps" "[I") ∈ lw_g := lw_in w6_77t rfl
theorem w6_78t : (Jvm.Cond.fieldLink "DotPressModel" (161 : Nat) "DotPressModel" "stepMany" "I") ∈ lw_tbl := mT6 (List.mem_of_getElem? (i := 78) rfl)
theorem w6_78 : (Jvm.Cond.fieldLink "DotPressModel" (161 : Nat) "DotPressModel" "stepMany" "I") ∈ lw_g := lw_in w6_78t rfl
theorem w6_79t : (Jvm.Cond.fieldLink "DotPressModel" (61 : Nat) "DotPressModel" "word" "[I") ∈ lw_tbl := mT6 (List.mem_of_getElem? (i := 79) rfl)
theorem w6_79 : (Jvm.Cond.fieldLink "DotPressModel" (61 : Nat) "DotPressModel" "word" "[I") ∈ lw_g := lw_in w6_79t rfl
theorem w6_80t : (Jvm.Cond.fieldLink "DotPressModel" (64 : Nat) "DotPressModel" "wordPlace" "[I") ∈ lw_tbl := mT6 (List.mem_of_getElem? (i := 80) rfl)
theorem w6_80 : (Jvm.Cond.fieldLink "DotPressModel" (64 : Nat) "DotPressModel" "wordPlace" "[I") ∈ lw_g := lw_in w6_80t rfl
theorem w6_81t : (Jvm.Cond.fieldLink "DotPressModel" (67 : Nat) "DotPressModel" "mayBreak" "[Z") ∈ lw_tbl := mT6 (List.mem_of_getElem? (i := 81) rfl)
theorem w6_81 : (Jvm.Cond.fieldLink "DotPressModel" (67 : Nat) "DotPressModel" "mayBreak" "[Z") ∈ lw_g := lw_in w6_81t rfl
theorem w6_83t : (Jvm.Cond.fieldLink "DotPressModel" (70 : Nat) "DotPressModel" "made" "[I") ∈ lw_tbl := mT6 (List.mem_of_getElem? (i := 83) rfl)
theorem w6_83 : (Jvm.Cond.fieldLink "DotPressModel" (70 : Nat) "DotPressModel" "made" "[I") ∈ lw_g := lw_in w6_83t rfl
theorem w6_85t : (Jvm.Cond.fieldLink "DotPressModel" (73 : Nat) "DotPressModel" "begins" "[I") ∈ lw_tbl := mT6 (List.mem_of_getElem? (i := 85) rfl)
theorem w6_85 : (Jvm.Cond.fieldLink "DotPressModel" (73 : Nat) "DotPressModel" "begins" "[I") ∈ lw_g := lw_in w6_85t rfl
theorem w6_86t : (Jvm.Cond.fieldLink "DotPressModel" (76 : Nat) "DotPressModel" "finds" "[I") ∈ lw_tbl := mT6 (List.mem_of_getElem? (i := 86) rfl)
theorem w6_86 : (Jvm.Cond.fieldLink "DotPressModel" (76 : Nat) "DotPressModel" "finds" "[I") ∈ lw_g := lw_in w6_86t rfl
theorem w6_88t : (Jvm.Cond.fieldLink "DotPressModel" (79 : Nat) "DotPressModel" "text" "[I") ∈ lw_tbl := mT6 (List.mem_of_getElem? (i := 88) rfl)
theorem w6_88 : (Jvm.Cond.fieldLink "DotPressModel" (79 : Nat) "DotPressModel" "text" "[I") ∈ lw_g := lw_in w6_88t rfl
theorem w6_89t : (Jvm.Cond.fieldLink "DotPressModel" (243 : Nat) "DotPressModel" "textLong" "I") ∈ lw_tbl := mT6 (List.mem_of_getElem? (i := 89) rfl)
theorem w6_89 : (Jvm.Cond.fieldLink "DotPressModel" (243 : Nat) "DotPressModel" "textLong" "I") ∈ lw_g := lw_in w6_89t rfl
theorem w6_90t : (Jvm.Cond.fieldLink "DotPressModel" (82 : Nat) "DotPressModel" "width" "I") ∈ lw_tbl := mT6 (List.mem_of_getElem? (i := 90) rfl)
theorem w6_90 : (Jvm.Cond.fieldLink "DotPressModel" (82 : Nat) "DotPressModel" "width" "I") ∈ lw_g := lw_in w6_90t rfl
theorem w6_91t : (Jvm.Cond.fieldLink "DotPressModel" (85 : Nat) "DotPressModel" "height" "I") ∈ lw_tbl := mT6 (List.mem_of_getElem? (i := 91) rfl)
theorem w6_91 : (Jvm.Cond.fieldLink "DotPressModel" (85 : Nat) "DotPressModel" "height" "I") ∈ lw_g := lw_in w6_91t rfl
theorem w6_92t : (Jvm.Cond.fieldLink "DotPressModel" (88 : Nat) "DotPressModel" "hyphen" "I") ∈ lw_tbl := mT6 (List.mem_of_getElem? (i := 92) rfl)
theorem w6_92 : (Jvm.Cond.fieldLink "DotPressModel" (88 : Nat) "DotPressModel" "hyphen" "I") ∈ lw_g := lw_in w6_92t rfl
theorem w6_93t : (Jvm.Cond.fieldLink "DotPressModel" (91 : Nat) "DotPressModel" "long0" "[I") ∈ lw_tbl := mT6 (List.mem_of_getElem? (i := 93) rfl)
theorem w6_93 : (Jvm.Cond.fieldLink "DotPressModel" (91 : Nat) "DotPressModel" "long0" "[I") ∈ lw_g := lw_in w6_93t rfl
theorem w6_94t : (Jvm.Cond.fieldLink "DotPressModel" (95 : Nat) "DotPressModel" "lineCells" "[I") ∈ lw_tbl := mT6 (List.mem_of_getElem? (i := 94) rfl)
theorem w6_94 : (Jvm.Cond.fieldLink "DotPressModel" (95 : Nat) "DotPressModel" "lineCells" "[I") ∈ lw_g := lw_in w6_94t rfl
theorem w6_95t : (Jvm.Cond.fieldLink "DotPressModel" (279 : Nat) "DotPressModel" "lines" "I") ∈ lw_tbl := mT6 (List.mem_of_getElem? (i := 95) rfl)
theorem w6_95 : (Jvm.Cond.fieldLink "DotPressModel" (279 : Nat) "DotPressModel" "lines" "I") ∈ lw_g := lw_in w6_95t rfl
theorem w6_96t : (Jvm.Cond.fieldLink "DotPressModel" (98 : Nat) "DotPressModel" "newLong" "[I") ∈ lw_tbl := mT6 (List.mem_of_getElem? (i := 96) rfl)
theorem w6_96 : (Jvm.Cond.fieldLink "DotPressModel" (98 : Nat) "DotPressModel" "newLong" "[I") ∈ lw_g := lw_in w6_96t rfl
theorem w6_97t : (Jvm.Cond.fieldLink "DotPressModel" (101 : Nat) "DotPressModel" "newCells" "[I") ∈ lw_tbl := mT6 (List.mem_of_getElem? (i := 97) rfl)
theorem w6_97 : (Jvm.Cond.fieldLink "DotPressModel" (101 : Nat) "DotPressModel" "newCells" "[I") ∈ lw_g := lw_in w6_97t rfl
theorem w6_99t : (Jvm.Cond.fieldLink "DotPressModel" (104 : Nat) "DotPressModel" "head" "[I") ∈ lw_tbl := mT6 (List.mem_of_getElem? (i := 99) rfl)
theorem w6_99 : (Jvm.Cond.fieldLink "DotPressModel" (104 : Nat) "DotPressModel" "head" "[I") ∈ lw_g := lw_in w6_99t rfl
theorem w7_0t : (Jvm.Cond.laysFinal "DotPressModel" "DotPressModel" "can" "[Z") ∈ lw_tbl := mT7 (List.mem_of_getElem? (i := 0) rfl)
theorem w7_0 : (Jvm.Cond.laysFinal "DotPressModel" "DotPressModel" "can" "[Z") ∈ lw_g := lw_in w7_0t rfl
theorem w7_10t : (Jvm.Cond.laysFinal "DotPressModel" "DotPressModel" "now" "[I") ∈ lw_tbl := mT7 (List.mem_of_getElem? (i := 10) rfl)
theorem w7_10 : (Jvm.Cond.laysFinal "DotPressModel" "DotPressModel" "now" "[I") ∈ lw_g := lw_in w7_10t rfl
theorem w7_103t : (Jvm.Cond.code ({ cls := "DotPressModel", name := "measure", desc := "(III)I" } : Jvm.MethodName) prog_14_method_35_code (4 : Nat) (Option.some Jvm.ClassFile.FieldType.int)) ∈ lw_tbl := mT7 (List.mem_of_getElem? (i := 103) rfl)
theorem w7_103 : (Jvm.Cond.code ({ cls := "DotPressModel", name := "measure", desc := "(III)I" } : Jvm.MethodName) prog_14_method_35_code (4 : Nat) (Option.some Jvm.ClassFile.FieldType.int)) ∈ lw_g := lw_in w7_103t rfl
theorem w7_107t : (Jvm.Cond.code ({ cls := "DotPressModel", name := "set", desc := "(I)I" } : Jvm.MethodName) prog_14_method_43_code (7 : Nat) (Option.some Jvm.ClassFile.FieldType.int)) ∈ lw_tbl := mT7 (List.mem_of_getElem? (i := 107) rfl)
theorem w7_107 : (Jvm.Cond.code ({ cls := "DotPressModel", name := "set", desc := "(I)I" } : Jvm.MethodName) prog_14_method_43_code (7 : Nat) (Option.some Jvm.ClassFile.FieldType.int)) ∈ lw_g := lw_in w7_107t rfl
theorem w7_108t : (Jvm.Cond.methodLink "DotPressModel" (171 : Nat) ({ cls := "DotPressModel", name := "isWhole", desc := "(I)Z" } : Jvm.MethodName)) ∈ lw_tbl := mT7 (List.mem_of_getElem? (i := 108) rfl)
theorem w7_108 : (Jvm.Cond.methodLink "DotPressModel" (171 : Nat) ({ cls := "DotPressModel", name := "isWhole", desc := "(I)Z" } : Jvm.MethodName)) ∈ lw_g := lw_in w7_108t rfl
theorem w7_110t : (Jvm.Cond.instanceMethod ({ cls := "DotPressModel", name := "isWhole", desc := "(I)Z" } : Jvm.MethodName)) ∈ lw_tbl := mT7 (List.mem_of_getElem? (i := 110) rfl)
theorem w7_110 : (Jvm.Cond.instanceMethod ({ cls := "DotPressModel", name := "isWhole", desc := "(I)Z" } : Jvm.MethodName)) ∈ lw_g := lw_in w7_110t rfl
theorem w7_111t : (Jvm.Cond.code ({ cls := "DotPressModel", name := "isWhole", desc := "(I)Z" } : Jvm.MethodName) prog_14_method_10_code (2 : Nat) (Option.some Jvm.ClassFile.FieldType.boolean)) ∈ lw_tbl := mT7 (List.mem_of_getElem? (i := 111) rfl)
theorem w7_111 : (Jvm.Cond.code ({ cls := "DotPressModel", name := "isWhole", desc := "(I)Z" } : Jvm.MethodName) prog_14_method_10_code (2 : Nat) (Option.some Jvm.ClassFile.FieldType.boolean)) ∈ lw_g := lw_in w7_111t rfl
theorem w7_12t : (Jvm.Cond.lays "DotPressModel" "DotPressModel" "nowLong" "I") ∈ lw_tbl := mT7 (List.mem_of_getElem? (i := 12) rfl)
theorem w7_12 : (Jvm.Cond.lays "DotPressModel" "DotPressModel" "nowLong" "I") ∈ lw_g := lw_in w7_12t rfl
theorem w7_14t : (Jvm.Cond.lays "DotPressModel" "DotPressModel" "wanted" "I") ∈ lw_tbl := mT7 (List.mem_of_getElem? (i := 14) rfl)
theorem w7_14 : (Jvm.Cond.lays "DotPressModel" "DotPressModel" "wanted" "I") ∈ lw_g := lw_in w7_14t rfl
theorem w7_16t : (Jvm.Cond.laysFinal "DotPressModel" "DotPressModel" "signs" "[I") ∈ lw_tbl := mT7 (List.mem_of_getElem? (i := 16) rfl)
theorem w7_16 : (Jvm.Cond.laysFinal "DotPressModel" "DotPressModel" "signs" "[I") ∈ lw_g := lw_in w7_16t rfl
theorem w7_18t : (Jvm.Cond.lays "DotPressModel" "DotPressModel" "signMany" "I") ∈ lw_tbl := mT7 (List.mem_of_getElem? (i := 18) rfl)
theorem w7_18 : (Jvm.Cond.lays "DotPressModel" "DotPressModel" "signMany" "I") ∈ lw_g := lw_in w7_18t rfl
theorem w7_188t : (Jvm.Cond.code ({ cls := "DotPressModel", name := "head", desc := "(I)I" } : Jvm.MethodName) prog_14_method_44_code (5 : Nat) (Option.some Jvm.ClassFile.FieldType.int)) ∈ lw_tbl := mT7 (List.mem_of_getElem? (i := 188) rfl)
theorem w7_188 : (Jvm.Cond.code ({ cls := "DotPressModel", name := "head", desc := "(I)I" } : Jvm.MethodName) prog_14_method_44_code (5 : Nat) (Option.some Jvm.ClassFile.FieldType.int)) ∈ lw_g := lw_in w7_188t rfl
theorem w7_193t : (Jvm.Cond.code ({ cls := "DotPressModel", name := "lines", desc := "()I" } : Jvm.MethodName) prog_14_method_45_code (1 : Nat) (Option.some Jvm.ClassFile.FieldType.int)) ∈ lw_tbl := mT7 (List.mem_of_getElem? (i := 193) rfl)
theorem w7_193 : (Jvm.Cond.code ({ cls := "DotPressModel", name := "lines", desc := "()I" } : Jvm.MethodName) prog_14_method_45_code (1 : Nat) (Option.some Jvm.ClassFile.FieldType.int)) ∈ lw_g := lw_in w7_193t rfl
theorem w7_195t : (Jvm.Cond.instanceMethod ({ cls := "DotPressModel", name := "pages", desc := "()I" } : Jvm.MethodName)) ∈ lw_tbl := mT7 (List.mem_of_getElem? (i := 195) rfl)
theorem w7_195 : (Jvm.Cond.instanceMethod ({ cls := "DotPressModel", name := "pages", desc := "()I" } : Jvm.MethodName)) ∈ lw_g := lw_in w7_195t rfl
theorem w7_196t : (Jvm.Cond.selects "DotPressModel" ({ cls := "DotPressModel", name := "pages", desc := "()I" } : Jvm.MethodName) ({ cls := "DotPressModel", name := "pages", desc := "()I" } : Jvm.MethodName)) ∈ lw_tbl := mT7 (List.mem_of_getElem? (i := 196) rfl)
theorem w7_196 : (Jvm.Cond.selects "DotPressModel" ({ cls := "DotPressModel", name := "pages", desc := "()I" } : Jvm.MethodName) ({ cls := "DotPressModel", name := "pages", desc := "()I" } : Jvm.MethodName)) ∈ lw_g := lw_in w7_196t rfl
theorem w7_197t : (Jvm.Cond.code ({ cls := "DotPressModel", name := "pages", desc := "()I" } : Jvm.MethodName) prog_14_method_48_code (1 : Nat) (Option.some Jvm.ClassFile.FieldType.int)) ∈ lw_tbl := mT7 (List.mem_of_getElem? (i := 197) rfl)
theorem w7_197 : (Jvm.Cond.code ({ cls := "DotPressModel", name := "pages", desc := "()I" } : Jvm.MethodName) prog_14_method_48_code (1 : Nat) (Option.some Jvm.ClassFile.FieldType.int)) ∈ lw_g := lw_in w7_197t rfl
theorem w7_198t : (Jvm.Cond.methodLink "DotPressModel" (291 : Nat) ({ cls := "DotPressModel", name := "onPage", desc := "()I" } : Jvm.MethodName)) ∈ lw_tbl := mT7 (List.mem_of_getElem? (i := 198) rfl)
theorem w7_198 : (Jvm.Cond.methodLink "DotPressModel" (291 : Nat) ({ cls := "DotPressModel", name := "onPage", desc := "()I" } : Jvm.MethodName)) ∈ lw_g := lw_in w7_198t rfl
theorem w7_2t : (Jvm.Cond.laysFinal "DotPressModel" "DotPressModel" "kept" "[I") ∈ lw_tbl := mT7 (List.mem_of_getElem? (i := 2) rfl)
theorem w7_2 : (Jvm.Cond.laysFinal "DotPressModel" "DotPressModel" "kept" "[I") ∈ lw_g := lw_in w7_2t rfl
theorem w7_200t : (Jvm.Cond.instanceMethod ({ cls := "DotPressModel", name := "onPage", desc := "()I" } : Jvm.MethodName)) ∈ lw_tbl := mT7 (List.mem_of_getElem? (i := 200) rfl)
theorem w7_200 : (Jvm.Cond.instanceMethod ({ cls := "DotPressModel", name := "onPage", desc := "()I" } : Jvm.MethodName)) ∈ lw_g := lw_in w7_200t rfl
theorem w7_201t : (Jvm.Cond.code ({ cls := "DotPressModel", name := "onPage", desc := "()I" } : Jvm.MethodName) prog_14_method_47_code (1 : Nat) (Option.some Jvm.ClassFile.FieldType.int)) ∈ lw_tbl := mT7 (List.mem_of_getElem? (i := 201) rfl)
theorem w7_201 : (Jvm.Cond.code ({ cls := "DotPressModel", name := "onPage", desc := "()I" } : Jvm.MethodName) prog_14_method_47_code (1 : Nat) (Option.some Jvm.ClassFile.FieldType.int)) ∈ lw_g := lw_in w7_201t rfl
theorem w7_202t : (Jvm.Cond.methodLink "DotPressModel" (288 : Nat) ({ cls := "DotPressModel", name := "hasHead", desc := "()Z" } : Jvm.MethodName)) ∈ lw_tbl := mT7 (List.mem_of_getElem? (i := 202) rfl)
theorem w7_202 : (Jvm.Cond.methodLink "DotPressModel" (288 : Nat) ({ cls := "DotPressModel", name := "hasHead", desc := "()Z" } : Jvm.MethodName)) ∈ lw_g := lw_in w7_202t rfl
theorem w7_204t : (Jvm.Cond.instanceMethod ({ cls := "DotPressModel", name := "hasHead", desc := "()Z" } : Jvm.MethodName)) ∈ lw_tbl := mT7 (List.mem_of_getElem? (i := 204) rfl)
theorem w7_204 : (Jvm.Cond.instanceMethod ({ cls := "DotPressModel", name := "hasHead", desc := "()Z" } : Jvm.MethodName)) ∈ lw_g := lw_in w7_204t rfl
theorem w7_205t : (Jvm.Cond.code ({ cls := "DotPressModel", name := "hasHead", desc := "()Z" } : Jvm.MethodName) prog_14_method_46_code (1 : Nat) (Option.some Jvm.ClassFile.FieldType.boolean)) ∈ lw_tbl := mT7 (List.mem_of_getElem? (i := 205) rfl)
theorem w7_205 : (Jvm.Cond.code ({ cls := "DotPressModel", name := "hasHead", desc := "()Z" } : Jvm.MethodName) prog_14_method_46_code (1 : Nat) (Option.some Jvm.ClassFile.FieldType.boolean)) ∈ lw_g := lw_in w7_205t rfl
theorem w7_209t : (Jvm.Cond.code ({ cls := "DotPressModel", name := "length", desc := "(I)I" } : Jvm.MethodName) prog_14_method_50_code (2 : Nat) (Option.some Jvm.ClassFile.FieldType.int)) ∈ lw_tbl := mT7 (List.mem_of_getElem? (i := 209) rfl)
theorem w7_209 : (Jvm.Cond.code ({ cls := "DotPressModel", name := "length", desc := "(I)I" } : Jvm.MethodName) prog_14_method_50_code (2 : Nat) (Option.some Jvm.ClassFile.FieldType.int)) ∈ lw_g := lw_in w7_209t rfl
theorem w7_210t : (Jvm.Cond.methodLink "DotPressModel" (294 : Nat) ({ cls := "DotPressModel", name := "lineFault", desc := "(I)I" } : Jvm.MethodName)) ∈ lw_tbl := mT7 (List.mem_of_getElem? (i := 210) rfl)
theorem w7_210 : (Jvm.Cond.methodLink "DotPressModel" (294 : Nat) ({ cls := "DotPressModel", name := "lineFault", desc := "(I)I" } : Jvm.MethodName)) ∈ lw_g := lw_in w7_210t rfl
theorem w7_212t : (Jvm.Cond.instanceMethod ({ cls := "DotPressModel", name := "lineFault", desc := "(I)I" } : Jvm.MethodName)) ∈ lw_tbl := mT7 (List.mem_of_getElem? (i := 212) rfl)
theorem w7_212 : (Jvm.Cond.instanceMethod ({ cls := "DotPressModel", name := "lineFault", desc := "(I)I" } : Jvm.MethodName)) ∈ lw_g := lw_in w7_212t rfl
theorem w7_213t : (Jvm.Cond.code ({ cls := "DotPressModel", name := "lineFault", desc := "(I)I" } : Jvm.MethodName) prog_14_method_49_code (2 : Nat) (Option.some Jvm.ClassFile.FieldType.int)) ∈ lw_tbl := mT7 (List.mem_of_getElem? (i := 213) rfl)
theorem w7_213 : (Jvm.Cond.code ({ cls := "DotPressModel", name := "lineFault", desc := "(I)I" } : Jvm.MethodName) prog_14_method_49_code (2 : Nat) (Option.some Jvm.ClassFile.FieldType.int)) ∈ lw_g := lw_in w7_213t rfl
theorem w7_217t : (Jvm.Cond.code ({ cls := "DotPressModel", name := "cell", desc := "(II)I" } : Jvm.MethodName) prog_14_method_51_code (3 : Nat) (Option.some Jvm.ClassFile.FieldType.int)) ∈ lw_tbl := mT7 (List.mem_of_getElem? (i := 217) rfl)
theorem w7_217 : (Jvm.Cond.code ({ cls := "DotPressModel", name := "cell", desc := "(II)I" } : Jvm.MethodName) prog_14_method_51_code (3 : Nat) (Option.some Jvm.ClassFile.FieldType.int)) ∈ lw_g := lw_in w7_217t rfl
theorem w7_221t : (Jvm.Cond.code ({ cls := "DotPressModel", name := "page", desc := "(III)I" } : Jvm.MethodName) prog_14_method_52_code (5 : Nat) (Option.some Jvm.ClassFile.FieldType.int)) ∈ lw_tbl := mT7 (List.mem_of_getElem? (i := 221) rfl)
theorem w7_221 : (Jvm.Cond.code ({ cls := "DotPressModel", name := "page", desc := "(III)I" } : Jvm.MethodName) prog_14_method_52_code (5 : Nat) (Option.some Jvm.ClassFile.FieldType.int)) ∈ lw_g := lw_in w7_221t rfl
theorem w7_222t : (Jvm.Cond.methodLink "DotPressModel" (297 : Nat) ({ cls := "DotPressModel", name := "pages", desc := "()I" } : Jvm.MethodName)) ∈ lw_tbl := mT7 (List.mem_of_getElem? (i := 222) rfl)
theorem w7_222 : (Jvm.Cond.methodLink "DotPressModel" (297 : Nat) ({ cls := "DotPressModel", name := "pages", desc := "()I" } : Jvm.MethodName)) ∈ lw_g := lw_in w7_222t rfl
theorem w7_227t : (Jvm.Cond.code ({ cls := "DotPressModel", name := "cut", desc := "(II)I" } : Jvm.MethodName) prog_14_method_53_code (4 : Nat) (Option.some Jvm.ClassFile.FieldType.int)) ∈ lw_tbl := mT7 (List.mem_of_getElem? (i := 227) rfl)
theorem w7_227 : (Jvm.Cond.code ({ cls := "DotPressModel", name := "cut", desc := "(II)I" } : Jvm.MethodName) prog_14_method_53_code (4 : Nat) (Option.some Jvm.ClassFile.FieldType.int)) ∈ lw_g := lw_in w7_227t rfl
theorem w7_231t : (Jvm.Cond.code ({ cls := "DotPressModel", name := "lose", desc := "(I)I" } : Jvm.MethodName) prog_14_method_54_code (2 : Nat) (Option.some Jvm.ClassFile.FieldType.int)) ∈ lw_tbl := mT7 (List.mem_of_getElem? (i := 231) rfl)
theorem w7_231 : (Jvm.Cond.code ({ cls := "DotPressModel", name := "lose", desc := "(I)I" } : Jvm.MethodName) prog_14_method_54_code (2 : Nat) (Option.some Jvm.ClassFile.FieldType.int)) ∈ lw_g := lw_in w7_231t rfl
theorem w7_235t : (Jvm.Cond.code ({ cls := "DotPressModel", name := "copyRow", desc := "(IIIII)I" } : Jvm.MethodName) prog_14_method_55_code (11 : Nat) (Option.some Jvm.ClassFile.FieldType.int)) ∈ lw_tbl := mT7 (List.mem_of_getElem? (i := 235) rfl)
theorem w7_235 : (Jvm.Cond.code ({ cls := "DotPressModel", name := "copyRow", desc := "(IIIII)I" } : Jvm.MethodName) prog_14_method_55_code (11 : Nat) (Option.some Jvm.ClassFile.FieldType.int)) ∈ lw_g := lw_in w7_235t rfl
theorem w7_239t : (Jvm.Cond.code ({ cls := "DotPressModel", name := "copyLines", desc := "(III)I" } : Jvm.MethodName) prog_14_method_56_code (10 : Nat) (Option.some Jvm.ClassFile.FieldType.int)) ∈ lw_tbl := mT7 (List.mem_of_getElem? (i := 239) rfl)
theorem w7_239 : (Jvm.Cond.code ({ cls := "DotPressModel", name := "copyLines", desc := "(III)I" } : Jvm.MethodName) prog_14_method_56_code (10 : Nat) (Option.some Jvm.ClassFile.FieldType.int)) ∈ lw_g := lw_in w7_239t rfl
theorem w7_24t : (Jvm.Cond.code ({ cls := "DotPressModel", name := "feed", desc := "(IIIII)I" } : Jvm.MethodName) prog_14_method_5_code (8 : Nat) (Option.some Jvm.ClassFile.FieldType.int)) ∈ lw_tbl := mT7 (List.mem_of_getElem? (i := 24) rfl)
theorem w7_24 : (Jvm.Cond.code ({ cls := "DotPressModel", name := "feed", desc := "(IIIII)I" } : Jvm.MethodName) prog_14_method_5_code (8 : Nat) (Option.some Jvm.ClassFile.FieldType.int)) ∈ lw_g := lw_in w7_24t rfl
theorem w7_25t : (Jvm.Cond.methodLink "DotPressModel" (154 : Nat) ({ cls := "DotPressModel", name := "bad", desc := "(I)I" } : Jvm.MethodName)) ∈ lw_tbl := mT7 (List.mem_of_getElem? (i := 25) rfl)
theorem w7_25 : (Jvm.Cond.methodLink "DotPressModel" (154 : Nat) ({ cls := "DotPressModel", name := "bad", desc := "(I)I" } : Jvm.MethodName)) ∈ lw_g := lw_in w7_25t rfl
theorem w7_27t : (Jvm.Cond.instanceMethod ({ cls := "DotPressModel", name := "bad", desc := "(I)I" } : Jvm.MethodName)) ∈ lw_tbl := mT7 (List.mem_of_getElem? (i := 27) rfl)
theorem w7_27 : (Jvm.Cond.instanceMethod ({ cls := "DotPressModel", name := "bad", desc := "(I)I" } : Jvm.MethodName)) ∈ lw_g := lw_in w7_27t rfl
theorem w7_28t : (Jvm.Cond.code ({ cls := "DotPressModel", name := "bad", desc := "(I)I" } : Jvm.MethodName) prog_14_method_3_code (2 : Nat) (Option.some Jvm.ClassFile.FieldType.int)) ∈ lw_tbl := mT7 (List.mem_of_getElem? (i := 28) rfl)
theorem w7_28 : (Jvm.Cond.code ({ cls := "DotPressModel", name := "bad", desc := "(I)I" } : Jvm.MethodName) prog_14_method_3_code (2 : Nat) (Option.some Jvm.ClassFile.FieldType.int)) ∈ lw_g := lw_in w7_28t rfl
theorem w7_29t : (Jvm.Cond.methodLink "DotPressModel" (158 : Nat) ({ cls := "DotPressModel", name := "fine", desc := "(I)I" } : Jvm.MethodName)) ∈ lw_tbl := mT7 (List.mem_of_getElem? (i := 29) rfl)
theorem w7_29 : (Jvm.Cond.methodLink "DotPressModel" (158 : Nat) ({ cls := "DotPressModel", name := "fine", desc := "(I)I" } : Jvm.MethodName)) ∈ lw_g := lw_in w7_29t rfl
theorem w7_31t : (Jvm.Cond.instanceMethod ({ cls := "DotPressModel", name := "fine", desc := "(I)I" } : Jvm.MethodName)) ∈ lw_tbl := mT7 (List.mem_of_getElem? (i := 31) rfl)
theorem w7_31 : (Jvm.Cond.instanceMethod ({ cls := "DotPressModel", name := "fine", desc := "(I)I" } : Jvm.MethodName)) ∈ lw_g := lw_in w7_31t rfl
theorem w7_32t : (Jvm.Cond.code ({ cls := "DotPressModel", name := "fine", desc := "(I)I" } : Jvm.MethodName) prog_14_method_2_code (2 : Nat) (Option.some Jvm.ClassFile.FieldType.int)) ∈ lw_tbl := mT7 (List.mem_of_getElem? (i := 32) rfl)
theorem w7_32 : (Jvm.Cond.code ({ cls := "DotPressModel", name := "fine", desc := "(I)I" } : Jvm.MethodName) prog_14_method_2_code (2 : Nat) (Option.some Jvm.ClassFile.FieldType.int)) ∈ lw_g := lw_in w7_32t rfl
theorem w7_36t : (Jvm.Cond.code ({ cls := "DotPressModel", name := "end", desc := "(I)I" } : Jvm.MethodName) prog_14_method_6_code (2 : Nat) (Option.some Jvm.ClassFile.FieldType.int)) ∈ lw_tbl := mT7 (List.mem_of_getElem? (i := 36) rfl)
theorem w7_36 : (Jvm.Cond.code ({ cls := "DotPressModel", name := "end", desc := "(I)I" } : Jvm.MethodName) prog_14_method_6_code (2 : Nat) (Option.some Jvm.ClassFile.FieldType.int)) ∈ lw_g := lw_in w7_36t rfl
theorem w7_4t : (Jvm.Cond.laysFinal "DotPressModel" "DotPressModel" "keptLong" "[I") ∈ lw_tbl := mT7 (List.mem_of_getElem? (i := 4) rfl)
theorem w7_4 : (Jvm.Cond.laysFinal "DotPressModel" "DotPressModel" "keptLong" "[I") ∈ lw_g := lw_in w7_4t rfl
theorem w7_40t : (Jvm.Cond.code ({ cls := "DotPressModel", name := "table", desc := "(III)I" } : Jvm.MethodName) prog_14_method_12_code (5 : Nat) (Option.some Jvm.ClassFile.FieldType.int)) ∈ lw_tbl := mT7 (List.mem_of_getElem? (i := 40) rfl)
theorem w7_40 : (Jvm.Cond.code ({ cls := "DotPressModel", name := "table", desc := "(III)I" } : Jvm.MethodName) prog_14_method_12_code (5 : Nat) (Option.some Jvm.ClassFile.FieldType.int)) ∈ lw_g := lw_in w7_40t rfl
theorem w7_41t : (Jvm.Cond.methodLink "DotPressModel" (174 : Nat) ({ cls := "DotPressModel", name := "isIn", desc := "(III)Z" } : Jvm.MethodName)) ∈ lw_tbl := mT7 (List.mem_of_getElem? (i := 41) rfl)
theorem w7_41 : (Jvm.Cond.methodLink "DotPressModel" (174 : Nat) ({ cls := "DotPressModel", name := "isIn", desc := "(III)Z" } : Jvm.MethodName)) ∈ lw_g := lw_in w7_41t rfl
theorem w7_42t : (Jvm.Cond.static ({ cls := "DotPressModel", name := "isIn", desc := "(III)Z" } : Jvm.MethodName)) ∈ lw_tbl := mT7 (List.mem_of_getElem? (i := 42) rfl)
theorem w7_42 : (Jvm.Cond.static ({ cls := "DotPressModel", name := "isIn", desc := "(III)Z" } : Jvm.MethodName)) ∈ lw_g := lw_in w7_42t rfl
theorem w7_43t : (Jvm.Cond.code ({ cls := "DotPressModel", name := "isIn", desc := "(III)Z" } : Jvm.MethodName) prog_14_method_11_code (3 : Nat) (Option.some Jvm.ClassFile.FieldType.boolean)) ∈ lw_tbl := mT7 (List.mem_of_getElem? (i := 43) rfl)
theorem w7_43 : (Jvm.Cond.code ({ cls := "DotPressModel", name := "isIn", desc := "(III)Z" } : Jvm.MethodName) prog_14_method_11_code (3 : Nat) (Option.some Jvm.ClassFile.FieldType.boolean)) ∈ lw_g := lw_in w7_43t rfl
theorem w7_44t : (Jvm.Cond.methodLink "DotPressModel" (167 : Nat) ({ cls := "DotPressModel", name := "isTable", desc := "(I)Z" } : Jvm.MethodName)) ∈ lw_tbl := mT7 (List.mem_of_getElem? (i := 44) rfl)
theorem w7_44 : (Jvm.Cond.methodLink "DotPressModel" (167 : Nat) ({ cls := "DotPressModel", name := "isTable", desc := "(I)Z" } : Jvm.MethodName)) ∈ lw_g := lw_in w7_44t rfl
theorem w7_46t : (Jvm.Cond.instanceMethod ({ cls := "DotPressModel", name := "isTable", desc := "(I)Z" } : Jvm.MethodName)) ∈ lw_tbl := mT7 (List.mem_of_getElem? (i := 46) rfl)
theorem w7_46 : (Jvm.Cond.instanceMethod ({ cls := "DotPressModel", name := "isTable", desc := "(I)Z" } : Jvm.MethodName)) ∈ lw_g := lw_in w7_46t rfl
theorem w7_47t : (Jvm.Cond.code ({ cls := "DotPressModel", name := "isTable", desc := "(I)Z" } : Jvm.MethodName) prog_14_method_9_code (2 : Nat) (Option.some Jvm.ClassFile.FieldType.boolean)) ∈ lw_tbl := mT7 (List.mem_of_getElem? (i := 47) rfl)
theorem w7_47 : (Jvm.Cond.code ({ cls := "DotPressModel", name := "isTable", desc := "(I)Z" } : Jvm.MethodName) prog_14_method_9_code (2 : Nat) (Option.some Jvm.ClassFile.FieldType.boolean)) ∈ lw_g := lw_in w7_47t rfl
theorem w7_48t : (Jvm.Cond.methodLink "DotPressModel" (178 : Nat) ({ cls := "DotPressModel", name := "newTable", desc := "(IIII)I" } : Jvm.MethodName)) ∈ lw_tbl := mT7 (List.mem_of_getElem? (i := 48) rfl)
theorem w7_48 : (Jvm.Cond.methodLink "DotPressModel" (178 : Nat) ({ cls := "DotPressModel", name := "newTable", desc := "(IIII)I" } : Jvm.MethodName)) ∈ lw_g := lw_in w7_48t rfl
theorem w7_50t : (Jvm.Cond.instanceMethod ({ cls := "DotPressModel", name := "newTable", desc := "(IIII)I" } : Jvm.MethodName)) ∈ lw_tbl := mT7 (List.mem_of_getElem? (i := 50) rfl)
theorem w7_50 : (Jvm.Cond.instanceMethod ({ cls := "DotPressModel", name := "newTable", desc := "(IIII)I" } : Jvm.MethodName)) ∈ lw_g := lw_in w7_50t rfl
theorem w7_51t : (Jvm.Cond.code ({ cls := "DotPressModel", name := "newTable", desc := "(IIII)I" } : Jvm.MethodName) prog_14_method_13_code (7 : Nat) (Option.some Jvm.ClassFile.FieldType.int)) ∈ lw_tbl := mT7 (List.mem_of_getElem? (i := 51) rfl)
theorem w7_51 : (Jvm.Cond.code ({ cls := "DotPressModel", name := "newTable", desc := "(IIII)I" } : Jvm.MethodName) prog_14_method_13_code (7 : Nat) (Option.some Jvm.ClassFile.FieldType.int)) ∈ lw_g := lw_in w7_51t rfl
theorem w7_52t : (Jvm.Cond.methodLink "DotPressModel" (182 : Nat) ({ cls := "DotPressModel", name := "step", desc := "(IIII)V" } : Jvm.MethodName)) ∈ lw_tbl := mT7 (List.mem_of_getElem? (i := 52) rfl)
theorem w7_52 : (Jvm.Cond.methodLink "DotPressModel" (182 : Nat) ({ cls := "DotPressModel", name := "step", desc := "(IIII)V" } : Jvm.MethodName)) ∈ lw_g := lw_in w7_52t rfl
theorem w7_54t : (Jvm.Cond.instanceMethod ({ cls := "DotPressModel", name := "step", desc := "(IIII)V" } : Jvm.MethodName)) ∈ lw_tbl := mT7 (List.mem_of_getElem? (i := 54) rfl)
theorem w7_54 : (Jvm.Cond.instanceMethod ({ cls := "DotPressModel", name := "step", desc := "(IIII)V" } : Jvm.MethodName)) ∈ lw_g := lw_in w7_54t rfl
theorem w7_55t : (Jvm.Cond.code ({ cls := "DotPressModel", name := "step", desc := "(IIII)V" } : Jvm.MethodName) prog_14_method_8_code (7 : Nat) (Option.none : Option Jvm.ClassFile.FieldType)) ∈ lw_tbl := mT7 (List.mem_of_getElem? (i := 55) rfl)
theorem w7_55 : (Jvm.Cond.code ({ cls := "DotPressModel", name := "step", desc := "(IIII)V" } : Jvm.MethodName) prog_14_method_8_code (7 : Nat) (Option.none : Option Jvm.ClassFile.FieldType)) ∈ lw_g := lw_in w7_55t rfl
theorem w7_59t : (Jvm.Cond.code ({ cls := "DotPressModel", name := "join", desc := "(II)I" } : Jvm.MethodName) prog_14_method_14_code (3 : Nat) (Option.some Jvm.ClassFile.FieldType.int)) ∈ lw_tbl := mT7 (List.mem_of_getElem? (i := 59) rfl)
theorem w7_59 : (Jvm.Cond.code ({ cls := "DotPressModel", name := "join", desc := "(II)I" } : Jvm.MethodName) prog_14_method_14_code (3 : Nat) (Option.some Jvm.ClassFile.FieldType.int)) ∈ lw_g := lw_in w7_59t rfl
theorem w7_6t : (Jvm.Cond.lays "DotPressModel" "DotPressModel" "keptMany" "I") ∈ lw_tbl := mT7 (List.mem_of_getElem? (i := 6) rfl)
theorem w7_6 : (Jvm.Cond.lays "DotPressModel" "DotPressModel" "keptMany" "I") ∈ lw_g := lw_in w7_6t rfl
theorem w7_64t : (Jvm.Cond.code ({ cls := "DotPressModel", name := "drop", desc := "(I)I" } : Jvm.MethodName) prog_14_method_15_code (2 : Nat) (Option.some Jvm.ClassFile.FieldType.int)) ∈ lw_tbl := mT7 (List.mem_of_getElem? (i := 64) rfl)
theorem w7_64 : (Jvm.Cond.code ({ cls := "DotPressModel", name := "drop", desc := "(I)I" } : Jvm.MethodName) prog_14_method_15_code (2 : Nat) (Option.some Jvm.ClassFile.FieldType.int)) ∈ lw_g := lw_in w7_64t rfl
theorem w7_68t : (Jvm.Cond.code ({ cls := "DotPressModel", name := "rule", desc := "(III)I" } : Jvm.MethodName) prog_14_method_18_code (8 : Nat) (Option.some Jvm.ClassFile.FieldType.int)) ∈ lw_tbl := mT7 (List.mem_of_getElem? (i := 68) rfl)
theorem w7_68 : (Jvm.Cond.code ({ cls := "DotPressModel", name := "rule", desc := "(III)I" } : Jvm.MethodName) prog_14_method_18_code (8 : Nat) (Option.some Jvm.ClassFile.FieldType.int)) ∈ lw_g := lw_in w7_68t rfl
theorem w7_69t : (Jvm.Cond.methodLink "DotPressModel" (192 : Nat) ({ cls := "DotPressModel", name := "taken", desc := "()I" } : Jvm.MethodName)) ∈ lw_tbl := mT7 (List.mem_of_getElem? (i := 69) rfl)
theorem w7_69 : (Jvm.Cond.methodLink "DotPressModel" (192 : Nat) ({ cls := "DotPressModel", name := "taken", desc := "()I" } : Jvm.MethodName)) ∈ lw_g := lw_in w7_69t rfl
theorem w7_71t : (Jvm.Cond.instanceMethod ({ cls := "DotPressModel", name := "taken", desc := "()I" } : Jvm.MethodName)) ∈ lw_tbl := mT7 (List.mem_of_getElem? (i := 71) rfl)
theorem w7_71 : (Jvm.Cond.instanceMethod ({ cls := "DotPressModel", name := "taken", desc := "()I" } : Jvm.MethodName)) ∈ lw_g := lw_in w7_71t rfl
theorem w7_72t : (Jvm.Cond.code ({ cls := "DotPressModel", name := "taken", desc := "()I" } : Jvm.MethodName) prog_14_method_7_code (2 : Nat) (Option.some Jvm.ClassFile.FieldType.int)) ∈ lw_tbl := mT7 (List.mem_of_getElem? (i := 72) rfl)
theorem w7_72 : (Jvm.Cond.code ({ cls := "DotPressModel", name := "taken", desc := "()I" } : Jvm.MethodName) prog_14_method_7_code (2 : Nat) (Option.some Jvm.ClassFile.FieldType.int)) ∈ lw_g := lw_in w7_72t rfl
theorem w7_8t : (Jvm.Cond.lays "DotPressModel" "DotPressModel" "more" "I") ∈ lw_tbl := mT7 (List.mem_of_getElem? (i := 8) rfl)
theorem w7_8 : (Jvm.Cond.lays "DotPressModel" "DotPressModel" "more" "I") ∈ lw_g := lw_in w7_8t rfl
theorem w7_83t : (Jvm.Cond.code ({ cls := "DotPressModel", name := "condition", desc := "(III)I" } : Jvm.MethodName) prog_14_method_19_code (5 : Nat) (Option.some Jvm.ClassFile.FieldType.int)) ∈ lw_tbl := mT7 (List.mem_of_getElem? (i := 83) rfl)
theorem w7_83 : (Jvm.Cond.code ({ cls := "DotPressModel", name := "condition", desc := "(III)I" } : Jvm.MethodName) prog_14_method_19_code (5 : Nat) (Option.some Jvm.ClassFile.FieldType.int)) ∈ lw_g := lw_in w7_83t rfl
theorem w7_87t : (Jvm.Cond.code ({ cls := "DotPressModel", name := "indicator", desc := "(II)I" } : Jvm.MethodName) prog_14_method_20_code (8 : Nat) (Option.some Jvm.ClassFile.FieldType.int)) ∈ lw_tbl := mT7 (List.mem_of_getElem? (i := 87) rfl)
theorem w7_87 : (Jvm.Cond.code ({ cls := "DotPressModel", name := "indicator", desc := "(II)I" } : Jvm.MethodName) prog_14_method_20_code (8 : Nat) (Option.some Jvm.ClassFile.FieldType.int)) ∈ lw_g := lw_in w7_87t rfl
theorem w7_91t : (Jvm.Cond.code ({ cls := "DotPressModel", name := "undo", desc := "()I" } : Jvm.MethodName) prog_14_method_21_code (5 : Nat) (Option.some Jvm.ClassFile.FieldType.int)) ∈ lw_tbl := mT7 (List.mem_of_getElem? (i := 91) rfl)
theorem w7_91 : (Jvm.Cond.code ({ cls := "DotPressModel", name := "undo", desc := "()I" } : Jvm.MethodName) prog_14_method_21_code (5 : Nat) (Option.some Jvm.ClassFile.FieldType.int)) ∈ lw_g := lw_in w7_91t rfl
theorem w7_95t : (Jvm.Cond.code ({ cls := "DotPressModel", name := "finds", desc := "(I)I" } : Jvm.MethodName) prog_14_method_22_code (2 : Nat) (Option.some Jvm.ClassFile.FieldType.int)) ∈ lw_tbl := mT7 (List.mem_of_getElem? (i := 95) rfl)
theorem w7_95 : (Jvm.Cond.code ({ cls := "DotPressModel", name := "finds", desc := "(I)I" } : Jvm.MethodName) prog_14_method_22_code (2 : Nat) (Option.some Jvm.ClassFile.FieldType.int)) ∈ lw_g := lw_in w7_95t rfl
theorem w7_99t : (Jvm.Cond.code ({ cls := "DotPressModel", name := "text", desc := "()I" } : Jvm.MethodName) prog_14_method_34_code (4 : Nat) (Option.some Jvm.ClassFile.FieldType.int)) ∈ lw_tbl := mT7 (List.mem_of_getElem? (i := 99) rfl)
theorem w7_99 : (Jvm.Cond.code ({ cls := "DotPressModel", name := "text", desc := "()I" } : Jvm.MethodName) prog_14_method_34_code (4 : Nat) (Option.some Jvm.ClassFile.FieldType.int)) ∈ lw_g := lw_in w7_99t rfl
theorem w8_115t : (Jvm.Cond.code ({ cls := "DotPressModel", name := "more", desc := "()I" } : Jvm.MethodName) prog_14_method_85_code (1 : Nat) (Option.some Jvm.ClassFile.FieldType.int)) ∈ lw_tbl := mT8 (List.mem_of_getElem? (i := 115) rfl)
theorem w8_115 : (Jvm.Cond.code ({ cls := "DotPressModel", name := "more", desc := "()I" } : Jvm.MethodName) prog_14_method_85_code (1 : Nat) (Option.some Jvm.ClassFile.FieldType.int)) ∈ lw_g := lw_in w8_115t rfl
theorem w8_119t : (Jvm.Cond.code ({ cls := "DotPressModel", name := "reading", desc := "(II)I" } : Jvm.MethodName) prog_14_method_86_code (3 : Nat) (Option.some Jvm.ClassFile.FieldType.int)) ∈ lw_tbl := mT8 (List.mem_of_getElem? (i := 119) rfl)
theorem w8_119 : (Jvm.Cond.code ({ cls := "DotPressModel", name := "reading", desc := "(II)I" } : Jvm.MethodName) prog_14_method_86_code (3 : Nat) (Option.some Jvm.ClassFile.FieldType.int)) ∈ lw_g := lw_in w8_119t rfl
theorem w8_12t : (Jvm.Cond.code ({ cls := "DotPressModel", name := "closed", desc := "()I" } : Jvm.MethodName) prog_14_method_59_code (1 : Nat) (Option.some Jvm.ClassFile.FieldType.int)) ∈ lw_tbl := mT8 (List.mem_of_getElem? (i := 12) rfl)
theorem w8_12 : (Jvm.Cond.code ({ cls := "DotPressModel", name := "closed", desc := "()I" } : Jvm.MethodName) prog_14_method_59_code (1 : Nat) (Option.some Jvm.ClassFile.FieldType.int)) ∈ lw_g := lw_in w8_12t rfl
theorem w8_123t : (Jvm.Cond.code ({ cls := "DotPressModel", name := "judge", desc := "(I)I" } : Jvm.MethodName) prog_14_method_90_code (3 : Nat) (Option.some Jvm.ClassFile.FieldType.int)) ∈ lw_tbl := mT8 (List.mem_of_getElem? (i := 123) rfl)
theorem w8_123 : (Jvm.Cond.code ({ cls := "DotPressModel", name := "judge", desc := "(I)I" } : Jvm.MethodName) prog_14_method_90_code (3 : Nat) (Option.some Jvm.ClassFile.FieldType.int)) ∈ lw_g := lw_in w8_123t rfl
theorem w8_139t : (Jvm.Cond.code ({ cls := "DotPressModel", name := "parts", desc := "(III)I" } : Jvm.MethodName) prog_14_method_91_code (5 : Nat) (Option.some Jvm.ClassFile.FieldType.int)) ∈ lw_tbl := mT8 (List.mem_of_getElem? (i := 139) rfl)
theorem w8_139 : (Jvm.Cond.code ({ cls := "DotPressModel", name := "parts", desc := "(III)I" } : Jvm.MethodName) prog_14_method_91_code (5 : Nat) (Option.some Jvm.ClassFile.FieldType.int)) ∈ lw_g := lw_in w8_139t rfl
theorem w8_143t : (Jvm.Cond.code ({ cls := "DotPressModel", name := "unreadable", desc := "(III)I" } : Jvm.MethodName) prog_14_method_94_code (9 : Nat) (Option.some Jvm.ClassFile.FieldType.int)) ∈ lw_tbl := mT8 (List.mem_of_getElem? (i := 143) rfl)
theorem w8_143 : (Jvm.Cond.code ({ cls := "DotPressModel", name := "unreadable", desc := "(III)I" } : Jvm.MethodName) prog_14_method_94_code (9 : Nat) (Option.some Jvm.ClassFile.FieldType.int)) ∈ lw_g := lw_in w8_143t rfl
theorem w8_159t : (Jvm.Cond.code ({ cls := "DotPressModel", name := "place", desc := "()I" } : Jvm.MethodName) prog_14_method_96_code (1 : Nat) (Option.some Jvm.ClassFile.FieldType.int)) ∈ lw_tbl := mT8 (List.mem_of_getElem? (i := 159) rfl)
theorem w8_159 : (Jvm.Cond.code ({ cls := "DotPressModel", name := "place", desc := "()I" } : Jvm.MethodName) prog_14_method_96_code (1 : Nat) (Option.some Jvm.ClassFile.FieldType.int)) ∈ lw_g := lw_in w8_159t rfl
theorem w8_16t : (Jvm.Cond.code ({ cls := "DotPressModel", name := "saved", desc := "(II)I" } : Jvm.MethodName) prog_14_method_60_code (8 : Nat) (Option.some Jvm.ClassFile.FieldType.int)) ∈ lw_tbl := mT8 (List.mem_of_getElem? (i := 16) rfl)
theorem w8_16 : (Jvm.Cond.code ({ cls := "DotPressModel", name := "saved", desc := "(II)I" } : Jvm.MethodName) prog_14_method_60_code (8 : Nat) (Option.some Jvm.ClassFile.FieldType.int)) ∈ lw_g := lw_in w8_16t rfl
theorem w8_163t : (Jvm.Cond.code ({ cls := "DotPressModel", name := "status", desc := "()I" } : Jvm.MethodName) prog_14_method_97_code (1 : Nat) (Option.some Jvm.ClassFile.FieldType.int)) ∈ lw_tbl := mT8 (List.mem_of_getElem? (i := 163) rfl)
theorem w8_163 : (Jvm.Cond.code ({ cls := "DotPressModel", name := "status", desc := "()I" } : Jvm.MethodName) prog_14_method_97_code (1 : Nat) (Option.some Jvm.ClassFile.FieldType.int)) ∈ lw_g := lw_in w8_163t rfl
theorem w8_167t : (Jvm.Cond.code ({ cls := "DotPressModel", name := "digest", desc := "()I" } : Jvm.MethodName) prog_14_method_98_code (4 : Nat) (Option.some Jvm.ClassFile.FieldType.int)) ∈ lw_tbl := mT8 (List.mem_of_getElem? (i := 167) rfl)
theorem w8_167 : (Jvm.Cond.code ({ cls := "DotPressModel", name := "digest", desc := "()I" } : Jvm.MethodName) prog_14_method_98_code (4 : Nat) (Option.some Jvm.ClassFile.FieldType.int)) ∈ lw_g := lw_in w8_167t rfl
theorem w8_183t : (Jvm.Cond.castable "DotPress$Table" "java/lang/Object") ∈ lw_tbl := mT8 (List.mem_of_getElem? (i := 183) rfl)
theorem w8_184t : (Jvm.Cond.castable "DotPress$Change" "java/lang/Object") ∈ lw_tbl := mT8 (List.mem_of_getElem? (i := 184) rfl)
theorem w8_20t : (Jvm.Cond.code ({ cls := "DotPressModel", name := "read", desc := "(III)I" } : Jvm.MethodName) prog_14_method_72_code (11 : Nat) (Option.some Jvm.ClassFile.FieldType.int)) ∈ lw_tbl := mT8 (List.mem_of_getElem? (i := 20) rfl)
theorem w8_20 : (Jvm.Cond.code ({ cls := "DotPressModel", name := "read", desc := "(III)I" } : Jvm.MethodName) prog_14_method_72_code (11 : Nat) (Option.some Jvm.ClassFile.FieldType.int)) ∈ lw_g := lw_in w8_20t rfl
theorem w8_3t : (Jvm.Cond.code ({ cls := "DotPressModel", name := "copied", desc := "()I" } : Jvm.MethodName) prog_14_method_57_code (1 : Nat) (Option.some Jvm.ClassFile.FieldType.int)) ∈ lw_tbl := mT8 (List.mem_of_getElem? (i := 3) rfl)
theorem w8_3 : (Jvm.Cond.code ({ cls := "DotPressModel", name := "copied", desc := "()I" } : Jvm.MethodName) prog_14_method_57_code (1 : Nat) (Option.some Jvm.ClassFile.FieldType.int)) ∈ lw_g := lw_in w8_3t rfl
theorem w8_7t : (Jvm.Cond.code ({ cls := "DotPressModel", name := "emboss", desc := "(II)I" } : Jvm.MethodName) prog_14_method_58_code (9 : Nat) (Option.some Jvm.ClassFile.FieldType.int)) ∈ lw_tbl := mT8 (List.mem_of_getElem? (i := 7) rfl)
theorem w8_7 : (Jvm.Cond.code ({ cls := "DotPressModel", name := "emboss", desc := "(II)I" } : Jvm.MethodName) prog_14_method_58_code (9 : Nat) (Option.some Jvm.ClassFile.FieldType.int)) ∈ lw_g := lw_in w8_7t rfl
theorem w8_72t : (Jvm.Cond.code ({ cls := "DotPressModel", name := "letter", desc := "(I)I" } : Jvm.MethodName) prog_14_method_74_code (2 : Nat) (Option.some Jvm.ClassFile.FieldType.int)) ∈ lw_tbl := mT8 (List.mem_of_getElem? (i := 72) rfl)
theorem w8_72 : (Jvm.Cond.code ({ cls := "DotPressModel", name := "letter", desc := "(I)I" } : Jvm.MethodName) prog_14_method_74_code (2 : Nat) (Option.some Jvm.ClassFile.FieldType.int)) ∈ lw_g := lw_in w8_72t rfl
theorem w8_76t : (Jvm.Cond.code ({ cls := "DotPressModel", name := "failed", desc := "(IZ)I" } : Jvm.MethodName) prog_14_method_75_code (3 : Nat) (Option.some Jvm.ClassFile.FieldType.int)) ∈ lw_tbl := mT8 (List.mem_of_getElem? (i := 76) rfl)
theorem w8_76 : (Jvm.Cond.code ({ cls := "DotPressModel", name := "failed", desc := "(IZ)I" } : Jvm.MethodName) prog_14_method_75_code (3 : Nat) (Option.some Jvm.ClassFile.FieldType.int)) ∈ lw_g := lw_in w8_76t rfl
theorem w8_8t : (Jvm.Cond.methodLink "DotPressModel" (309 : Nat) ({ cls := "java/lang/Integer", name := "bitCount", desc := "(I)I" } : Jvm.MethodName)) ∈ lw_tbl := mT8 (List.mem_of_getElem? (i := 8) rfl)
theorem w8_8 : (Jvm.Cond.methodLink "DotPressModel" (309 : Nat) ({ cls := "java/lang/Integer", name := "bitCount", desc := "(I)I" } : Jvm.MethodName)) ∈ lw_g := lw_in w8_8t rfl
theorem w8_80t : (Jvm.Cond.code ({ cls := "DotPressModel", name := "readings", desc := "(III)I" } : Jvm.MethodName) prog_14_method_84_code (5 : Nat) (Option.some Jvm.ClassFile.FieldType.int)) ∈ lw_tbl := mT8 (List.mem_of_getElem? (i := 80) rfl)
theorem w8_80 : (Jvm.Cond.code ({ cls := "DotPressModel", name := "readings", desc := "(III)I" } : Jvm.MethodName) prog_14_method_84_code (5 : Nat) (Option.some Jvm.ClassFile.FieldType.int)) ∈ lw_g := lw_in w8_80t rfl
theorem wp_0 : Cond.selects "DotPress" ⟨"DotPress", "refuse", "(I)I"⟩ ⟨"DotPress", "refuse", "(I)I"⟩ ∈ lw_g := lw_in (List.mem_append_left _ (List.mem_map.mpr ⟨(⟨"DotPress", "refuse", "(I)I"⟩, _), List.mem_of_getElem? (i := 0) rfl, rfl⟩)) rfl
theorem wp_1 : Cond.selects "DotPress" ⟨"DotPress", "feedFour", "(I)V"⟩ ⟨"DotPress", "feedFour", "(I)V"⟩ ∈ lw_g := lw_in (List.mem_append_left _ (List.mem_map.mpr ⟨(⟨"DotPress", "feedFour", "(I)V"⟩, _), List.mem_of_getElem? (i := 1) rfl, rfl⟩)) rfl
theorem wp_10 : Cond.selects "DotPress" ⟨"DotPress", "addText", "()I"⟩ ⟨"DotPress", "addText", "()I"⟩ ∈ lw_g := lw_in (List.mem_append_left _ (List.mem_map.mpr ⟨(⟨"DotPress", "addText", "()I"⟩, _), List.mem_of_getElem? (i := 10) rfl, rfl⟩)) rfl
theorem wp_2 : Cond.selects "DotPress" ⟨"DotPress", "done", "(I)I"⟩ ⟨"DotPress", "done", "(I)I"⟩ ∈ lw_g := lw_in (List.mem_append_left _ (List.mem_map.mpr ⟨(⟨"DotPress", "done", "(I)I"⟩, _), List.mem_of_getElem? (i := 2) rfl, rfl⟩)) rfl
theorem wp_23 : Cond.selects "DotPress" ⟨"DotPress", "linesOfPage", "()I"⟩ ⟨"DotPress", "linesOfPage", "()I"⟩ ∈ lw_g := lw_in (List.mem_append_left _ (List.mem_map.mpr ⟨(⟨"DotPress", "linesOfPage", "()I"⟩, _), List.mem_of_getElem? (i := 23) rfl, rfl⟩)) rfl
theorem wp_24 : Cond.selects "DotPress" ⟨"DotPress", "pagesHaveHeader", "()Z"⟩ ⟨"DotPress", "pagesHaveHeader", "()Z"⟩ ∈ lw_g := lw_in (List.mem_append_left _ (List.mem_map.mpr ⟨(⟨"DotPress", "pagesHaveHeader", "()Z"⟩, _), List.mem_of_getElem? (i := 24) rfl, rfl⟩)) rfl
theorem wp_25 : Cond.selects "DotPress" ⟨"DotPress", "cellOfLine", "(II)I"⟩ ⟨"DotPress", "cellOfLine", "(II)I"⟩ ∈ lw_g := lw_in (List.mem_append_left _ (List.mem_map.mpr ⟨(⟨"DotPress", "cellOfLine", "(II)I"⟩, _), List.mem_of_getElem? (i := 25) rfl, rfl⟩)) rfl
theorem wp_3 : Cond.selects "java/util/ArrayList" ⟨"java/util/ArrayList", "add", "(Ljava/lang/Object;[Ljava/lang/Object;I)V"⟩ ⟨"java/util/ArrayList", "add", "(Ljava/lang/Object;[Ljava/lang/Object;I)V"⟩ ∈ lw_g := lw_in (List.mem_append_left _ (List.mem_map.mpr ⟨(⟨"java/util/ArrayList", "add", "(Ljava/lang/Object;[Ljava/lang/Object;I)V"⟩, _), List.mem_of_getElem? (i := 3) rfl, rfl⟩)) rfl
theorem wp_39 : Cond.selects "DotPressModel" ⟨"DotPressModel", "bad", "(I)I"⟩ ⟨"DotPressModel", "bad", "(I)I"⟩ ∈ lw_g := lw_in (List.mem_append_left _ (List.mem_map.mpr ⟨(⟨"DotPressModel", "bad", "(I)I"⟩, _), List.mem_of_getElem? (i := 39) rfl, rfl⟩)) rfl
theorem wp_4 : Cond.selects "java/util/ArrayList" ⟨"java/util/ArrayList", "grow", "()[Ljava/lang/Object;"⟩ ⟨"java/util/ArrayList", "grow", "()[Ljava/lang/Object;"⟩ ∈ lw_g := lw_in (List.mem_append_left _ (List.mem_map.mpr ⟨(⟨"java/util/ArrayList", "grow", "()[Ljava/lang/Object;"⟩, _), List.mem_of_getElem? (i := 4) rfl, rfl⟩)) rfl
theorem wp_40 : Cond.selects "DotPressModel" ⟨"DotPressModel", "fine", "(I)I"⟩ ⟨"DotPressModel", "fine", "(I)I"⟩ ∈ lw_g := lw_in (List.mem_append_left _ (List.mem_map.mpr ⟨(⟨"DotPressModel", "fine", "(I)I"⟩, _), List.mem_of_getElem? (i := 40) rfl, rfl⟩)) rfl
theorem wp_41 : Cond.selects "DotPressModel" ⟨"DotPressModel", "isTable", "(I)Z"⟩ ⟨"DotPressModel", "isTable", "(I)Z"⟩ ∈ lw_g := lw_in (List.mem_append_left _ (List.mem_map.mpr ⟨(⟨"DotPressModel", "isTable", "(I)Z"⟩, _), List.mem_of_getElem? (i := 41) rfl, rfl⟩)) rfl
theorem wp_42 : Cond.selects "DotPressModel" ⟨"DotPressModel", "newTable", "(IIII)I"⟩ ⟨"DotPressModel", "newTable", "(IIII)I"⟩ ∈ lw_g := lw_in (List.mem_append_left _ (List.mem_map.mpr ⟨(⟨"DotPressModel", "newTable", "(IIII)I"⟩, _), List.mem_of_getElem? (i := 42) rfl, rfl⟩)) rfl
theorem wp_43 : Cond.selects "DotPressModel" ⟨"DotPressModel", "step", "(IIII)V"⟩ ⟨"DotPressModel", "step", "(IIII)V"⟩ ∈ lw_g := lw_in (List.mem_append_left _ (List.mem_map.mpr ⟨(⟨"DotPressModel", "step", "(IIII)V"⟩, _), List.mem_of_getElem? (i := 43) rfl, rfl⟩)) rfl
theorem wp_44 : Cond.selects "DotPressModel" ⟨"DotPressModel", "taken", "()I"⟩ ⟨"DotPressModel", "taken", "()I"⟩ ∈ lw_g := lw_in (List.mem_append_left _ (List.mem_map.mpr ⟨(⟨"DotPressModel", "taken", "()I"⟩, _), List.mem_of_getElem? (i := 44) rfl, rfl⟩)) rfl
theorem wp_46 : Cond.selects "DotPressModel" ⟨"DotPressModel", "isWhole", "(I)Z"⟩ ⟨"DotPressModel", "isWhole", "(I)Z"⟩ ∈ lw_g := lw_in (List.mem_append_left _ (List.mem_map.mpr ⟨(⟨"DotPressModel", "isWhole", "(I)Z"⟩, _), List.mem_of_getElem? (i := 46) rfl, rfl⟩)) rfl
theorem wp_5 : Cond.selects "java/util/ArrayList" ⟨"java/util/ArrayList", "grow", "(I)[Ljava/lang/Object;"⟩ ⟨"java/util/ArrayList", "grow", "(I)[Ljava/lang/Object;"⟩ ∈ lw_g := lw_in (List.mem_append_left _ (List.mem_map.mpr ⟨(⟨"java/util/ArrayList", "grow", "(I)[Ljava/lang/Object;"⟩, _), List.mem_of_getElem? (i := 5) rfl, rfl⟩)) rfl
theorem wp_63 : Cond.selects "DotPressModel" ⟨"DotPressModel", "onPage", "()I"⟩ ⟨"DotPressModel", "onPage", "()I"⟩ ∈ lw_g := lw_in (List.mem_append_left _ (List.mem_map.mpr ⟨(⟨"DotPressModel", "onPage", "()I"⟩, _), List.mem_of_getElem? (i := 63) rfl, rfl⟩)) rfl
theorem wp_64 : Cond.selects "DotPressModel" ⟨"DotPressModel", "hasHead", "()Z"⟩ ⟨"DotPressModel", "hasHead", "()Z"⟩ ∈ lw_g := lw_in (List.mem_append_left _ (List.mem_map.mpr ⟨(⟨"DotPressModel", "hasHead", "()Z"⟩, _), List.mem_of_getElem? (i := 64) rfl, rfl⟩)) rfl
theorem wp_65 : Cond.selects "DotPressModel" ⟨"DotPressModel", "lineFault", "(I)I"⟩ ⟨"DotPressModel", "lineFault", "(I)I"⟩ ∈ lw_g := lw_in (List.mem_append_left _ (List.mem_map.mpr ⟨(⟨"DotPressModel", "lineFault", "(I)I"⟩, _), List.mem_of_getElem? (i := 65) rfl, rfl⟩)) rfl
theorem wp_7 : Cond.selects "DotPress" ⟨"DotPress", "addRule", "(III)I"⟩ ⟨"DotPress", "addRule", "(III)I"⟩ ∈ lw_g := lw_in (List.mem_append_left _ (List.mem_map.mpr ⟨(⟨"DotPress", "addRule", "(III)I"⟩, _), List.mem_of_getElem? (i := 7) rfl, rfl⟩)) rfl
theorem wp_9 : Cond.selects "DotPress" ⟨"DotPress", "changeIndicator", "(II)I"⟩ ⟨"DotPress", "changeIndicator", "(II)I"⟩ ∈ lw_g := lw_in (List.mem_append_left _ (List.mem_map.mpr ⟨(⟨"DotPress", "changeIndicator", "(II)I"⟩, _), List.mem_of_getElem? (i := 9) rfl, rfl⟩)) rfl
theorem ckw_0 : ∀ k, k < 3 → u_lay RJx4a65c TJx4a65c k ∈ lw_g := fun k hk => match k, hk with
  | 0, _ => w1_87
  | 1, _ => w1_83
  | 2, _ => w1_85
  | n + 3, h => absurd h (by omega)
theorem ck_0 : Ck 0 RJx4a65c TJx4a65c 3 tyJx4a65c := ⟨rfl, fun w hw => by obtain ⟨k, hk, e⟩ := List.mem_map.mp hw; rw [← e]; exact ckw_0 k (List.mem_range.mp hk), tyJx4a65c_ok, nmJx4a65c⟩
theorem ckw_1 : ∀ k, k < 4 → u_lay RX0 TX0 k ∈ lw_g := fun k hk => match k, hk with
  | 0, _ => w3_48
  | 1, _ => w3_50
  | 2, _ => w3_52
  | 3, _ => w3_54
  | n + 4, h => absurd h (by omega)
theorem ck_1 : Ck 1 RX0 TX0 4 tyX0 := ⟨rfl, fun w hw => by obtain ⟨k, hk, e⟩ := List.mem_map.mp hw; rw [← e]; exact ckw_1 k (List.mem_range.mp hk), tyX0_ok, nmX0⟩
theorem ckw_2 : ∀ k, k < 3 → u_lay RX1 TX1 k ∈ lw_g := fun k hk => match k, hk with
  | 0, _ => w1_50
  | 1, _ => w1_52
  | 2, _ => w1_54
  | n + 3, h => absurd h (by omega)
theorem ck_2 : Ck 2 RX1 TX1 3 tyX1 := ⟨rfl, fun w hw => by obtain ⟨k, hk, e⟩ := List.mem_map.mp hw; rw [← e]; exact ckw_2 k (List.mem_range.mp hk), tyX1_ok, nmX1⟩
theorem ckw_3 : ∀ k, k < 3 → u_lay RX2 TX2 k ∈ lw_g := fun k hk => match k, hk with
  | 0, _ => w4_57
  | 1, _ => w4_59
  | 2, _ => w4_61
  | n + 3, h => absurd h (by omega)
theorem ck_3 : Ck 3 RX2 TX2 3 tyX2 := ⟨rfl, fun w hw => by obtain ⟨k, hk, e⟩ := List.mem_map.mp hw; rw [← e]; exact ckw_3 k (List.mem_range.mp hk), tyX2_ok, nmX2⟩
theorem ckw_4 : ∀ k, k < 8 → u_lay RX3 TX3 k ∈ lw_g := fun k hk => match k, hk with
  | 0, _ => w1_203
  | 1, _ => w1_205
  | 2, _ => w1_207
  | 3, _ => w1_209
  | 4, _ => w1_211
  | 5, _ => w1_213
  | 6, _ => w1_215
  | 7, _ => w1_217
  | n + 8, h => absurd h (by omega)
theorem ck_4 : Ck 4 RX3 TX3 8 tyX3 := ⟨rfl, fun w hw => by obtain ⟨k, hk, e⟩ := List.mem_map.mp hw; rw [← e]; exact ckw_4 k (List.mem_range.mp hk), tyX3_ok, nmX3⟩
theorem ckw_5 : ∀ k, k < 11 → u_lay RX4 TX4 k ∈ lw_g := fun k hk => match k, hk with
  | 0, _ => w2_2
  | 1, _ => w2_4
  | 2, _ => w2_6
  | 3, _ => w2_8
  | 4, _ => w2_10
  | 5, _ => w2_12
  | 6, _ => w2_14
  | 7, _ => w2_16
  | 8, _ => w2_18
  | 9, _ => w2_20
  | 10, _ => w2_22
  | n + 11, h => absurd h (by omega)
theorem ck_5 : Ck 5 RX4 TX4 11 tyX4 := ⟨rfl, fun w hw => by obtain ⟨k, hk, e⟩ := List.mem_map.mp hw; rw [← e]; exact ckw_5 k (List.mem_range.mp hk), tyX4_ok, nmX4⟩
theorem ckw_6 : ∀ k, k < 4 → u_lay RX5 TX5 k ∈ lw_g := fun k hk => match k, hk with
  | 0, _ => w3_151
  | 1, _ => w3_153
  | 2, _ => w3_155
  | 3, _ => w3_157
  | n + 4, h => absurd h (by omega)
theorem ck_6 : Ck 6 RX5 TX5 4 tyX5 := ⟨rfl, fun w hw => by obtain ⟨k, hk, e⟩ := List.mem_map.mp hw; rw [← e]; exact ckw_6 k (List.mem_range.mp hk), tyX5_ok, nmX5⟩
theorem ckw_7 : ∀ k, k < 12 → u_lay RX6 TX6 k ∈ lw_g := fun k hk => match k, hk with
  | 0, _ => w1_154
  | 1, _ => w1_156
  | 2, _ => w1_158
  | 3, _ => w1_160
  | 4, _ => w1_162
  | 5, _ => w1_164
  | 6, _ => w1_166
  | 7, _ => w1_168
  | 8, _ => w1_170
  | 9, _ => w1_172
  | 10, _ => w1_174
  | 11, _ => w1_176
  | n + 12, h => absurd h (by omega)
theorem ck_7 : Ck 7 RX6 TX6 12 tyX6 := ⟨rfl, fun w hw => by obtain ⟨k, hk, e⟩ := List.mem_map.mp hw; rw [← e]; exact ckw_7 k (List.mem_range.mp hk), tyX6_ok, nmX6⟩
theorem ckw_8 : ∀ k, k < 3 → u_lay RX7 TX7 k ∈ lw_g := fun k hk => match k, hk with
  | 0, _ => w2_37
  | 1, _ => w2_39
  | 2, _ => w2_41
  | n + 3, h => absurd h (by omega)
theorem ck_8 : Ck 8 RX7 TX7 3 tyX7 := ⟨rfl, fun w hw => by obtain ⟨k, hk, e⟩ := List.mem_map.mp hw; rw [← e]; exact ckw_8 k (List.mem_range.mp hk), tyX7_ok, nmX7⟩
theorem ckw_9 : ∀ k, k < 8 → u_lay RX8 TX8 k ∈ lw_g := fun k hk => match k, hk with
  | 0, _ => w1_112
  | 1, _ => w1_114
  | 2, _ => w1_116
  | 3, _ => w1_118
  | 4, _ => w1_120
  | 5, _ => w1_122
  | 6, _ => w1_124
  | 7, _ => w1_126
  | n + 8, h => absurd h (by omega)
theorem ck_9 : Ck 9 RX8 TX8 8 tyX8 := ⟨rfl, fun w hw => by obtain ⟨k, hk, e⟩ := List.mem_map.mp hw; rw [← e]; exact ckw_9 k (List.mem_range.mp hk), tyX8_ok, nmX8⟩
theorem ckw_10 : ∀ k, k < 8 → u_lay RX9 TX9 k ∈ lw_g := fun k hk => match k, hk with
  | 0, _ => w2_200
  | 1, _ => w2_202
  | 2, _ => w2_204
  | 3, _ => w2_206
  | 4, _ => w2_208
  | 5, _ => w2_210
  | 6, _ => w2_212
  | 7, _ => w2_214
  | n + 8, h => absurd h (by omega)
theorem ck_10 : Ck 10 RX9 TX9 8 tyX9 := ⟨rfl, fun w hw => by obtain ⟨k, hk, e⟩ := List.mem_map.mp hw; rw [← e]; exact ckw_10 k (List.mem_range.mp hk), tyX9_ok, nmX9⟩
theorem ckw_11 : ∀ k, k < 2 → u_lay RX10 TX10 k ∈ lw_g := fun k hk => match k, hk with
  | 0, _ => w1_92
  | 1, _ => w1_94
  | n + 2, h => absurd h (by omega)
theorem ck_11 : Ck 11 RX10 TX10 2 tyX10 := ⟨rfl, fun w hw => by obtain ⟨k, hk, e⟩ := List.mem_map.mp hw; rw [← e]; exact ckw_11 k (List.mem_range.mp hk), tyX10_ok, nmX10⟩
theorem ckw_12 : ∀ k, k < 19 → u_lay RX11 TX11 k ∈ lw_g := fun k hk => match k, hk with
  | 0, _ => w2_63
  | 1, _ => w2_65
  | 2, _ => w2_67
  | 3, _ => w2_69
  | 4, _ => w2_71
  | 5, _ => w2_73
  | 6, _ => w2_75
  | 7, _ => w2_77
  | 8, _ => w2_79
  | 9, _ => w2_81
  | 10, _ => w2_83
  | 11, _ => w2_85
  | 12, _ => w2_87
  | 13, _ => w2_89
  | 14, _ => w2_91
  | 15, _ => w2_93
  | 16, _ => w2_95
  | 17, _ => w2_97
  | 18, _ => w2_99
  | n + 19, h => absurd h (by omega)
theorem ck_12 : Ck 12 RX11 TX11 19 tyX11 := ⟨rfl, fun w hw => by obtain ⟨k, hk, e⟩ := List.mem_map.mp hw; rw [← e]; exact ckw_12 k (List.mem_range.mp hk), tyX11_ok, nmX11⟩
theorem ckw_13 : ∀ k, k < 67 → u_lay RX12 TX12 k ∈ lw_g := fun k hk => match k, hk with
  | 0, _ => w6_126
  | 1, _ => w6_128
  | 2, _ => w6_130
  | 3, _ => w6_132
  | 4, _ => w6_134
  | 5, _ => w6_136
  | 6, _ => w6_138
  | 7, _ => w6_140
  | 8, _ => w6_142
  | 9, _ => w6_144
  | 10, _ => w6_146
  | 11, _ => w6_148
  | 12, _ => w6_150
  | 13, _ => w6_152
  | 14, _ => w6_154
  | 15, _ => w6_156
  | 16, _ => w6_158
  | 17, _ => w6_160
  | 18, _ => w6_162
  | 19, _ => w6_164
  | 20, _ => w6_166
  | 21, _ => w6_168
  | 22, _ => w6_170
  | 23, _ => w6_172
  | 24, _ => w6_174
  | 25, _ => w6_176
  | 26, _ => w6_178
  | 27, _ => w6_180
  | 28, _ => w6_182
  | 29, _ => w6_184
  | 30, _ => w6_186
  | 31, _ => w6_188
  | 32, _ => w6_190
  | 33, _ => w6_192
  | 34, _ => w6_194
  | 35, _ => w6_196
  | 36, _ => w6_198
  | 37, _ => w6_200
  | 38, _ => w6_202
  | 39, _ => w6_204
  | 40, _ => w6_206
  | 41, _ => w6_208
  | 42, _ => w6_210
  | 43, _ => w6_212
  | 44, _ => w6_214
  | 45, _ => w6_216
  | 46, _ => w6_218
  | 47, _ => w6_220
  | 48, _ => w6_222
  | 49, _ => w6_224
  | 50, _ => w6_226
  | 51, _ => w6_228
  | 52, _ => w6_230
  | 53, _ => w6_232
  | 54, _ => w6_234
  | 55, _ => w6_236
  | 56, _ => w6_238
  | 57, _ => w7_0
  | 58, _ => w7_2
  | 59, _ => w7_4
  | 60, _ => w7_6
  | 61, _ => w7_8
  | 62, _ => w7_10
  | 63, _ => w7_12
  | 64, _ => w7_14
  | 65, _ => w7_16
  | 66, _ => w7_18
  | n + 67, h => absurd h (by omega)
theorem ck_13 : Ck 13 RX12 TX12 67 tyX12 := ⟨rfl, fun w hw => by obtain ⟨k, hk, e⟩ := List.mem_map.mp hw; rw [← e]; exact ckw_13 k (List.mem_range.mp hk), tyX12_ok, nmX12⟩
theorem kI_Jx4a65c_1 : Wi RJx4a65c 1 yJxc12de_init_da8c8 cJxc12de_init_da8c8 1 0 := ⟨⟨w1_69, w1_5, w1_71, (by decide +kernel)⟩, rfl, w1_70⟩
theorem kI_Jxc12de_1 : Wi RJxc12de 1 yJxa1e45_init_da8c8 cJxa1e45_init_da8c8 1 0 := ⟨⟨w1_72, w1_4, w1_74, (by decide +kernel)⟩, rfl, w1_73⟩
theorem kI_X10_11 : Wi RX10 11 yJx4a65c_init_da8c8 cJx4a65c_init_da8c8 1 0 := ⟨⟨w1_66, w1_6, w1_68, (by decide +kernel)⟩, rfl, w1_67⟩
theorem kI_X10_49 : Wi RX10 49 yX0_init cX0_init 5 4 := ⟨⟨w3_36, w1_18, w3_38, (by decide +kernel)⟩, rfl, w3_37⟩
theorem kI_X11_11 : Wi RX11 11 yX1_init cX1_init 2 1 := ⟨⟨w1_34, w1_2, w1_36, (by decide +kernel)⟩, rfl, w1_35⟩
theorem kI_X11_124 : Wi RX11 124 yX9_init cX9_init 5 4 := ⟨⟨w2_164, w1_16, w2_166, (by decide +kernel)⟩, rfl, w2_165⟩
theorem kI_X11_57 : Wi RX11 57 yX4_init cX4_init 2 1 := ⟨⟨w1_222, w1_10, w1_224, (by decide +kernel)⟩, rfl, w1_223⟩
theorem kI_X3_11 : Wi RX3 11 yJx4a65c_init_da8c8 cJx4a65c_init_da8c8 1 0 := ⟨⟨w1_186, w1_6, w1_68, (by decide +kernel)⟩, rfl, w1_67⟩
theorem kI_X3_23 : Wi RX3 23 yX1_init cX1_init 2 1 := ⟨⟨w1_188, w1_2, w1_36, (by decide +kernel)⟩, rfl, w1_35⟩
theorem kI_X4_28 : Wi RX4 28 yX1_init cX1_init 2 1 := ⟨⟨w1_228, w1_2, w1_36, (by decide +kernel)⟩, rfl, w1_35⟩
theorem kI_X9_11 : Wi RX9 11 yJx4a65c_init_da8c8 cJx4a65c_init_da8c8 1 0 := ⟨⟨w2_169, w1_6, w1_68, (by decide +kernel)⟩, rfl, w1_67⟩
theorem kI_X9_20 : Wi RX9 20 yX1_init cX1_init 2 1 := ⟨⟨w2_171, w1_2, w1_36, (by decide +kernel)⟩, rfl, w1_35⟩
theorem kN_X11_29 : Wn RX11 29 yX10_init "DotPress" cX10_init 1 0 := ⟨⟨w1_60t, w1_3, w1_62, (by decide +kernel)⟩, rfl, w1_61⟩
theorem kN_X11_36 : Wn RX11 36 yX8_init "DotPress" cX8_init 1 0 := ⟨⟨w1_99t, w1_7, w1_101, (by decide +kernel)⟩, rfl, w1_100⟩
theorem kN_X11_43 : Wn RX11 43 yX6_init "DotPress" cX6_init 1 0 := ⟨⟨w1_132t, w1_8, w1_134, (by decide +kernel)⟩, rfl, w1_133⟩
theorem kN_X11_50 : Wn RX11 50 yX3_init "DotPress" cX3_init 1 0 := ⟨⟨w1_181t, w1_9, w1_183, (by decide +kernel)⟩, rfl, w1_182⟩
theorem kN_X11_66 : Wn RX11 66 yX7_init "DotPress" cX7_init 1 0 := ⟨⟨w2_27t, w1_11, w2_29, (by decide +kernel)⟩, rfl, w2_28⟩
theorem kS_X11_351 : Ws RX11 351 yJ6_bitCount_0f7a4 cJ6_bitCount_0f7a4 1 (some .int) 1 := ⟨⟨w5_118, w1_23, w5_16, (by decide +kernel)⟩, w5_15⟩
theorem kS_X12_174 : Ws RX12 174 yX12_isIn cX12_isIn 3 (some .boolean) 3 := ⟨⟨w7_41, w1_12, w7_43, (by decide +kernel)⟩, w7_42⟩
theorem kS_X12_309 : Ws RX12 309 yJ6_bitCount_0f7a4 cJ6_bitCount_0f7a4 1 (some .int) 1 := ⟨⟨w8_8, w1_23, w5_16, (by decide +kernel)⟩, w5_15⟩
theorem kS_X1_20 : Ws RX1 20 yJ7_copyOf_59c91 cJ7_copyOf_59c91 3 (some (.array .int)) 2 := ⟨⟨w2_118, w1_13, w2_120, (by decide +kernel)⟩, w2_119⟩
theorem kV_Jx4a65c_129 : Wv RJx4a65c 129 yJx4a65c_grow_d5877 cJx4a65c_grow_d5877 1 (some (.array (.object "java/lang/Object"))) 0 := ⟨⟨w2_229, w1_6, w2_232, (by decide +kernel)⟩, w2_231, wp_4⟩
theorem kV_Jx4a65c_131 : Wv RJx4a65c 131 yJx4a65c_add_72be8 cJx4a65c_add_72be8 4 none 3 := ⟨⟨w2_225, w1_6, w2_228, (by decide +kernel)⟩, w2_227, wp_3⟩
theorem kV_Jx4a65c_69 : Wv RJx4a65c 69 yJx4a65c_grow_92f84 cJx4a65c_grow_92f84 4 (some (.array (.object "java/lang/Object"))) 1 := ⟨⟨w2_233, w1_6, w2_236, (by decide +kernel)⟩, w2_235, wp_5⟩
theorem kV_X10_21 : Wv RX10 21 yJx4a65c_size_8abf5 cJx4a65c_size_8abf5 1 (some .int) 0 := ⟨⟨w2_158, w1_6, w2_161, (by decide +kernel)⟩, w2_159, w2_160⟩
theorem kV_X10_35 : Wv RX10 35 yX10_alive cX10_alive 3 (some (.object "DotPress$Table")) 1 := ⟨⟨w3_233, w1_3, w3_79, (by decide +kernel)⟩, w3_77, w3_78⟩
theorem kV_X10_43 : Wv RX10 43 yJx4a65c_add_9ea2d cJx4a65c_add_9ea2d 2 (some .boolean) 1 := ⟨⟨w2_221, w1_6, w2_224, (by decide +kernel)⟩, w2_222, w2_223⟩
theorem kV_X10_52 : Wv RX10 52 yX10_remember cX10_remember 2 none 1 := ⟨⟨w3_57, w1_3, w3_60, (by decide +kernel)⟩, w3_58, w3_59⟩
theorem kV_X10_59 : Wv RX10 59 yJx4a65c_isEmpty_aae02 cJx4a65c_isEmpty_aae02 1 (some .boolean) 0 := ⟨⟨w3_195, w1_6, w3_198, (by decide +kernel)⟩, w3_196, w3_197⟩
theorem kV_X11_102 : Wv RX11 102 yX11_refuse cX11_refuse 2 (some .int) 1 := ⟨⟨w2_106, w1_1, w2_109, (by decide +kernel)⟩, w2_108, wp_0⟩
theorem kV_X11_106 : Wv RX11 106 yX11_feedFour cX11_feedFour 3 none 1 := ⟨⟨w2_110, w1_1, w2_113, (by decide +kernel)⟩, w2_112, wp_1⟩
theorem kV_X11_109 : Wv RX11 109 yX11_done cX11_done 2 (some .int) 1 := ⟨⟨w2_134, w1_1, w2_137, (by decide +kernel)⟩, w2_136, wp_2⟩
theorem kV_X11_112 : Wv RX11 112 yX1_add cX1_add 2 none 1 := ⟨⟨w2_114, w1_2, w2_117, (by decide +kernel)⟩, w2_115, w2_116⟩
theorem kV_X11_115 : Wv RX11 115 yX1_keep cX1_keep 2 none 1 := ⟨⟨w2_142, w1_2, w2_145, (by decide +kernel)⟩, w2_143, w2_144⟩
theorem kV_X11_118 : Wv RX11 118 yX10_isFull cX10_isFull 1 (some .boolean) 0 := ⟨⟨w2_154, w1_3, w2_157, (by decide +kernel)⟩, w2_155, w2_156⟩
theorem kV_X11_127 : Wv RX11 127 yX10_make cX10_make 2 (some .int) 1 := ⟨⟨w2_217, w1_3, w2_220, (by decide +kernel)⟩, w2_218, w2_219⟩
theorem kV_X11_131 : Wv RX11 131 yX10_alive cX10_alive 3 (some (.object "DotPress$Table")) 1 := ⟨⟨w3_76, w1_3, w3_79, (by decide +kernel)⟩, w3_77, w3_78⟩
theorem kV_X11_160 : Wv RX11 160 yX11_addRule cX11_addRule 6 (some .int) 3 := ⟨⟨w3_105, w1_1, w3_108, (by decide +kernel)⟩, w3_107, wp_7⟩
theorem kV_X11_164 : Wv RX11 164 yX1_clear cX1_clear 1 none 0 := ⟨⟨w3_166, w1_2, w3_169, (by decide +kernel)⟩, w3_167, w3_168⟩
theorem kV_X11_171 : Wv RX11 171 yX1_isWithin cX1_isWithin 6 (some .boolean) 4 := ⟨⟨w3_112, w1_2, w3_115, (by decide +kernel)⟩, w3_113, w3_114⟩
theorem kV_X11_208 : Wv RX11 208 yX11_changeIndicator cX11_changeIndicator 4 (some .int) 2 := ⟨⟨w3_179, w1_1, w3_182, (by decide +kernel)⟩, w3_181, wp_9⟩
theorem kV_X11_218 : Wv RX11 218 yX10_takeBack cX10_takeBack 2 (some .boolean) 0 := ⟨⟨w3_191, w1_3, w3_194, (by decide +kernel)⟩, w3_192, w3_193⟩
theorem kV_X11_221 : Wv RX11 221 yX11_addText cX11_addText 3 (some .int) 0 := ⟨⟨w3_211, w1_1, w3_214, (by decide +kernel)⟩, w3_213, wp_10⟩
theorem kV_X11_227 : Wv RX11 227 yX1_addAll cX1_addAll 3 none 1 := ⟨⟨w3_216, w1_2, w3_219, (by decide +kernel)⟩, w3_217, w3_218⟩
theorem kV_X11_231 : Wv RX11 231 yX10_whole cX10_whole 3 (some (.object "DotPress$Table")) 1 := ⟨⟨w3_229, w1_3, w3_232, (by decide +kernel)⟩, w3_230, w3_231⟩
theorem kV_X11_272 : Wv RX11 272 yX6_clear cX6_clear 1 none 0 := ⟨⟨w4_168, w1_8, w4_21, (by decide +kernel)⟩, w4_19, w4_20⟩
theorem kV_X11_282 : Wv RX11 282 yX11_linesOfPage cX11_linesOfPage 1 (some .int) 0 := ⟨⟨w4_178, w1_1, w4_181, (by decide +kernel)⟩, w4_180, wp_23⟩
theorem kV_X11_285 : Wv RX11 285 yX11_pagesHaveHeader cX11_pagesHaveHeader 1 (some .boolean) 0 := ⟨⟨w4_182, w1_1, w4_185, (by decide +kernel)⟩, w4_184, wp_24⟩
theorem kV_X11_288 : Wv RX11 288 yX7_present cX7_present 3 (some (.object "DotPress$Line")) 1 := ⟨⟨w4_190, w1_11, w4_193, (by decide +kernel)⟩, w4_191, w4_192⟩
theorem kV_X11_292 : Wv RX11 292 yX7_whyNone cX7_whyNone 2 (some .int) 1 := ⟨⟨w4_194, w1_11, w4_197, (by decide +kernel)⟩, w4_195, w4_196⟩
theorem kV_X11_298 : Wv RX11 298 yX11_cellOfLine cX11_cellOfLine 4 (some .int) 2 := ⟨⟨w4_202, w1_1, w4_205, (by decide +kernel)⟩, w4_204, wp_25⟩
theorem kV_X11_302 : Wv RX11 302 yX11_pages cX11_pages 2 (some .int) 0 := ⟨⟨w4_210, w1_1, w4_177, (by decide +kernel)⟩, w4_175, w4_176⟩
theorem kV_X11_308 : Wv RX11 308 yX7_at cX7_at 2 (some (.object "DotPress$Line")) 1 := ⟨⟨w4_224, w1_11, w4_75, (by decide +kernel)⟩, w4_73, w4_74⟩
theorem kV_X11_364 : Wv RX11 364 yX4_byteOf cX4_byteOf 4 (some .int) 2 := ⟨⟨w5_174, w1_10, w5_177, (by decide +kernel)⟩, w5_175, w5_176⟩
theorem kV_X11_413 : Wv RX11 413 yX6_findsOf cX6_findsOf 2 (some .int) 1 := ⟨⟨w6_32, w1_8, w6_35, (by decide +kernel)⟩, w6_33, w6_34⟩
theorem kV_X11_416 : Wv RX11 416 yX7_goOver cX7_goOver 6 (some .int) 1 := ⟨⟨w6_44, w1_11, w6_47, (by decide +kernel)⟩, w6_45, w6_46⟩
theorem kV_X12_154 : Wv RX12 154 yX12_bad cX12_bad 2 (some .int) 1 := ⟨⟨w7_25, w1_12, w7_28, (by decide +kernel)⟩, w7_27, wp_39⟩
theorem kV_X12_158 : Wv RX12 158 yX12_fine cX12_fine 2 (some .int) 1 := ⟨⟨w7_29, w1_12, w7_32, (by decide +kernel)⟩, w7_31, wp_40⟩
theorem kV_X12_167 : Wv RX12 167 yX12_isTable cX12_isTable 2 (some .boolean) 1 := ⟨⟨w7_44, w1_12, w7_47, (by decide +kernel)⟩, w7_46, wp_41⟩
theorem kV_X12_171 : Wv RX12 171 yX12_isWhole cX12_isWhole 2 (some .boolean) 1 := ⟨⟨w7_108, w1_12, w7_111, (by decide +kernel)⟩, w7_110, wp_46⟩
theorem kV_X12_178 : Wv RX12 178 yX12_newTable cX12_newTable 7 (some .int) 4 := ⟨⟨w7_48, w1_12, w7_51, (by decide +kernel)⟩, w7_50, wp_42⟩
theorem kV_X12_182 : Wv RX12 182 yX12_step cX12_step 7 none 4 := ⟨⟨w7_52, w1_12, w7_55, (by decide +kernel)⟩, w7_54, wp_43⟩
theorem kV_X12_192 : Wv RX12 192 yX12_taken cX12_taken 2 (some .int) 0 := ⟨⟨w7_69, w1_12, w7_72, (by decide +kernel)⟩, w7_71, wp_44⟩
theorem kV_X12_288 : Wv RX12 288 yX12_hasHead cX12_hasHead 1 (some .boolean) 0 := ⟨⟨w7_202, w1_12, w7_205, (by decide +kernel)⟩, w7_204, wp_64⟩
theorem kV_X12_291 : Wv RX12 291 yX12_onPage cX12_onPage 1 (some .int) 0 := ⟨⟨w7_198, w1_12, w7_201, (by decide +kernel)⟩, w7_200, wp_63⟩
theorem kV_X12_294 : Wv RX12 294 yX12_lineFault cX12_lineFault 2 (some .int) 1 := ⟨⟨w7_210, w1_12, w7_213, (by decide +kernel)⟩, w7_212, wp_65⟩
theorem kV_X12_297 : Wv RX12 297 yX12_pages cX12_pages 1 (some .int) 0 := ⟨⟨w7_222, w1_12, w7_197, (by decide +kernel)⟩, w7_195, w7_196⟩
theorem kV_X7_24 : Wv RX7 24 yX7_at cX7_at 2 (some (.object "DotPress$Line")) 1 := ⟨⟨w4_72, w1_11, w4_75, (by decide +kernel)⟩, w4_73, w4_74⟩
