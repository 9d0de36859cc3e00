theorem mT1 {w : Cond} (h : w ∈ tables_1_1) : w ∈ lw_tbl := List.mem_append_right _ (show w ∈ tables_1 from List.mem_append_left _ h)
theorem mT2 {w : Cond} (h : w ∈ tables_1_2) : w ∈ lw_tbl := List.mem_append_right _ (show w ∈ tables_1 from List.mem_append_right _ (List.mem_append_left _ h))
theorem mT3 {w : Cond} (h : w ∈ tables_1_3) : w ∈ lw_tbl := List.mem_append_right _ (show w ∈ tables_1 from List.mem_append_right _ (List.mem_append_right _ (List.mem_append_left _ h)))
theorem mT4 {w : Cond} (h : w ∈ tables_1_4) : w ∈ lw_tbl := List.mem_append_right _ (show w ∈ tables_1 from List.mem_append_right _ (List.mem_append_right _ (List.mem_append_right _ (List.mem_append_left _ h))))
theorem mT5 {w : Cond} (h : w ∈ tables_1_5) : w ∈ lw_tbl := List.mem_append_right _ (show w ∈ tables_1 from List.mem_append_right _ (List.mem_append_right _ (List.mem_append_right _ (List.mem_append_right _ (List.mem_append_left _ h)))))
theorem mT6 {w : Cond} (h : w ∈ tables_1_6) : w ∈ lw_tbl := List.mem_append_right _ (show w ∈ tables_1 from List.mem_append_right _ (List.mem_append_right _ (List.mem_append_right _ (List.mem_append_right _ (List.mem_append_right _ (List.mem_append_left _ h))))))
theorem mT7 {w : Cond} (h : w ∈ tables_1_7) : w ∈ lw_tbl := List.mem_append_right _ (show w ∈ tables_1 from List.mem_append_right _ (List.mem_append_right _ (List.mem_append_right _ (List.mem_append_right _ (List.mem_append_right _ (List.mem_append_right _ (List.mem_append_left _ h)))))))
theorem mT8 {w : Cond} (h : w ∈ tables_1_8) : w ∈ lw_tbl := List.mem_append_right _ (show w ∈ tables_1 from List.mem_append_right _ (List.mem_append_right _ (List.mem_append_right _ (List.mem_append_right _ (List.mem_append_right _ (List.mem_append_right _ (List.mem_append_right _ (h))))))))
theorem w1_1 : (Jvm.Cond.initialized "DotPress") ∈ lw_g := lw_in (mT1 (List.mem_of_getElem? (i := 1) rfl)) rfl
theorem w1_10 : (Jvm.Cond.initialized "DotPress$Readings") ∈ lw_g := lw_in (mT1 (List.mem_of_getElem? (i := 10) rfl)) rfl
theorem w1_100 : (Jvm.Cond.instanceMethod ({ cls := "DotPress$Source", name := "<init>", desc := "()V" } : Jvm.MethodName)) ∈ lw_g := lw_in (mT1 (List.mem_of_getElem? (i := 100) rfl)) rfl
theorem w1_101 : (Jvm.Cond.code ({ cls := "DotPress$Source", name := "<init>", desc := "()V" } : Jvm.MethodName) prog_10_method_1_code (1 : Nat) (Option.none : Option Jvm.ClassFile.FieldType)) ∈ lw_g := lw_in (mT1 (List.mem_of_getElem? (i := 101) rfl)) rfl
theorem w1_102 : (Jvm.Cond.methodLink "DotPress$Source" (3 : Nat) ({ cls := "java/lang/Object", name := "<init>", desc := "()V" } : Jvm.MethodName)) ∈ lw_g := lw_in (mT1 (List.mem_of_getElem? (i := 102) rfl)) rfl
theorem w1_103 : (Jvm.Cond.fieldLink "DotPress$Source" (9 : Nat) "DotPress$Source" "at" "I") ∈ lw_g := lw_in (mT1 (List.mem_of_getElem? (i := 103) rfl)) rfl
theorem w1_104 : (Jvm.Cond.fieldLink "DotPress$Source" (15 : Nat) "DotPress$Source" "inLine" "Z") ∈ lw_g := lw_in (mT1 (List.mem_of_getElem? (i := 104) rfl)) rfl
theorem w1_105 : (Jvm.Cond.fieldLink "DotPress$Source" (19 : Nat) "DotPress$Source" "centred" "Z") ∈ lw_g := lw_in (mT1 (List.mem_of_getElem? (i := 105) rfl)) rfl
theorem w1_106 : (Jvm.Cond.fieldLink "DotPress" (246 : Nat) "DotPress$Source" "centred" "Z") ∈ lw_g := lw_in (mT1 (List.mem_of_getElem? (i := 106) rfl)) rfl
theorem w1_107 : (Jvm.Cond.fieldLink "DotPress$Source" (22 : Nat) "DotPress$Source" "isSpelt" "[Z") ∈ lw_g := lw_in (mT1 (List.mem_of_getElem? (i := 107) rfl)) rfl
theorem w1_108 : (Jvm.Cond.fieldLink "DotPress$Source" (26 : Nat) "DotPress$Source" "alphabet" "[I") ∈ lw_g := lw_in (mT1 (List.mem_of_getElem? (i := 108) rfl)) rfl
theorem w1_109 : (Jvm.Cond.fieldLink "DotPress$Source" (30 : Nat) "DotPress$Source" "alphabetSize" "I") ∈ lw_g := lw_in (mT1 (List.mem_of_getElem? (i := 109) rfl)) rfl
theorem w1_11 : (Jvm.Cond.initialized "DotPress$Sheet") ∈ lw_g := lw_in (mT1 (List.mem_of_getElem? (i := 11) rfl)) rfl
theorem w1_110 : (Jvm.Cond.fieldLink "DotPress$Source" (33 : Nat) "DotPress$Source" "turns" "[I") ∈ lw_g := lw_in (mT1 (List.mem_of_getElem? (i := 110) rfl)) rfl
theorem w1_111 : (Jvm.Cond.fieldLink "DotPress$Source" (36 : Nat) "DotPress$Source" "spelling" "I") ∈ lw_g := lw_in (mT1 (List.mem_of_getElem? (i := 111) rfl)) rfl
theorem w1_112 : (Jvm.Cond.lays "DotPress$Source" "DotPress$Source" "at" "I") ∈ lw_g := lw_in (mT1 (List.mem_of_getElem? (i := 112) rfl)) rfl
theorem w1_114 : (Jvm.Cond.lays "DotPress$Source" "DotPress$Source" "inLine" "Z") ∈ lw_g := lw_in (mT1 (List.mem_of_getElem? (i := 114) rfl)) rfl
theorem w1_116 : (Jvm.Cond.lays "DotPress$Source" "DotPress$Source" "centred" "Z") ∈ lw_g := lw_in (mT1 (List.mem_of_getElem? (i := 116) rfl)) rfl
theorem w1_118 : (Jvm.Cond.laysFinal "DotPress$Source" "DotPress$Source" "isSpelt" "[Z") ∈ lw_g := lw_in (mT1 (List.mem_of_getElem? (i := 118) rfl)) rfl
theorem w1_12 : (Jvm.Cond.initialized "DotPressModel") ∈ lw_g := lw_in (mT1 (List.mem_of_getElem? (i := 12) rfl)) rfl
theorem w1_120 : (Jvm.Cond.laysFinal "DotPress$Source" "DotPress$Source" "alphabet" "[I") ∈ lw_g := lw_in (mT1 (List.mem_of_getElem? (i := 120) rfl)) rfl
theorem w1_122 : (Jvm.Cond.lays "DotPress$Source" "DotPress$Source" "alphabetSize" "I") ∈ lw_g := lw_in (mT1 (List.mem_of_getElem? (i := 122) rfl)) rfl
theorem w1_124 : (Jvm.Cond.laysFinal "DotPress$Source" "DotPress$Source" "turns" "[I") ∈ lw_g := lw_in (mT1 (List.mem_of_getElem? (i := 124) rfl)) rfl
theorem w1_126 : (Jvm.Cond.lays "DotPress$Source" "DotPress$Source" "spelling" "I") ∈ lw_g := lw_in (mT1 (List.mem_of_getElem? (i := 126) rfl)) rfl
theorem w1_129t : (Jvm.Cond.arrayClass Jvm.ClassFile.FieldType.boolean) ∈ lw_tbl := mT1 (List.mem_of_getElem? (i := 129) rfl)
theorem w1_129 : (Jvm.Cond.arrayClass Jvm.ClassFile.FieldType.boolean) ∈ lw_g := lw_in (mT1 (List.mem_of_getElem? (i := 129) rfl)) rfl
theorem w1_13 : (Jvm.Cond.initialized "java/util/Arrays") ∈ lw_g := lw_in (mT1 (List.mem_of_getElem? (i := 13) rfl)) rfl
theorem w1_130 : (Jvm.Cond.classLink "DotPress" (41 : Nat) "DotPress$Setting") ∈ lw_g := lw_in (mT1 (List.mem_of_getElem? (i := 130) rfl)) rfl
theorem w1_131 : (Jvm.Cond.instantiable "DotPress$Setting" (12 : Nat)) ∈ lw_g := lw_in (mT1 (List.mem_of_getElem? (i := 131) rfl)) rfl
theorem w1_132t : (Jvm.Cond.methodLinkNest "DotPress" (43 : Nat) ({ cls := "DotPress$Setting", name := "<init>", desc := "()V" } : Jvm.MethodName) "DotPress") ∈ lw_tbl := mT1 (List.mem_of_getElem? (i := 132) rfl)
theorem w1_133 : (Jvm.Cond.instanceMethod ({ cls := "DotPress$Setting", name := "<init>", desc := "()V" } : Jvm.MethodName)) ∈ lw_g := lw_in (mT1 (List.mem_of_getElem? (i := 133) rfl)) rfl
theorem w1_134 : (Jvm.Cond.code ({ cls := "DotPress$Setting", name := "<init>", desc := "()V" } : Jvm.MethodName) prog_8_method_1_code (1 : Nat) (Option.none : Option Jvm.ClassFile.FieldType)) ∈ lw_g := lw_in (mT1 (List.mem_of_getElem? (i := 134) rfl)) rfl
theorem w1_135 : (Jvm.Cond.methodLink "DotPress$Setting" (3 : Nat) ({ cls := "java/lang/Object", name := "<init>", desc := "()V" } : Jvm.MethodName)) ∈ lw_g := lw_in (mT1 (List.mem_of_getElem? (i := 135) rfl)) rfl
theorem w1_136 : (Jvm.Cond.fieldLink "DotPress$Setting" (9 : Nat) "DotPress$Setting" "letters" "[I") ∈ lw_g := lw_in (mT1 (List.mem_of_getElem? (i := 136) rfl)) rfl
theorem w1_137 : (Jvm.Cond.fieldLink "DotPress$Setting" (15 : Nat) "DotPress$Setting" "places" "[I") ∈ lw_g := lw_in (mT1 (List.mem_of_getElem? (i := 137) rfl)) rfl
theorem w1_138 : (Jvm.Cond.fieldLink "DotPress$Setting" (18 : Nat) "DotPress$Setting" "breaks" "[Z") ∈ lw_g := lw_in (mT1 (List.mem_of_getElem? (i := 138) rfl)) rfl
theorem w1_139 : (Jvm.Cond.fieldLink "DotPress$Setting" (22 : Nat) "DotPress$Setting" "starts" "[I") ∈ lw_g := lw_in (mT1 (List.mem_of_getElem? (i := 139) rfl)) rfl
theorem w1_14 : (Jvm.Cond.initialized "java/lang/Math") ∈ lw_g := lw_in (mT1 (List.mem_of_getElem? (i := 14) rfl)) rfl
theorem w1_140 : (Jvm.Cond.fieldLink "DotPress$Setting" (25 : Nat) "DotPress$Setting" "size" "I") ∈ lw_g := lw_in (mT1 (List.mem_of_getElem? (i := 140) rfl)) rfl
theorem w1_141 : (Jvm.Cond.fieldLink "DotPress$Source" (56 : Nat) "DotPress$Setting" "size" "I") ∈ lw_g := lw_in (mT1 (List.mem_of_getElem? (i := 141) rfl)) rfl
theorem w1_142 : (Jvm.Cond.fieldLink "DotPress" (402 : Nat) "DotPress$Setting" "size" "I") ∈ lw_g := lw_in (mT1 (List.mem_of_getElem? (i := 142) rfl)) rfl
theorem w1_143 : (Jvm.Cond.fieldLink "DotPress$Setting" (29 : Nat) "DotPress$Setting" "breakComes" "Z") ∈ lw_g := lw_in (mT1 (List.mem_of_getElem? (i := 143) rfl)) rfl
theorem w1_144 : (Jvm.Cond.fieldLink "DotPress$Setting" (33 : Nat) "DotPress$Setting" "cells" "[I") ∈ lw_g := lw_in (mT1 (List.mem_of_getElem? (i := 144) rfl)) rfl
theorem w1_145 : (Jvm.Cond.fieldLink "DotPress$Line" (27 : Nat) "DotPress$Setting" "cells" "[I") ∈ lw_g := lw_in (mT1 (List.mem_of_getElem? (i := 145) rfl)) rfl
theorem w1_146 : (Jvm.Cond.fieldLink "DotPress" (278 : Nat) "DotPress$Setting" "cells" "[I") ∈ lw_g := lw_in (mT1 (List.mem_of_getElem? (i := 146) rfl)) rfl
theorem w1_147 : (Jvm.Cond.fieldLink "DotPress$Setting" (36 : Nat) "DotPress$Setting" "count" "I") ∈ lw_g := lw_in (mT1 (List.mem_of_getElem? (i := 147) rfl)) rfl
theorem w1_148 : (Jvm.Cond.fieldLink "DotPress$Sheet" (39 : Nat) "DotPress$Setting" "count" "I") ∈ lw_g := lw_in (mT1 (List.mem_of_getElem? (i := 148) rfl)) rfl
theorem w1_149 : (Jvm.Cond.fieldLink "DotPress" (277 : Nat) "DotPress$Setting" "count" "I") ∈ lw_g := lw_in (mT1 (List.mem_of_getElem? (i := 149) rfl)) rfl
theorem w1_15 : (Jvm.Cond.initialized "java/lang/System") ∈ lw_g := lw_in (mT1 (List.mem_of_getElem? (i := 15) rfl)) rfl
theorem w1_150 : (Jvm.Cond.fieldLink "DotPress$Setting" (39 : Nat) "DotPress$Setting" "finds" "[I") ∈ lw_g := lw_in (mT1 (List.mem_of_getElem? (i := 150) rfl)) rfl
theorem w1_151 : (Jvm.Cond.fieldLink "DotPress$Setting" (42 : Nat) "DotPress$Setting" "unknown" "I") ∈ lw_g := lw_in (mT1 (List.mem_of_getElem? (i := 151) rfl)) rfl
theorem w1_152 : (Jvm.Cond.fieldLink "DotPress$Setting" (45 : Nat) "DotPress$Setting" "partBegin" "I") ∈ lw_g := lw_in (mT1 (List.mem_of_getElem? (i := 152) rfl)) rfl
theorem w1_153 : (Jvm.Cond.fieldLink "DotPress$Setting" (48 : Nat) "DotPress$Setting" "partEnd" "I") ∈ lw_g := lw_in (mT1 (List.mem_of_getElem? (i := 153) rfl)) rfl
theorem w1_154 : (Jvm.Cond.laysFinal "DotPress$Setting" "DotPress$Setting" "letters" "[I") ∈ lw_g := lw_in (mT1 (List.mem_of_getElem? (i := 154) rfl)) rfl
theorem w1_156 : (Jvm.Cond.laysFinal "DotPress$Setting" "DotPress$Setting" "places" "[I") ∈ lw_g := lw_in (mT1 (List.mem_of_getElem? (i := 156) rfl)) rfl
theorem w1_158 : (Jvm.Cond.laysFinal "DotPress$Setting" "DotPress$Setting" "breaks" "[Z") ∈ lw_g := lw_in (mT1 (List.mem_of_getElem? (i := 158) rfl)) rfl
theorem w1_16 : (Jvm.Cond.initialized "DotPress$Table") ∈ lw_g := lw_in (mT1 (List.mem_of_getElem? (i := 16) rfl)) rfl
theorem w1_160 : (Jvm.Cond.laysFinal "DotPress$Setting" "DotPress$Setting" "starts" "[I") ∈ lw_g := lw_in (mT1 (List.mem_of_getElem? (i := 160) rfl)) rfl
theorem w1_162 : (Jvm.Cond.lays "DotPress$Setting" "DotPress$Setting" "size" "I") ∈ lw_g := lw_in (mT1 (List.mem_of_getElem? (i := 162) rfl)) rfl
theorem w1_164 : (Jvm.Cond.lays "DotPress$Setting" "DotPress$Setting" "breakComes" "Z") ∈ lw_g := lw_in (mT1 (List.mem_of_getElem? (i := 164) rfl)) rfl
theorem w1_166 : (Jvm.Cond.laysFinal "DotPress$Setting" "DotPress$Setting" "cells" "[I") ∈ lw_g := lw_in (mT1 (List.mem_of_getElem? (i := 166) rfl)) rfl
theorem w1_168 : (Jvm.Cond.lays "DotPress$Setting" "DotPress$Setting" "count" "I") ∈ lw_g := lw_in (mT1 (List.mem_of_getElem? (i := 168) rfl)) rfl
theorem w1_17 : (Jvm.Cond.initialized "jdk/internal/util/ArraysSupport") ∈ lw_g := lw_in (mT1 (List.mem_of_getElem? (i := 17) rfl)) rfl
theorem w1_170 : (Jvm.Cond.laysFinal "DotPress$Setting" "DotPress$Setting" "finds" "[I") ∈ lw_g := lw_in (mT1 (List.mem_of_getElem? (i := 170) rfl)) rfl
theorem w1_172 : (Jvm.Cond.lays "DotPress$Setting" "DotPress$Setting" "unknown" "I") ∈ lw_g := lw_in (mT1 (List.mem_of_getElem? (i := 172) rfl)) rfl
theorem w1_174 : (Jvm.Cond.lays "DotPress$Setting" "DotPress$Setting" "partBegin" "I") ∈ lw_g := lw_in (mT1 (List.mem_of_getElem? (i := 174) rfl)) rfl
theorem w1_176 : (Jvm.Cond.lays "DotPress$Setting" "DotPress$Setting" "partEnd" "I") ∈ lw_g := lw_in (mT1 (List.mem_of_getElem? (i := 176) rfl)) rfl
theorem w1_179 : (Jvm.Cond.classLink "DotPress" (48 : Nat) "DotPress$Reader") ∈ lw_g := lw_in (mT1 (List.mem_of_getElem? (i := 179) rfl)) rfl
theorem w1_18 : (Jvm.Cond.initialized "DotPress$Change") ∈ lw_g := lw_in (mT1 (List.mem_of_getElem? (i := 18) rfl)) rfl
theorem w1_180 : (Jvm.Cond.instantiable "DotPress$Reader" (8 : Nat)) ∈ lw_g := lw_in (mT1 (List.mem_of_getElem? (i := 180) rfl)) rfl
theorem w1_181t : (Jvm.Cond.methodLinkNest "DotPress" (50 : Nat) ({ cls := "DotPress$Reader", name := "<init>", desc := "()V" } : Jvm.MethodName) "DotPress") ∈ lw_tbl := mT1 (List.mem_of_getElem? (i := 181) rfl)
theorem w1_182 : (Jvm.Cond.instanceMethod ({ cls := "DotPress$Reader", name := "<init>", desc := "()V" } : Jvm.MethodName)) ∈ lw_g := lw_in (mT1 (List.mem_of_getElem? (i := 182) rfl)) rfl
theorem w1_183 : (Jvm.Cond.code ({ cls := "DotPress$Reader", name := "<init>", desc := "()V" } : Jvm.MethodName) prog_5_method_1_code (1 : Nat) (Option.none : Option Jvm.ClassFile.FieldType)) ∈ lw_g := lw_in (mT1 (List.mem_of_getElem? (i := 183) rfl)) rfl
theorem w1_184 : (Jvm.Cond.methodLink "DotPress$Reader" (3 : Nat) ({ cls := "java/lang/Object", name := "<init>", desc := "()V" } : Jvm.MethodName)) ∈ lw_g := lw_in (mT1 (List.mem_of_getElem? (i := 184) rfl)) rfl
theorem w1_185 : (Jvm.Cond.classLink "DotPress$Reader" (9 : Nat) "java/util/ArrayList") ∈ lw_g := lw_in (mT1 (List.mem_of_getElem? (i := 185) rfl)) rfl
theorem w1_186 : (Jvm.Cond.methodLink "DotPress$Reader" (11 : Nat) ({ cls := "java/util/ArrayList", name := "<init>", desc := "()V" } : Jvm.MethodName)) ∈ lw_g := lw_in (mT1 (List.mem_of_getElem? (i := 186) rfl)) rfl
theorem w1_187 : (Jvm.Cond.classLink "DotPress$Reader" (21 : Nat) "DotPress$Ints") ∈ lw_g := lw_in (mT1 (List.mem_of_getElem? (i := 187) rfl)) rfl
theorem w1_188 : (Jvm.Cond.methodLink "DotPress$Reader" (23 : Nat) ({ cls := "DotPress$Ints", name := "<init>", desc := "(I)V" } : Jvm.MethodName)) ∈ lw_g := lw_in (mT1 (List.mem_of_getElem? (i := 188) rfl)) rfl
theorem w1_189 : (Jvm.Cond.constant "DotPress$Reader" (33 : Nat) (40200 : Int32)) ∈ lw_g := lw_in (mT1 (List.mem_of_getElem? (i := 189) rfl)) rfl
theorem w1_19 : (Jvm.Cond.initialized "java/util/Objects") ∈ lw_g := lw_in (mT1 (List.mem_of_getElem? (i := 19) rfl)) rfl
theorem w1_190 : (Jvm.Cond.fieldLink "DotPress$Reader" (12 : Nat) "DotPress$Reader" "first" "Ljava/util/ArrayList;") ∈ lw_g := lw_in (mT1 (List.mem_of_getElem? (i := 190) rfl)) rfl
theorem w1_191 : (Jvm.Cond.fieldLink "DotPress$Source" (64 : Nat) "DotPress$Reader" "first" "Ljava/util/ArrayList;") ∈ lw_g := lw_in (mT1 (List.mem_of_getElem? (i := 191) rfl)) rfl
theorem w1_192 : (Jvm.Cond.fieldLink "DotPress" (370 : Nat) "DotPress$Reader" "first" "Ljava/util/ArrayList;") ∈ lw_g := lw_in (mT1 (List.mem_of_getElem? (i := 192) rfl)) rfl
theorem w1_193 : (Jvm.Cond.fieldLink "DotPress$Reader" (18 : Nat) "DotPress$Reader" "second" "Ljava/util/ArrayList;") ∈ lw_g := lw_in (mT1 (List.mem_of_getElem? (i := 193) rfl)) rfl
theorem w1_194 : (Jvm.Cond.fieldLink "DotPress$Source" (74 : Nat) "DotPress$Reader" "second" "Ljava/util/ArrayList;") ∈ lw_g := lw_in (mT1 (List.mem_of_getElem? (i := 194) rfl)) rfl
theorem w1_195 : (Jvm.Cond.fieldLink "DotPress" (377 : Nat) "DotPress$Reader" "second" "Ljava/util/ArrayList;") ∈ lw_g := lw_in (mT1 (List.mem_of_getElem? (i := 195) rfl)) rfl
theorem w1_196 : (Jvm.Cond.fieldLink "DotPress$Reader" (26 : Nat) "DotPress$Reader" "firstBegins" "LDotPress$Ints;") ∈ lw_g := lw_in (mT1 (List.mem_of_getElem? (i := 196) rfl)) rfl
theorem w1_197 : (Jvm.Cond.fieldLink "DotPress$Reader" (30 : Nat) "DotPress$Reader" "secondBegins" "LDotPress$Ints;") ∈ lw_g := lw_in (mT1 (List.mem_of_getElem? (i := 197) rfl)) rfl
theorem w1_198 : (Jvm.Cond.fieldLink "DotPress$Reader" (34 : Nat) "DotPress$Reader" "cells" "LDotPress$Ints;") ∈ lw_g := lw_in (mT1 (List.mem_of_getElem? (i := 198) rfl)) rfl
theorem w1_199 : (Jvm.Cond.fieldLink "DotPress$Reader" (37 : Nat) "DotPress$Reader" "places" "LDotPress$Ints;") ∈ lw_g := lw_in (mT1 (List.mem_of_getElem? (i := 199) rfl)) rfl
theorem w1_2 : (Jvm.Cond.initialized "DotPress$Ints") ∈ lw_g := lw_in (mT1 (List.mem_of_getElem? (i := 2) rfl)) rfl
theorem w1_20 : (Jvm.Cond.initialized "jdk/internal/util/Preconditions") ∈ lw_g := lw_in (mT1 (List.mem_of_getElem? (i := 20) rfl)) rfl
theorem w1_200 : (Jvm.Cond.fieldLink "DotPress$Reader" (40 : Nat) "DotPress$Reader" "bytes" "LDotPress$Ints;") ∈ lw_g := lw_in (mT1 (List.mem_of_getElem? (i := 200) rfl)) rfl
theorem w1_201 : (Jvm.Cond.fieldLink "DotPress" (341 : Nat) "DotPress$Reader" "bytes" "LDotPress$Ints;") ∈ lw_g := lw_in (mT1 (List.mem_of_getElem? (i := 201) rfl)) rfl
theorem w1_202 : (Jvm.Cond.fieldLink "DotPress$Reader" (43 : Nat) "DotPress$Reader" "wrong" "I") ∈ lw_g := lw_in (mT1 (List.mem_of_getElem? (i := 202) rfl)) rfl
theorem w1_203 : (Jvm.Cond.laysFinal "DotPress$Reader" "DotPress$Reader" "first" "Ljava/util/ArrayList;") ∈ lw_g := lw_in (mT1 (List.mem_of_getElem? (i := 203) rfl)) rfl
theorem w1_205 : (Jvm.Cond.laysFinal "DotPress$Reader" "DotPress$Reader" "second" "Ljava/util/ArrayList;") ∈ lw_g := lw_in (mT1 (List.mem_of_getElem? (i := 205) rfl)) rfl
theorem w1_207 : (Jvm.Cond.laysFinal "DotPress$Reader" "DotPress$Reader" "firstBegins" "LDotPress$Ints;") ∈ lw_g := lw_in (mT1 (List.mem_of_getElem? (i := 207) rfl)) rfl
theorem w1_209 : (Jvm.Cond.laysFinal "DotPress$Reader" "DotPress$Reader" "secondBegins" "LDotPress$Ints;") ∈ lw_g := lw_in (mT1 (List.mem_of_getElem? (i := 209) rfl)) rfl
theorem w1_21 : (Jvm.Cond.initialized "DotPress$Row") ∈ lw_g := lw_in (mT1 (List.mem_of_getElem? (i := 21) rfl)) rfl
theorem w1_211 : (Jvm.Cond.laysFinal "DotPress$Reader" "DotPress$Reader" "cells" "LDotPress$Ints;") ∈ lw_g := lw_in (mT1 (List.mem_of_getElem? (i := 211) rfl)) rfl
theorem w1_213 : (Jvm.Cond.laysFinal "DotPress$Reader" "DotPress$Reader" "places" "LDotPress$Ints;") ∈ lw_g := lw_in (mT1 (List.mem_of_getElem? (i := 213) rfl)) rfl
theorem w1_215 : (Jvm.Cond.laysFinal "DotPress$Reader" "DotPress$Reader" "bytes" "LDotPress$Ints;") ∈ lw_g := lw_in (mT1 (List.mem_of_getElem? (i := 215) rfl)) rfl
theorem w1_217 : (Jvm.Cond.lays "DotPress$Reader" "DotPress$Reader" "wrong" "I") ∈ lw_g := lw_in (mT1 (List.mem_of_getElem? (i := 217) rfl)) rfl
theorem w1_22 : (Jvm.Cond.initialized "DotPress$Line") ∈ lw_g := lw_in (mT1 (List.mem_of_getElem? (i := 22) rfl)) rfl
theorem w1_220 : (Jvm.Cond.classLink "DotPress" (55 : Nat) "DotPress$Readings") ∈ lw_g := lw_in (mT1 (List.mem_of_getElem? (i := 220) rfl)) rfl
theorem w1_221 : (Jvm.Cond.instantiable "DotPress$Readings" (11 : Nat)) ∈ lw_g := lw_in (mT1 (List.mem_of_getElem? (i := 221) rfl)) rfl
theorem w1_222 : (Jvm.Cond.methodLink "DotPress" (57 : Nat) ({ cls := "DotPress$Readings", name := "<init>", desc := "(LDotPress$Reader;)V" } : Jvm.MethodName)) ∈ lw_g := lw_in (mT1 (List.mem_of_getElem? (i := 222) rfl)) rfl
theorem w1_223 : (Jvm.Cond.instanceMethod ({ cls := "DotPress$Readings", name := "<init>", desc := "(LDotPress$Reader;)V" } : Jvm.MethodName)) ∈ lw_g := lw_in (mT1 (List.mem_of_getElem? (i := 223) rfl)) rfl
theorem w1_224 : (Jvm.Cond.code ({ cls := "DotPress$Readings", name := "<init>", desc := "(LDotPress$Reader;)V" } : Jvm.MethodName) prog_6_method_1_code (2 : Nat) (Option.none : Option Jvm.ClassFile.FieldType)) ∈ lw_g := lw_in (mT1 (List.mem_of_getElem? (i := 224) rfl)) rfl
theorem w1_225 : (Jvm.Cond.methodLink "DotPress$Readings" (3 : Nat) ({ cls := "java/lang/Object", name := "<init>", desc := "()V" } : Jvm.MethodName)) ∈ lw_g := lw_in (mT1 (List.mem_of_getElem? (i := 225) rfl)) rfl
theorem w1_226 : (Jvm.Cond.classLink "DotPress$Readings" (25 : Nat) "DotPress$Ints") ∈ lw_g := lw_in (mT1 (List.mem_of_getElem? (i := 226) rfl)) rfl
theorem w1_227 : (Jvm.Cond.constant "DotPress$Readings" (27 : Nat) (40000 : Int32)) ∈ lw_g := lw_in (mT1 (List.mem_of_getElem? (i := 227) rfl)) rfl
theorem w1_228 : (Jvm.Cond.methodLink "DotPress$Readings" (28 : Nat) ({ cls := "DotPress$Ints", name := "<init>", desc := "(I)V" } : Jvm.MethodName)) ∈ lw_g := lw_in (mT1 (List.mem_of_getElem? (i := 228) rfl)) rfl
theorem w1_229 : (Jvm.Cond.fieldLink "DotPress$Readings" (9 : Nat) "DotPress$Readings" "canEnd" "[Z") ∈ lw_g := lw_in (mT1 (List.mem_of_getElem? (i := 229) rfl)) rfl
theorem w1_23 : (Jvm.Cond.initialized "java/lang/Integer") ∈ lw_g := lw_in (mT1 (List.mem_of_getElem? (i := 23) rfl)) rfl
theorem w1_230 : (Jvm.Cond.fieldLink "DotPress$Readings" (15 : Nat) "DotPress$Readings" "nodes" "[I") ∈ lw_g := lw_in (mT1 (List.mem_of_getElem? (i := 230) rfl)) rfl
theorem w1_231 : (Jvm.Cond.fieldLink "DotPress$Readings" (19 : Nat) "DotPress$Readings" "choices" "[I") ∈ lw_g := lw_in (mT1 (List.mem_of_getElem? (i := 231) rfl)) rfl
theorem w1_232 : (Jvm.Cond.fieldLink "DotPress$Readings" (22 : Nat) "DotPress$Readings" "ends" "[I") ∈ lw_g := lw_in (mT1 (List.mem_of_getElem? (i := 232) rfl)) rfl
theorem w1_233 : (Jvm.Cond.fieldLink "DotPress$Readings" (31 : Nat) "DotPress$Readings" "bytes" "LDotPress$Ints;") ∈ lw_g := lw_in (mT1 (List.mem_of_getElem? (i := 233) rfl)) rfl
theorem w1_234 : (Jvm.Cond.fieldLink "DotPress$Readings" (35 : Nat) "DotPress$Readings" "count" "I") ∈ lw_g := lw_in (mT1 (List.mem_of_getElem? (i := 234) rfl)) rfl
theorem w1_235 : (Jvm.Cond.fieldLink "DotPress" (360 : Nat) "DotPress$Readings" "count" "I") ∈ lw_g := lw_in (mT1 (List.mem_of_getElem? (i := 235) rfl)) rfl
theorem w1_236 : (Jvm.Cond.fieldLink "DotPress$Readings" (39 : Nat) "DotPress$Readings" "leftSome" "Z") ∈ lw_g := lw_in (mT1 (List.mem_of_getElem? (i := 236) rfl)) rfl
theorem w1_237 : (Jvm.Cond.fieldLink "DotPress" (361 : Nat) "DotPress$Readings" "leftSome" "Z") ∈ lw_g := lw_in (mT1 (List.mem_of_getElem? (i := 237) rfl)) rfl
theorem w1_238 : (Jvm.Cond.fieldLink "DotPress$Readings" (52 : Nat) "DotPress$Readings" "rows" "LDotPress$Reader;") ∈ lw_g := lw_in (mT1 (List.mem_of_getElem? (i := 238) rfl)) rfl
theorem w1_239 : (Jvm.Cond.fieldLink "DotPress$Readings" (43 : Nat) "DotPress$Readings" "cells" "[I") ∈ lw_g := lw_in (mT1 (List.mem_of_getElem? (i := 239) rfl)) rfl
theorem w1_24 : (Jvm.Cond.classLink "DotPressLaw" (7 : Nat) "DotPress") ∈ lw_g := lw_in (mT1 (List.mem_of_getElem? (i := 24) rfl)) rfl
theorem w1_25 : (Jvm.Cond.instantiable "DotPress" (19 : Nat)) ∈ lw_g := lw_in (mT1 (List.mem_of_getElem? (i := 25) rfl)) rfl
theorem w1_26 : (Jvm.Cond.methodLink "DotPressLaw" (9 : Nat) ({ cls := "DotPress", name := "<init>", desc := "()V" } : Jvm.MethodName)) ∈ lw_g := lw_in (mT1 (List.mem_of_getElem? (i := 26) rfl)) rfl
theorem w1_27 : (Jvm.Cond.instanceMethod ({ cls := "DotPress", name := "<init>", desc := "()V" } : Jvm.MethodName)) ∈ lw_g := lw_in (mT1 (List.mem_of_getElem? (i := 27) rfl)) rfl
theorem w1_28 : (Jvm.Cond.code ({ cls := "DotPress", name := "<init>", desc := "()V" } : Jvm.MethodName) prog_1_method_1_code (1 : Nat) (Option.none : Option Jvm.ClassFile.FieldType)) ∈ lw_g := lw_in (mT1 (List.mem_of_getElem? (i := 28) rfl)) rfl
theorem w1_29 : (Jvm.Cond.methodLink "DotPress" (1 : Nat) ({ cls := "java/lang/Object", name := "<init>", desc := "()V" } : Jvm.MethodName)) ∈ lw_g := lw_in (mT1 (List.mem_of_getElem? (i := 29) rfl)) rfl
theorem w1_3 : (Jvm.Cond.initialized "DotPress$Tables") ∈ lw_g := lw_in (mT1 (List.mem_of_getElem? (i := 3) rfl)) rfl
theorem w1_30 : (Jvm.Cond.instanceMethod ({ cls := "java/lang/Object", name := "<init>", desc := "()V" } : Jvm.MethodName)) ∈ lw_g := lw_in (mT1 (List.mem_of_getElem? (i := 30) rfl)) rfl
theorem w1_31 : (Jvm.Cond.code ({ cls := "java/lang/Object", name := "<init>", desc := "()V" } : Jvm.MethodName) object_method_1_code (1 : Nat) (Option.none : Option Jvm.ClassFile.FieldType)) ∈ lw_g := lw_in (mT1 (List.mem_of_getElem? (i := 31) rfl)) rfl
theorem w1_32 : (Jvm.Cond.classLink "DotPress" (7 : Nat) "DotPress$Ints") ∈ lw_g := lw_in (mT1 (List.mem_of_getElem? (i := 32) rfl)) rfl
theorem w1_33 : (Jvm.Cond.instantiable "DotPress$Ints" (3 : Nat)) ∈ lw_g := lw_in (mT1 (List.mem_of_getElem? (i := 33) rfl)) rfl
theorem w1_34 : (Jvm.Cond.methodLink "DotPress" (11 : Nat) ({ cls := "DotPress$Ints", name := "<init>", desc := "(I)V" } : Jvm.MethodName)) ∈ lw_g := lw_in (mT1 (List.mem_of_getElem? (i := 34) rfl)) rfl
theorem w1_35 : (Jvm.Cond.instanceMethod ({ cls := "DotPress$Ints", name := "<init>", desc := "(I)V" } : Jvm.MethodName)) ∈ lw_g := lw_in (mT1 (List.mem_of_getElem? (i := 35) rfl)) rfl
theorem w1_36 : (Jvm.Cond.code ({ cls := "DotPress$Ints", name := "<init>", desc := "(I)V" } : Jvm.MethodName) prog_3_method_1_code (2 : Nat) (Option.none : Option Jvm.ClassFile.FieldType)) ∈ lw_g := lw_in (mT1 (List.mem_of_getElem? (i := 36) rfl)) rfl
theorem w1_37 : (Jvm.Cond.methodLink "DotPress$Ints" (1 : Nat) ({ cls := "java/lang/Object", name := "<init>", desc := "()V" } : Jvm.MethodName)) ∈ lw_g := lw_in (mT1 (List.mem_of_getElem? (i := 37) rfl)) rfl
theorem w1_38 : (Jvm.Cond.fieldLink "DotPress$Ints" (13 : Nat) "DotPress$Ints" "limit" "I") ∈ lw_g := lw_in (mT1 (List.mem_of_getElem? (i := 38) rfl)) rfl
theorem w1_39 : (Jvm.Cond.fieldLink "DotPress$Ints" (16 : Nat) "DotPress$Ints" "items" "[I") ∈ lw_g := lw_in (mT1 (List.mem_of_getElem? (i := 39) rfl)) rfl
theorem w1_4 : (Jvm.Cond.initialized "java/util/AbstractCollection") ∈ lw_g := lw_in (mT1 (List.mem_of_getElem? (i := 4) rfl)) rfl
theorem w1_40 : (Jvm.Cond.fieldLink "DotPress$Row" (44 : Nat) "DotPress$Ints" "items" "[I") ∈ lw_g := lw_in (mT1 (List.mem_of_getElem? (i := 40) rfl)) rfl
theorem w1_41 : (Jvm.Cond.fieldLink "DotPress$Reader" (154 : Nat) "DotPress$Ints" "items" "[I") ∈ lw_g := lw_in (mT1 (List.mem_of_getElem? (i := 41) rfl)) rfl
theorem w1_42 : (Jvm.Cond.fieldLink "DotPress$Setting" (142 : Nat) "DotPress$Ints" "items" "[I") ∈ lw_g := lw_in (mT1 (List.mem_of_getElem? (i := 42) rfl)) rfl
theorem w1_43 : (Jvm.Cond.fieldLink "DotPress$Ints" (7 : Nat) "DotPress$Ints" "size" "I") ∈ lw_g := lw_in (mT1 (List.mem_of_getElem? (i := 43) rfl)) rfl
theorem w1_44 : (Jvm.Cond.fieldLink "DotPress" (99 : Nat) "DotPress$Ints" "size" "I") ∈ lw_g := lw_in (mT1 (List.mem_of_getElem? (i := 44) rfl)) rfl
theorem w1_45 : (Jvm.Cond.fieldLink "DotPress$Source" (48 : Nat) "DotPress$Ints" "size" "I") ∈ lw_g := lw_in (mT1 (List.mem_of_getElem? (i := 45) rfl)) rfl
theorem w1_46 : (Jvm.Cond.fieldLink "DotPress$Row" (39 : Nat) "DotPress$Ints" "size" "I") ∈ lw_g := lw_in (mT1 (List.mem_of_getElem? (i := 46) rfl)) rfl
theorem w1_47 : (Jvm.Cond.fieldLink "DotPress$Setting" (51 : Nat) "DotPress$Ints" "size" "I") ∈ lw_g := lw_in (mT1 (List.mem_of_getElem? (i := 47) rfl)) rfl
theorem w1_48 : (Jvm.Cond.fieldLink "DotPress$Readings" (135 : Nat) "DotPress$Ints" "size" "I") ∈ lw_g := lw_in (mT1 (List.mem_of_getElem? (i := 48) rfl)) rfl
theorem w1_49 : (Jvm.Cond.fieldLink "DotPress$Reader" (118 : Nat) "DotPress$Ints" "size" "I") ∈ lw_g := lw_in (mT1 (List.mem_of_getElem? (i := 49) rfl)) rfl
theorem w1_5 : (Jvm.Cond.initialized "java/util/AbstractList") ∈ lw_g := lw_in (mT1 (List.mem_of_getElem? (i := 5) rfl)) rfl
theorem w1_50 : (Jvm.Cond.laysFinal "DotPress$Ints" "DotPress$Ints" "limit" "I") ∈ lw_g := lw_in (mT1 (List.mem_of_getElem? (i := 50) rfl)) rfl
theorem w1_52 : (Jvm.Cond.lays "DotPress$Ints" "DotPress$Ints" "items" "[I") ∈ lw_g := lw_in (mT1 (List.mem_of_getElem? (i := 52) rfl)) rfl
theorem w1_54 : (Jvm.Cond.lays "DotPress$Ints" "DotPress$Ints" "size" "I") ∈ lw_g := lw_in (mT1 (List.mem_of_getElem? (i := 54) rfl)) rfl
theorem w1_57t : (Jvm.Cond.arrayClass Jvm.ClassFile.FieldType.int) ∈ lw_tbl := mT1 (List.mem_of_getElem? (i := 57) rfl)
theorem w1_57 : (Jvm.Cond.arrayClass Jvm.ClassFile.FieldType.int) ∈ lw_g := lw_in (mT1 (List.mem_of_getElem? (i := 57) rfl)) rfl
theorem w1_58 : (Jvm.Cond.classLink "DotPress" (27 : Nat) "DotPress$Tables") ∈ lw_g := lw_in (mT1 (List.mem_of_getElem? (i := 58) rfl)) rfl
theorem w1_59 : (Jvm.Cond.instantiable "DotPress$Tables" (2 : Nat)) ∈ lw_g := lw_in (mT1 (List.mem_of_getElem? (i := 59) rfl)) rfl
theorem w1_6t : (Jvm.Cond.initialized "java/util/ArrayList") ∈ lw_tbl := mT1 (List.mem_of_getElem? (i := 6) rfl)
theorem w1_6 : (Jvm.Cond.initialized "java/util/ArrayList") ∈ lw_g := lw_in (mT1 (List.mem_of_getElem? (i := 6) rfl)) rfl
theorem w1_60t : (Jvm.Cond.methodLinkNest "DotPress" (29 : Nat) ({ cls := "DotPress$Tables", name := "<init>", desc := "()V" } : Jvm.MethodName) "DotPress") ∈ lw_tbl := mT1 (List.mem_of_getElem? (i := 60) rfl)
theorem w1_61 : (Jvm.Cond.instanceMethod ({ cls := "DotPress$Tables", name := "<init>", desc := "()V" } : Jvm.MethodName)) ∈ lw_g := lw_in (mT1 (List.mem_of_getElem? (i := 61) rfl)) rfl
theorem w1_62 : (Jvm.Cond.code ({ cls := "DotPress$Tables", name := "<init>", desc := "()V" } : Jvm.MethodName) prog_12_method_1_code (1 : Nat) (Option.none : Option Jvm.ClassFile.FieldType)) ∈ lw_g := lw_in (mT1 (List.mem_of_getElem? (i := 62) rfl)) rfl
theorem w1_63 : (Jvm.Cond.methodLink "DotPress$Tables" (3 : Nat) ({ cls := "java/lang/Object", name := "<init>", desc := "()V" } : Jvm.MethodName)) ∈ lw_g := lw_in (mT1 (List.mem_of_getElem? (i := 63) rfl)) rfl
theorem w1_64 : (Jvm.Cond.classLink "DotPress$Tables" (9 : Nat) "java/util/ArrayList") ∈ lw_g := lw_in (mT1 (List.mem_of_getElem? (i := 64) rfl)) rfl
theorem w1_65 : (Jvm.Cond.instantiable "java/util/ArrayList" (3 : Nat)) ∈ lw_g := lw_in (mT1 (List.mem_of_getElem? (i := 65) rfl)) rfl
theorem w1_66 : (Jvm.Cond.methodLink "DotPress$Tables" (11 : Nat) ({ cls := "java/util/ArrayList", name := "<init>", desc := "()V" } : Jvm.MethodName)) ∈ lw_g := lw_in (mT1 (List.mem_of_getElem? (i := 66) rfl)) rfl
theorem w1_67 : (Jvm.Cond.instanceMethod ({ cls := "java/util/ArrayList", name := "<init>", desc := "()V" } : Jvm.MethodName)) ∈ lw_g := lw_in (mT1 (List.mem_of_getElem? (i := 67) rfl)) rfl
theorem w1_68 : (Jvm.Cond.code ({ cls := "java/util/ArrayList", name := "<init>", desc := "()V" } : Jvm.MethodName) prog_23_method_2_code (1 : Nat) (Option.none : Option Jvm.ClassFile.FieldType)) ∈ lw_g := lw_in (mT1 (List.mem_of_getElem? (i := 68) rfl)) rfl
theorem w1_69 : (Jvm.Cond.methodLink "java/util/ArrayList" (1 : Nat) ({ cls := "java/util/AbstractList", name := "<init>", desc := "()V" } : Jvm.MethodName)) ∈ lw_g := lw_in (mT1 (List.mem_of_getElem? (i := 69) rfl)) rfl
theorem w1_7 : (Jvm.Cond.initialized "DotPress$Source") ∈ lw_g := lw_in (mT1 (List.mem_of_getElem? (i := 7) rfl)) rfl
theorem w1_70 : (Jvm.Cond.instanceMethod ({ cls := "java/util/AbstractList", name := "<init>", desc := "()V" } : Jvm.MethodName)) ∈ lw_g := lw_in (mT1 (List.mem_of_getElem? (i := 70) rfl)) rfl
theorem w1_71 : (Jvm.Cond.code ({ cls := "java/util/AbstractList", name := "<init>", desc := "()V" } : Jvm.MethodName) prog_22_method_1_code (1 : Nat) (Option.none : Option Jvm.ClassFile.FieldType)) ∈ lw_g := lw_in (mT1 (List.mem_of_getElem? (i := 71) rfl)) rfl
theorem w1_72 : (Jvm.Cond.methodLink "java/util/AbstractList" (1 : Nat) ({ cls := "java/util/AbstractCollection", name := "<init>", desc := "()V" } : Jvm.MethodName)) ∈ lw_g := lw_in (mT1 (List.mem_of_getElem? (i := 72) rfl)) rfl
theorem w1_73 : (Jvm.Cond.instanceMethod ({ cls := "java/util/AbstractCollection", name := "<init>", desc := "()V" } : Jvm.MethodName)) ∈ lw_g := lw_in (mT1 (List.mem_of_getElem? (i := 73) rfl)) rfl
theorem w1_74 : (Jvm.Cond.code ({ cls := "java/util/AbstractCollection", name := "<init>", desc := "()V" } : Jvm.MethodName) prog_21_method_1_code (1 : Nat) (Option.none : Option Jvm.ClassFile.FieldType)) ∈ lw_g := lw_in (mT1 (List.mem_of_getElem? (i := 74) rfl)) rfl
theorem w1_75 : (Jvm.Cond.methodLink "java/util/AbstractCollection" (1 : Nat) ({ cls := "java/lang/Object", name := "<init>", desc := "()V" } : Jvm.MethodName)) ∈ lw_g := lw_in (mT1 (List.mem_of_getElem? (i := 75) rfl)) rfl
theorem w1_76 : (Jvm.Cond.fieldLink "java/util/ArrayList" (39 : Nat) "java/util/ArrayList" "DEFAULTCAPACITY_EMPTY_ELEMENTDATA" "[Ljava/lang/Object;") ∈ lw_g := lw_in (mT1 (List.mem_of_getElem? (i := 76) rfl)) rfl
theorem w1_77t : (Jvm.Cond.laysStatic "java/util/ArrayList" "DEFAULTCAPACITY_EMPTY_ELEMENTDATA" "[Ljava/lang/Object;") ∈ lw_tbl := mT1 (List.mem_of_getElem? (i := 77) rfl)
theorem w1_78 : (Jvm.Cond.fieldLink "java/util/ArrayList" (9 : Nat) "java/util/ArrayList" "elementData" "[Ljava/lang/Object;") ∈ lw_g := lw_in (mT1 (List.mem_of_getElem? (i := 78) rfl)) rfl
theorem w1_79 : (Jvm.Cond.fieldLink "java/util/ArrayList" (48 : Nat) "java/util/ArrayList" "size" "I") ∈ lw_g := lw_in (mT1 (List.mem_of_getElem? (i := 79) rfl)) rfl
theorem w1_8 : (Jvm.Cond.initialized "DotPress$Setting") ∈ lw_g := lw_in (mT1 (List.mem_of_getElem? (i := 8) rfl)) rfl
theorem w1_80 : (Jvm.Cond.fieldLink "java/util/AbstractList" (7 : Nat) "java/util/AbstractList" "modCount" "I") ∈ lw_g := lw_in (mT1 (List.mem_of_getElem? (i := 80) rfl)) rfl
theorem w1_81 : (Jvm.Cond.fieldLink "java/util/ArrayList" (63 : Nat) "java/util/ArrayList" "modCount" "I") ∈ lw_g := lw_in (mT1 (List.mem_of_getElem? (i := 81) rfl)) rfl
theorem w1_82 : (Jvm.Cond.sameField "java/util/ArrayList" "java/util/AbstractList" "modCount" "I") ∈ lw_g := lw_in (mT1 (List.mem_of_getElem? (i := 82) rfl)) rfl
theorem w1_83 : (Jvm.Cond.lays "java/util/ArrayList" "java/util/ArrayList" "elementData" "[Ljava/lang/Object;") ∈ lw_g := lw_in (mT1 (List.mem_of_getElem? (i := 83) rfl)) rfl
theorem w1_85 : (Jvm.Cond.lays "java/util/ArrayList" "java/util/ArrayList" "size" "I") ∈ lw_g := lw_in (mT1 (List.mem_of_getElem? (i := 85) rfl)) rfl
theorem w1_87 : (Jvm.Cond.lays "java/util/ArrayList" "java/util/AbstractList" "modCount" "I") ∈ lw_g := lw_in (mT1 (List.mem_of_getElem? (i := 87) rfl)) rfl
theorem w1_9 : (Jvm.Cond.initialized "DotPress$Reader") ∈ lw_g := lw_in (mT1 (List.mem_of_getElem? (i := 9) rfl)) rfl
theorem w1_90 : (Jvm.Cond.fieldLink "DotPress$Tables" (12 : Nat) "DotPress$Tables" "made" "Ljava/util/ArrayList;") ∈ lw_g := lw_in (mT1 (List.mem_of_getElem? (i := 90) rfl)) rfl
theorem w1_91 : (Jvm.Cond.fieldLink "DotPress$Tables" (18 : Nat) "DotPress$Tables" "changes" "Ljava/util/ArrayList;") ∈ lw_g := lw_in (mT1 (List.mem_of_getElem? (i := 91) rfl)) rfl
theorem w1_92 : (Jvm.Cond.laysFinal "DotPress$Tables" "DotPress$Tables" "made" "Ljava/util/ArrayList;") ∈ lw_g := lw_in (mT1 (List.mem_of_getElem? (i := 92) rfl)) rfl
theorem w1_94 : (Jvm.Cond.laysFinal "DotPress$Tables" "DotPress$Tables" "changes" "Ljava/util/ArrayList;") ∈ lw_g := lw_in (mT1 (List.mem_of_getElem? (i := 94) rfl)) rfl
theorem w1_97 : (Jvm.Cond.classLink "DotPress" (34 : Nat) "DotPress$Source") ∈ lw_g := lw_in (mT1 (List.mem_of_getElem? (i := 97) rfl)) rfl
theorem w1_98 : (Jvm.Cond.instantiable "DotPress$Source" (8 : Nat)) ∈ lw_g := lw_in (mT1 (List.mem_of_getElem? (i := 98) rfl)) rfl
theorem w1_99t : (Jvm.Cond.methodLinkNest "DotPress" (36 : Nat) ({ cls := "DotPress$Source", name := "<init>", desc := "()V" } : Jvm.MethodName) "DotPress") ∈ lw_tbl := mT1 (List.mem_of_getElem? (i := 99) rfl)
theorem w2_0 : (Jvm.Cond.fieldLink "DotPress$Readings" (46 : Nat) "DotPress$Readings" "size" "I") ∈ lw_g := lw_in (mT2 (List.mem_of_getElem? (i := 0) rfl)) rfl
theorem w2_1 : (Jvm.Cond.fieldLink "DotPress$Readings" (49 : Nat) "DotPress$Readings" "seen" "I") ∈ lw_g := lw_in (mT2 (List.mem_of_getElem? (i := 1) rfl)) rfl
theorem w2_10 : (Jvm.Cond.laysFinal "DotPress$Readings" "DotPress$Readings" "bytes" "LDotPress$Ints;") ∈ lw_g := lw_in (mT2 (List.mem_of_getElem? (i := 10) rfl)) rfl
theorem w2_102 : (Jvm.Cond.methodLink "DotPressLaw" (13 : Nat) ({ cls := "DotPress", name := "feed", desc := "(IIIII)I" } : Jvm.MethodName)) ∈ lw_g := lw_in (mT2 (List.mem_of_getElem? (i := 102) rfl)) rfl
theorem w2_103 : (Jvm.Cond.instanceMethod ({ cls := "DotPress", name := "feed", desc := "(IIIII)I" } : Jvm.MethodName)) ∈ lw_g := lw_in (mT2 (List.mem_of_getElem? (i := 103) rfl)) rfl
theorem w2_104 : (Jvm.Cond.selects "DotPress" ({ cls := "DotPress", name := "feed", desc := "(IIIII)I" } : Jvm.MethodName) ({ cls := "DotPress", name := "feed", desc := "(IIIII)I" } : Jvm.MethodName)) ∈ lw_g := lw_in (mT2 (List.mem_of_getElem? (i := 104) rfl)) rfl
theorem w2_105 : (Jvm.Cond.code ({ cls := "DotPress", name := "feed", desc := "(IIIII)I" } : Jvm.MethodName) prog_1_method_2_code (6 : Nat) (Option.some Jvm.ClassFile.FieldType.int)) ∈ lw_g := lw_in (mT2 (List.mem_of_getElem? (i := 105) rfl)) rfl
theorem w2_106 : (Jvm.Cond.methodLink "DotPress" (102 : Nat) ({ cls := "DotPress", name := "refuse", desc := "(I)I" } : Jvm.MethodName)) ∈ lw_g := lw_in (mT2 (List.mem_of_getElem? (i := 106) rfl)) rfl
theorem w2_108 : (Jvm.Cond.instanceMethod ({ cls := "DotPress", name := "refuse", desc := "(I)I" } : Jvm.MethodName)) ∈ lw_g := lw_in (mT2 (List.mem_of_getElem? (i := 108) rfl)) rfl
theorem w2_109 : (Jvm.Cond.code ({ cls := "DotPress", name := "refuse", desc := "(I)I" } : Jvm.MethodName) prog_1_method_54_code (2 : Nat) (Option.some Jvm.ClassFile.FieldType.int)) ∈ lw_g := lw_in (mT2 (List.mem_of_getElem? (i := 109) rfl)) rfl
theorem w2_110 : (Jvm.Cond.methodLink "DotPress" (106 : Nat) ({ cls := "DotPress", name := "feedFour", desc := "(I)V" } : Jvm.MethodName)) ∈ lw_g := lw_in (mT2 (List.mem_of_getElem? (i := 110) rfl)) rfl
theorem w2_112 : (Jvm.Cond.instanceMethod ({ cls := "DotPress", name := "feedFour", desc := "(I)V" } : Jvm.MethodName)) ∈ lw_g := lw_in (mT2 (List.mem_of_getElem? (i := 112) rfl)) rfl
theorem w2_113 : (Jvm.Cond.code ({ cls := "DotPress", name := "feedFour", desc := "(I)V" } : Jvm.MethodName) prog_1_method_3_code (3 : Nat) (Option.none : Option Jvm.ClassFile.FieldType)) ∈ lw_g := lw_in (mT2 (List.mem_of_getElem? (i := 113) rfl)) rfl
theorem w2_114 : (Jvm.Cond.methodLink "DotPress" (112 : Nat) ({ cls := "DotPress$Ints", name := "add", desc := "(I)V" } : Jvm.MethodName)) ∈ lw_g := lw_in (mT2 (List.mem_of_getElem? (i := 114) rfl)) rfl
theorem w2_115 : (Jvm.Cond.instanceMethod ({ cls := "DotPress$Ints", name := "add", desc := "(I)V" } : Jvm.MethodName)) ∈ lw_g := lw_in (mT2 (List.mem_of_getElem? (i := 115) rfl)) rfl
theorem w2_116 : (Jvm.Cond.selects "DotPress$Ints" ({ cls := "DotPress$Ints", name := "add", desc := "(I)V" } : Jvm.MethodName) ({ cls := "DotPress$Ints", name := "add", desc := "(I)V" } : Jvm.MethodName)) ∈ lw_g := lw_in (mT2 (List.mem_of_getElem? (i := 116) rfl)) rfl
theorem w2_117 : (Jvm.Cond.code ({ cls := "DotPress$Ints", name := "add", desc := "(I)V" } : Jvm.MethodName) prog_3_method_2_code (2 : Nat) (Option.none : Option Jvm.ClassFile.FieldType)) ∈ lw_g := lw_in (mT2 (List.mem_of_getElem? (i := 117) rfl)) rfl
theorem w2_118 : (Jvm.Cond.methodLink "DotPress$Ints" (20 : Nat) ({ cls := "java/util/Arrays", name := "copyOf", desc := "([II)[I" } : Jvm.MethodName)) ∈ lw_g := lw_in (mT2 (List.mem_of_getElem? (i := 118) rfl)) rfl
theorem w2_119 : (Jvm.Cond.static ({ cls := "java/util/Arrays", name := "copyOf", desc := "([II)[I" } : Jvm.MethodName)) ∈ lw_g := lw_in (mT2 (List.mem_of_getElem? (i := 119) rfl)) rfl
theorem w2_12 : (Jvm.Cond.lays "DotPress$Readings" "DotPress$Readings" "count" "I") ∈ lw_g := lw_in (mT2 (List.mem_of_getElem? (i := 12) rfl)) rfl
theorem w2_120 : (Jvm.Cond.code ({ cls := "java/util/Arrays", name := "copyOf", desc := "([II)[I" } : Jvm.MethodName) prog_24_method_123_code (3 : Nat) (Option.some (Jvm.ClassFile.FieldType.array Jvm.ClassFile.FieldType.int))) ∈ lw_g := lw_in (mT2 (List.mem_of_getElem? (i := 120) rfl)) rfl
theorem w2_128 : (Jvm.Cond.methodLink "java/util/Arrays" (304 : Nat) ({ cls := "java/lang/Math", name := "min", desc := "(II)I" } : Jvm.MethodName)) ∈ lw_g := lw_in (mT2 (List.mem_of_getElem? (i := 128) rfl)) rfl
theorem w2_129 : (Jvm.Cond.static ({ cls := "java/lang/Math", name := "min", desc := "(II)I" } : Jvm.MethodName)) ∈ lw_g := lw_in (mT2 (List.mem_of_getElem? (i := 129) rfl)) rfl
theorem w2_130 : (Jvm.Cond.code ({ cls := "java/lang/Math", name := "min", desc := "(II)I" } : Jvm.MethodName) prog_19_method_69_code (2 : Nat) (Option.some Jvm.ClassFile.FieldType.int)) ∈ lw_g := lw_in (mT2 (List.mem_of_getElem? (i := 130) rfl)) rfl
theorem w2_131 : (Jvm.Cond.methodLink "java/util/Arrays" (150 : Nat) ({ cls := "java/lang/System", name := "arraycopy", desc := "(Ljava/lang/Object;ILjava/lang/Object;II)V" } : Jvm.MethodName)) ∈ lw_g := lw_in (mT2 (List.mem_of_getElem? (i := 131) rfl)) rfl
theorem w2_132 : (Jvm.Cond.static ({ cls := "java/lang/System", name := "arraycopy", desc := "(Ljava/lang/Object;ILjava/lang/Object;II)V" } : Jvm.MethodName)) ∈ lw_g := lw_in (mT2 (List.mem_of_getElem? (i := 132) rfl)) rfl
theorem w2_133 : (Jvm.Cond.native ({ cls := "java/lang/System", name := "arraycopy", desc := "(Ljava/lang/Object;ILjava/lang/Object;II)V" } : Jvm.MethodName)) ∈ lw_g := lw_in (mT2 (List.mem_of_getElem? (i := 133) rfl)) rfl
theorem w2_134 : (Jvm.Cond.methodLink "DotPress" (109 : Nat) ({ cls := "DotPress", name := "done", desc := "(I)I" } : Jvm.MethodName)) ∈ lw_g := lw_in (mT2 (List.mem_of_getElem? (i := 134) rfl)) rfl
theorem w2_136 : (Jvm.Cond.instanceMethod ({ cls := "DotPress", name := "done", desc := "(I)I" } : Jvm.MethodName)) ∈ lw_g := lw_in (mT2 (List.mem_of_getElem? (i := 136) rfl)) rfl
theorem w2_137 : (Jvm.Cond.code ({ cls := "DotPress", name := "done", desc := "(I)I" } : Jvm.MethodName) prog_1_method_53_code (2 : Nat) (Option.some Jvm.ClassFile.FieldType.int)) ∈ lw_g := lw_in (mT2 (List.mem_of_getElem? (i := 137) rfl)) rfl
theorem w2_138 : (Jvm.Cond.methodLink "DotPressLaw" (18 : Nat) ({ cls := "DotPress", name := "end", desc := "(I)I" } : Jvm.MethodName)) ∈ lw_g := lw_in (mT2 (List.mem_of_getElem? (i := 138) rfl)) rfl
theorem w2_139 : (Jvm.Cond.instanceMethod ({ cls := "DotPress", name := "end", desc := "(I)I" } : Jvm.MethodName)) ∈ lw_g := lw_in (mT2 (List.mem_of_getElem? (i := 139) rfl)) rfl
theorem w2_14 : (Jvm.Cond.lays "DotPress$Readings" "DotPress$Readings" "leftSome" "Z") ∈ lw_g := lw_in (mT2 (List.mem_of_getElem? (i := 14) rfl)) rfl
theorem w2_140 : (Jvm.Cond.selects "DotPress" ({ cls := "DotPress", name := "end", desc := "(I)I" } : Jvm.MethodName) ({ cls := "DotPress", name := "end", desc := "(I)I" } : Jvm.MethodName)) ∈ lw_g := lw_in (mT2 (List.mem_of_getElem? (i := 140) rfl)) rfl
theorem w2_141 : (Jvm.Cond.code ({ cls := "DotPress", name := "end", desc := "(I)I" } : Jvm.MethodName) prog_1_method_4_code (2 : Nat) (Option.some Jvm.ClassFile.FieldType.int)) ∈ lw_g := lw_in (mT2 (List.mem_of_getElem? (i := 141) rfl)) rfl
theorem w2_142 : (Jvm.Cond.methodLink "DotPress" (115 : Nat) ({ cls := "DotPress$Ints", name := "keep", desc := "(I)V" } : Jvm.MethodName)) ∈ lw_g := lw_in (mT2 (List.mem_of_getElem? (i := 142) rfl)) rfl
theorem w2_143 : (Jvm.Cond.instanceMethod ({ cls := "DotPress$Ints", name := "keep", desc := "(I)V" } : Jvm.MethodName)) ∈ lw_g := lw_in (mT2 (List.mem_of_getElem? (i := 143) rfl)) rfl
theorem w2_144 : (Jvm.Cond.selects "DotPress$Ints" ({ cls := "DotPress$Ints", name := "keep", desc := "(I)V" } : Jvm.MethodName) ({ cls := "DotPress$Ints", name := "keep", desc := "(I)V" } : Jvm.MethodName)) ∈ lw_g := lw_in (mT2 (List.mem_of_getElem? (i := 144) rfl)) rfl
theorem w2_145 : (Jvm.Cond.code ({ cls := "DotPress$Ints", name := "keep", desc := "(I)V" } : Jvm.MethodName) prog_3_method_6_code (2 : Nat) (Option.none : Option Jvm.ClassFile.FieldType)) ∈ lw_g := lw_in (mT2 (List.mem_of_getElem? (i := 145) rfl)) rfl
theorem w2_146 : (Jvm.Cond.methodLink "DotPress$Ints" (30 : Nat) ({ cls := "java/lang/Math", name := "min", desc := "(II)I" } : Jvm.MethodName)) ∈ lw_g := lw_in (mT2 (List.mem_of_getElem? (i := 146) rfl)) rfl
theorem w2_147 : (Jvm.Cond.methodLink "DotPress$Ints" (36 : Nat) ({ cls := "java/lang/Math", name := "max", desc := "(II)I" } : Jvm.MethodName)) ∈ lw_g := lw_in (mT2 (List.mem_of_getElem? (i := 147) rfl)) rfl
theorem w2_148 : (Jvm.Cond.static ({ cls := "java/lang/Math", name := "max", desc := "(II)I" } : Jvm.MethodName)) ∈ lw_g := lw_in (mT2 (List.mem_of_getElem? (i := 148) rfl)) rfl
theorem w2_149 : (Jvm.Cond.code ({ cls := "java/lang/Math", name := "max", desc := "(II)I" } : Jvm.MethodName) prog_19_method_65_code (2 : Nat) (Option.some Jvm.ClassFile.FieldType.int)) ∈ lw_g := lw_in (mT2 (List.mem_of_getElem? (i := 149) rfl)) rfl
theorem w2_150 : (Jvm.Cond.methodLink "DotPressLaw" (23 : Nat) ({ cls := "DotPress", name := "table", desc := "(III)I" } : Jvm.MethodName)) ∈ lw_g := lw_in (mT2 (List.mem_of_getElem? (i := 150) rfl)) rfl
theorem w2_151 : (Jvm.Cond.instanceMethod ({ cls := "DotPress", name := "table", desc := "(III)I" } : Jvm.MethodName)) ∈ lw_g := lw_in (mT2 (List.mem_of_getElem? (i := 151) rfl)) rfl
theorem w2_152 : (Jvm.Cond.selects "DotPress" ({ cls := "DotPress", name := "table", desc := "(III)I" } : Jvm.MethodName) ({ cls := "DotPress", name := "table", desc := "(III)I" } : Jvm.MethodName)) ∈ lw_g := lw_in (mT2 (List.mem_of_getElem? (i := 152) rfl)) rfl
theorem w2_153 : (Jvm.Cond.code ({ cls := "DotPress", name := "table", desc := "(III)I" } : Jvm.MethodName) prog_1_method_5_code (5 : Nat) (Option.some Jvm.ClassFile.FieldType.int)) ∈ lw_g := lw_in (mT2 (List.mem_of_getElem? (i := 153) rfl)) rfl
theorem w2_154 : (Jvm.Cond.methodLink "DotPress" (118 : Nat) ({ cls := "DotPress$Tables", name := "isFull", desc := "()Z" } : Jvm.MethodName)) ∈ lw_g := lw_in (mT2 (List.mem_of_getElem? (i := 154) rfl)) rfl
theorem w2_155 : (Jvm.Cond.instanceMethod ({ cls := "DotPress$Tables", name := "isFull", desc := "()Z" } : Jvm.MethodName)) ∈ lw_g := lw_in (mT2 (List.mem_of_getElem? (i := 155) rfl)) rfl
theorem w2_156 : (Jvm.Cond.selects "DotPress$Tables" ({ cls := "DotPress$Tables", name := "isFull", desc := "()Z" } : Jvm.MethodName) ({ cls := "DotPress$Tables", name := "isFull", desc := "()Z" } : Jvm.MethodName)) ∈ lw_g := lw_in (mT2 (List.mem_of_getElem? (i := 156) rfl)) rfl
theorem w2_157 : (Jvm.Cond.code ({ cls := "DotPress$Tables", name := "isFull", desc := "()Z" } : Jvm.MethodName) prog_12_method_2_code (1 : Nat) (Option.some Jvm.ClassFile.FieldType.boolean)) ∈ lw_g := lw_in (mT2 (List.mem_of_getElem? (i := 157) rfl)) rfl
theorem w2_158 : (Jvm.Cond.methodLink "DotPress$Tables" (21 : Nat) ({ cls := "java/util/ArrayList", name := "size", desc := "()I" } : Jvm.MethodName)) ∈ lw_g := lw_in (mT2 (List.mem_of_getElem? (i := 158) rfl)) rfl
theorem w2_159 : (Jvm.Cond.instanceMethod ({ cls := "java/util/ArrayList", name := "size", desc := "()I" } : Jvm.MethodName)) ∈ lw_g := lw_in (mT2 (List.mem_of_getElem? (i := 159) rfl)) rfl
theorem w2_16 : (Jvm.Cond.laysFinal "DotPress$Readings" "DotPress$Readings" "rows" "LDotPress$Reader;") ∈ lw_g := lw_in (mT2 (List.mem_of_getElem? (i := 16) rfl)) rfl
theorem w2_160 : (Jvm.Cond.selects "java/util/ArrayList" ({ cls := "java/util/ArrayList", name := "size", desc := "()I" } : Jvm.MethodName) ({ cls := "java/util/ArrayList", name := "size", desc := "()I" } : Jvm.MethodName)) ∈ lw_g := lw_in (mT2 (List.mem_of_getElem? (i := 160) rfl)) rfl
theorem w2_161 : (Jvm.Cond.code ({ cls := "java/util/ArrayList", name := "size", desc := "()I" } : Jvm.MethodName) prog_23_method_8_code (1 : Nat) (Option.some Jvm.ClassFile.FieldType.int)) ∈ lw_g := lw_in (mT2 (List.mem_of_getElem? (i := 161) rfl)) rfl
theorem w2_162 : (Jvm.Cond.classLink "DotPress" (122 : Nat) "DotPress$Table") ∈ lw_g := lw_in (mT2 (List.mem_of_getElem? (i := 162) rfl)) rfl
theorem w2_163 : (Jvm.Cond.instantiable "DotPress$Table" (8 : Nat)) ∈ lw_g := lw_in (mT2 (List.mem_of_getElem? (i := 163) rfl)) rfl
theorem w2_164 : (Jvm.Cond.methodLink "DotPress" (124 : Nat) ({ cls := "DotPress$Table", name := "<init>", desc := "(IILDotPress$Table;LDotPress$Table;)V" } : Jvm.MethodName)) ∈ lw_g := lw_in (mT2 (List.mem_of_getElem? (i := 164) rfl)) rfl
theorem w2_165 : (Jvm.Cond.instanceMethod ({ cls := "DotPress$Table", name := "<init>", desc := "(IILDotPress$Table;LDotPress$Table;)V" } : Jvm.MethodName)) ∈ lw_g := lw_in (mT2 (List.mem_of_getElem? (i := 165) rfl)) rfl
theorem w2_166 : (Jvm.Cond.code ({ cls := "DotPress$Table", name := "<init>", desc := "(IILDotPress$Table;LDotPress$Table;)V" } : Jvm.MethodName) prog_11_method_1_code (5 : Nat) (Option.none : Option Jvm.ClassFile.FieldType)) ∈ lw_g := lw_in (mT2 (List.mem_of_getElem? (i := 166) rfl)) rfl
theorem w2_167 : (Jvm.Cond.methodLink "DotPress$Table" (3 : Nat) ({ cls := "java/lang/Object", name := "<init>", desc := "()V" } : Jvm.MethodName)) ∈ lw_g := lw_in (mT2 (List.mem_of_getElem? (i := 167) rfl)) rfl
theorem w2_168 : (Jvm.Cond.classLink "DotPress$Table" (9 : Nat) "java/util/ArrayList") ∈ lw_g := lw_in (mT2 (List.mem_of_getElem? (i := 168) rfl)) rfl
theorem w2_169 : (Jvm.Cond.methodLink "DotPress$Table" (11 : Nat) ({ cls := "java/util/ArrayList", name := "<init>", desc := "()V" } : Jvm.MethodName)) ∈ lw_g := lw_in (mT2 (List.mem_of_getElem? (i := 169) rfl)) rfl
theorem w2_170 : (Jvm.Cond.classLink "DotPress$Table" (18 : Nat) "DotPress$Ints") ∈ lw_g := lw_in (mT2 (List.mem_of_getElem? (i := 170) rfl)) rfl
theorem w2_171 : (Jvm.Cond.methodLink "DotPress$Table" (20 : Nat) ({ cls := "DotPress$Ints", name := "<init>", desc := "(I)V" } : Jvm.MethodName)) ∈ lw_g := lw_in (mT2 (List.mem_of_getElem? (i := 171) rfl)) rfl
theorem w2_172 : (Jvm.Cond.classLink "DotPress$Table" (27 : Nat) "DotPress$Row") ∈ lw_g := lw_in (mT2 (List.mem_of_getElem? (i := 172) rfl)) rfl
theorem w2_173t : (Jvm.Cond.arrayOver (Jvm.ClassFile.FieldType.object "DotPress$Row")) ∈ lw_tbl := mT2 (List.mem_of_getElem? (i := 173) rfl)
theorem w2_174 : (Jvm.Cond.fieldLink "DotPress$Table" (37 : Nat) "DotPress$Table" "kind" "I") ∈ lw_g := lw_in (mT2 (List.mem_of_getElem? (i := 174) rfl)) rfl
theorem w2_175 : (Jvm.Cond.fieldLink "DotPress$Reader" (50 : Nat) "DotPress$Table" "kind" "I") ∈ lw_g := lw_in (mT2 (List.mem_of_getElem? (i := 175) rfl)) rfl
theorem w2_176 : (Jvm.Cond.fieldLink "DotPress" (135 : Nat) "DotPress$Table" "kind" "I") ∈ lw_g := lw_in (mT2 (List.mem_of_getElem? (i := 176) rfl)) rfl
theorem w2_177 : (Jvm.Cond.fieldLink "DotPress$Setting" (62 : Nat) "DotPress$Table" "kind" "I") ∈ lw_g := lw_in (mT2 (List.mem_of_getElem? (i := 177) rfl)) rfl
theorem w2_178 : (Jvm.Cond.fieldLink "DotPress$Table" (41 : Nat) "DotPress$Table" "dots" "I") ∈ lw_g := lw_in (mT2 (List.mem_of_getElem? (i := 178) rfl)) rfl
theorem w2_179 : (Jvm.Cond.fieldLink "DotPress" (138 : Nat) "DotPress$Table" "dots" "I") ∈ lw_g := lw_in (mT2 (List.mem_of_getElem? (i := 179) rfl)) rfl
theorem w2_18 : (Jvm.Cond.laysFinal "DotPress$Readings" "DotPress$Readings" "cells" "[I") ∈ lw_g := lw_in (mT2 (List.mem_of_getElem? (i := 18) rfl)) rfl
theorem w2_180 : (Jvm.Cond.fieldLink "DotPress$Table" (44 : Nat) "DotPress$Table" "base" "LDotPress$Table;") ∈ lw_g := lw_in (mT2 (List.mem_of_getElem? (i := 180) rfl)) rfl
theorem w2_181 : (Jvm.Cond.fieldLink "DotPress$Reader" (55 : Nat) "DotPress$Table" "base" "LDotPress$Table;") ∈ lw_g := lw_in (mT2 (List.mem_of_getElem? (i := 181) rfl)) rfl
theorem w2_182 : (Jvm.Cond.fieldLink "DotPress$Setting" (67 : Nat) "DotPress$Table" "base" "LDotPress$Table;") ∈ lw_g := lw_in (mT2 (List.mem_of_getElem? (i := 182) rfl)) rfl
theorem w2_183 : (Jvm.Cond.fieldLink "DotPress$Table" (48 : Nat) "DotPress$Table" "second" "LDotPress$Table;") ∈ lw_g := lw_in (mT2 (List.mem_of_getElem? (i := 183) rfl)) rfl
theorem w2_184 : (Jvm.Cond.fieldLink "DotPress$Reader" (71 : Nat) "DotPress$Table" "second" "LDotPress$Table;") ∈ lw_g := lw_in (mT2 (List.mem_of_getElem? (i := 184) rfl)) rfl
theorem w2_185 : (Jvm.Cond.fieldLink "DotPress$Setting" (71 : Nat) "DotPress$Table" "second" "LDotPress$Table;") ∈ lw_g := lw_in (mT2 (List.mem_of_getElem? (i := 185) rfl)) rfl
theorem w2_186 : (Jvm.Cond.fieldLink "DotPress$Table" (12 : Nat) "DotPress$Table" "rules" "Ljava/util/ArrayList;") ∈ lw_g := lw_in (mT2 (List.mem_of_getElem? (i := 186) rfl)) rfl
theorem w2_187 : (Jvm.Cond.fieldLink "DotPress$Reader" (94 : Nat) "DotPress$Table" "rules" "Ljava/util/ArrayList;") ∈ lw_g := lw_in (mT2 (List.mem_of_getElem? (i := 187) rfl)) rfl
theorem w2_188 : (Jvm.Cond.fieldLink "DotPress" (179 : Nat) "DotPress$Table" "rules" "Ljava/util/ArrayList;") ∈ lw_g := lw_in (mT2 (List.mem_of_getElem? (i := 188) rfl)) rfl
theorem w2_189 : (Jvm.Cond.fieldLink "DotPress$Setting" (130 : Nat) "DotPress$Table" "rules" "Ljava/util/ArrayList;") ∈ lw_g := lw_in (mT2 (List.mem_of_getElem? (i := 189) rfl)) rfl
theorem w2_190 : (Jvm.Cond.fieldLink "DotPress$Table" (23 : Nat) "DotPress$Table" "initials" "LDotPress$Ints;") ∈ lw_g := lw_in (mT2 (List.mem_of_getElem? (i := 190) rfl)) rfl
theorem w2_191 : (Jvm.Cond.fieldLink "DotPress$Setting" (126 : Nat) "DotPress$Table" "initials" "LDotPress$Ints;") ∈ lw_g := lw_in (mT2 (List.mem_of_getElem? (i := 191) rfl)) rfl
theorem w2_192 : (Jvm.Cond.fieldLink "DotPress$Table" (29 : Nat) "DotPress$Table" "indicators" "[LDotPress$Row;") ∈ lw_g := lw_in (mT2 (List.mem_of_getElem? (i := 192) rfl)) rfl
theorem w2_193 : (Jvm.Cond.fieldLink "DotPress$Reader" (63 : Nat) "DotPress$Table" "indicators" "[LDotPress$Row;") ∈ lw_g := lw_in (mT2 (List.mem_of_getElem? (i := 193) rfl)) rfl
theorem w2_194 : (Jvm.Cond.fieldLink "DotPress$Tables" (85 : Nat) "DotPress$Table" "indicators" "[LDotPress$Row;") ∈ lw_g := lw_in (mT2 (List.mem_of_getElem? (i := 194) rfl)) rfl
theorem w2_195 : (Jvm.Cond.fieldLink "DotPress$Setting" (78 : Nat) "DotPress$Table" "indicators" "[LDotPress$Row;") ∈ lw_g := lw_in (mT2 (List.mem_of_getElem? (i := 195) rfl)) rfl
theorem w2_196 : (Jvm.Cond.fieldLink "DotPress" (214 : Nat) "DotPress$Table" "indicators" "[LDotPress$Row;") ∈ lw_g := lw_in (mT2 (List.mem_of_getElem? (i := 196) rfl)) rfl
theorem w2_197 : (Jvm.Cond.fieldLink "DotPress$Table" (33 : Nat) "DotPress$Table" "dropped" "Z") ∈ lw_g := lw_in (mT2 (List.mem_of_getElem? (i := 197) rfl)) rfl
theorem w2_198 : (Jvm.Cond.fieldLink "DotPress$Tables" (31 : Nat) "DotPress$Table" "dropped" "Z") ∈ lw_g := lw_in (mT2 (List.mem_of_getElem? (i := 198) rfl)) rfl
theorem w2_199 : (Jvm.Cond.fieldLink "DotPress" (156 : Nat) "DotPress$Table" "dropped" "Z") ∈ lw_g := lw_in (mT2 (List.mem_of_getElem? (i := 199) rfl)) rfl
theorem w2_2 : (Jvm.Cond.laysFinal "DotPress$Readings" "DotPress$Readings" "canEnd" "[Z") ∈ lw_g := lw_in (mT2 (List.mem_of_getElem? (i := 2) rfl)) rfl
theorem w2_20 : (Jvm.Cond.lays "DotPress$Readings" "DotPress$Readings" "size" "I") ∈ lw_g := lw_in (mT2 (List.mem_of_getElem? (i := 20) rfl)) rfl
theorem w2_200 : (Jvm.Cond.laysFinal "DotPress$Table" "DotPress$Table" "kind" "I") ∈ lw_g := lw_in (mT2 (List.mem_of_getElem? (i := 200) rfl)) rfl
theorem w2_202 : (Jvm.Cond.laysFinal "DotPress$Table" "DotPress$Table" "dots" "I") ∈ lw_g := lw_in (mT2 (List.mem_of_getElem? (i := 202) rfl)) rfl
theorem w2_204 : (Jvm.Cond.laysFinal "DotPress$Table" "DotPress$Table" "base" "LDotPress$Table;") ∈ lw_g := lw_in (mT2 (List.mem_of_getElem? (i := 204) rfl)) rfl
theorem w2_206 : (Jvm.Cond.laysFinal "DotPress$Table" "DotPress$Table" "second" "LDotPress$Table;") ∈ lw_g := lw_in (mT2 (List.mem_of_getElem? (i := 206) rfl)) rfl
theorem w2_208 : (Jvm.Cond.laysFinal "DotPress$Table" "DotPress$Table" "rules" "Ljava/util/ArrayList;") ∈ lw_g := lw_in (mT2 (List.mem_of_getElem? (i := 208) rfl)) rfl
theorem w2_210 : (Jvm.Cond.laysFinal "DotPress$Table" "DotPress$Table" "initials" "LDotPress$Ints;") ∈ lw_g := lw_in (mT2 (List.mem_of_getElem? (i := 210) rfl)) rfl
theorem w2_212 : (Jvm.Cond.laysFinal "DotPress$Table" "DotPress$Table" "indicators" "[LDotPress$Row;") ∈ lw_g := lw_in (mT2 (List.mem_of_getElem? (i := 212) rfl)) rfl
theorem w2_214 : (Jvm.Cond.lays "DotPress$Table" "DotPress$Table" "dropped" "Z") ∈ lw_g := lw_in (mT2 (List.mem_of_getElem? (i := 214) rfl)) rfl
theorem w2_217 : (Jvm.Cond.methodLink "DotPress" (127 : Nat) ({ cls := "DotPress$Tables", name := "make", desc := "(LDotPress$Table;)I" } : Jvm.MethodName)) ∈ lw_g := lw_in (mT2 (List.mem_of_getElem? (i := 217) rfl)) rfl
theorem w2_218 : (Jvm.Cond.instanceMethod ({ cls := "DotPress$Tables", name := "make", desc := "(LDotPress$Table;)I" } : Jvm.MethodName)) ∈ lw_g := lw_in (mT2 (List.mem_of_getElem? (i := 218) rfl)) rfl
theorem w2_219 : (Jvm.Cond.selects "DotPress$Tables" ({ cls := "DotPress$Tables", name := "make", desc := "(LDotPress$Table;)I" } : Jvm.MethodName) ({ cls := "DotPress$Tables", name := "make", desc := "(LDotPress$Table;)I" } : Jvm.MethodName)) ∈ lw_g := lw_in (mT2 (List.mem_of_getElem? (i := 219) rfl)) rfl
theorem w2_22 : (Jvm.Cond.lays "DotPress$Readings" "DotPress$Readings" "seen" "I") ∈ lw_g := lw_in (mT2 (List.mem_of_getElem? (i := 22) rfl)) rfl
theorem w2_220 : (Jvm.Cond.code ({ cls := "DotPress$Tables", name := "make", desc := "(LDotPress$Table;)I" } : Jvm.MethodName) prog_12_method_5_code (2 : Nat) (Option.some Jvm.ClassFile.FieldType.int)) ∈ lw_g := lw_in (mT2 (List.mem_of_getElem? (i := 220) rfl)) rfl
theorem w2_221 : (Jvm.Cond.methodLink "DotPress$Tables" (43 : Nat) ({ cls := "java/util/ArrayList", name := "add", desc := "(Ljava/lang/Object;)Z" } : Jvm.MethodName)) ∈ lw_g := lw_in (mT2 (List.mem_of_getElem? (i := 221) rfl)) rfl
theorem w2_222 : (Jvm.Cond.instanceMethod ({ cls := "java/util/ArrayList", name := "add", desc := "(Ljava/lang/Object;)Z" } : Jvm.MethodName)) ∈ lw_g := lw_in (mT2 (List.mem_of_getElem? (i := 222) rfl)) rfl
theorem w2_223 : (Jvm.Cond.selects "java/util/ArrayList" ({ cls := "java/util/ArrayList", name := "add", desc := "(Ljava/lang/Object;)Z" } : Jvm.MethodName) ({ cls := "java/util/ArrayList", name := "add", desc := "(Ljava/lang/Object;)Z" } : Jvm.MethodName)) ∈ lw_g := lw_in (mT2 (List.mem_of_getElem? (i := 223) rfl)) rfl
theorem w2_224 : (Jvm.Cond.code ({ cls := "java/util/ArrayList", name := "add", desc := "(Ljava/lang/Object;)Z" } : Jvm.MethodName) prog_23_method_25_code (2 : Nat) (Option.some Jvm.ClassFile.FieldType.boolean)) ∈ lw_g := lw_in (mT2 (List.mem_of_getElem? (i := 224) rfl)) rfl
theorem w2_225 : (Jvm.Cond.methodLink "java/util/ArrayList" (131 : Nat) ({ cls := "java/util/ArrayList", name := "add", desc := "(Ljava/lang/Object;[Ljava/lang/Object;I)V" } : Jvm.MethodName)) ∈ lw_g := lw_in (mT2 (List.mem_of_getElem? (i := 225) rfl)) rfl
theorem w2_227 : (Jvm.Cond.instanceMethod ({ cls := "java/util/ArrayList", name := "add", desc := "(Ljava/lang/Object;[Ljava/lang/Object;I)V" } : Jvm.MethodName)) ∈ lw_g := lw_in (mT2 (List.mem_of_getElem? (i := 227) rfl)) rfl
theorem w2_228 : (Jvm.Cond.code ({ cls := "java/util/ArrayList", name := "add", desc := "(Ljava/lang/Object;[Ljava/lang/Object;I)V" } : Jvm.MethodName) prog_23_method_24_code (4 : Nat) (Option.none : Option Jvm.ClassFile.FieldType)) ∈ lw_g := lw_in (mT2 (List.mem_of_getElem? (i := 228) rfl)) rfl
theorem w2_229 : (Jvm.Cond.methodLink "java/util/ArrayList" (129 : Nat) ({ cls := "java/util/ArrayList", name := "grow", desc := "()[Ljava/lang/Object;" } : Jvm.MethodName)) ∈ lw_g := lw_in (mT2 (List.mem_of_getElem? (i := 229) rfl)) rfl
theorem w2_231 : (Jvm.Cond.instanceMethod ({ cls := "java/util/ArrayList", name := "grow", desc := "()[Ljava/lang/Object;" } : Jvm.MethodName)) ∈ lw_g := lw_in (mT2 (List.mem_of_getElem? (i := 231) rfl)) rfl
theorem w2_232 : (Jvm.Cond.code ({ cls := "java/util/ArrayList", name := "grow", desc := "()[Ljava/lang/Object;" } : Jvm.MethodName) prog_23_method_7_code (1 : Nat) (Option.some (Jvm.ClassFile.FieldType.array (Jvm.ClassFile.FieldType.object "java/lang/Object")))) ∈ lw_g := lw_in (mT2 (List.mem_of_getElem? (i := 232) rfl)) rfl
theorem w2_233 : (Jvm.Cond.methodLink "java/util/ArrayList" (69 : Nat) ({ cls := "java/util/ArrayList", name := "grow", desc := "(I)[Ljava/lang/Object;" } : Jvm.MethodName)) ∈ lw_g := lw_in (mT2 (List.mem_of_getElem? (i := 233) rfl)) rfl
theorem w2_235 : (Jvm.Cond.instanceMethod ({ cls := "java/util/ArrayList", name := "grow", desc := "(I)[Ljava/lang/Object;" } : Jvm.MethodName)) ∈ lw_g := lw_in (mT2 (List.mem_of_getElem? (i := 235) rfl)) rfl
theorem w2_236 : (Jvm.Cond.code ({ cls := "java/util/ArrayList", name := "grow", desc := "(I)[Ljava/lang/Object;" } : Jvm.MethodName) prog_23_method_6_code (4 : Nat) (Option.some (Jvm.ClassFile.FieldType.array (Jvm.ClassFile.FieldType.object "java/lang/Object")))) ∈ lw_g := lw_in (mT2 (List.mem_of_getElem? (i := 236) rfl)) rfl
theorem w2_237 : (Jvm.Cond.methodLink "java/util/ArrayList" (73 : Nat) ({ cls := "jdk/internal/util/ArraysSupport", name := "newLength", desc := "(III)I" } : Jvm.MethodName)) ∈ lw_g := lw_in (mT2 (List.mem_of_getElem? (i := 237) rfl)) rfl
theorem w2_238 : (Jvm.Cond.static ({ cls := "jdk/internal/util/ArraysSupport", name := "newLength", desc := "(III)I" } : Jvm.MethodName)) ∈ lw_g := lw_in (mT2 (List.mem_of_getElem? (i := 238) rfl)) rfl
theorem w2_239 : (Jvm.Cond.code ({ cls := "jdk/internal/util/ArraysSupport", name := "newLength", desc := "(III)I" } : Jvm.MethodName) prog_30_method_27_code (4 : Nat) (Option.some Jvm.ClassFile.FieldType.int)) ∈ lw_g := lw_in (mT2 (List.mem_of_getElem? (i := 239) rfl)) rfl
theorem w2_25 : (Jvm.Cond.classLink "DotPress" (64 : Nat) "DotPress$Sheet") ∈ lw_g := lw_in (mT2 (List.mem_of_getElem? (i := 25) rfl)) rfl
theorem w2_26 : (Jvm.Cond.instantiable "DotPress$Sheet" (3 : Nat)) ∈ lw_g := lw_in (mT2 (List.mem_of_getElem? (i := 26) rfl)) rfl
theorem w2_27t : (Jvm.Cond.methodLinkNest "DotPress" (66 : Nat) ({ cls := "DotPress$Sheet", name := "<init>", desc := "()V" } : Jvm.MethodName) "DotPress") ∈ lw_tbl := mT2 (List.mem_of_getElem? (i := 27) rfl)
theorem w2_28 : (Jvm.Cond.instanceMethod ({ cls := "DotPress$Sheet", name := "<init>", desc := "()V" } : Jvm.MethodName)) ∈ lw_g := lw_in (mT2 (List.mem_of_getElem? (i := 28) rfl)) rfl
theorem w2_29 : (Jvm.Cond.code ({ cls := "DotPress$Sheet", name := "<init>", desc := "()V" } : Jvm.MethodName) prog_9_method_1_code (1 : Nat) (Option.none : Option Jvm.ClassFile.FieldType)) ∈ lw_g := lw_in (mT2 (List.mem_of_getElem? (i := 29) rfl)) rfl
theorem w2_30 : (Jvm.Cond.methodLink "DotPress$Sheet" (3 : Nat) ({ cls := "java/lang/Object", name := "<init>", desc := "()V" } : Jvm.MethodName)) ∈ lw_g := lw_in (mT2 (List.mem_of_getElem? (i := 30) rfl)) rfl
theorem w2_31 : (Jvm.Cond.classLink "DotPress$Sheet" (9 : Nat) "DotPress$Line") ∈ lw_g := lw_in (mT2 (List.mem_of_getElem? (i := 31) rfl)) rfl
theorem w2_32t : (Jvm.Cond.arrayOver (Jvm.ClassFile.FieldType.object "DotPress$Line")) ∈ lw_tbl := mT2 (List.mem_of_getElem? (i := 32) rfl)
theorem w2_33 : (Jvm.Cond.fieldLink "DotPress$Sheet" (11 : Nat) "DotPress$Sheet" "rows" "[LDotPress$Line;") ∈ lw_g := lw_in (mT2 (List.mem_of_getElem? (i := 33) rfl)) rfl
theorem w2_34 : (Jvm.Cond.fieldLink "DotPress$Sheet" (17 : Nat) "DotPress$Sheet" "count" "I") ∈ lw_g := lw_in (mT2 (List.mem_of_getElem? (i := 34) rfl)) rfl
theorem w2_35 : (Jvm.Cond.fieldLink "DotPress" (269 : Nat) "DotPress$Sheet" "count" "I") ∈ lw_g := lw_in (mT2 (List.mem_of_getElem? (i := 35) rfl)) rfl
theorem w2_36 : (Jvm.Cond.fieldLink "DotPress$Sheet" (21 : Nat) "DotPress$Sheet" "textBegin" "I") ∈ lw_g := lw_in (mT2 (List.mem_of_getElem? (i := 36) rfl)) rfl
theorem w2_37 : (Jvm.Cond.laysFinal "DotPress$Sheet" "DotPress$Sheet" "rows" "[LDotPress$Line;") ∈ lw_g := lw_in (mT2 (List.mem_of_getElem? (i := 37) rfl)) rfl
theorem w2_39 : (Jvm.Cond.lays "DotPress$Sheet" "DotPress$Sheet" "count" "I") ∈ lw_g := lw_in (mT2 (List.mem_of_getElem? (i := 39) rfl)) rfl
theorem w2_4 : (Jvm.Cond.laysFinal "DotPress$Readings" "DotPress$Readings" "nodes" "[I") ∈ lw_g := lw_in (mT2 (List.mem_of_getElem? (i := 4) rfl)) rfl
theorem w2_41 : (Jvm.Cond.lays "DotPress$Sheet" "DotPress$Sheet" "textBegin" "I") ∈ lw_g := lw_in (mT2 (List.mem_of_getElem? (i := 41) rfl)) rfl
theorem w2_44 : (Jvm.Cond.fieldLink "DotPress" (14 : Nat) "DotPress" "tape" "LDotPress$Ints;") ∈ lw_g := lw_in (mT2 (List.mem_of_getElem? (i := 44) rfl)) rfl
theorem w2_45 : (Jvm.Cond.fieldLink "DotPress" (18 : Nat) "DotPress" "written" "LDotPress$Ints;") ∈ lw_g := lw_in (mT2 (List.mem_of_getElem? (i := 45) rfl)) rfl
theorem w2_46 : (Jvm.Cond.fieldLink "DotPress" (21 : Nat) "DotPress" "bytesRead" "LDotPress$Ints;") ∈ lw_g := lw_in (mT2 (List.mem_of_getElem? (i := 46) rfl)) rfl
theorem w2_47 : (Jvm.Cond.fieldLink "DotPress" (24 : Nat) "DotPress" "header" "LDotPress$Ints;") ∈ lw_g := lw_in (mT2 (List.mem_of_getElem? (i := 47) rfl)) rfl
theorem w2_48 : (Jvm.Cond.fieldLink "DotPress" (30 : Nat) "DotPress" "tables" "LDotPress$Tables;") ∈ lw_g := lw_in (mT2 (List.mem_of_getElem? (i := 48) rfl)) rfl
theorem w2_49 : (Jvm.Cond.fieldLink "DotPress" (37 : Nat) "DotPress" "source" "LDotPress$Source;") ∈ lw_g := lw_in (mT2 (List.mem_of_getElem? (i := 49) rfl)) rfl
theorem w2_50 : (Jvm.Cond.fieldLink "DotPress" (44 : Nat) "DotPress" "word" "LDotPress$Setting;") ∈ lw_g := lw_in (mT2 (List.mem_of_getElem? (i := 50) rfl)) rfl
theorem w2_51 : (Jvm.Cond.fieldLink "DotPress" (51 : Nat) "DotPress" "reader" "LDotPress$Reader;") ∈ lw_g := lw_in (mT2 (List.mem_of_getElem? (i := 51) rfl)) rfl
theorem w2_52 : (Jvm.Cond.fieldLink "DotPress" (60 : Nat) "DotPress" "found" "LDotPress$Readings;") ∈ lw_g := lw_in (mT2 (List.mem_of_getElem? (i := 52) rfl)) rfl
theorem w2_53 : (Jvm.Cond.fieldLink "DotPress" (67 : Nat) "DotPress" "sheet" "LDotPress$Sheet;") ∈ lw_g := lw_in (mT2 (List.mem_of_getElem? (i := 53) rfl)) rfl
theorem w2_54 : (Jvm.Cond.fieldLink "DotPress" (71 : Nat) "DotPress" "draft" "LDotPress$Sheet;") ∈ lw_g := lw_in (mT2 (List.mem_of_getElem? (i := 54) rfl)) rfl
theorem w2_55 : (Jvm.Cond.fieldLink "DotPress" (74 : Nat) "DotPress" "width" "I") ∈ lw_g := lw_in (mT2 (List.mem_of_getElem? (i := 55) rfl)) rfl
theorem w2_56 : (Jvm.Cond.fieldLink "DotPress" (78 : Nat) "DotPress" "height" "I") ∈ lw_g := lw_in (mT2 (List.mem_of_getElem? (i := 56) rfl)) rfl
theorem w2_57 : (Jvm.Cond.fieldLink "DotPress" (81 : Nat) "DotPress" "hyphen" "I") ∈ lw_g := lw_in (mT2 (List.mem_of_getElem? (i := 57) rfl)) rfl
theorem w2_58 : (Jvm.Cond.fieldLink "DotPress" (84 : Nat) "DotPress" "failedDots" "I") ∈ lw_g := lw_in (mT2 (List.mem_of_getElem? (i := 58) rfl)) rfl
theorem w2_59 : (Jvm.Cond.fieldLink "DotPress" (87 : Nat) "DotPress" "linesCopied" "I") ∈ lw_g := lw_in (mT2 (List.mem_of_getElem? (i := 59) rfl)) rfl
theorem w2_6 : (Jvm.Cond.laysFinal "DotPress$Readings" "DotPress$Readings" "choices" "[I") ∈ lw_g := lw_in (mT2 (List.mem_of_getElem? (i := 6) rfl)) rfl
theorem w2_60 : (Jvm.Cond.fieldLink "DotPress" (90 : Nat) "DotPress" "linesClosed" "I") ∈ lw_g := lw_in (mT2 (List.mem_of_getElem? (i := 60) rfl)) rfl
theorem w2_61 : (Jvm.Cond.fieldLink "DotPress" (93 : Nat) "DotPress" "latestStatus" "I") ∈ lw_g := lw_in (mT2 (List.mem_of_getElem? (i := 61) rfl)) rfl
theorem w2_62 : (Jvm.Cond.fieldLink "DotPress" (96 : Nat) "DotPress" "latestPlace" "I") ∈ lw_g := lw_in (mT2 (List.mem_of_getElem? (i := 62) rfl)) rfl
theorem w2_63 : (Jvm.Cond.laysFinal "DotPress" "DotPress" "tape" "LDotPress$Ints;") ∈ lw_g := lw_in (mT2 (List.mem_of_getElem? (i := 63) rfl)) rfl
theorem w2_65 : (Jvm.Cond.laysFinal "DotPress" "DotPress" "written" "LDotPress$Ints;") ∈ lw_g := lw_in (mT2 (List.mem_of_getElem? (i := 65) rfl)) rfl
theorem w2_67 : (Jvm.Cond.laysFinal "DotPress" "DotPress" "bytesRead" "LDotPress$Ints;") ∈ lw_g := lw_in (mT2 (List.mem_of_getElem? (i := 67) rfl)) rfl
theorem w2_69 : (Jvm.Cond.laysFinal "DotPress" "DotPress" "header" "LDotPress$Ints;") ∈ lw_g := lw_in (mT2 (List.mem_of_getElem? (i := 69) rfl)) rfl
theorem w2_71 : (Jvm.Cond.laysFinal "DotPress" "DotPress" "tables" "LDotPress$Tables;") ∈ lw_g := lw_in (mT2 (List.mem_of_getElem? (i := 71) rfl)) rfl
theorem w2_73 : (Jvm.Cond.laysFinal "DotPress" "DotPress" "source" "LDotPress$Source;") ∈ lw_g := lw_in (mT2 (List.mem_of_getElem? (i := 73) rfl)) rfl
theorem w2_75 : (Jvm.Cond.laysFinal "DotPress" "DotPress" "word" "LDotPress$Setting;") ∈ lw_g := lw_in (mT2 (List.mem_of_getElem? (i := 75) rfl)) rfl
theorem w2_77 : (Jvm.Cond.laysFinal "DotPress" "DotPress" "reader" "LDotPress$Reader;") ∈ lw_g := lw_in (mT2 (List.mem_of_getElem? (i := 77) rfl)) rfl
theorem w2_79 : (Jvm.Cond.laysFinal "DotPress" "DotPress" "found" "LDotPress$Readings;") ∈ lw_g := lw_in (mT2 (List.mem_of_getElem? (i := 79) rfl)) rfl
theorem w2_8 : (Jvm.Cond.laysFinal "DotPress$Readings" "DotPress$Readings" "ends" "[I") ∈ lw_g := lw_in (mT2 (List.mem_of_getElem? (i := 8) rfl)) rfl
theorem w2_81 : (Jvm.Cond.lays "DotPress" "DotPress" "sheet" "LDotPress$Sheet;") ∈ lw_g := lw_in (mT2 (List.mem_of_getElem? (i := 81) rfl)) rfl
theorem w2_83 : (Jvm.Cond.lays "DotPress" "DotPress" "draft" "LDotPress$Sheet;") ∈ lw_g := lw_in (mT2 (List.mem_of_getElem? (i := 83) rfl)) rfl
theorem w2_85 : (Jvm.Cond.lays "DotPress" "DotPress" "width" "I") ∈ lw_g := lw_in (mT2 (List.mem_of_getElem? (i := 85) rfl)) rfl
theorem w2_87 : (Jvm.Cond.lays "DotPress" "DotPress" "height" "I") ∈ lw_g := lw_in (mT2 (List.mem_of_getElem? (i := 87) rfl)) rfl
theorem w2_89 : (Jvm.Cond.lays "DotPress" "DotPress" "hyphen" "I") ∈ lw_g := lw_in (mT2 (List.mem_of_getElem? (i := 89) rfl)) rfl
theorem w2_91 : (Jvm.Cond.lays "DotPress" "DotPress" "failedDots" "I") ∈ lw_g := lw_in (mT2 (List.mem_of_getElem? (i := 91) rfl)) rfl
theorem w2_93 : (Jvm.Cond.lays "DotPress" "DotPress" "linesCopied" "I") ∈ lw_g := lw_in (mT2 (List.mem_of_getElem? (i := 93) rfl)) rfl
theorem w2_95 : (Jvm.Cond.lays "DotPress" "DotPress" "linesClosed" "I") ∈ lw_g := lw_in (mT2 (List.mem_of_getElem? (i := 95) rfl)) rfl
theorem w2_97 : (Jvm.Cond.lays "DotPress" "DotPress" "latestStatus" "I") ∈ lw_g := lw_in (mT2 (List.mem_of_getElem? (i := 97) rfl)) rfl
theorem w2_99 : (Jvm.Cond.lays "DotPress" "DotPress" "latestPlace" "I") ∈ lw_g := lw_in (mT2 (List.mem_of_getElem? (i := 99) rfl)) rfl
theorem w3_0 : (Jvm.Cond.methodLink "jdk/internal/util/ArraysSupport" (194 : Nat) ({ cls := "java/lang/Math", name := "max", desc := "(II)I" } : Jvm.MethodName)) ∈ lw_g := lw_in (mT3 (List.mem_of_getElem? (i := 0) rfl)) rfl
theorem w3_1 : (Jvm.Cond.constant "jdk/internal/util/ArraysSupport" (200 : Nat) (2147483639 : Int32)) ∈ lw_g := lw_in (mT3 (List.mem_of_getElem? (i := 1) rfl)) rfl
theorem w3_100 : (Jvm.Cond.methodLink "DotPress" (152 : Nat) ({ cls := "DotPress$Tables", name := "remember", desc := "(LDotPress$Change;)V" } : Jvm.MethodName)) ∈ lw_g := lw_in (mT3 (List.mem_of_getElem? (i := 100) rfl)) rfl
theorem w3_101 : (Jvm.Cond.methodLink "DotPressLaw" (37 : Nat) ({ cls := "DotPress", name := "rule", desc := "(III)I" } : Jvm.MethodName)) ∈ lw_g := lw_in (mT3 (List.mem_of_getElem? (i := 101) rfl)) rfl
theorem w3_102 : (Jvm.Cond.instanceMethod ({ cls := "DotPress", name := "rule", desc := "(III)I" } : Jvm.MethodName)) ∈ lw_g := lw_in (mT3 (List.mem_of_getElem? (i := 102) rfl)) rfl
theorem w3_103 : (Jvm.Cond.selects "DotPress" ({ cls := "DotPress", name := "rule", desc := "(III)I" } : Jvm.MethodName) ({ cls := "DotPress", name := "rule", desc := "(III)I" } : Jvm.MethodName)) ∈ lw_g := lw_in (mT3 (List.mem_of_getElem? (i := 103) rfl)) rfl
theorem w3_104 : (Jvm.Cond.code ({ cls := "DotPress", name := "rule", desc := "(III)I" } : Jvm.MethodName) prog_1_method_8_code (5 : Nat) (Option.some Jvm.ClassFile.FieldType.int)) ∈ lw_g := lw_in (mT3 (List.mem_of_getElem? (i := 104) rfl)) rfl
theorem w3_105 : (Jvm.Cond.methodLink "DotPress" (160 : Nat) ({ cls := "DotPress", name := "addRule", desc := "(III)I" } : Jvm.MethodName)) ∈ lw_g := lw_in (mT3 (List.mem_of_getElem? (i := 105) rfl)) rfl
theorem w3_107 : (Jvm.Cond.instanceMethod ({ cls := "DotPress", name := "addRule", desc := "(III)I" } : Jvm.MethodName)) ∈ lw_g := lw_in (mT3 (List.mem_of_getElem? (i := 107) rfl)) rfl
theorem w3_108 : (Jvm.Cond.code ({ cls := "DotPress", name := "addRule", desc := "(III)I" } : Jvm.MethodName) prog_1_method_9_code (6 : Nat) (Option.some Jvm.ClassFile.FieldType.int)) ∈ lw_g := lw_in (mT3 (List.mem_of_getElem? (i := 108) rfl)) rfl
theorem w3_109 : (Jvm.Cond.methodLink "DotPress" (167 : Nat) ({ cls := "DotPress", name := "isCondition", desc := "(I)Z" } : Jvm.MethodName)) ∈ lw_g := lw_in (mT3 (List.mem_of_getElem? (i := 109) rfl)) rfl
theorem w3_110 : (Jvm.Cond.static ({ cls := "DotPress", name := "isCondition", desc := "(I)Z" } : Jvm.MethodName)) ∈ lw_g := lw_in (mT3 (List.mem_of_getElem? (i := 110) rfl)) rfl
theorem w3_111 : (Jvm.Cond.code ({ cls := "DotPress", name := "isCondition", desc := "(I)Z" } : Jvm.MethodName) prog_1_method_10_code (1 : Nat) (Option.some Jvm.ClassFile.FieldType.boolean)) ∈ lw_g := lw_in (mT3 (List.mem_of_getElem? (i := 111) rfl)) rfl
theorem w3_112 : (Jvm.Cond.methodLink "DotPress" (171 : Nat) ({ cls := "DotPress$Ints", name := "isWithin", desc := "(IIII)Z" } : Jvm.MethodName)) ∈ lw_g := lw_in (mT3 (List.mem_of_getElem? (i := 112) rfl)) rfl
theorem w3_113 : (Jvm.Cond.instanceMethod ({ cls := "DotPress$Ints", name := "isWithin", desc := "(IIII)Z" } : Jvm.MethodName)) ∈ lw_g := lw_in (mT3 (List.mem_of_getElem? (i := 113) rfl)) rfl
theorem w3_114 : (Jvm.Cond.selects "DotPress$Ints" ({ cls := "DotPress$Ints", name := "isWithin", desc := "(IIII)Z" } : Jvm.MethodName) ({ cls := "DotPress$Ints", name := "isWithin", desc := "(IIII)Z" } : Jvm.MethodName)) ∈ lw_g := lw_in (mT3 (List.mem_of_getElem? (i := 114) rfl)) rfl
theorem w3_115 : (Jvm.Cond.code ({ cls := "DotPress$Ints", name := "isWithin", desc := "(IIII)Z" } : Jvm.MethodName) prog_3_method_7_code (6 : Nat) (Option.some Jvm.ClassFile.FieldType.boolean)) ∈ lw_g := lw_in (mT3 (List.mem_of_getElem? (i := 115) rfl)) rfl
theorem w3_116 : (Jvm.Cond.methodLink "DotPress$Ints" (39 : Nat) ({ cls := "DotPress$Ints", name := "at", desc := "(I)I" } : Jvm.MethodName)) ∈ lw_g := lw_in (mT3 (List.mem_of_getElem? (i := 116) rfl)) rfl
theorem w3_117 : (Jvm.Cond.instanceMethod ({ cls := "DotPress$Ints", name := "at", desc := "(I)I" } : Jvm.MethodName)) ∈ lw_g := lw_in (mT3 (List.mem_of_getElem? (i := 117) rfl)) rfl
theorem w3_118 : (Jvm.Cond.selects "DotPress$Ints" ({ cls := "DotPress$Ints", name := "at", desc := "(I)I" } : Jvm.MethodName) ({ cls := "DotPress$Ints", name := "at", desc := "(I)I" } : Jvm.MethodName)) ∈ lw_g := lw_in (mT3 (List.mem_of_getElem? (i := 118) rfl)) rfl
theorem w3_119 : (Jvm.Cond.code ({ cls := "DotPress$Ints", name := "at", desc := "(I)I" } : Jvm.MethodName) prog_3_method_4_code (2 : Nat) (Option.some Jvm.ClassFile.FieldType.int)) ∈ lw_g := lw_in (mT3 (List.mem_of_getElem? (i := 119) rfl)) rfl
theorem w3_120 : (Jvm.Cond.methodLink "DotPress" (175 : Nat) ({ cls := "DotPress", name := "isRowOfCells", desc := "(II)Z" } : Jvm.MethodName)) ∈ lw_g := lw_in (mT3 (List.mem_of_getElem? (i := 120) rfl)) rfl
theorem w3_122 : (Jvm.Cond.instanceMethod ({ cls := "DotPress", name := "isRowOfCells", desc := "(II)Z" } : Jvm.MethodName)) ∈ lw_g := lw_in (mT3 (List.mem_of_getElem? (i := 122) rfl)) rfl
theorem w3_123 : (Jvm.Cond.code ({ cls := "DotPress", name := "isRowOfCells", desc := "(II)Z" } : Jvm.MethodName) prog_1_method_11_code (3 : Nat) (Option.some Jvm.ClassFile.FieldType.boolean)) ∈ lw_g := lw_in (mT3 (List.mem_of_getElem? (i := 123) rfl)) rfl
theorem w3_124 : (Jvm.Cond.methodLink "DotPress" (183 : Nat) ({ cls := "java/util/ArrayList", name := "size", desc := "()I" } : Jvm.MethodName)) ∈ lw_g := lw_in (mT3 (List.mem_of_getElem? (i := 124) rfl)) rfl
theorem w3_125 : (Jvm.Cond.classLink "DotPress" (188 : Nat) "DotPress$Row") ∈ lw_g := lw_in (mT3 (List.mem_of_getElem? (i := 125) rfl)) rfl
theorem w3_126 : (Jvm.Cond.instantiable "DotPress$Row" (4 : Nat)) ∈ lw_g := lw_in (mT3 (List.mem_of_getElem? (i := 126) rfl)) rfl
theorem w3_127 : (Jvm.Cond.methodLink "DotPress" (190 : Nat) ({ cls := "DotPress$Ints", name := "slice", desc := "(II)[I" } : Jvm.MethodName)) ∈ lw_g := lw_in (mT3 (List.mem_of_getElem? (i := 127) rfl)) rfl
theorem w3_128 : (Jvm.Cond.instanceMethod ({ cls := "DotPress$Ints", name := "slice", desc := "(II)[I" } : Jvm.MethodName)) ∈ lw_g := lw_in (mT3 (List.mem_of_getElem? (i := 128) rfl)) rfl
theorem w3_129 : (Jvm.Cond.selects "DotPress$Ints" ({ cls := "DotPress$Ints", name := "slice", desc := "(II)[I" } : Jvm.MethodName) ({ cls := "DotPress$Ints", name := "slice", desc := "(II)[I" } : Jvm.MethodName)) ∈ lw_g := lw_in (mT3 (List.mem_of_getElem? (i := 129) rfl)) rfl
theorem w3_130 : (Jvm.Cond.code ({ cls := "DotPress$Ints", name := "slice", desc := "(II)[I" } : Jvm.MethodName) prog_3_method_8_code (5 : Nat) (Option.some (Jvm.ClassFile.FieldType.array Jvm.ClassFile.FieldType.int))) ∈ lw_g := lw_in (mT3 (List.mem_of_getElem? (i := 130) rfl)) rfl
theorem w3_131 : (Jvm.Cond.methodLink "DotPress" (194 : Nat) ({ cls := "DotPress$Row", name := "<init>", desc := "(I[I[I)V" } : Jvm.MethodName)) ∈ lw_g := lw_in (mT3 (List.mem_of_getElem? (i := 131) rfl)) rfl
theorem w3_132 : (Jvm.Cond.instanceMethod ({ cls := "DotPress$Row", name := "<init>", desc := "(I[I[I)V" } : Jvm.MethodName)) ∈ lw_g := lw_in (mT3 (List.mem_of_getElem? (i := 132) rfl)) rfl
theorem w3_133 : (Jvm.Cond.code ({ cls := "DotPress$Row", name := "<init>", desc := "(I[I[I)V" } : Jvm.MethodName) prog_7_method_1_code (4 : Nat) (Option.none : Option Jvm.ClassFile.FieldType)) ∈ lw_g := lw_in (mT3 (List.mem_of_getElem? (i := 133) rfl)) rfl
theorem w3_134 : (Jvm.Cond.methodLink "DotPress$Row" (3 : Nat) ({ cls := "java/lang/Object", name := "<init>", desc := "()V" } : Jvm.MethodName)) ∈ lw_g := lw_in (mT3 (List.mem_of_getElem? (i := 134) rfl)) rfl
theorem w3_135 : (Jvm.Cond.fieldLink "DotPress$Row" (15 : Nat) "DotPress$Row" "role" "I") ∈ lw_g := lw_in (mT3 (List.mem_of_getElem? (i := 135) rfl)) rfl
theorem w3_136 : (Jvm.Cond.fieldLink "DotPress$Readings" (124 : Nat) "DotPress$Row" "role" "I") ∈ lw_g := lw_in (mT3 (List.mem_of_getElem? (i := 136) rfl)) rfl
theorem w3_137 : (Jvm.Cond.fieldLink "DotPress$Reader" (134 : Nat) "DotPress$Row" "role" "I") ∈ lw_g := lw_in (mT3 (List.mem_of_getElem? (i := 137) rfl)) rfl
theorem w3_138 : (Jvm.Cond.fieldLink "DotPress$Row" (18 : Nat) "DotPress$Row" "letters" "[I") ∈ lw_g := lw_in (mT3 (List.mem_of_getElem? (i := 138) rfl)) rfl
theorem w3_139 : (Jvm.Cond.fieldLink "DotPress$Table" (55 : Nat) "DotPress$Row" "letters" "[I") ∈ lw_g := lw_in (mT3 (List.mem_of_getElem? (i := 139) rfl)) rfl
theorem w3_140 : (Jvm.Cond.fieldLink "DotPress$Source" (88 : Nat) "DotPress$Row" "letters" "[I") ∈ lw_g := lw_in (mT3 (List.mem_of_getElem? (i := 140) rfl)) rfl
theorem w3_141 : (Jvm.Cond.fieldLink "DotPress$Setting" (102 : Nat) "DotPress$Row" "letters" "[I") ∈ lw_g := lw_in (mT3 (List.mem_of_getElem? (i := 141) rfl)) rfl
theorem w3_142 : (Jvm.Cond.fieldLink "DotPress$Row" (22 : Nat) "DotPress$Row" "cells" "[I") ∈ lw_g := lw_in (mT3 (List.mem_of_getElem? (i := 142) rfl)) rfl
theorem w3_143 : (Jvm.Cond.fieldLink "DotPress$Reader" (88 : Nat) "DotPress$Row" "cells" "[I") ∈ lw_g := lw_in (mT3 (List.mem_of_getElem? (i := 143) rfl)) rfl
theorem w3_144 : (Jvm.Cond.fieldLink "DotPress$Readings" (127 : Nat) "DotPress$Row" "cells" "[I") ∈ lw_g := lw_in (mT3 (List.mem_of_getElem? (i := 144) rfl)) rfl
theorem w3_145 : (Jvm.Cond.fieldLink "DotPress$Setting" (118 : Nat) "DotPress$Row" "cells" "[I") ∈ lw_g := lw_in (mT3 (List.mem_of_getElem? (i := 145) rfl)) rfl
theorem w3_146 : (Jvm.Cond.fieldLink "DotPress" (384 : Nat) "DotPress$Row" "cells" "[I") ∈ lw_g := lw_in (mT3 (List.mem_of_getElem? (i := 146) rfl)) rfl
theorem w3_147 : (Jvm.Cond.fieldLink "DotPress$Row" (9 : Nat) "DotPress$Row" "condition" "I") ∈ lw_g := lw_in (mT3 (List.mem_of_getElem? (i := 147) rfl)) rfl
theorem w3_148 : (Jvm.Cond.fieldLink "DotPress$Tables" (80 : Nat) "DotPress$Row" "condition" "I") ∈ lw_g := lw_in (mT3 (List.mem_of_getElem? (i := 148) rfl)) rfl
theorem w3_149 : (Jvm.Cond.fieldLink "DotPress" (197 : Nat) "DotPress$Row" "condition" "I") ∈ lw_g := lw_in (mT3 (List.mem_of_getElem? (i := 149) rfl)) rfl
theorem w3_150 : (Jvm.Cond.fieldLink "DotPress$Setting" (153 : Nat) "DotPress$Row" "condition" "I") ∈ lw_g := lw_in (mT3 (List.mem_of_getElem? (i := 150) rfl)) rfl
theorem w3_151 : (Jvm.Cond.laysFinal "DotPress$Row" "DotPress$Row" "role" "I") ∈ lw_g := lw_in (mT3 (List.mem_of_getElem? (i := 151) rfl)) rfl
theorem w3_153 : (Jvm.Cond.laysFinal "DotPress$Row" "DotPress$Row" "letters" "[I") ∈ lw_g := lw_in (mT3 (List.mem_of_getElem? (i := 153) rfl)) rfl
theorem w3_155 : (Jvm.Cond.laysFinal "DotPress$Row" "DotPress$Row" "cells" "[I") ∈ lw_g := lw_in (mT3 (List.mem_of_getElem? (i := 155) rfl)) rfl
theorem w3_157 : (Jvm.Cond.lays "DotPress$Row" "DotPress$Row" "condition" "I") ∈ lw_g := lw_in (mT3 (List.mem_of_getElem? (i := 157) rfl)) rfl
theorem w3_160 : (Jvm.Cond.methodLink "DotPress" (200 : Nat) ({ cls := "DotPress$Table", name := "append", desc := "(LDotPress$Row;)V" } : Jvm.MethodName)) ∈ lw_g := lw_in (mT3 (List.mem_of_getElem? (i := 160) rfl)) rfl
theorem w3_161 : (Jvm.Cond.instanceMethod ({ cls := "DotPress$Table", name := "append", desc := "(LDotPress$Row;)V" } : Jvm.MethodName)) ∈ lw_g := lw_in (mT3 (List.mem_of_getElem? (i := 161) rfl)) rfl
theorem w3_162 : (Jvm.Cond.selects "DotPress$Table" ({ cls := "DotPress$Table", name := "append", desc := "(LDotPress$Row;)V" } : Jvm.MethodName) ({ cls := "DotPress$Table", name := "append", desc := "(LDotPress$Row;)V" } : Jvm.MethodName)) ∈ lw_g := lw_in (mT3 (List.mem_of_getElem? (i := 162) rfl)) rfl
theorem w3_163 : (Jvm.Cond.code ({ cls := "DotPress$Table", name := "append", desc := "(LDotPress$Row;)V" } : Jvm.MethodName) prog_11_method_2_code (2 : Nat) (Option.none : Option Jvm.ClassFile.FieldType)) ∈ lw_g := lw_in (mT3 (List.mem_of_getElem? (i := 163) rfl)) rfl
theorem w3_164 : (Jvm.Cond.methodLink "DotPress$Table" (51 : Nat) ({ cls := "java/util/ArrayList", name := "add", desc := "(Ljava/lang/Object;)Z" } : Jvm.MethodName)) ∈ lw_g := lw_in (mT3 (List.mem_of_getElem? (i := 164) rfl)) rfl
theorem w3_165 : (Jvm.Cond.methodLink "DotPress$Table" (59 : Nat) ({ cls := "DotPress$Ints", name := "add", desc := "(I)V" } : Jvm.MethodName)) ∈ lw_g := lw_in (mT3 (List.mem_of_getElem? (i := 165) rfl)) rfl
theorem w3_166 : (Jvm.Cond.methodLink "DotPress" (164 : Nat) ({ cls := "DotPress$Ints", name := "clear", desc := "()V" } : Jvm.MethodName)) ∈ lw_g := lw_in (mT3 (List.mem_of_getElem? (i := 166) rfl)) rfl
theorem w3_167 : (Jvm.Cond.instanceMethod ({ cls := "DotPress$Ints", name := "clear", desc := "()V" } : Jvm.MethodName)) ∈ lw_g := lw_in (mT3 (List.mem_of_getElem? (i := 167) rfl)) rfl
theorem w3_168 : (Jvm.Cond.selects "DotPress$Ints" ({ cls := "DotPress$Ints", name := "clear", desc := "()V" } : Jvm.MethodName) ({ cls := "DotPress$Ints", name := "clear", desc := "()V" } : Jvm.MethodName)) ∈ lw_g := lw_in (mT3 (List.mem_of_getElem? (i := 168) rfl)) rfl
theorem w3_169 : (Jvm.Cond.code ({ cls := "DotPress$Ints", name := "clear", desc := "()V" } : Jvm.MethodName) prog_3_method_5_code (1 : Nat) (Option.none : Option Jvm.ClassFile.FieldType)) ∈ lw_g := lw_in (mT3 (List.mem_of_getElem? (i := 169) rfl)) rfl
theorem w3_170 : (Jvm.Cond.methodLink "DotPressLaw" (41 : Nat) ({ cls := "DotPress", name := "condition", desc := "(III)I" } : Jvm.MethodName)) ∈ lw_g := lw_in (mT3 (List.mem_of_getElem? (i := 170) rfl)) rfl
theorem w3_171 : (Jvm.Cond.instanceMethod ({ cls := "DotPress", name := "condition", desc := "(III)I" } : Jvm.MethodName)) ∈ lw_g := lw_in (mT3 (List.mem_of_getElem? (i := 171) rfl)) rfl
theorem w3_172 : (Jvm.Cond.selects "DotPress" ({ cls := "DotPress", name := "condition", desc := "(III)I" } : Jvm.MethodName) ({ cls := "DotPress", name := "condition", desc := "(III)I" } : Jvm.MethodName)) ∈ lw_g := lw_in (mT3 (List.mem_of_getElem? (i := 172) rfl)) rfl
theorem w3_173 : (Jvm.Cond.code ({ cls := "DotPress", name := "condition", desc := "(III)I" } : Jvm.MethodName) prog_1_method_12_code (7 : Nat) (Option.some Jvm.ClassFile.FieldType.int)) ∈ lw_g := lw_in (mT3 (List.mem_of_getElem? (i := 173) rfl)) rfl
theorem w3_174 : (Jvm.Cond.methodLink "DotPress" (204 : Nat) ({ cls := "java/util/ArrayList", name := "get", desc := "(I)Ljava/lang/Object;" } : Jvm.MethodName)) ∈ lw_g := lw_in (mT3 (List.mem_of_getElem? (i := 174) rfl)) rfl
theorem w3_175 : (Jvm.Cond.methodLink "DotPressLaw" (45 : Nat) ({ cls := "DotPress", name := "indicator", desc := "(II)I" } : Jvm.MethodName)) ∈ lw_g := lw_in (mT3 (List.mem_of_getElem? (i := 175) rfl)) rfl
theorem w3_176 : (Jvm.Cond.instanceMethod ({ cls := "DotPress", name := "indicator", desc := "(II)I" } : Jvm.MethodName)) ∈ lw_g := lw_in (mT3 (List.mem_of_getElem? (i := 176) rfl)) rfl
theorem w3_177 : (Jvm.Cond.selects "DotPress" ({ cls := "DotPress", name := "indicator", desc := "(II)I" } : Jvm.MethodName) ({ cls := "DotPress", name := "indicator", desc := "(II)I" } : Jvm.MethodName)) ∈ lw_g := lw_in (mT3 (List.mem_of_getElem? (i := 177) rfl)) rfl
theorem w3_178 : (Jvm.Cond.code ({ cls := "DotPress", name := "indicator", desc := "(II)I" } : Jvm.MethodName) prog_1_method_13_code (4 : Nat) (Option.some Jvm.ClassFile.FieldType.int)) ∈ lw_g := lw_in (mT3 (List.mem_of_getElem? (i := 178) rfl)) rfl
theorem w3_179 : (Jvm.Cond.methodLink "DotPress" (208 : Nat) ({ cls := "DotPress", name := "changeIndicator", desc := "(II)I" } : Jvm.MethodName)) ∈ lw_g := lw_in (mT3 (List.mem_of_getElem? (i := 179) rfl)) rfl
theorem w3_181 : (Jvm.Cond.instanceMethod ({ cls := "DotPress", name := "changeIndicator", desc := "(II)I" } : Jvm.MethodName)) ∈ lw_g := lw_in (mT3 (List.mem_of_getElem? (i := 181) rfl)) rfl
theorem w3_182 : (Jvm.Cond.code ({ cls := "DotPress", name := "changeIndicator", desc := "(II)I" } : Jvm.MethodName) prog_1_method_14_code (4 : Nat) (Option.some Jvm.ClassFile.FieldType.int)) ∈ lw_g := lw_in (mT3 (List.mem_of_getElem? (i := 182) rfl)) rfl
theorem w3_183 : (Jvm.Cond.methodLink "DotPress" (211 : Nat) ({ cls := "DotPress$Table", name := "mayHave", desc := "(I)Z" } : Jvm.MethodName)) ∈ lw_g := lw_in (mT3 (List.mem_of_getElem? (i := 183) rfl)) rfl
theorem w3_184 : (Jvm.Cond.instanceMethod ({ cls := "DotPress$Table", name := "mayHave", desc := "(I)Z" } : Jvm.MethodName)) ∈ lw_g := lw_in (mT3 (List.mem_of_getElem? (i := 184) rfl)) rfl
theorem w3_185 : (Jvm.Cond.selects "DotPress$Table" ({ cls := "DotPress$Table", name := "mayHave", desc := "(I)Z" } : Jvm.MethodName) ({ cls := "DotPress$Table", name := "mayHave", desc := "(I)Z" } : Jvm.MethodName)) ∈ lw_g := lw_in (mT3 (List.mem_of_getElem? (i := 185) rfl)) rfl
theorem w3_186 : (Jvm.Cond.code ({ cls := "DotPress$Table", name := "mayHave", desc := "(I)Z" } : Jvm.MethodName) prog_11_method_4_code (2 : Nat) (Option.some Jvm.ClassFile.FieldType.boolean)) ∈ lw_g := lw_in (mT3 (List.mem_of_getElem? (i := 186) rfl)) rfl
theorem w3_187 : (Jvm.Cond.methodLink "DotPressLaw" (49 : Nat) ({ cls := "DotPress", name := "undo", desc := "()I" } : Jvm.MethodName)) ∈ lw_g := lw_in (mT3 (List.mem_of_getElem? (i := 187) rfl)) rfl
theorem w3_188 : (Jvm.Cond.instanceMethod ({ cls := "DotPress", name := "undo", desc := "()I" } : Jvm.MethodName)) ∈ lw_g := lw_in (mT3 (List.mem_of_getElem? (i := 188) rfl)) rfl
theorem w3_189 : (Jvm.Cond.selects "DotPress" ({ cls := "DotPress", name := "undo", desc := "()I" } : Jvm.MethodName) ({ cls := "DotPress", name := "undo", desc := "()I" } : Jvm.MethodName)) ∈ lw_g := lw_in (mT3 (List.mem_of_getElem? (i := 189) rfl)) rfl
theorem w3_190 : (Jvm.Cond.code ({ cls := "DotPress", name := "undo", desc := "()I" } : Jvm.MethodName) prog_1_method_15_code (1 : Nat) (Option.some Jvm.ClassFile.FieldType.int)) ∈ lw_g := lw_in (mT3 (List.mem_of_getElem? (i := 190) rfl)) rfl
theorem w3_191 : (Jvm.Cond.methodLink "DotPress" (218 : Nat) ({ cls := "DotPress$Tables", name := "takeBack", desc := "()Z" } : Jvm.MethodName)) ∈ lw_g := lw_in (mT3 (List.mem_of_getElem? (i := 191) rfl)) rfl
theorem w3_192 : (Jvm.Cond.instanceMethod ({ cls := "DotPress$Tables", name := "takeBack", desc := "()Z" } : Jvm.MethodName)) ∈ lw_g := lw_in (mT3 (List.mem_of_getElem? (i := 192) rfl)) rfl
theorem w3_193 : (Jvm.Cond.selects "DotPress$Tables" ({ cls := "DotPress$Tables", name := "takeBack", desc := "()Z" } : Jvm.MethodName) ({ cls := "DotPress$Tables", name := "takeBack", desc := "()Z" } : Jvm.MethodName)) ∈ lw_g := lw_in (mT3 (List.mem_of_getElem? (i := 193) rfl)) rfl
theorem w3_194 : (Jvm.Cond.code ({ cls := "DotPress$Tables", name := "takeBack", desc := "()Z" } : Jvm.MethodName) prog_12_method_7_code (2 : Nat) (Option.some Jvm.ClassFile.FieldType.boolean)) ∈ lw_g := lw_in (mT3 (List.mem_of_getElem? (i := 194) rfl)) rfl
theorem w3_195 : (Jvm.Cond.methodLink "DotPress$Tables" (59 : Nat) ({ cls := "java/util/ArrayList", name := "isEmpty", desc := "()Z" } : Jvm.MethodName)) ∈ lw_g := lw_in (mT3 (List.mem_of_getElem? (i := 195) rfl)) rfl
theorem w3_196 : (Jvm.Cond.instanceMethod ({ cls := "java/util/ArrayList", name := "isEmpty", desc := "()Z" } : Jvm.MethodName)) ∈ lw_g := lw_in (mT3 (List.mem_of_getElem? (i := 196) rfl)) rfl
theorem w3_197 : (Jvm.Cond.selects "java/util/ArrayList" ({ cls := "java/util/ArrayList", name := "isEmpty", desc := "()Z" } : Jvm.MethodName) ({ cls := "java/util/ArrayList", name := "isEmpty", desc := "()Z" } : Jvm.MethodName)) ∈ lw_g := lw_in (mT3 (List.mem_of_getElem? (i := 197) rfl)) rfl
theorem w3_198 : (Jvm.Cond.code ({ cls := "java/util/ArrayList", name := "isEmpty", desc := "()Z" } : Jvm.MethodName) prog_23_method_9_code (1 : Nat) (Option.some Jvm.ClassFile.FieldType.boolean)) ∈ lw_g := lw_in (mT3 (List.mem_of_getElem? (i := 198) rfl)) rfl
theorem w3_199 : (Jvm.Cond.methodLink "DotPress$Tables" (70 : Nat) ({ cls := "DotPress$Table", name := "removeLast", desc := "()V" } : Jvm.MethodName)) ∈ lw_g := lw_in (mT3 (List.mem_of_getElem? (i := 199) rfl)) rfl
theorem w3_200 : (Jvm.Cond.instanceMethod ({ cls := "DotPress$Table", name := "removeLast", desc := "()V" } : Jvm.MethodName)) ∈ lw_g := lw_in (mT3 (List.mem_of_getElem? (i := 200) rfl)) rfl
theorem w3_201 : (Jvm.Cond.selects "DotPress$Table" ({ cls := "DotPress$Table", name := "removeLast", desc := "()V" } : Jvm.MethodName) ({ cls := "DotPress$Table", name := "removeLast", desc := "()V" } : Jvm.MethodName)) ∈ lw_g := lw_in (mT3 (List.mem_of_getElem? (i := 201) rfl)) rfl
theorem w3_202 : (Jvm.Cond.code ({ cls := "DotPress$Table", name := "removeLast", desc := "()V" } : Jvm.MethodName) prog_11_method_3_code (1 : Nat) (Option.none : Option Jvm.ClassFile.FieldType)) ∈ lw_g := lw_in (mT3 (List.mem_of_getElem? (i := 202) rfl)) rfl
theorem w3_203 : (Jvm.Cond.methodLink "DotPress$Table" (61 : Nat) ({ cls := "java/util/ArrayList", name := "isEmpty", desc := "()Z" } : Jvm.MethodName)) ∈ lw_g := lw_in (mT3 (List.mem_of_getElem? (i := 203) rfl)) rfl
theorem w3_204 : (Jvm.Cond.methodLink "DotPress$Table" (65 : Nat) ({ cls := "java/util/ArrayList", name := "size", desc := "()I" } : Jvm.MethodName)) ∈ lw_g := lw_in (mT3 (List.mem_of_getElem? (i := 204) rfl)) rfl
theorem w3_205 : (Jvm.Cond.methodLink "DotPress$Table" (69 : Nat) ({ cls := "java/util/ArrayList", name := "remove", desc := "(I)Ljava/lang/Object;" } : Jvm.MethodName)) ∈ lw_g := lw_in (mT3 (List.mem_of_getElem? (i := 205) rfl)) rfl
theorem w3_206 : (Jvm.Cond.methodLink "DotPress$Table" (73 : Nat) ({ cls := "DotPress$Ints", name := "keep", desc := "(I)V" } : Jvm.MethodName)) ∈ lw_g := lw_in (mT3 (List.mem_of_getElem? (i := 206) rfl)) rfl
theorem w3_207 : (Jvm.Cond.methodLink "DotPressLaw" (54 : Nat) ({ cls := "DotPress", name := "text", desc := "()I" } : Jvm.MethodName)) ∈ lw_g := lw_in (mT3 (List.mem_of_getElem? (i := 207) rfl)) rfl
theorem w3_208 : (Jvm.Cond.instanceMethod ({ cls := "DotPress", name := "text", desc := "()I" } : Jvm.MethodName)) ∈ lw_g := lw_in (mT3 (List.mem_of_getElem? (i := 208) rfl)) rfl
theorem w3_209 : (Jvm.Cond.selects "DotPress" ({ cls := "DotPress", name := "text", desc := "()I" } : Jvm.MethodName) ({ cls := "DotPress", name := "text", desc := "()I" } : Jvm.MethodName)) ∈ lw_g := lw_in (mT3 (List.mem_of_getElem? (i := 209) rfl)) rfl
theorem w3_210 : (Jvm.Cond.code ({ cls := "DotPress", name := "text", desc := "()I" } : Jvm.MethodName) prog_1_method_16_code (2 : Nat) (Option.some Jvm.ClassFile.FieldType.int)) ∈ lw_g := lw_in (mT3 (List.mem_of_getElem? (i := 210) rfl)) rfl
theorem w3_211 : (Jvm.Cond.methodLink "DotPress" (221 : Nat) ({ cls := "DotPress", name := "addText", desc := "()I" } : Jvm.MethodName)) ∈ lw_g := lw_in (mT3 (List.mem_of_getElem? (i := 211) rfl)) rfl
theorem w3_213 : (Jvm.Cond.instanceMethod ({ cls := "DotPress", name := "addText", desc := "()I" } : Jvm.MethodName)) ∈ lw_g := lw_in (mT3 (List.mem_of_getElem? (i := 213) rfl)) rfl
theorem w3_214 : (Jvm.Cond.code ({ cls := "DotPress", name := "addText", desc := "()I" } : Jvm.MethodName) prog_1_method_17_code (3 : Nat) (Option.some Jvm.ClassFile.FieldType.int)) ∈ lw_g := lw_in (mT3 (List.mem_of_getElem? (i := 214) rfl)) rfl
theorem w3_215 : (Jvm.Cond.methodLink "DotPress" (224 : Nat) ({ cls := "DotPress$Ints", name := "at", desc := "(I)I" } : Jvm.MethodName)) ∈ lw_g := lw_in (mT3 (List.mem_of_getElem? (i := 215) rfl)) rfl
theorem w3_216 : (Jvm.Cond.methodLink "DotPress" (227 : Nat) ({ cls := "DotPress$Ints", name := "addAll", desc := "(LDotPress$Ints;)V" } : Jvm.MethodName)) ∈ lw_g := lw_in (mT3 (List.mem_of_getElem? (i := 216) rfl)) rfl
theorem w3_217 : (Jvm.Cond.instanceMethod ({ cls := "DotPress$Ints", name := "addAll", desc := "(LDotPress$Ints;)V" } : Jvm.MethodName)) ∈ lw_g := lw_in (mT3 (List.mem_of_getElem? (i := 217) rfl)) rfl
theorem w3_218 : (Jvm.Cond.selects "DotPress$Ints" ({ cls := "DotPress$Ints", name := "addAll", desc := "(LDotPress$Ints;)V" } : Jvm.MethodName) ({ cls := "DotPress$Ints", name := "addAll", desc := "(LDotPress$Ints;)V" } : Jvm.MethodName)) ∈ lw_g := lw_in (mT3 (List.mem_of_getElem? (i := 218) rfl)) rfl
theorem w3_219 : (Jvm.Cond.code ({ cls := "DotPress$Ints", name := "addAll", desc := "(LDotPress$Ints;)V" } : Jvm.MethodName) prog_3_method_3_code (3 : Nat) (Option.none : Option Jvm.ClassFile.FieldType)) ∈ lw_g := lw_in (mT3 (List.mem_of_getElem? (i := 219) rfl)) rfl
theorem w3_220 : (Jvm.Cond.methodLink "DotPress$Ints" (26 : Nat) ({ cls := "DotPress$Ints", name := "add", desc := "(I)V" } : Jvm.MethodName)) ∈ lw_g := lw_in (mT3 (List.mem_of_getElem? (i := 220) rfl)) rfl
theorem w3_221 : (Jvm.Cond.methodLink "DotPressLaw" (58 : Nat) ({ cls := "DotPress", name := "measure", desc := "(III)I" } : Jvm.MethodName)) ∈ lw_g := lw_in (mT3 (List.mem_of_getElem? (i := 221) rfl)) rfl
theorem w3_222 : (Jvm.Cond.instanceMethod ({ cls := "DotPress", name := "measure", desc := "(III)I" } : Jvm.MethodName)) ∈ lw_g := lw_in (mT3 (List.mem_of_getElem? (i := 222) rfl)) rfl
theorem w3_223 : (Jvm.Cond.selects "DotPress" ({ cls := "DotPress", name := "measure", desc := "(III)I" } : Jvm.MethodName) ({ cls := "DotPress", name := "measure", desc := "(III)I" } : Jvm.MethodName)) ∈ lw_g := lw_in (mT3 (List.mem_of_getElem? (i := 223) rfl)) rfl
theorem w3_224 : (Jvm.Cond.code ({ cls := "DotPress", name := "measure", desc := "(III)I" } : Jvm.MethodName) prog_1_method_18_code (4 : Nat) (Option.some Jvm.ClassFile.FieldType.int)) ∈ lw_g := lw_in (mT3 (List.mem_of_getElem? (i := 224) rfl)) rfl
theorem w3_225 : (Jvm.Cond.methodLink "DotPressLaw" (62 : Nat) ({ cls := "DotPress", name := "set", desc := "(I)I" } : Jvm.MethodName)) ∈ lw_g := lw_in (mT3 (List.mem_of_getElem? (i := 225) rfl)) rfl
theorem w3_226 : (Jvm.Cond.instanceMethod ({ cls := "DotPress", name := "set", desc := "(I)I" } : Jvm.MethodName)) ∈ lw_g := lw_in (mT3 (List.mem_of_getElem? (i := 226) rfl)) rfl
theorem w3_227 : (Jvm.Cond.selects "DotPress" ({ cls := "DotPress", name := "set", desc := "(I)I" } : Jvm.MethodName) ({ cls := "DotPress", name := "set", desc := "(I)I" } : Jvm.MethodName)) ∈ lw_g := lw_in (mT3 (List.mem_of_getElem? (i := 227) rfl)) rfl
theorem w3_228 : (Jvm.Cond.code ({ cls := "DotPress", name := "set", desc := "(I)I" } : Jvm.MethodName) prog_1_method_19_code (7 : Nat) (Option.some Jvm.ClassFile.FieldType.int)) ∈ lw_g := lw_in (mT3 (List.mem_of_getElem? (i := 228) rfl)) rfl
theorem w3_229 : (Jvm.Cond.methodLink "DotPress" (231 : Nat) ({ cls := "DotPress$Tables", name := "whole", desc := "(I)LDotPress$Table;" } : Jvm.MethodName)) ∈ lw_g := lw_in (mT3 (List.mem_of_getElem? (i := 229) rfl)) rfl
theorem w3_230 : (Jvm.Cond.instanceMethod ({ cls := "DotPress$Tables", name := "whole", desc := "(I)LDotPress$Table;" } : Jvm.MethodName)) ∈ lw_g := lw_in (mT3 (List.mem_of_getElem? (i := 230) rfl)) rfl
theorem w3_231 : (Jvm.Cond.selects "DotPress$Tables" ({ cls := "DotPress$Tables", name := "whole", desc := "(I)LDotPress$Table;" } : Jvm.MethodName) ({ cls := "DotPress$Tables", name := "whole", desc := "(I)LDotPress$Table;" } : Jvm.MethodName)) ∈ lw_g := lw_in (mT3 (List.mem_of_getElem? (i := 231) rfl)) rfl
theorem w3_232 : (Jvm.Cond.code ({ cls := "DotPress$Tables", name := "whole", desc := "(I)LDotPress$Table;" } : Jvm.MethodName) prog_12_method_4_code (3 : Nat) (Option.some (Jvm.ClassFile.FieldType.object "DotPress$Table"))) ∈ lw_g := lw_in (mT3 (List.mem_of_getElem? (i := 232) rfl)) rfl
theorem w3_233 : (Jvm.Cond.methodLink "DotPress$Tables" (35 : Nat) ({ cls := "DotPress$Tables", name := "alive", desc := "(I)LDotPress$Table;" } : Jvm.MethodName)) ∈ lw_g := lw_in (mT3 (List.mem_of_getElem? (i := 233) rfl)) rfl
theorem w3_234 : (Jvm.Cond.methodLink "DotPress$Tables" (39 : Nat) ({ cls := "DotPress$Table", name := "isWhole", desc := "()Z" } : Jvm.MethodName)) ∈ lw_g := lw_in (mT3 (List.mem_of_getElem? (i := 234) rfl)) rfl
theorem w3_235 : (Jvm.Cond.instanceMethod ({ cls := "DotPress$Table", name := "isWhole", desc := "()Z" } : Jvm.MethodName)) ∈ lw_g := lw_in (mT3 (List.mem_of_getElem? (i := 235) rfl)) rfl
theorem w3_236 : (Jvm.Cond.selects "DotPress$Table" ({ cls := "DotPress$Table", name := "isWhole", desc := "()Z" } : Jvm.MethodName) ({ cls := "DotPress$Table", name := "isWhole", desc := "()Z" } : Jvm.MethodName)) ∈ lw_g := lw_in (mT3 (List.mem_of_getElem? (i := 236) rfl)) rfl
theorem w3_237 : (Jvm.Cond.code ({ cls := "DotPress$Table", name := "isWhole", desc := "()Z" } : Jvm.MethodName) prog_11_method_5_code (1 : Nat) (Option.some Jvm.ClassFile.FieldType.boolean)) ∈ lw_g := lw_in (mT3 (List.mem_of_getElem? (i := 237) rfl)) rfl
theorem w3_238 : (Jvm.Cond.methodLink "DotPress$Table" (76 : Nat) ({ cls := "DotPress$Table", name := "isUpright", desc := "(LDotPress$Table;)Z" } : Jvm.MethodName)) ∈ lw_g := lw_in (mT3 (List.mem_of_getElem? (i := 238) rfl)) rfl
theorem w3_239 : (Jvm.Cond.static ({ cls := "DotPress$Table", name := "isUpright", desc := "(LDotPress$Table;)Z" } : Jvm.MethodName)) ∈ lw_g := lw_in (mT3 (List.mem_of_getElem? (i := 239) rfl)) rfl
theorem w3_25 : (Jvm.Cond.native ({ cls := "java/lang/Object", name := "getClass", desc := "()Ljava/lang/Class;" } : Jvm.MethodName)) ∈ lw_g := lw_in (mT3 (List.mem_of_getElem? (i := 25) rfl)) rfl
theorem w3_26 : (Jvm.Cond.methodLink "java/util/Arrays" (300 : Nat) ({ cls := "java/util/Arrays", name := "copyOf", desc := "([Ljava/lang/Object;ILjava/lang/Class;)[Ljava/lang/Object;" } : Jvm.MethodName)) ∈ lw_g := lw_in (mT3 (List.mem_of_getElem? (i := 26) rfl)) rfl
theorem w3_27 : (Jvm.Cond.static ({ cls := "java/util/Arrays", name := "copyOf", desc := "([Ljava/lang/Object;ILjava/lang/Class;)[Ljava/lang/Object;" } : Jvm.MethodName)) ∈ lw_g := lw_in (mT3 (List.mem_of_getElem? (i := 27) rfl)) rfl
theorem w3_28 : (Jvm.Cond.code ({ cls := "java/util/Arrays", name := "copyOf", desc := "([Ljava/lang/Object;ILjava/lang/Class;)[Ljava/lang/Object;" } : Jvm.MethodName) prog_24_method_120_code (4 : Nat) (Option.some (Jvm.ClassFile.FieldType.array (Jvm.ClassFile.FieldType.object "java/lang/Object")))) ∈ lw_g := lw_in (mT3 (List.mem_of_getElem? (i := 28) rfl)) rfl
theorem w3_29 : (Jvm.Cond.classLink "java/util/Arrays" (110 : Nat) "[Ljava/lang/Object;") ∈ lw_g := lw_in (mT3 (List.mem_of_getElem? (i := 29) rfl)) rfl
theorem w3_30t : (Jvm.Cond.arrayOver (Jvm.ClassFile.FieldType.object "java/lang/Object")) ∈ lw_tbl := mT3 (List.mem_of_getElem? (i := 30) rfl)
theorem w3_31 : (Jvm.Cond.classLink "java/util/Arrays" (2 : Nat) "java/lang/Object") ∈ lw_g := lw_in (mT3 (List.mem_of_getElem? (i := 31) rfl)) rfl
theorem w3_32 : (Jvm.Cond.methodLink "java/util/ArrayList" (79 : Nat) ({ cls := "java/lang/Math", name := "max", desc := "(II)I" } : Jvm.MethodName)) ∈ lw_g := lw_in (mT3 (List.mem_of_getElem? (i := 32) rfl)) rfl
theorem w3_33 : (Jvm.Cond.classLink "java/util/ArrayList" (7 : Nat) "java/lang/Object") ∈ lw_g := lw_in (mT3 (List.mem_of_getElem? (i := 33) rfl)) rfl
theorem w3_34 : (Jvm.Cond.classLink "DotPress$Tables" (47 : Nat) "DotPress$Change") ∈ lw_g := lw_in (mT3 (List.mem_of_getElem? (i := 34) rfl)) rfl
theorem w3_35 : (Jvm.Cond.instantiable "DotPress$Change" (4 : Nat)) ∈ lw_g := lw_in (mT3 (List.mem_of_getElem? (i := 35) rfl)) rfl
theorem w3_36 : (Jvm.Cond.methodLink "DotPress$Tables" (49 : Nat) ({ cls := "DotPress$Change", name := "<init>", desc := "(ILDotPress$Table;LDotPress$Row;I)V" } : Jvm.MethodName)) ∈ lw_g := lw_in (mT3 (List.mem_of_getElem? (i := 36) rfl)) rfl
theorem w3_37 : (Jvm.Cond.instanceMethod ({ cls := "DotPress$Change", name := "<init>", desc := "(ILDotPress$Table;LDotPress$Row;I)V" } : Jvm.MethodName)) ∈ lw_g := lw_in (mT3 (List.mem_of_getElem? (i := 37) rfl)) rfl
theorem w3_38 : (Jvm.Cond.code ({ cls := "DotPress$Change", name := "<init>", desc := "(ILDotPress$Table;LDotPress$Row;I)V" } : Jvm.MethodName) prog_2_method_1_code (5 : Nat) (Option.none : Option Jvm.ClassFile.FieldType)) ∈ lw_g := lw_in (mT3 (List.mem_of_getElem? (i := 38) rfl)) rfl
theorem w3_39 : (Jvm.Cond.methodLink "DotPress$Change" (1 : Nat) ({ cls := "java/lang/Object", name := "<init>", desc := "()V" } : Jvm.MethodName)) ∈ lw_g := lw_in (mT3 (List.mem_of_getElem? (i := 39) rfl)) rfl
theorem w3_40 : (Jvm.Cond.fieldLink "DotPress$Change" (7 : Nat) "DotPress$Change" "what" "I") ∈ lw_g := lw_in (mT3 (List.mem_of_getElem? (i := 40) rfl)) rfl
theorem w3_41 : (Jvm.Cond.fieldLink "DotPress$Tables" (62 : Nat) "DotPress$Change" "what" "I") ∈ lw_g := lw_in (mT3 (List.mem_of_getElem? (i := 41) rfl)) rfl
theorem w3_42 : (Jvm.Cond.fieldLink "DotPress$Change" (13 : Nat) "DotPress$Change" "table" "LDotPress$Table;") ∈ lw_g := lw_in (mT3 (List.mem_of_getElem? (i := 42) rfl)) rfl
theorem w3_43 : (Jvm.Cond.fieldLink "DotPress$Tables" (66 : Nat) "DotPress$Change" "table" "LDotPress$Table;") ∈ lw_g := lw_in (mT3 (List.mem_of_getElem? (i := 43) rfl)) rfl
theorem w3_44 : (Jvm.Cond.fieldLink "DotPress$Change" (17 : Nat) "DotPress$Change" "row" "LDotPress$Row;") ∈ lw_g := lw_in (mT3 (List.mem_of_getElem? (i := 44) rfl)) rfl
theorem w3_45 : (Jvm.Cond.fieldLink "DotPress$Tables" (73 : Nat) "DotPress$Change" "row" "LDotPress$Row;") ∈ lw_g := lw_in (mT3 (List.mem_of_getElem? (i := 45) rfl)) rfl
theorem w3_46 : (Jvm.Cond.fieldLink "DotPress$Change" (21 : Nat) "DotPress$Change" "number" "I") ∈ lw_g := lw_in (mT3 (List.mem_of_getElem? (i := 46) rfl)) rfl
theorem w3_47 : (Jvm.Cond.fieldLink "DotPress$Tables" (77 : Nat) "DotPress$Change" "number" "I") ∈ lw_g := lw_in (mT3 (List.mem_of_getElem? (i := 47) rfl)) rfl
theorem w3_48 : (Jvm.Cond.laysFinal "DotPress$Change" "DotPress$Change" "what" "I") ∈ lw_g := lw_in (mT3 (List.mem_of_getElem? (i := 48) rfl)) rfl
theorem w3_5 : (Jvm.Cond.methodLink "java/util/ArrayList" (66 : Nat) ({ cls := "java/util/Arrays", name := "copyOf", desc := "([Ljava/lang/Object;I)[Ljava/lang/Object;" } : Jvm.MethodName)) ∈ lw_g := lw_in (mT3 (List.mem_of_getElem? (i := 5) rfl)) rfl
theorem w3_50 : (Jvm.Cond.laysFinal "DotPress$Change" "DotPress$Change" "table" "LDotPress$Table;") ∈ lw_g := lw_in (mT3 (List.mem_of_getElem? (i := 50) rfl)) rfl
theorem w3_52 : (Jvm.Cond.laysFinal "DotPress$Change" "DotPress$Change" "row" "LDotPress$Row;") ∈ lw_g := lw_in (mT3 (List.mem_of_getElem? (i := 52) rfl)) rfl
theorem w3_54 : (Jvm.Cond.laysFinal "DotPress$Change" "DotPress$Change" "number" "I") ∈ lw_g := lw_in (mT3 (List.mem_of_getElem? (i := 54) rfl)) rfl
theorem w3_57 : (Jvm.Cond.methodLink "DotPress$Tables" (52 : Nat) ({ cls := "DotPress$Tables", name := "remember", desc := "(LDotPress$Change;)V" } : Jvm.MethodName)) ∈ lw_g := lw_in (mT3 (List.mem_of_getElem? (i := 57) rfl)) rfl
theorem w3_58 : (Jvm.Cond.instanceMethod ({ cls := "DotPress$Tables", name := "remember", desc := "(LDotPress$Change;)V" } : Jvm.MethodName)) ∈ lw_g := lw_in (mT3 (List.mem_of_getElem? (i := 58) rfl)) rfl
theorem w3_59 : (Jvm.Cond.selects "DotPress$Tables" ({ cls := "DotPress$Tables", name := "remember", desc := "(LDotPress$Change;)V" } : Jvm.MethodName) ({ cls := "DotPress$Tables", name := "remember", desc := "(LDotPress$Change;)V" } : Jvm.MethodName)) ∈ lw_g := lw_in (mT3 (List.mem_of_getElem? (i := 59) rfl)) rfl
theorem w3_6 : (Jvm.Cond.static ({ cls := "java/util/Arrays", name := "copyOf", desc := "([Ljava/lang/Object;I)[Ljava/lang/Object;" } : Jvm.MethodName)) ∈ lw_g := lw_in (mT3 (List.mem_of_getElem? (i := 6) rfl)) rfl
theorem w3_60 : (Jvm.Cond.code ({ cls := "DotPress$Tables", name := "remember", desc := "(LDotPress$Change;)V" } : Jvm.MethodName) prog_12_method_6_code (2 : Nat) (Option.none : Option Jvm.ClassFile.FieldType)) ∈ lw_g := lw_in (mT3 (List.mem_of_getElem? (i := 60) rfl)) rfl
theorem w3_61 : (Jvm.Cond.methodLink "DotPress$Tables" (56 : Nat) ({ cls := "java/util/ArrayList", name := "remove", desc := "(I)Ljava/lang/Object;" } : Jvm.MethodName)) ∈ lw_g := lw_in (mT3 (List.mem_of_getElem? (i := 61) rfl)) rfl
theorem w3_62 : (Jvm.Cond.instanceMethod ({ cls := "java/util/ArrayList", name := "remove", desc := "(I)Ljava/lang/Object;" } : Jvm.MethodName)) ∈ lw_g := lw_in (mT3 (List.mem_of_getElem? (i := 62) rfl)) rfl
theorem w3_63 : (Jvm.Cond.selects "java/util/ArrayList" ({ cls := "java/util/ArrayList", name := "remove", desc := "(I)Ljava/lang/Object;" } : Jvm.MethodName) ({ cls := "java/util/ArrayList", name := "remove", desc := "(I)Ljava/lang/Object;" } : Jvm.MethodName)) ∈ lw_g := lw_in (mT3 (List.mem_of_getElem? (i := 63) rfl)) rfl
theorem w3_64 : (Jvm.Cond.code ({ cls := "java/util/ArrayList", name := "remove", desc := "(I)Ljava/lang/Object;" } : Jvm.MethodName) prog_23_method_29_code (4 : Nat) (Option.some (Jvm.ClassFile.FieldType.object "java/lang/Object"))) ∈ lw_g := lw_in (mT3 (List.mem_of_getElem? (i := 64) rfl)) rfl
theorem w3_65 : (Jvm.Cond.methodLink "java/util/ArrayList" (118 : Nat) ({ cls := "java/util/Objects", name := "checkIndex", desc := "(II)I" } : Jvm.MethodName)) ∈ lw_g := lw_in (mT3 (List.mem_of_getElem? (i := 65) rfl)) rfl
theorem w3_66 : (Jvm.Cond.static ({ cls := "java/util/Objects", name := "checkIndex", desc := "(II)I" } : Jvm.MethodName)) ∈ lw_g := lw_in (mT3 (List.mem_of_getElem? (i := 66) rfl)) rfl
theorem w3_67 : (Jvm.Cond.code ({ cls := "java/util/Objects", name := "checkIndex", desc := "(II)I" } : Jvm.MethodName) prog_27_method_17_code (2 : Nat) (Option.some Jvm.ClassFile.FieldType.int)) ∈ lw_g := lw_in (mT3 (List.mem_of_getElem? (i := 67) rfl)) rfl
theorem w3_68 : (Jvm.Cond.methodLink "java/util/Objects" (105 : Nat) ({ cls := "jdk/internal/util/Preconditions", name := "checkIndex", desc := "(IILjava/util/function/BiFunction;)I" } : Jvm.MethodName)) ∈ lw_g := lw_in (mT3 (List.mem_of_getElem? (i := 68) rfl)) rfl
theorem w3_69 : (Jvm.Cond.static ({ cls := "jdk/internal/util/Preconditions", name := "checkIndex", desc := "(IILjava/util/function/BiFunction;)I" } : Jvm.MethodName)) ∈ lw_g := lw_in (mT3 (List.mem_of_getElem? (i := 69) rfl)) rfl
theorem w3_7 : (Jvm.Cond.code ({ cls := "java/util/Arrays", name := "copyOf", desc := "([Ljava/lang/Object;I)[Ljava/lang/Object;" } : Jvm.MethodName) prog_24_method_119_code (2 : Nat) (Option.some (Jvm.ClassFile.FieldType.array (Jvm.ClassFile.FieldType.object "java/lang/Object")))) ∈ lw_g := lw_in (mT3 (List.mem_of_getElem? (i := 7) rfl)) rfl
theorem w3_70 : (Jvm.Cond.code ({ cls := "jdk/internal/util/Preconditions", name := "checkIndex", desc := "(IILjava/util/function/BiFunction;)I" } : Jvm.MethodName) prog_31_method_11_code (3 : Nat) (Option.some Jvm.ClassFile.FieldType.int)) ∈ lw_g := lw_in (mT3 (List.mem_of_getElem? (i := 70) rfl)) rfl
theorem w3_71 : (Jvm.Cond.methodLink "java/util/ArrayList" (144 : Nat) ({ cls := "java/util/ArrayList", name := "fastRemove", desc := "([Ljava/lang/Object;I)V" } : Jvm.MethodName)) ∈ lw_g := lw_in (mT3 (List.mem_of_getElem? (i := 71) rfl)) rfl
theorem w3_73 : (Jvm.Cond.instanceMethod ({ cls := "java/util/ArrayList", name := "fastRemove", desc := "([Ljava/lang/Object;I)V" } : Jvm.MethodName)) ∈ lw_g := lw_in (mT3 (List.mem_of_getElem? (i := 73) rfl)) rfl
theorem w3_74 : (Jvm.Cond.code ({ cls := "java/util/ArrayList", name := "fastRemove", desc := "([Ljava/lang/Object;I)V" } : Jvm.MethodName) prog_23_method_39_code (4 : Nat) (Option.none : Option Jvm.ClassFile.FieldType)) ∈ lw_g := lw_in (mT3 (List.mem_of_getElem? (i := 74) rfl)) rfl
theorem w3_76 : (Jvm.Cond.methodLink "DotPress" (131 : Nat) ({ cls := "DotPress$Tables", name := "alive", desc := "(I)LDotPress$Table;" } : Jvm.MethodName)) ∈ lw_g := lw_in (mT3 (List.mem_of_getElem? (i := 76) rfl)) rfl
theorem w3_77 : (Jvm.Cond.instanceMethod ({ cls := "DotPress$Tables", name := "alive", desc := "(I)LDotPress$Table;" } : Jvm.MethodName)) ∈ lw_g := lw_in (mT3 (List.mem_of_getElem? (i := 77) rfl)) rfl
theorem w3_78 : (Jvm.Cond.selects "DotPress$Tables" ({ cls := "DotPress$Tables", name := "alive", desc := "(I)LDotPress$Table;" } : Jvm.MethodName) ({ cls := "DotPress$Tables", name := "alive", desc := "(I)LDotPress$Table;" } : Jvm.MethodName)) ∈ lw_g := lw_in (mT3 (List.mem_of_getElem? (i := 78) rfl)) rfl
theorem w3_79 : (Jvm.Cond.code ({ cls := "DotPress$Tables", name := "alive", desc := "(I)LDotPress$Table;" } : Jvm.MethodName) prog_12_method_3_code (3 : Nat) (Option.some (Jvm.ClassFile.FieldType.object "DotPress$Table"))) ∈ lw_g := lw_in (mT3 (List.mem_of_getElem? (i := 79) rfl)) rfl
theorem w3_8 : (Jvm.Cond.methodLink "java/util/Arrays" (86 : Nat) ({ cls := "java/lang/Object", name := "getClass", desc := "()Ljava/lang/Class;" } : Jvm.MethodName)) ∈ lw_g := lw_in (mT3 (List.mem_of_getElem? (i := 8) rfl)) rfl
theorem w3_80 : (Jvm.Cond.methodLink "DotPress$Tables" (25 : Nat) ({ cls := "java/util/ArrayList", name := "get", desc := "(I)Ljava/lang/Object;" } : Jvm.MethodName)) ∈ lw_g := lw_in (mT3 (List.mem_of_getElem? (i := 80) rfl)) rfl
theorem w3_81 : (Jvm.Cond.instanceMethod ({ cls := "java/util/ArrayList", name := "get", desc := "(I)Ljava/lang/Object;" } : Jvm.MethodName)) ∈ lw_g := lw_in (mT3 (List.mem_of_getElem? (i := 81) rfl)) rfl
theorem w3_82 : (Jvm.Cond.selects "java/util/ArrayList" ({ cls := "java/util/ArrayList", name := "get", desc := "(I)Ljava/lang/Object;" } : Jvm.MethodName) ({ cls := "java/util/ArrayList", name := "get", desc := "(I)Ljava/lang/Object;" } : Jvm.MethodName)) ∈ lw_g := lw_in (mT3 (List.mem_of_getElem? (i := 82) rfl)) rfl
theorem w3_83 : (Jvm.Cond.code ({ cls := "java/util/ArrayList", name := "get", desc := "(I)Ljava/lang/Object;" } : Jvm.MethodName) prog_23_method_20_code (2 : Nat) (Option.some (Jvm.ClassFile.FieldType.object "java/lang/Object"))) ∈ lw_g := lw_in (mT3 (List.mem_of_getElem? (i := 83) rfl)) rfl
theorem w3_84 : (Jvm.Cond.methodLink "java/util/ArrayList" (123 : Nat) ({ cls := "java/util/ArrayList", name := "elementData", desc := "(I)Ljava/lang/Object;" } : Jvm.MethodName)) ∈ lw_g := lw_in (mT3 (List.mem_of_getElem? (i := 84) rfl)) rfl
theorem w3_85 : (Jvm.Cond.instanceMethod ({ cls := "java/util/ArrayList", name := "elementData", desc := "(I)Ljava/lang/Object;" } : Jvm.MethodName)) ∈ lw_g := lw_in (mT3 (List.mem_of_getElem? (i := 85) rfl)) rfl
theorem w3_86 : (Jvm.Cond.selects "java/util/ArrayList" ({ cls := "java/util/ArrayList", name := "elementData", desc := "(I)Ljava/lang/Object;" } : Jvm.MethodName) ({ cls := "java/util/ArrayList", name := "elementData", desc := "(I)Ljava/lang/Object;" } : Jvm.MethodName)) ∈ lw_g := lw_in (mT3 (List.mem_of_getElem? (i := 86) rfl)) rfl
theorem w3_87 : (Jvm.Cond.code ({ cls := "java/util/ArrayList", name := "elementData", desc := "(I)Ljava/lang/Object;" } : Jvm.MethodName) prog_23_method_18_code (2 : Nat) (Option.some (Jvm.ClassFile.FieldType.object "java/lang/Object"))) ∈ lw_g := lw_in (mT3 (List.mem_of_getElem? (i := 87) rfl)) rfl
theorem w3_88 : (Jvm.Cond.classLink "DotPress$Tables" (29 : Nat) "DotPress$Table") ∈ lw_g := lw_in (mT3 (List.mem_of_getElem? (i := 88) rfl)) rfl
theorem w3_89 : (Jvm.Cond.methodLink "DotPressLaw" (28 : Nat) ({ cls := "DotPress", name := "join", desc := "(II)I" } : Jvm.MethodName)) ∈ lw_g := lw_in (mT3 (List.mem_of_getElem? (i := 89) rfl)) rfl
theorem w3_9 : (Jvm.Cond.instanceMethod ({ cls := "java/lang/Object", name := "getClass", desc := "()Ljava/lang/Class;" } : Jvm.MethodName)) ∈ lw_g := lw_in (mT3 (List.mem_of_getElem? (i := 9) rfl)) rfl
theorem w3_90 : (Jvm.Cond.instanceMethod ({ cls := "DotPress", name := "join", desc := "(II)I" } : Jvm.MethodName)) ∈ lw_g := lw_in (mT3 (List.mem_of_getElem? (i := 90) rfl)) rfl
theorem w3_91 : (Jvm.Cond.selects "DotPress" ({ cls := "DotPress", name := "join", desc := "(II)I" } : Jvm.MethodName) ({ cls := "DotPress", name := "join", desc := "(II)I" } : Jvm.MethodName)) ∈ lw_g := lw_in (mT3 (List.mem_of_getElem? (i := 91) rfl)) rfl
theorem w3_92 : (Jvm.Cond.code ({ cls := "DotPress", name := "join", desc := "(II)I" } : Jvm.MethodName) prog_1_method_6_code (5 : Nat) (Option.some Jvm.ClassFile.FieldType.int)) ∈ lw_g := lw_in (mT3 (List.mem_of_getElem? (i := 92) rfl)) rfl
theorem w3_93 : (Jvm.Cond.methodLink "DotPress" (141 : Nat) ({ cls := "java/lang/Math", name := "max", desc := "(II)I" } : Jvm.MethodName)) ∈ lw_g := lw_in (mT3 (List.mem_of_getElem? (i := 93) rfl)) rfl
theorem w3_94 : (Jvm.Cond.methodLink "DotPressLaw" (33 : Nat) ({ cls := "DotPress", name := "drop", desc := "(I)I" } : Jvm.MethodName)) ∈ lw_g := lw_in (mT3 (List.mem_of_getElem? (i := 94) rfl)) rfl
theorem w3_95 : (Jvm.Cond.instanceMethod ({ cls := "DotPress", name := "drop", desc := "(I)I" } : Jvm.MethodName)) ∈ lw_g := lw_in (mT3 (List.mem_of_getElem? (i := 95) rfl)) rfl
theorem w3_96 : (Jvm.Cond.selects "DotPress" ({ cls := "DotPress", name := "drop", desc := "(I)I" } : Jvm.MethodName) ({ cls := "DotPress", name := "drop", desc := "(I)I" } : Jvm.MethodName)) ∈ lw_g := lw_in (mT3 (List.mem_of_getElem? (i := 96) rfl)) rfl
theorem w3_97 : (Jvm.Cond.code ({ cls := "DotPress", name := "drop", desc := "(I)I" } : Jvm.MethodName) prog_1_method_7_code (3 : Nat) (Option.some Jvm.ClassFile.FieldType.int)) ∈ lw_g := lw_in (mT3 (List.mem_of_getElem? (i := 97) rfl)) rfl
theorem w3_98 : (Jvm.Cond.classLink "DotPress" (147 : Nat) "DotPress$Change") ∈ lw_g := lw_in (mT3 (List.mem_of_getElem? (i := 98) rfl)) rfl
theorem w3_99 : (Jvm.Cond.methodLink "DotPress" (149 : Nat) ({ cls := "DotPress$Change", name := "<init>", desc := "(ILDotPress$Table;LDotPress$Row;I)V" } : Jvm.MethodName)) ∈ lw_g := lw_in (mT3 (List.mem_of_getElem? (i := 99) rfl)) rfl
theorem w4_0 : (Jvm.Cond.code ({ cls := "DotPress$Table", name := "isUpright", desc := "(LDotPress$Table;)Z" } : Jvm.MethodName) prog_11_method_6_code (2 : Nat) (Option.some Jvm.ClassFile.FieldType.boolean)) ∈ lw_g := lw_in (mT4 (List.mem_of_getElem? (i := 0) rfl)) rfl
theorem w4_1 : (Jvm.Cond.methodLink "DotPress" (234 : Nat) ({ cls := "DotPress$Sheet", name := "clear", desc := "()V" } : Jvm.MethodName)) ∈ lw_g := lw_in (mT4 (List.mem_of_getElem? (i := 1) rfl)) rfl
theorem w4_10 : (Jvm.Cond.instanceMethod ({ cls := "DotPress$Source", name := "step", desc := "(LDotPress$Ints;LDotPress$Setting;)I" } : Jvm.MethodName)) ∈ lw_g := lw_in (mT4 (List.mem_of_getElem? (i := 10) rfl)) rfl
theorem w4_100 : (Jvm.Cond.methodLink "DotPress$Setting" (119 : Nat) ({ cls := "DotPress$Setting", name := "countFind", desc := "(I)V" } : Jvm.MethodName)) ∈ lw_g := lw_in (mT4 (List.mem_of_getElem? (i := 100) rfl)) rfl
theorem w4_102 : (Jvm.Cond.instanceMethod ({ cls := "DotPress$Setting", name := "countFind", desc := "(I)V" } : Jvm.MethodName)) ∈ lw_g := lw_in (mT4 (List.mem_of_getElem? (i := 102) rfl)) rfl
theorem w4_103 : (Jvm.Cond.code ({ cls := "DotPress$Setting", name := "countFind", desc := "(I)V" } : Jvm.MethodName) prog_8_method_16_code (2 : Nat) (Option.none : Option Jvm.ClassFile.FieldType)) ∈ lw_g := lw_in (mT4 (List.mem_of_getElem? (i := 103) rfl)) rfl
theorem w4_104 : (Jvm.Cond.methodLink "DotPress$Setting" (122 : Nat) ({ cls := "DotPress$Setting", name := "findOwn", desc := "(LDotPress$Table;IILDotPress$Row;)LDotPress$Row;" } : Jvm.MethodName)) ∈ lw_g := lw_in (mT4 (List.mem_of_getElem? (i := 104) rfl)) rfl
theorem w4_106 : (Jvm.Cond.instanceMethod ({ cls := "DotPress$Setting", name := "findOwn", desc := "(LDotPress$Table;IILDotPress$Row;)LDotPress$Row;" } : Jvm.MethodName)) ∈ lw_g := lw_in (mT4 (List.mem_of_getElem? (i := 106) rfl)) rfl
theorem w4_107 : (Jvm.Cond.code ({ cls := "DotPress$Setting", name := "findOwn", desc := "(LDotPress$Table;IILDotPress$Row;)LDotPress$Row;" } : Jvm.MethodName) prog_8_method_17_code (11 : Nat) (Option.some (Jvm.ClassFile.FieldType.object "DotPress$Row"))) ∈ lw_g := lw_in (mT4 (List.mem_of_getElem? (i := 107) rfl)) rfl
theorem w4_108 : (Jvm.Cond.methodLink "DotPress$Setting" (134 : Nat) ({ cls := "java/util/ArrayList", name := "size", desc := "()I" } : Jvm.MethodName)) ∈ lw_g := lw_in (mT4 (List.mem_of_getElem? (i := 108) rfl)) rfl
theorem w4_109 : (Jvm.Cond.methodLink "DotPress$Setting" (139 : Nat) ({ cls := "java/lang/Math", name := "min", desc := "(II)I" } : Jvm.MethodName)) ∈ lw_g := lw_in (mT4 (List.mem_of_getElem? (i := 109) rfl)) rfl
theorem w4_11 : (Jvm.Cond.selects "DotPress$Source" ({ cls := "DotPress$Source", name := "step", desc := "(LDotPress$Ints;LDotPress$Setting;)I" } : Jvm.MethodName) ({ cls := "DotPress$Source", name := "step", desc := "(LDotPress$Ints;LDotPress$Setting;)I" } : Jvm.MethodName)) ∈ lw_g := lw_in (mT4 (List.mem_of_getElem? (i := 11) rfl)) rfl
theorem w4_110 : (Jvm.Cond.methodLink "DotPress$Setting" (145 : Nat) ({ cls := "java/util/ArrayList", name := "get", desc := "(I)Ljava/lang/Object;" } : Jvm.MethodName)) ∈ lw_g := lw_in (mT4 (List.mem_of_getElem? (i := 110) rfl)) rfl
theorem w4_111 : (Jvm.Cond.classLink "DotPress$Setting" (103 : Nat) "DotPress$Row") ∈ lw_g := lw_in (mT4 (List.mem_of_getElem? (i := 111) rfl)) rfl
theorem w4_112 : (Jvm.Cond.methodLink "DotPress$Setting" (149 : Nat) ({ cls := "DotPress$Setting", name := "fits", desc := "(LDotPress$Row;I)Z" } : Jvm.MethodName)) ∈ lw_g := lw_in (mT4 (List.mem_of_getElem? (i := 112) rfl)) rfl
theorem w4_114 : (Jvm.Cond.instanceMethod ({ cls := "DotPress$Setting", name := "fits", desc := "(LDotPress$Row;I)Z" } : Jvm.MethodName)) ∈ lw_g := lw_in (mT4 (List.mem_of_getElem? (i := 114) rfl)) rfl
theorem w4_115 : (Jvm.Cond.code ({ cls := "DotPress$Setting", name := "fits", desc := "(LDotPress$Row;I)Z" } : Jvm.MethodName) prog_8_method_18_code (6 : Nat) (Option.some Jvm.ClassFile.FieldType.boolean)) ∈ lw_g := lw_in (mT4 (List.mem_of_getElem? (i := 115) rfl)) rfl
theorem w4_116 : (Jvm.Cond.methodLink "DotPress$Setting" (156 : Nat) ({ cls := "DotPress$Setting", name := "isSign", desc := "(I)Z" } : Jvm.MethodName)) ∈ lw_g := lw_in (mT4 (List.mem_of_getElem? (i := 116) rfl)) rfl
theorem w4_117 : (Jvm.Cond.static ({ cls := "DotPress$Setting", name := "isSign", desc := "(I)Z" } : Jvm.MethodName)) ∈ lw_g := lw_in (mT4 (List.mem_of_getElem? (i := 117) rfl)) rfl
theorem w4_118 : (Jvm.Cond.code ({ cls := "DotPress$Setting", name := "isSign", desc := "(I)Z" } : Jvm.MethodName) prog_8_method_19_code (1 : Nat) (Option.some Jvm.ClassFile.FieldType.boolean)) ∈ lw_g := lw_in (mT4 (List.mem_of_getElem? (i := 118) rfl)) rfl
theorem w4_119t : (Jvm.Cond.methodLinkNest "DotPress$Setting" (98 : Nat) ({ cls := "DotPress", name := "isGreat", desc := "(I)Z" } : Jvm.MethodName) "DotPress") ∈ lw_tbl := mT4 (List.mem_of_getElem? (i := 119) rfl)
theorem w4_12 : (Jvm.Cond.code ({ cls := "DotPress$Source", name := "step", desc := "(LDotPress$Ints;LDotPress$Setting;)I" } : Jvm.MethodName) prog_10_method_3_code (4 : Nat) (Option.some Jvm.ClassFile.FieldType.int)) ∈ lw_g := lw_in (mT4 (List.mem_of_getElem? (i := 12) rfl)) rfl
theorem w4_120 : (Jvm.Cond.static ({ cls := "DotPress", name := "isGreat", desc := "(I)Z" } : Jvm.MethodName)) ∈ lw_g := lw_in (mT4 (List.mem_of_getElem? (i := 120) rfl)) rfl
theorem w4_121 : (Jvm.Cond.code ({ cls := "DotPress", name := "isGreat", desc := "(I)Z" } : Jvm.MethodName) prog_1_method_57_code (1 : Nat) (Option.some Jvm.ClassFile.FieldType.boolean)) ∈ lw_g := lw_in (mT4 (List.mem_of_getElem? (i := 121) rfl)) rfl
theorem w4_122 : (Jvm.Cond.methodLink "DotPress$Setting" (105 : Nat) ({ cls := "DotPress$Setting", name := "markStart", desc := "(II)V" } : Jvm.MethodName)) ∈ lw_g := lw_in (mT4 (List.mem_of_getElem? (i := 122) rfl)) rfl
theorem w4_124 : (Jvm.Cond.instanceMethod ({ cls := "DotPress$Setting", name := "markStart", desc := "(II)V" } : Jvm.MethodName)) ∈ lw_g := lw_in (mT4 (List.mem_of_getElem? (i := 124) rfl)) rfl
theorem w4_125 : (Jvm.Cond.code ({ cls := "DotPress$Setting", name := "markStart", desc := "(II)V" } : Jvm.MethodName) prog_8_method_12_code (4 : Nat) (Option.none : Option Jvm.ClassFile.FieldType)) ∈ lw_g := lw_in (mT4 (List.mem_of_getElem? (i := 125) rfl)) rfl
theorem w4_126 : (Jvm.Cond.methodLink "DotPress$Setting" (86 : Nat) ({ cls := "DotPress$Setting", name := "push", desc := "(LDotPress$Row;)V" } : Jvm.MethodName)) ∈ lw_g := lw_in (mT4 (List.mem_of_getElem? (i := 126) rfl)) rfl
theorem w4_128 : (Jvm.Cond.instanceMethod ({ cls := "DotPress$Setting", name := "push", desc := "(LDotPress$Row;)V" } : Jvm.MethodName)) ∈ lw_g := lw_in (mT4 (List.mem_of_getElem? (i := 128) rfl)) rfl
theorem w4_129 : (Jvm.Cond.code ({ cls := "DotPress$Setting", name := "push", desc := "(LDotPress$Row;)V" } : Jvm.MethodName) prog_8_method_14_code (3 : Nat) (Option.none : Option Jvm.ClassFile.FieldType)) ∈ lw_g := lw_in (mT4 (List.mem_of_getElem? (i := 129) rfl)) rfl
theorem w4_13 : (Jvm.Cond.methodLink "DotPress$Source" (39 : Nat) ({ cls := "DotPress$Source", name := "enterLine", desc := "(LDotPress$Ints;)I" } : Jvm.MethodName)) ∈ lw_g := lw_in (mT4 (List.mem_of_getElem? (i := 13) rfl)) rfl
theorem w4_130 : (Jvm.Cond.methodLink "DotPress$Setting" (109 : Nat) ({ cls := "java/lang/Math", name := "max", desc := "(II)I" } : Jvm.MethodName)) ∈ lw_g := lw_in (mT4 (List.mem_of_getElem? (i := 130) rfl)) rfl
theorem w4_131 : (Jvm.Cond.methodLink "DotPress$Setting" (82 : Nat) ({ cls := "DotPress$Setting", name := "setTurn", desc := "(LDotPress$Row;I)I" } : Jvm.MethodName)) ∈ lw_g := lw_in (mT4 (List.mem_of_getElem? (i := 131) rfl)) rfl
theorem w4_133 : (Jvm.Cond.instanceMethod ({ cls := "DotPress$Setting", name := "setTurn", desc := "(LDotPress$Row;I)I" } : Jvm.MethodName)) ∈ lw_g := lw_in (mT4 (List.mem_of_getElem? (i := 133) rfl)) rfl
theorem w4_134 : (Jvm.Cond.code ({ cls := "DotPress$Setting", name := "setTurn", desc := "(LDotPress$Row;I)I" } : Jvm.MethodName) prog_8_method_10_code (3 : Nat) (Option.some Jvm.ClassFile.FieldType.int)) ∈ lw_g := lw_in (mT4 (List.mem_of_getElem? (i := 134) rfl)) rfl
theorem w4_135 : (Jvm.Cond.methodLink "DotPress" (256 : Nat) ({ cls := "DotPress$Sheet", name := "take", desc := "(LDotPress$Setting;III)Z" } : Jvm.MethodName)) ∈ lw_g := lw_in (mT4 (List.mem_of_getElem? (i := 135) rfl)) rfl
theorem w4_136 : (Jvm.Cond.instanceMethod ({ cls := "DotPress$Sheet", name := "take", desc := "(LDotPress$Setting;III)Z" } : Jvm.MethodName)) ∈ lw_g := lw_in (mT4 (List.mem_of_getElem? (i := 136) rfl)) rfl
theorem w4_137 : (Jvm.Cond.selects "DotPress$Sheet" ({ cls := "DotPress$Sheet", name := "take", desc := "(LDotPress$Setting;III)Z" } : Jvm.MethodName) ({ cls := "DotPress$Sheet", name := "take", desc := "(LDotPress$Setting;III)Z" } : Jvm.MethodName)) ∈ lw_g := lw_in (mT4 (List.mem_of_getElem? (i := 137) rfl)) rfl
theorem w4_138 : (Jvm.Cond.code ({ cls := "DotPress$Sheet", name := "take", desc := "(LDotPress$Setting;III)Z" } : Jvm.MethodName) prog_9_method_7_code (10 : Nat) (Option.some Jvm.ClassFile.FieldType.boolean)) ∈ lw_g := lw_in (mT4 (List.mem_of_getElem? (i := 138) rfl)) rfl
theorem w4_139 : (Jvm.Cond.methodLink "DotPress$Sheet" (42 : Nat) ({ cls := "DotPress$Line", name := "addPart", desc := "(LDotPress$Setting;II)V" } : Jvm.MethodName)) ∈ lw_g := lw_in (mT4 (List.mem_of_getElem? (i := 139) rfl)) rfl
theorem w4_140 : (Jvm.Cond.instanceMethod ({ cls := "DotPress$Line", name := "addPart", desc := "(LDotPress$Setting;II)V" } : Jvm.MethodName)) ∈ lw_g := lw_in (mT4 (List.mem_of_getElem? (i := 140) rfl)) rfl
theorem w4_141 : (Jvm.Cond.selects "DotPress$Line" ({ cls := "DotPress$Line", name := "addPart", desc := "(LDotPress$Setting;II)V" } : Jvm.MethodName) ({ cls := "DotPress$Line", name := "addPart", desc := "(LDotPress$Setting;II)V" } : Jvm.MethodName)) ∈ lw_g := lw_in (mT4 (List.mem_of_getElem? (i := 141) rfl)) rfl
theorem w4_142 : (Jvm.Cond.code ({ cls := "DotPress$Line", name := "addPart", desc := "(LDotPress$Setting;II)V" } : Jvm.MethodName) prog_4_method_4_code (5 : Nat) (Option.none : Option Jvm.ClassFile.FieldType)) ∈ lw_g := lw_in (mT4 (List.mem_of_getElem? (i := 142) rfl)) rfl
theorem w4_143 : (Jvm.Cond.methodLink "DotPress$Line" (23 : Nat) ({ cls := "DotPress$Line", name := "add", desc := "(I)V" } : Jvm.MethodName)) ∈ lw_g := lw_in (mT4 (List.mem_of_getElem? (i := 143) rfl)) rfl
theorem w4_144 : (Jvm.Cond.instanceMethod ({ cls := "DotPress$Line", name := "add", desc := "(I)V" } : Jvm.MethodName)) ∈ lw_g := lw_in (mT4 (List.mem_of_getElem? (i := 144) rfl)) rfl
theorem w4_145 : (Jvm.Cond.selects "DotPress$Line" ({ cls := "DotPress$Line", name := "add", desc := "(I)V" } : Jvm.MethodName) ({ cls := "DotPress$Line", name := "add", desc := "(I)V" } : Jvm.MethodName)) ∈ lw_g := lw_in (mT4 (List.mem_of_getElem? (i := 145) rfl)) rfl
theorem w4_146 : (Jvm.Cond.code ({ cls := "DotPress$Line", name := "add", desc := "(I)V" } : Jvm.MethodName) prog_4_method_3_code (2 : Nat) (Option.none : Option Jvm.ClassFile.FieldType)) ∈ lw_g := lw_in (mT4 (List.mem_of_getElem? (i := 146) rfl)) rfl
theorem w4_147 : (Jvm.Cond.methodLink "DotPress$Sheet" (46 : Nat) ({ cls := "DotPress$Setting", name := "lastBreak", desc := "(III)I" } : Jvm.MethodName)) ∈ lw_g := lw_in (mT4 (List.mem_of_getElem? (i := 147) rfl)) rfl
theorem w4_148 : (Jvm.Cond.instanceMethod ({ cls := "DotPress$Setting", name := "lastBreak", desc := "(III)I" } : Jvm.MethodName)) ∈ lw_g := lw_in (mT4 (List.mem_of_getElem? (i := 148) rfl)) rfl
theorem w4_149 : (Jvm.Cond.selects "DotPress$Setting" ({ cls := "DotPress$Setting", name := "lastBreak", desc := "(III)I" } : Jvm.MethodName) ({ cls := "DotPress$Setting", name := "lastBreak", desc := "(III)I" } : Jvm.MethodName)) ∈ lw_g := lw_in (mT4 (List.mem_of_getElem? (i := 149) rfl)) rfl
theorem w4_15 : (Jvm.Cond.instanceMethod ({ cls := "DotPress$Source", name := "enterLine", desc := "(LDotPress$Ints;)I" } : Jvm.MethodName)) ∈ lw_g := lw_in (mT4 (List.mem_of_getElem? (i := 15) rfl)) rfl
theorem w4_150 : (Jvm.Cond.code ({ cls := "DotPress$Setting", name := "lastBreak", desc := "(III)I" } : Jvm.MethodName) prog_8_method_20_code (7 : Nat) (Option.some Jvm.ClassFile.FieldType.int)) ∈ lw_g := lw_in (mT4 (List.mem_of_getElem? (i := 150) rfl)) rfl
theorem w4_151 : (Jvm.Cond.methodLink "DotPress$Sheet" (50 : Nat) ({ cls := "DotPress$Line", name := "add", desc := "(I)V" } : Jvm.MethodName)) ∈ lw_g := lw_in (mT4 (List.mem_of_getElem? (i := 151) rfl)) rfl
theorem w4_152 : (Jvm.Cond.methodLink "DotPress" (260 : Nat) ({ cls := "DotPress", name := "publish", desc := "()I" } : Jvm.MethodName)) ∈ lw_g := lw_in (mT4 (List.mem_of_getElem? (i := 152) rfl)) rfl
theorem w4_154 : (Jvm.Cond.instanceMethod ({ cls := "DotPress", name := "publish", desc := "()I" } : Jvm.MethodName)) ∈ lw_g := lw_in (mT4 (List.mem_of_getElem? (i := 154) rfl)) rfl
theorem w4_155 : (Jvm.Cond.code ({ cls := "DotPress", name := "publish", desc := "()I" } : Jvm.MethodName) prog_1_method_20_code (2 : Nat) (Option.some Jvm.ClassFile.FieldType.int)) ∈ lw_g := lw_in (mT4 (List.mem_of_getElem? (i := 155) rfl)) rfl
theorem w4_156 : (Jvm.Cond.methodLink "DotPress" (263 : Nat) ({ cls := "DotPress$Setting", name := "placeOfUnknown", desc := "()I" } : Jvm.MethodName)) ∈ lw_g := lw_in (mT4 (List.mem_of_getElem? (i := 156) rfl)) rfl
theorem w4_157 : (Jvm.Cond.instanceMethod ({ cls := "DotPress$Setting", name := "placeOfUnknown", desc := "()I" } : Jvm.MethodName)) ∈ lw_g := lw_in (mT4 (List.mem_of_getElem? (i := 157) rfl)) rfl
theorem w4_158 : (Jvm.Cond.selects "DotPress$Setting" ({ cls := "DotPress$Setting", name := "placeOfUnknown", desc := "()I" } : Jvm.MethodName) ({ cls := "DotPress$Setting", name := "placeOfUnknown", desc := "()I" } : Jvm.MethodName)) ∈ lw_g := lw_in (mT4 (List.mem_of_getElem? (i := 158) rfl)) rfl
theorem w4_159 : (Jvm.Cond.code ({ cls := "DotPress$Setting", name := "placeOfUnknown", desc := "()I" } : Jvm.MethodName) prog_8_method_5_code (1 : Nat) (Option.some Jvm.ClassFile.FieldType.int)) ∈ lw_g := lw_in (mT4 (List.mem_of_getElem? (i := 159) rfl)) rfl
theorem w4_16 : (Jvm.Cond.code ({ cls := "DotPress$Source", name := "enterLine", desc := "(LDotPress$Ints;)I" } : Jvm.MethodName) prog_10_method_4_code (2 : Nat) (Option.some Jvm.ClassFile.FieldType.int)) ∈ lw_g := lw_in (mT4 (List.mem_of_getElem? (i := 16) rfl)) rfl
theorem w4_160 : (Jvm.Cond.methodLink "DotPress" (266 : Nat) ({ cls := "DotPress", name := "refuseAt", desc := "(II)I" } : Jvm.MethodName)) ∈ lw_g := lw_in (mT4 (List.mem_of_getElem? (i := 160) rfl)) rfl
theorem w4_162 : (Jvm.Cond.instanceMethod ({ cls := "DotPress", name := "refuseAt", desc := "(II)I" } : Jvm.MethodName)) ∈ lw_g := lw_in (mT4 (List.mem_of_getElem? (i := 162) rfl)) rfl
theorem w4_163 : (Jvm.Cond.code ({ cls := "DotPress", name := "refuseAt", desc := "(II)I" } : Jvm.MethodName) prog_1_method_55_code (3 : Nat) (Option.some Jvm.ClassFile.FieldType.int)) ∈ lw_g := lw_in (mT4 (List.mem_of_getElem? (i := 163) rfl)) rfl
theorem w4_164 : (Jvm.Cond.methodLink "DotPressLaw" (66 : Nat) ({ cls := "DotPress", name := "head", desc := "(I)I" } : Jvm.MethodName)) ∈ lw_g := lw_in (mT4 (List.mem_of_getElem? (i := 164) rfl)) rfl
theorem w4_165 : (Jvm.Cond.instanceMethod ({ cls := "DotPress", name := "head", desc := "(I)I" } : Jvm.MethodName)) ∈ lw_g := lw_in (mT4 (List.mem_of_getElem? (i := 165) rfl)) rfl
theorem w4_166 : (Jvm.Cond.selects "DotPress" ({ cls := "DotPress", name := "head", desc := "(I)I" } : Jvm.MethodName) ({ cls := "DotPress", name := "head", desc := "(I)I" } : Jvm.MethodName)) ∈ lw_g := lw_in (mT4 (List.mem_of_getElem? (i := 166) rfl)) rfl
theorem w4_167 : (Jvm.Cond.code ({ cls := "DotPress", name := "head", desc := "(I)I" } : Jvm.MethodName) prog_1_method_21_code (6 : Nat) (Option.some Jvm.ClassFile.FieldType.int)) ∈ lw_g := lw_in (mT4 (List.mem_of_getElem? (i := 167) rfl)) rfl
theorem w4_168 : (Jvm.Cond.methodLink "DotPress" (272 : Nat) ({ cls := "DotPress$Setting", name := "clear", desc := "()V" } : Jvm.MethodName)) ∈ lw_g := lw_in (mT4 (List.mem_of_getElem? (i := 168) rfl)) rfl
theorem w4_169 : (Jvm.Cond.methodLink "DotPress" (273 : Nat) ({ cls := "DotPress$Setting", name := "put", desc := "(II)V" } : Jvm.MethodName)) ∈ lw_g := lw_in (mT4 (List.mem_of_getElem? (i := 169) rfl)) rfl
theorem w4_17 : (Jvm.Cond.methodLink "DotPress$Source" (53 : Nat) ({ cls := "DotPress$Ints", name := "at", desc := "(I)I" } : Jvm.MethodName)) ∈ lw_g := lw_in (mT4 (List.mem_of_getElem? (i := 17) rfl)) rfl
theorem w4_170 : (Jvm.Cond.methodLink "DotPressLaw" (70 : Nat) ({ cls := "DotPress", name := "lines", desc := "()I" } : Jvm.MethodName)) ∈ lw_g := lw_in (mT4 (List.mem_of_getElem? (i := 170) rfl)) rfl
theorem w4_171 : (Jvm.Cond.instanceMethod ({ cls := "DotPress", name := "lines", desc := "()I" } : Jvm.MethodName)) ∈ lw_g := lw_in (mT4 (List.mem_of_getElem? (i := 171) rfl)) rfl
theorem w4_172 : (Jvm.Cond.selects "DotPress" ({ cls := "DotPress", name := "lines", desc := "()I" } : Jvm.MethodName) ({ cls := "DotPress", name := "lines", desc := "()I" } : Jvm.MethodName)) ∈ lw_g := lw_in (mT4 (List.mem_of_getElem? (i := 172) rfl)) rfl
theorem w4_173 : (Jvm.Cond.code ({ cls := "DotPress", name := "lines", desc := "()I" } : Jvm.MethodName) prog_1_method_22_code (1 : Nat) (Option.some Jvm.ClassFile.FieldType.int)) ∈ lw_g := lw_in (mT4 (List.mem_of_getElem? (i := 173) rfl)) rfl
theorem w4_174 : (Jvm.Cond.methodLink "DotPressLaw" (74 : Nat) ({ cls := "DotPress", name := "pages", desc := "()I" } : Jvm.MethodName)) ∈ lw_g := lw_in (mT4 (List.mem_of_getElem? (i := 174) rfl)) rfl
theorem w4_175 : (Jvm.Cond.instanceMethod ({ cls := "DotPress", name := "pages", desc := "()I" } : Jvm.MethodName)) ∈ lw_g := lw_in (mT4 (List.mem_of_getElem? (i := 175) rfl)) rfl
theorem w4_176 : (Jvm.Cond.selects "DotPress" ({ cls := "DotPress", name := "pages", desc := "()I" } : Jvm.MethodName) ({ cls := "DotPress", name := "pages", desc := "()I" } : Jvm.MethodName)) ∈ lw_g := lw_in (mT4 (List.mem_of_getElem? (i := 176) rfl)) rfl
theorem w4_177 : (Jvm.Cond.code ({ cls := "DotPress", name := "pages", desc := "()I" } : Jvm.MethodName) prog_1_method_23_code (2 : Nat) (Option.some Jvm.ClassFile.FieldType.int)) ∈ lw_g := lw_in (mT4 (List.mem_of_getElem? (i := 177) rfl)) rfl
theorem w4_178 : (Jvm.Cond.methodLink "DotPress" (282 : Nat) ({ cls := "DotPress", name := "linesOfPage", desc := "()I" } : Jvm.MethodName)) ∈ lw_g := lw_in (mT4 (List.mem_of_getElem? (i := 178) rfl)) rfl
theorem w4_18 : (Jvm.Cond.methodLink "DotPress$Source" (43 : Nat) ({ cls := "DotPress$Setting", name := "clear", desc := "()V" } : Jvm.MethodName)) ∈ lw_g := lw_in (mT4 (List.mem_of_getElem? (i := 18) rfl)) rfl
theorem w4_180 : (Jvm.Cond.instanceMethod ({ cls := "DotPress", name := "linesOfPage", desc := "()I" } : Jvm.MethodName)) ∈ lw_g := lw_in (mT4 (List.mem_of_getElem? (i := 180) rfl)) rfl
theorem w4_181 : (Jvm.Cond.code ({ cls := "DotPress", name := "linesOfPage", desc := "()I" } : Jvm.MethodName) prog_1_method_25_code (1 : Nat) (Option.some Jvm.ClassFile.FieldType.int)) ∈ lw_g := lw_in (mT4 (List.mem_of_getElem? (i := 181) rfl)) rfl
theorem w4_182 : (Jvm.Cond.methodLink "DotPress" (285 : Nat) ({ cls := "DotPress", name := "pagesHaveHeader", desc := "()Z" } : Jvm.MethodName)) ∈ lw_g := lw_in (mT4 (List.mem_of_getElem? (i := 182) rfl)) rfl
theorem w4_184 : (Jvm.Cond.instanceMethod ({ cls := "DotPress", name := "pagesHaveHeader", desc := "()Z" } : Jvm.MethodName)) ∈ lw_g := lw_in (mT4 (List.mem_of_getElem? (i := 184) rfl)) rfl
theorem w4_185 : (Jvm.Cond.code ({ cls := "DotPress", name := "pagesHaveHeader", desc := "()Z" } : Jvm.MethodName) prog_1_method_24_code (1 : Nat) (Option.some Jvm.ClassFile.FieldType.boolean)) ∈ lw_g := lw_in (mT4 (List.mem_of_getElem? (i := 185) rfl)) rfl
theorem w4_186 : (Jvm.Cond.methodLink "DotPressLaw" (78 : Nat) ({ cls := "DotPress", name := "length", desc := "(I)I" } : Jvm.MethodName)) ∈ lw_g := lw_in (mT4 (List.mem_of_getElem? (i := 186) rfl)) rfl
theorem w4_187 : (Jvm.Cond.instanceMethod ({ cls := "DotPress", name := "length", desc := "(I)I" } : Jvm.MethodName)) ∈ lw_g := lw_in (mT4 (List.mem_of_getElem? (i := 187) rfl)) rfl
theorem w4_188 : (Jvm.Cond.selects "DotPress" ({ cls := "DotPress", name := "length", desc := "(I)I" } : Jvm.MethodName) ({ cls := "DotPress", name := "length", desc := "(I)I" } : Jvm.MethodName)) ∈ lw_g := lw_in (mT4 (List.mem_of_getElem? (i := 188) rfl)) rfl
theorem w4_189 : (Jvm.Cond.code ({ cls := "DotPress", name := "length", desc := "(I)I" } : Jvm.MethodName) prog_1_method_26_code (3 : Nat) (Option.some Jvm.ClassFile.FieldType.int)) ∈ lw_g := lw_in (mT4 (List.mem_of_getElem? (i := 189) rfl)) rfl
theorem w4_19 : (Jvm.Cond.instanceMethod ({ cls := "DotPress$Setting", name := "clear", desc := "()V" } : Jvm.MethodName)) ∈ lw_g := lw_in (mT4 (List.mem_of_getElem? (i := 19) rfl)) rfl
theorem w4_190 : (Jvm.Cond.methodLink "DotPress" (288 : Nat) ({ cls := "DotPress$Sheet", name := "present", desc := "(I)LDotPress$Line;" } : Jvm.MethodName)) ∈ lw_g := lw_in (mT4 (List.mem_of_getElem? (i := 190) rfl)) rfl
theorem w4_191 : (Jvm.Cond.instanceMethod ({ cls := "DotPress$Sheet", name := "present", desc := "(I)LDotPress$Line;" } : Jvm.MethodName)) ∈ lw_g := lw_in (mT4 (List.mem_of_getElem? (i := 191) rfl)) rfl
theorem w4_192 : (Jvm.Cond.selects "DotPress$Sheet" ({ cls := "DotPress$Sheet", name := "present", desc := "(I)LDotPress$Line;" } : Jvm.MethodName) ({ cls := "DotPress$Sheet", name := "present", desc := "(I)LDotPress$Line;" } : Jvm.MethodName)) ∈ lw_g := lw_in (mT4 (List.mem_of_getElem? (i := 192) rfl)) rfl
theorem w4_193 : (Jvm.Cond.code ({ cls := "DotPress$Sheet", name := "present", desc := "(I)LDotPress$Line;" } : Jvm.MethodName) prog_9_method_4_code (3 : Nat) (Option.some (Jvm.ClassFile.FieldType.object "DotPress$Line"))) ∈ lw_g := lw_in (mT4 (List.mem_of_getElem? (i := 193) rfl)) rfl
theorem w4_194 : (Jvm.Cond.methodLink "DotPress" (292 : Nat) ({ cls := "DotPress$Sheet", name := "whyNone", desc := "(I)I" } : Jvm.MethodName)) ∈ lw_g := lw_in (mT4 (List.mem_of_getElem? (i := 194) rfl)) rfl
theorem w4_195 : (Jvm.Cond.instanceMethod ({ cls := "DotPress$Sheet", name := "whyNone", desc := "(I)I" } : Jvm.MethodName)) ∈ lw_g := lw_in (mT4 (List.mem_of_getElem? (i := 195) rfl)) rfl
theorem w4_196 : (Jvm.Cond.selects "DotPress$Sheet" ({ cls := "DotPress$Sheet", name := "whyNone", desc := "(I)I" } : Jvm.MethodName) ({ cls := "DotPress$Sheet", name := "whyNone", desc := "(I)I" } : Jvm.MethodName)) ∈ lw_g := lw_in (mT4 (List.mem_of_getElem? (i := 196) rfl)) rfl
theorem w4_197 : (Jvm.Cond.code ({ cls := "DotPress$Sheet", name := "whyNone", desc := "(I)I" } : Jvm.MethodName) prog_9_method_5_code (2 : Nat) (Option.some Jvm.ClassFile.FieldType.int)) ∈ lw_g := lw_in (mT4 (List.mem_of_getElem? (i := 197) rfl)) rfl
theorem w4_198 : (Jvm.Cond.methodLink "DotPressLaw" (82 : Nat) ({ cls := "DotPress", name := "cell", desc := "(II)I" } : Jvm.MethodName)) ∈ lw_g := lw_in (mT4 (List.mem_of_getElem? (i := 198) rfl)) rfl
theorem w4_199 : (Jvm.Cond.instanceMethod ({ cls := "DotPress", name := "cell", desc := "(II)I" } : Jvm.MethodName)) ∈ lw_g := lw_in (mT4 (List.mem_of_getElem? (i := 199) rfl)) rfl
theorem w4_2 : (Jvm.Cond.instanceMethod ({ cls := "DotPress$Sheet", name := "clear", desc := "()V" } : Jvm.MethodName)) ∈ lw_g := lw_in (mT4 (List.mem_of_getElem? (i := 2) rfl)) rfl
theorem w4_20 : (Jvm.Cond.selects "DotPress$Setting" ({ cls := "DotPress$Setting", name := "clear", desc := "()V" } : Jvm.MethodName) ({ cls := "DotPress$Setting", name := "clear", desc := "()V" } : Jvm.MethodName)) ∈ lw_g := lw_in (mT4 (List.mem_of_getElem? (i := 20) rfl)) rfl
theorem w4_200 : (Jvm.Cond.selects "DotPress" ({ cls := "DotPress", name := "cell", desc := "(II)I" } : Jvm.MethodName) ({ cls := "DotPress", name := "cell", desc := "(II)I" } : Jvm.MethodName)) ∈ lw_g := lw_in (mT4 (List.mem_of_getElem? (i := 200) rfl)) rfl
theorem w4_201 : (Jvm.Cond.code ({ cls := "DotPress", name := "cell", desc := "(II)I" } : Jvm.MethodName) prog_1_method_27_code (3 : Nat) (Option.some Jvm.ClassFile.FieldType.int)) ∈ lw_g := lw_in (mT4 (List.mem_of_getElem? (i := 201) rfl)) rfl
theorem w4_202 : (Jvm.Cond.methodLink "DotPress" (298 : Nat) ({ cls := "DotPress", name := "cellOfLine", desc := "(II)I" } : Jvm.MethodName)) ∈ lw_g := lw_in (mT4 (List.mem_of_getElem? (i := 202) rfl)) rfl
theorem w4_204 : (Jvm.Cond.instanceMethod ({ cls := "DotPress", name := "cellOfLine", desc := "(II)I" } : Jvm.MethodName)) ∈ lw_g := lw_in (mT4 (List.mem_of_getElem? (i := 204) rfl)) rfl
theorem w4_205 : (Jvm.Cond.code ({ cls := "DotPress", name := "cellOfLine", desc := "(II)I" } : Jvm.MethodName) prog_1_method_28_code (4 : Nat) (Option.some Jvm.ClassFile.FieldType.int)) ∈ lw_g := lw_in (mT4 (List.mem_of_getElem? (i := 205) rfl)) rfl
theorem w4_206 : (Jvm.Cond.methodLink "DotPressLaw" (86 : Nat) ({ cls := "DotPress", name := "page", desc := "(III)I" } : Jvm.MethodName)) ∈ lw_g := lw_in (mT4 (List.mem_of_getElem? (i := 206) rfl)) rfl
theorem w4_207 : (Jvm.Cond.instanceMethod ({ cls := "DotPress", name := "page", desc := "(III)I" } : Jvm.MethodName)) ∈ lw_g := lw_in (mT4 (List.mem_of_getElem? (i := 207) rfl)) rfl
theorem w4_208 : (Jvm.Cond.selects "DotPress" ({ cls := "DotPress", name := "page", desc := "(III)I" } : Jvm.MethodName) ({ cls := "DotPress", name := "page", desc := "(III)I" } : Jvm.MethodName)) ∈ lw_g := lw_in (mT4 (List.mem_of_getElem? (i := 208) rfl)) rfl
theorem w4_209 : (Jvm.Cond.code ({ cls := "DotPress", name := "page", desc := "(III)I" } : Jvm.MethodName) prog_1_method_29_code (5 : Nat) (Option.some Jvm.ClassFile.FieldType.int)) ∈ lw_g := lw_in (mT4 (List.mem_of_getElem? (i := 209) rfl)) rfl
theorem w4_21 : (Jvm.Cond.code ({ cls := "DotPress$Setting", name := "clear", desc := "()V" } : Jvm.MethodName) prog_8_method_2_code (1 : Nat) (Option.none : Option Jvm.ClassFile.FieldType)) ∈ lw_g := lw_in (mT4 (List.mem_of_getElem? (i := 21) rfl)) rfl
theorem w4_210 : (Jvm.Cond.methodLink "DotPress" (302 : Nat) ({ cls := "DotPress", name := "pages", desc := "()I" } : Jvm.MethodName)) ∈ lw_g := lw_in (mT4 (List.mem_of_getElem? (i := 210) rfl)) rfl
theorem w4_211 : (Jvm.Cond.methodLink "DotPressLaw" (90 : Nat) ({ cls := "DotPress", name := "cut", desc := "(II)I" } : Jvm.MethodName)) ∈ lw_g := lw_in (mT4 (List.mem_of_getElem? (i := 211) rfl)) rfl
theorem w4_212 : (Jvm.Cond.instanceMethod ({ cls := "DotPress", name := "cut", desc := "(II)I" } : Jvm.MethodName)) ∈ lw_g := lw_in (mT4 (List.mem_of_getElem? (i := 212) rfl)) rfl
theorem w4_213 : (Jvm.Cond.selects "DotPress" ({ cls := "DotPress", name := "cut", desc := "(II)I" } : Jvm.MethodName) ({ cls := "DotPress", name := "cut", desc := "(II)I" } : Jvm.MethodName)) ∈ lw_g := lw_in (mT4 (List.mem_of_getElem? (i := 213) rfl)) rfl
theorem w4_214 : (Jvm.Cond.code ({ cls := "DotPress", name := "cut", desc := "(II)I" } : Jvm.MethodName) prog_1_method_30_code (4 : Nat) (Option.some Jvm.ClassFile.FieldType.int)) ∈ lw_g := lw_in (mT4 (List.mem_of_getElem? (i := 214) rfl)) rfl
theorem w4_215 : (Jvm.Cond.methodLink "DotPress" (305 : Nat) ({ cls := "DotPress$Line", name := "resize", desc := "(I)V" } : Jvm.MethodName)) ∈ lw_g := lw_in (mT4 (List.mem_of_getElem? (i := 215) rfl)) rfl
theorem w4_216 : (Jvm.Cond.instanceMethod ({ cls := "DotPress$Line", name := "resize", desc := "(I)V" } : Jvm.MethodName)) ∈ lw_g := lw_in (mT4 (List.mem_of_getElem? (i := 216) rfl)) rfl
theorem w4_217 : (Jvm.Cond.selects "DotPress$Line" ({ cls := "DotPress$Line", name := "resize", desc := "(I)V" } : Jvm.MethodName) ({ cls := "DotPress$Line", name := "resize", desc := "(I)V" } : Jvm.MethodName)) ∈ lw_g := lw_in (mT4 (List.mem_of_getElem? (i := 217) rfl)) rfl
theorem w4_218 : (Jvm.Cond.code ({ cls := "DotPress$Line", name := "resize", desc := "(I)V" } : Jvm.MethodName) prog_4_method_5_code (3 : Nat) (Option.none : Option Jvm.ClassFile.FieldType)) ∈ lw_g := lw_in (mT4 (List.mem_of_getElem? (i := 218) rfl)) rfl
theorem w4_219 : (Jvm.Cond.methodLink "DotPress$Line" (30 : Nat) ({ cls := "java/lang/Math", name := "min", desc := "(II)I" } : Jvm.MethodName)) ∈ lw_g := lw_in (mT4 (List.mem_of_getElem? (i := 219) rfl)) rfl
theorem w4_22 : (Jvm.Cond.methodLink "DotPress$Source" (57 : Nat) ({ cls := "DotPress$Setting", name := "putBreak", desc := "()V" } : Jvm.MethodName)) ∈ lw_g := lw_in (mT4 (List.mem_of_getElem? (i := 22) rfl)) rfl
theorem w4_220 : (Jvm.Cond.methodLink "DotPressLaw" (94 : Nat) ({ cls := "DotPress", name := "lose", desc := "(I)I" } : Jvm.MethodName)) ∈ lw_g := lw_in (mT4 (List.mem_of_getElem? (i := 220) rfl)) rfl
theorem w4_221 : (Jvm.Cond.instanceMethod ({ cls := "DotPress", name := "lose", desc := "(I)I" } : Jvm.MethodName)) ∈ lw_g := lw_in (mT4 (List.mem_of_getElem? (i := 221) rfl)) rfl
theorem w4_222 : (Jvm.Cond.selects "DotPress" ({ cls := "DotPress", name := "lose", desc := "(I)I" } : Jvm.MethodName) ({ cls := "DotPress", name := "lose", desc := "(I)I" } : Jvm.MethodName)) ∈ lw_g := lw_in (mT4 (List.mem_of_getElem? (i := 222) rfl)) rfl
theorem w4_223 : (Jvm.Cond.code ({ cls := "DotPress", name := "lose", desc := "(I)I" } : Jvm.MethodName) prog_1_method_31_code (3 : Nat) (Option.some Jvm.ClassFile.FieldType.int)) ∈ lw_g := lw_in (mT4 (List.mem_of_getElem? (i := 223) rfl)) rfl
theorem w4_224 : (Jvm.Cond.methodLink "DotPress" (308 : Nat) ({ cls := "DotPress$Sheet", name := "at", desc := "(I)LDotPress$Line;" } : Jvm.MethodName)) ∈ lw_g := lw_in (mT4 (List.mem_of_getElem? (i := 224) rfl)) rfl
theorem w4_225 : (Jvm.Cond.methodLink "DotPressLaw" (98 : Nat) ({ cls := "DotPress", name := "copyRow", desc := "(IIIII)I" } : Jvm.MethodName)) ∈ lw_g := lw_in (mT4 (List.mem_of_getElem? (i := 225) rfl)) rfl
theorem w4_226 : (Jvm.Cond.instanceMethod ({ cls := "DotPress", name := "copyRow", desc := "(IIIII)I" } : Jvm.MethodName)) ∈ lw_g := lw_in (mT4 (List.mem_of_getElem? (i := 226) rfl)) rfl
theorem w4_227 : (Jvm.Cond.selects "DotPress" ({ cls := "DotPress", name := "copyRow", desc := "(IIIII)I" } : Jvm.MethodName) ({ cls := "DotPress", name := "copyRow", desc := "(IIIII)I" } : Jvm.MethodName)) ∈ lw_g := lw_in (mT4 (List.mem_of_getElem? (i := 227) rfl)) rfl
theorem w4_228 : (Jvm.Cond.code ({ cls := "DotPress", name := "copyRow", desc := "(IIIII)I" } : Jvm.MethodName) prog_1_method_32_code (8 : Nat) (Option.some Jvm.ClassFile.FieldType.int)) ∈ lw_g := lw_in (mT4 (List.mem_of_getElem? (i := 228) rfl)) rfl
theorem w4_229 : (Jvm.Cond.methodLink "DotPress" (313 : Nat) ({ cls := "DotPress$Line", name := "hasCells", desc := "(II)Z" } : Jvm.MethodName)) ∈ lw_g := lw_in (mT4 (List.mem_of_getElem? (i := 229) rfl)) rfl
theorem w4_23 : (Jvm.Cond.instanceMethod ({ cls := "DotPress$Setting", name := "putBreak", desc := "()V" } : Jvm.MethodName)) ∈ lw_g := lw_in (mT4 (List.mem_of_getElem? (i := 23) rfl)) rfl
theorem w4_230 : (Jvm.Cond.instanceMethod ({ cls := "DotPress$Line", name := "hasCells", desc := "(II)Z" } : Jvm.MethodName)) ∈ lw_g := lw_in (mT4 (List.mem_of_getElem? (i := 230) rfl)) rfl
theorem w4_231 : (Jvm.Cond.selects "DotPress$Line" ({ cls := "DotPress$Line", name := "hasCells", desc := "(II)Z" } : Jvm.MethodName) ({ cls := "DotPress$Line", name := "hasCells", desc := "(II)Z" } : Jvm.MethodName)) ∈ lw_g := lw_in (mT4 (List.mem_of_getElem? (i := 231) rfl)) rfl
theorem w4_232 : (Jvm.Cond.code ({ cls := "DotPress$Line", name := "hasCells", desc := "(II)Z" } : Jvm.MethodName) prog_4_method_8_code (3 : Nat) (Option.some Jvm.ClassFile.FieldType.boolean)) ∈ lw_g := lw_in (mT4 (List.mem_of_getElem? (i := 232) rfl)) rfl
theorem w4_233 : (Jvm.Cond.methodLink "DotPress" (316 : Nat) ({ cls := "java/lang/System", name := "arraycopy", desc := "(Ljava/lang/Object;ILjava/lang/Object;II)V" } : Jvm.MethodName)) ∈ lw_g := lw_in (mT4 (List.mem_of_getElem? (i := 233) rfl)) rfl
theorem w4_234 : (Jvm.Cond.methodLink "DotPressLaw" (102 : Nat) ({ cls := "DotPress", name := "copyLines", desc := "(III)I" } : Jvm.MethodName)) ∈ lw_g := lw_in (mT4 (List.mem_of_getElem? (i := 234) rfl)) rfl
theorem w4_235 : (Jvm.Cond.instanceMethod ({ cls := "DotPress", name := "copyLines", desc := "(III)I" } : Jvm.MethodName)) ∈ lw_g := lw_in (mT4 (List.mem_of_getElem? (i := 235) rfl)) rfl
theorem w4_236 : (Jvm.Cond.selects "DotPress" ({ cls := "DotPress", name := "copyLines", desc := "(III)I" } : Jvm.MethodName) ({ cls := "DotPress", name := "copyLines", desc := "(III)I" } : Jvm.MethodName)) ∈ lw_g := lw_in (mT4 (List.mem_of_getElem? (i := 236) rfl)) rfl
theorem w4_237 : (Jvm.Cond.code ({ cls := "DotPress", name := "copyLines", desc := "(III)I" } : Jvm.MethodName) prog_1_method_33_code (7 : Nat) (Option.some Jvm.ClassFile.FieldType.int)) ∈ lw_g := lw_in (mT4 (List.mem_of_getElem? (i := 237) rfl)) rfl
theorem w4_238 : (Jvm.Cond.methodLink "DotPress" (322 : Nat) ({ cls := "DotPress$Line", name := "become", desc := "(LDotPress$Line;)V" } : Jvm.MethodName)) ∈ lw_g := lw_in (mT4 (List.mem_of_getElem? (i := 238) rfl)) rfl
theorem w4_239 : (Jvm.Cond.instanceMethod ({ cls := "DotPress$Line", name := "become", desc := "(LDotPress$Line;)V" } : Jvm.MethodName)) ∈ lw_g := lw_in (mT4 (List.mem_of_getElem? (i := 239) rfl)) rfl
theorem w4_24 : (Jvm.Cond.selects "DotPress$Setting" ({ cls := "DotPress$Setting", name := "putBreak", desc := "()V" } : Jvm.MethodName) ({ cls := "DotPress$Setting", name := "putBreak", desc := "()V" } : Jvm.MethodName)) ∈ lw_g := lw_in (mT4 (List.mem_of_getElem? (i := 24) rfl)) rfl
theorem w4_25 : (Jvm.Cond.code ({ cls := "DotPress$Setting", name := "putBreak", desc := "()V" } : Jvm.MethodName) prog_8_method_4_code (1 : Nat) (Option.none : Option Jvm.ClassFile.FieldType)) ∈ lw_g := lw_in (mT4 (List.mem_of_getElem? (i := 25) rfl)) rfl
theorem w4_26 : (Jvm.Cond.methodLink "DotPress$Source" (60 : Nat) ({ cls := "DotPress$Setting", name := "put", desc := "(II)V" } : Jvm.MethodName)) ∈ lw_g := lw_in (mT4 (List.mem_of_getElem? (i := 26) rfl)) rfl
theorem w4_27 : (Jvm.Cond.instanceMethod ({ cls := "DotPress$Setting", name := "put", desc := "(II)V" } : Jvm.MethodName)) ∈ lw_g := lw_in (mT4 (List.mem_of_getElem? (i := 27) rfl)) rfl
theorem w4_28 : (Jvm.Cond.selects "DotPress$Setting" ({ cls := "DotPress$Setting", name := "put", desc := "(II)V" } : Jvm.MethodName) ({ cls := "DotPress$Setting", name := "put", desc := "(II)V" } : Jvm.MethodName)) ∈ lw_g := lw_in (mT4 (List.mem_of_getElem? (i := 28) rfl)) rfl
theorem w4_29 : (Jvm.Cond.code ({ cls := "DotPress$Setting", name := "put", desc := "(II)V" } : Jvm.MethodName) prog_8_method_3_code (3 : Nat) (Option.none : Option Jvm.ClassFile.FieldType)) ∈ lw_g := lw_in (mT4 (List.mem_of_getElem? (i := 29) rfl)) rfl
theorem w4_3 : (Jvm.Cond.selects "DotPress$Sheet" ({ cls := "DotPress$Sheet", name := "clear", desc := "()V" } : Jvm.MethodName) ({ cls := "DotPress$Sheet", name := "clear", desc := "()V" } : Jvm.MethodName)) ∈ lw_g := lw_in (mT4 (List.mem_of_getElem? (i := 3) rfl)) rfl
theorem w4_30 : (Jvm.Cond.constant "DotPress" (242 : Nat) (1000000 : Int32)) ∈ lw_g := lw_in (mT4 (List.mem_of_getElem? (i := 30) rfl)) rfl
theorem w4_31 : (Jvm.Cond.methodLink "DotPress" (243 : Nat) ({ cls := "DotPress$Sheet", name := "beginText", desc := "()Z" } : Jvm.MethodName)) ∈ lw_g := lw_in (mT4 (List.mem_of_getElem? (i := 31) rfl)) rfl
theorem w4_32 : (Jvm.Cond.instanceMethod ({ cls := "DotPress$Sheet", name := "beginText", desc := "()Z" } : Jvm.MethodName)) ∈ lw_g := lw_in (mT4 (List.mem_of_getElem? (i := 32) rfl)) rfl
theorem w4_33 : (Jvm.Cond.selects "DotPress$Sheet" ({ cls := "DotPress$Sheet", name := "beginText", desc := "()Z" } : Jvm.MethodName) ({ cls := "DotPress$Sheet", name := "beginText", desc := "()Z" } : Jvm.MethodName)) ∈ lw_g := lw_in (mT4 (List.mem_of_getElem? (i := 33) rfl)) rfl
theorem w4_34 : (Jvm.Cond.code ({ cls := "DotPress$Sheet", name := "beginText", desc := "()Z" } : Jvm.MethodName) prog_9_method_8_code (1 : Nat) (Option.some Jvm.ClassFile.FieldType.boolean)) ∈ lw_g := lw_in (mT4 (List.mem_of_getElem? (i := 34) rfl)) rfl
theorem w4_35 : (Jvm.Cond.methodLink "DotPress$Sheet" (54 : Nat) ({ cls := "DotPress$Sheet", name := "begin", desc := "()Z" } : Jvm.MethodName)) ∈ lw_g := lw_in (mT4 (List.mem_of_getElem? (i := 35) rfl)) rfl
theorem w4_36 : (Jvm.Cond.instanceMethod ({ cls := "DotPress$Sheet", name := "begin", desc := "()Z" } : Jvm.MethodName)) ∈ lw_g := lw_in (mT4 (List.mem_of_getElem? (i := 36) rfl)) rfl
theorem w4_37 : (Jvm.Cond.selects "DotPress$Sheet" ({ cls := "DotPress$Sheet", name := "begin", desc := "()Z" } : Jvm.MethodName) ({ cls := "DotPress$Sheet", name := "begin", desc := "()Z" } : Jvm.MethodName)) ∈ lw_g := lw_in (mT4 (List.mem_of_getElem? (i := 37) rfl)) rfl
theorem w4_38 : (Jvm.Cond.code ({ cls := "DotPress$Sheet", name := "begin", desc := "()Z" } : Jvm.MethodName) prog_9_method_6_code (1 : Nat) (Option.some Jvm.ClassFile.FieldType.boolean)) ∈ lw_g := lw_in (mT4 (List.mem_of_getElem? (i := 38) rfl)) rfl
theorem w4_39 : (Jvm.Cond.instantiable "DotPress$Line" (3 : Nat)) ∈ lw_g := lw_in (mT4 (List.mem_of_getElem? (i := 39) rfl)) rfl
theorem w4_4 : (Jvm.Cond.code ({ cls := "DotPress$Sheet", name := "clear", desc := "()V" } : Jvm.MethodName) prog_9_method_2_code (1 : Nat) (Option.none : Option Jvm.ClassFile.FieldType)) ∈ lw_g := lw_in (mT4 (List.mem_of_getElem? (i := 4) rfl)) rfl
theorem w4_40t : (Jvm.Cond.methodLinkNest "DotPress$Sheet" (32 : Nat) ({ cls := "DotPress$Line", name := "<init>", desc := "()V" } : Jvm.MethodName) "DotPress") ∈ lw_tbl := mT4 (List.mem_of_getElem? (i := 40) rfl)
theorem w4_41 : (Jvm.Cond.instanceMethod ({ cls := "DotPress$Line", name := "<init>", desc := "()V" } : Jvm.MethodName)) ∈ lw_g := lw_in (mT4 (List.mem_of_getElem? (i := 41) rfl)) rfl
theorem w4_42 : (Jvm.Cond.code ({ cls := "DotPress$Line", name := "<init>", desc := "()V" } : Jvm.MethodName) prog_4_method_1_code (1 : Nat) (Option.none : Option Jvm.ClassFile.FieldType)) ∈ lw_g := lw_in (mT4 (List.mem_of_getElem? (i := 42) rfl)) rfl
theorem w4_43 : (Jvm.Cond.methodLink "DotPress$Line" (3 : Nat) ({ cls := "java/lang/Object", name := "<init>", desc := "()V" } : Jvm.MethodName)) ∈ lw_g := lw_in (mT4 (List.mem_of_getElem? (i := 43) rfl)) rfl
theorem w4_44 : (Jvm.Cond.fieldLink "DotPress$Line" (9 : Nat) "DotPress$Line" "cells" "[I") ∈ lw_g := lw_in (mT4 (List.mem_of_getElem? (i := 44) rfl)) rfl
theorem w4_45 : (Jvm.Cond.fieldLink "DotPress$Readings" (69 : Nat) "DotPress$Line" "cells" "[I") ∈ lw_g := lw_in (mT4 (List.mem_of_getElem? (i := 45) rfl)) rfl
theorem w4_46 : (Jvm.Cond.fieldLink "DotPress$Reader" (113 : Nat) "DotPress$Line" "cells" "[I") ∈ lw_g := lw_in (mT4 (List.mem_of_getElem? (i := 46) rfl)) rfl
theorem w4_47 : (Jvm.Cond.fieldLink "DotPress$Sheet" (64 : Nat) "DotPress$Line" "cells" "[I") ∈ lw_g := lw_in (mT4 (List.mem_of_getElem? (i := 47) rfl)) rfl
theorem w4_48 : (Jvm.Cond.fieldLink "DotPress" (301 : Nat) "DotPress$Line" "cells" "[I") ∈ lw_g := lw_in (mT4 (List.mem_of_getElem? (i := 48) rfl)) rfl
theorem w4_49 : (Jvm.Cond.fieldLink "DotPress$Line" (15 : Nat) "DotPress$Line" "size" "I") ∈ lw_g := lw_in (mT4 (List.mem_of_getElem? (i := 49) rfl)) rfl
theorem w4_5 : (Jvm.Cond.methodLink "DotPress" (235 : Nat) ({ cls := "DotPress$Source", name := "restart", desc := "()V" } : Jvm.MethodName)) ∈ lw_g := lw_in (mT4 (List.mem_of_getElem? (i := 5) rfl)) rfl
theorem w4_50 : (Jvm.Cond.fieldLink "DotPress$Readings" (60 : Nat) "DotPress$Line" "size" "I") ∈ lw_g := lw_in (mT4 (List.mem_of_getElem? (i := 50) rfl)) rfl
theorem w4_51 : (Jvm.Cond.fieldLink "DotPress$Sheet" (36 : Nat) "DotPress$Line" "size" "I") ∈ lw_g := lw_in (mT4 (List.mem_of_getElem? (i := 51) rfl)) rfl
theorem w4_52 : (Jvm.Cond.fieldLink "DotPress$Reader" (111 : Nat) "DotPress$Line" "size" "I") ∈ lw_g := lw_in (mT4 (List.mem_of_getElem? (i := 52) rfl)) rfl
theorem w4_53 : (Jvm.Cond.fieldLink "DotPress" (295 : Nat) "DotPress$Line" "size" "I") ∈ lw_g := lw_in (mT4 (List.mem_of_getElem? (i := 53) rfl)) rfl
theorem w4_54 : (Jvm.Cond.fieldLink "DotPress$Line" (19 : Nat) "DotPress$Line" "lacking" "Z") ∈ lw_g := lw_in (mT4 (List.mem_of_getElem? (i := 54) rfl)) rfl
theorem w4_55 : (Jvm.Cond.fieldLink "DotPress$Sheet" (28 : Nat) "DotPress$Line" "lacking" "Z") ∈ lw_g := lw_in (mT4 (List.mem_of_getElem? (i := 55) rfl)) rfl
theorem w4_56 : (Jvm.Cond.fieldLink "DotPress" (310 : Nat) "DotPress$Line" "lacking" "Z") ∈ lw_g := lw_in (mT4 (List.mem_of_getElem? (i := 56) rfl)) rfl
theorem w4_57 : (Jvm.Cond.laysFinal "DotPress$Line" "DotPress$Line" "cells" "[I") ∈ lw_g := lw_in (mT4 (List.mem_of_getElem? (i := 57) rfl)) rfl
theorem w4_59 : (Jvm.Cond.lays "DotPress$Line" "DotPress$Line" "size" "I") ∈ lw_g := lw_in (mT4 (List.mem_of_getElem? (i := 59) rfl)) rfl
theorem w4_6 : (Jvm.Cond.instanceMethod ({ cls := "DotPress$Source", name := "restart", desc := "()V" } : Jvm.MethodName)) ∈ lw_g := lw_in (mT4 (List.mem_of_getElem? (i := 6) rfl)) rfl
theorem w4_61 : (Jvm.Cond.lays "DotPress$Line" "DotPress$Line" "lacking" "Z") ∈ lw_g := lw_in (mT4 (List.mem_of_getElem? (i := 61) rfl)) rfl
theorem w4_64 : (Jvm.Cond.methodLink "DotPress$Sheet" (33 : Nat) ({ cls := "DotPress$Line", name := "clear", desc := "()V" } : Jvm.MethodName)) ∈ lw_g := lw_in (mT4 (List.mem_of_getElem? (i := 64) rfl)) rfl
theorem w4_65 : (Jvm.Cond.instanceMethod ({ cls := "DotPress$Line", name := "clear", desc := "()V" } : Jvm.MethodName)) ∈ lw_g := lw_in (mT4 (List.mem_of_getElem? (i := 65) rfl)) rfl
theorem w4_66 : (Jvm.Cond.selects "DotPress$Line" ({ cls := "DotPress$Line", name := "clear", desc := "()V" } : Jvm.MethodName) ({ cls := "DotPress$Line", name := "clear", desc := "()V" } : Jvm.MethodName)) ∈ lw_g := lw_in (mT4 (List.mem_of_getElem? (i := 66) rfl)) rfl
theorem w4_67 : (Jvm.Cond.code ({ cls := "DotPress$Line", name := "clear", desc := "()V" } : Jvm.MethodName) prog_4_method_2_code (1 : Nat) (Option.none : Option Jvm.ClassFile.FieldType)) ∈ lw_g := lw_in (mT4 (List.mem_of_getElem? (i := 67) rfl)) rfl
theorem w4_68 : (Jvm.Cond.methodLink "DotPress" (249 : Nat) ({ cls := "DotPress$Sheet", name := "endText", desc := "(ZI)V" } : Jvm.MethodName)) ∈ lw_g := lw_in (mT4 (List.mem_of_getElem? (i := 68) rfl)) rfl
theorem w4_69 : (Jvm.Cond.instanceMethod ({ cls := "DotPress$Sheet", name := "endText", desc := "(ZI)V" } : Jvm.MethodName)) ∈ lw_g := lw_in (mT4 (List.mem_of_getElem? (i := 69) rfl)) rfl
theorem w4_7 : (Jvm.Cond.selects "DotPress$Source" ({ cls := "DotPress$Source", name := "restart", desc := "()V" } : Jvm.MethodName) ({ cls := "DotPress$Source", name := "restart", desc := "()V" } : Jvm.MethodName)) ∈ lw_g := lw_in (mT4 (List.mem_of_getElem? (i := 7) rfl)) rfl
theorem w4_70 : (Jvm.Cond.selects "DotPress$Sheet" ({ cls := "DotPress$Sheet", name := "endText", desc := "(ZI)V" } : Jvm.MethodName) ({ cls := "DotPress$Sheet", name := "endText", desc := "(ZI)V" } : Jvm.MethodName)) ∈ lw_g := lw_in (mT4 (List.mem_of_getElem? (i := 70) rfl)) rfl
theorem w4_71 : (Jvm.Cond.code ({ cls := "DotPress$Sheet", name := "endText", desc := "(ZI)V" } : Jvm.MethodName) prog_9_method_9_code (5 : Nat) (Option.none : Option Jvm.ClassFile.FieldType)) ∈ lw_g := lw_in (mT4 (List.mem_of_getElem? (i := 71) rfl)) rfl
theorem w4_72 : (Jvm.Cond.methodLink "DotPress$Sheet" (24 : Nat) ({ cls := "DotPress$Sheet", name := "at", desc := "(I)LDotPress$Line;" } : Jvm.MethodName)) ∈ lw_g := lw_in (mT4 (List.mem_of_getElem? (i := 72) rfl)) rfl
theorem w4_73 : (Jvm.Cond.instanceMethod ({ cls := "DotPress$Sheet", name := "at", desc := "(I)LDotPress$Line;" } : Jvm.MethodName)) ∈ lw_g := lw_in (mT4 (List.mem_of_getElem? (i := 73) rfl)) rfl
theorem w4_74 : (Jvm.Cond.selects "DotPress$Sheet" ({ cls := "DotPress$Sheet", name := "at", desc := "(I)LDotPress$Line;" } : Jvm.MethodName) ({ cls := "DotPress$Sheet", name := "at", desc := "(I)LDotPress$Line;" } : Jvm.MethodName)) ∈ lw_g := lw_in (mT4 (List.mem_of_getElem? (i := 74) rfl)) rfl
theorem w4_75 : (Jvm.Cond.code ({ cls := "DotPress$Sheet", name := "at", desc := "(I)LDotPress$Line;" } : Jvm.MethodName) prog_9_method_3_code (2 : Nat) (Option.some (Jvm.ClassFile.FieldType.object "DotPress$Line"))) ∈ lw_g := lw_in (mT4 (List.mem_of_getElem? (i := 75) rfl)) rfl
theorem w4_76 : (Jvm.Cond.methodLink "DotPress$Sheet" (58 : Nat) ({ cls := "DotPress$Line", name := "indent", desc := "(I)V" } : Jvm.MethodName)) ∈ lw_g := lw_in (mT4 (List.mem_of_getElem? (i := 76) rfl)) rfl
theorem w4_77 : (Jvm.Cond.instanceMethod ({ cls := "DotPress$Line", name := "indent", desc := "(I)V" } : Jvm.MethodName)) ∈ lw_g := lw_in (mT4 (List.mem_of_getElem? (i := 77) rfl)) rfl
theorem w4_78 : (Jvm.Cond.selects "DotPress$Line" ({ cls := "DotPress$Line", name := "indent", desc := "(I)V" } : Jvm.MethodName) ({ cls := "DotPress$Line", name := "indent", desc := "(I)V" } : Jvm.MethodName)) ∈ lw_g := lw_in (mT4 (List.mem_of_getElem? (i := 78) rfl)) rfl
theorem w4_79 : (Jvm.Cond.code ({ cls := "DotPress$Line", name := "indent", desc := "(I)V" } : Jvm.MethodName) prog_4_method_6_code (3 : Nat) (Option.none : Option Jvm.ClassFile.FieldType)) ∈ lw_g := lw_in (mT4 (List.mem_of_getElem? (i := 79) rfl)) rfl
theorem w4_8 : (Jvm.Cond.code ({ cls := "DotPress$Source", name := "restart", desc := "()V" } : Jvm.MethodName) prog_10_method_2_code (1 : Nat) (Option.none : Option Jvm.ClassFile.FieldType)) ∈ lw_g := lw_in (mT4 (List.mem_of_getElem? (i := 8) rfl)) rfl
theorem w4_80 : (Jvm.Cond.methodLink "DotPress$Line" (36 : Nat) ({ cls := "java/lang/System", name := "arraycopy", desc := "(Ljava/lang/Object;ILjava/lang/Object;II)V" } : Jvm.MethodName)) ∈ lw_g := lw_in (mT4 (List.mem_of_getElem? (i := 80) rfl)) rfl
theorem w4_81 : (Jvm.Cond.methodLink "DotPress" (253 : Nat) ({ cls := "DotPress$Setting", name := "setBy", desc := "(LDotPress$Table;)I" } : Jvm.MethodName)) ∈ lw_g := lw_in (mT4 (List.mem_of_getElem? (i := 81) rfl)) rfl
theorem w4_82 : (Jvm.Cond.instanceMethod ({ cls := "DotPress$Setting", name := "setBy", desc := "(LDotPress$Table;)I" } : Jvm.MethodName)) ∈ lw_g := lw_in (mT4 (List.mem_of_getElem? (i := 82) rfl)) rfl
theorem w4_83 : (Jvm.Cond.selects "DotPress$Setting" ({ cls := "DotPress$Setting", name := "setBy", desc := "(LDotPress$Table;)I" } : Jvm.MethodName) ({ cls := "DotPress$Setting", name := "setBy", desc := "(LDotPress$Table;)I" } : Jvm.MethodName)) ∈ lw_g := lw_in (mT4 (List.mem_of_getElem? (i := 83) rfl)) rfl
theorem w4_84 : (Jvm.Cond.code ({ cls := "DotPress$Setting", name := "setBy", desc := "(LDotPress$Table;)I" } : Jvm.MethodName) prog_8_method_9_code (9 : Nat) (Option.some Jvm.ClassFile.FieldType.int)) ∈ lw_g := lw_in (mT4 (List.mem_of_getElem? (i := 84) rfl)) rfl
theorem w4_85 : (Jvm.Cond.methodLink "DotPress$Setting" (74 : Nat) ({ cls := "DotPress$Setting", name := "setPart", desc := "(LDotPress$Table;II)I" } : Jvm.MethodName)) ∈ lw_g := lw_in (mT4 (List.mem_of_getElem? (i := 85) rfl)) rfl
theorem w4_87 : (Jvm.Cond.instanceMethod ({ cls := "DotPress$Setting", name := "setPart", desc := "(LDotPress$Table;II)I" } : Jvm.MethodName)) ∈ lw_g := lw_in (mT4 (List.mem_of_getElem? (i := 87) rfl)) rfl
theorem w4_88 : (Jvm.Cond.code ({ cls := "DotPress$Setting", name := "setPart", desc := "(LDotPress$Table;II)I" } : Jvm.MethodName) prog_8_method_11_code (9 : Nat) (Option.some Jvm.ClassFile.FieldType.int)) ∈ lw_g := lw_in (mT4 (List.mem_of_getElem? (i := 88) rfl)) rfl
theorem w4_89 : (Jvm.Cond.methodLink "DotPress$Setting" (90 : Nat) ({ cls := "DotPress$Setting", name := "numberAhead", desc := "(LDotPress$Table;I)LDotPress$Row;" } : Jvm.MethodName)) ∈ lw_g := lw_in (mT4 (List.mem_of_getElem? (i := 89) rfl)) rfl
theorem w4_9 : (Jvm.Cond.methodLink "DotPress" (238 : Nat) ({ cls := "DotPress$Source", name := "step", desc := "(LDotPress$Ints;LDotPress$Setting;)I" } : Jvm.MethodName)) ∈ lw_g := lw_in (mT4 (List.mem_of_getElem? (i := 9) rfl)) rfl
theorem w4_91 : (Jvm.Cond.instanceMethod ({ cls := "DotPress$Setting", name := "numberAhead", desc := "(LDotPress$Table;I)LDotPress$Row;" } : Jvm.MethodName)) ∈ lw_g := lw_in (mT4 (List.mem_of_getElem? (i := 91) rfl)) rfl
theorem w4_92 : (Jvm.Cond.code ({ cls := "DotPress$Setting", name := "numberAhead", desc := "(LDotPress$Table;I)LDotPress$Row;" } : Jvm.MethodName) prog_8_method_13_code (4 : Nat) (Option.some (Jvm.ClassFile.FieldType.object "DotPress$Row"))) ∈ lw_g := lw_in (mT4 (List.mem_of_getElem? (i := 92) rfl)) rfl
theorem w4_93t : (Jvm.Cond.methodLinkNest "DotPress$Setting" (115 : Nat) ({ cls := "DotPress", name := "isDigit", desc := "(I)Z" } : Jvm.MethodName) "DotPress") ∈ lw_tbl := mT4 (List.mem_of_getElem? (i := 93) rfl)
theorem w4_94 : (Jvm.Cond.static ({ cls := "DotPress", name := "isDigit", desc := "(I)Z" } : Jvm.MethodName)) ∈ lw_g := lw_in (mT4 (List.mem_of_getElem? (i := 94) rfl)) rfl
theorem w4_95 : (Jvm.Cond.code ({ cls := "DotPress", name := "isDigit", desc := "(I)Z" } : Jvm.MethodName) prog_1_method_56_code (1 : Nat) (Option.some Jvm.ClassFile.FieldType.boolean)) ∈ lw_g := lw_in (mT4 (List.mem_of_getElem? (i := 95) rfl)) rfl
theorem w4_96 : (Jvm.Cond.methodLink "DotPress$Setting" (94 : Nat) ({ cls := "DotPress$Setting", name := "find", desc := "(LDotPress$Table;II)LDotPress$Row;" } : Jvm.MethodName)) ∈ lw_g := lw_in (mT4 (List.mem_of_getElem? (i := 96) rfl)) rfl
theorem w4_98 : (Jvm.Cond.instanceMethod ({ cls := "DotPress$Setting", name := "find", desc := "(LDotPress$Table;II)LDotPress$Row;" } : Jvm.MethodName)) ∈ lw_g := lw_in (mT4 (List.mem_of_getElem? (i := 98) rfl)) rfl
theorem w4_99 : (Jvm.Cond.code ({ cls := "DotPress$Setting", name := "find", desc := "(LDotPress$Table;II)LDotPress$Row;" } : Jvm.MethodName) prog_8_method_15_code (7 : Nat) (Option.some (Jvm.ClassFile.FieldType.object "DotPress$Row"))) ∈ lw_g := lw_in (mT4 (List.mem_of_getElem? (i := 99) rfl)) rfl
theorem w5_0 : (Jvm.Cond.selects "DotPress$Line" ({ cls := "DotPress$Line", name := "become", desc := "(LDotPress$Line;)V" } : Jvm.MethodName) ({ cls := "DotPress$Line", name := "become", desc := "(LDotPress$Line;)V" } : Jvm.MethodName)) ∈ lw_g := lw_in (mT5 (List.mem_of_getElem? (i := 0) rfl)) rfl
theorem w5_1 : (Jvm.Cond.code ({ cls := "DotPress$Line", name := "become", desc := "(LDotPress$Line;)V" } : Jvm.MethodName) prog_4_method_7_code (2 : Nat) (Option.none : Option Jvm.ClassFile.FieldType)) ∈ lw_g := lw_in (mT5 (List.mem_of_getElem? (i := 1) rfl)) rfl
theorem w5_10 : (Jvm.Cond.methodLink "DotPress" (326 : Nat) ({ cls := "DotPress$Line", name := "dots", desc := "()I" } : Jvm.MethodName)) ∈ lw_g := lw_in (mT5 (List.mem_of_getElem? (i := 10) rfl)) rfl
theorem w5_100 : (Jvm.Cond.methodLink "DotPress$Reader" (137 : Nat) ({ cls := "DotPress$Row", name := "writeLetters", desc := "(LDotPress$Ints;Z)V" } : Jvm.MethodName)) ∈ lw_g := lw_in (mT5 (List.mem_of_getElem? (i := 100) rfl)) rfl
theorem w5_101 : (Jvm.Cond.instanceMethod ({ cls := "DotPress$Row", name := "writeLetters", desc := "(LDotPress$Ints;Z)V" } : Jvm.MethodName)) ∈ lw_g := lw_in (mT5 (List.mem_of_getElem? (i := 101) rfl)) rfl
theorem w5_102 : (Jvm.Cond.selects "DotPress$Row" ({ cls := "DotPress$Row", name := "writeLetters", desc := "(LDotPress$Ints;Z)V" } : Jvm.MethodName) ({ cls := "DotPress$Row", name := "writeLetters", desc := "(LDotPress$Ints;Z)V" } : Jvm.MethodName)) ∈ lw_g := lw_in (mT5 (List.mem_of_getElem? (i := 102) rfl)) rfl
theorem w5_103 : (Jvm.Cond.code ({ cls := "DotPress$Row", name := "writeLetters", desc := "(LDotPress$Ints;Z)V" } : Jvm.MethodName) prog_7_method_7_code (4 : Nat) (Option.none : Option Jvm.ClassFile.FieldType)) ∈ lw_g := lw_in (mT5 (List.mem_of_getElem? (i := 103) rfl)) rfl
theorem w5_104 : (Jvm.Cond.methodLink "DotPress$Row" (47 : Nat) ({ cls := "DotPress$Ints", name := "add", desc := "(I)V" } : Jvm.MethodName)) ∈ lw_g := lw_in (mT5 (List.mem_of_getElem? (i := 104) rfl)) rfl
theorem w5_105 : (Jvm.Cond.methodLink "DotPress$Reader" (141 : Nat) ({ cls := "java/lang/Math", name := "max", desc := "(II)I" } : Jvm.MethodName)) ∈ lw_g := lw_in (mT5 (List.mem_of_getElem? (i := 105) rfl)) rfl
theorem w5_106 : (Jvm.Cond.methodLink "DotPress" (338 : Nat) ({ cls := "DotPress$Reader", name := "placeOfWrong", desc := "()I" } : Jvm.MethodName)) ∈ lw_g := lw_in (mT5 (List.mem_of_getElem? (i := 106) rfl)) rfl
theorem w5_107 : (Jvm.Cond.instanceMethod ({ cls := "DotPress$Reader", name := "placeOfWrong", desc := "()I" } : Jvm.MethodName)) ∈ lw_g := lw_in (mT5 (List.mem_of_getElem? (i := 107) rfl)) rfl
theorem w5_108 : (Jvm.Cond.selects "DotPress$Reader" ({ cls := "DotPress$Reader", name := "placeOfWrong", desc := "()I" } : Jvm.MethodName) ({ cls := "DotPress$Reader", name := "placeOfWrong", desc := "()I" } : Jvm.MethodName)) ∈ lw_g := lw_in (mT5 (List.mem_of_getElem? (i := 108) rfl)) rfl
theorem w5_109 : (Jvm.Cond.code ({ cls := "DotPress$Reader", name := "placeOfWrong", desc := "()I" } : Jvm.MethodName) prog_5_method_14_code (1 : Nat) (Option.some Jvm.ClassFile.FieldType.int)) ∈ lw_g := lw_in (mT5 (List.mem_of_getElem? (i := 109) rfl)) rfl
theorem w5_11 : (Jvm.Cond.instanceMethod ({ cls := "DotPress$Line", name := "dots", desc := "()I" } : Jvm.MethodName)) ∈ lw_g := lw_in (mT5 (List.mem_of_getElem? (i := 11) rfl)) rfl
theorem w5_110 : (Jvm.Cond.methodLink "DotPressLaw" (122 : Nat) ({ cls := "DotPress", name := "letter", desc := "(I)I" } : Jvm.MethodName)) ∈ lw_g := lw_in (mT5 (List.mem_of_getElem? (i := 110) rfl)) rfl
theorem w5_111 : (Jvm.Cond.instanceMethod ({ cls := "DotPress", name := "letter", desc := "(I)I" } : Jvm.MethodName)) ∈ lw_g := lw_in (mT5 (List.mem_of_getElem? (i := 111) rfl)) rfl
theorem w5_112 : (Jvm.Cond.selects "DotPress" ({ cls := "DotPress", name := "letter", desc := "(I)I" } : Jvm.MethodName) ({ cls := "DotPress", name := "letter", desc := "(I)I" } : Jvm.MethodName)) ∈ lw_g := lw_in (mT5 (List.mem_of_getElem? (i := 112) rfl)) rfl
theorem w5_113 : (Jvm.Cond.code ({ cls := "DotPress", name := "letter", desc := "(I)I" } : Jvm.MethodName) prog_1_method_39_code (2 : Nat) (Option.some Jvm.ClassFile.FieldType.int)) ∈ lw_g := lw_in (mT5 (List.mem_of_getElem? (i := 113) rfl)) rfl
theorem w5_114 : (Jvm.Cond.methodLink "DotPressLaw" (126 : Nat) ({ cls := "DotPress", name := "failed", desc := "(IZ)I" } : Jvm.MethodName)) ∈ lw_g := lw_in (mT5 (List.mem_of_getElem? (i := 114) rfl)) rfl
theorem w5_115 : (Jvm.Cond.instanceMethod ({ cls := "DotPress", name := "failed", desc := "(IZ)I" } : Jvm.MethodName)) ∈ lw_g := lw_in (mT5 (List.mem_of_getElem? (i := 115) rfl)) rfl
theorem w5_116 : (Jvm.Cond.selects "DotPress" ({ cls := "DotPress", name := "failed", desc := "(IZ)I" } : Jvm.MethodName) ({ cls := "DotPress", name := "failed", desc := "(IZ)I" } : Jvm.MethodName)) ∈ lw_g := lw_in (mT5 (List.mem_of_getElem? (i := 116) rfl)) rfl
theorem w5_117 : (Jvm.Cond.code ({ cls := "DotPress", name := "failed", desc := "(IZ)I" } : Jvm.MethodName) prog_1_method_40_code (4 : Nat) (Option.some Jvm.ClassFile.FieldType.int)) ∈ lw_g := lw_in (mT5 (List.mem_of_getElem? (i := 117) rfl)) rfl
theorem w5_118 : (Jvm.Cond.methodLink "DotPress" (351 : Nat) ({ cls := "java/lang/Integer", name := "bitCount", desc := "(I)I" } : Jvm.MethodName)) ∈ lw_g := lw_in (mT5 (List.mem_of_getElem? (i := 118) rfl)) rfl
theorem w5_119 : (Jvm.Cond.methodLink "DotPressLaw" (131 : Nat) ({ cls := "DotPress", name := "readings", desc := "(III)I" } : Jvm.MethodName)) ∈ lw_g := lw_in (mT5 (List.mem_of_getElem? (i := 119) rfl)) rfl
theorem w5_12 : (Jvm.Cond.selects "DotPress$Line" ({ cls := "DotPress$Line", name := "dots", desc := "()I" } : Jvm.MethodName) ({ cls := "DotPress$Line", name := "dots", desc := "()I" } : Jvm.MethodName)) ∈ lw_g := lw_in (mT5 (List.mem_of_getElem? (i := 12) rfl)) rfl
theorem w5_120 : (Jvm.Cond.instanceMethod ({ cls := "DotPress", name := "readings", desc := "(III)I" } : Jvm.MethodName)) ∈ lw_g := lw_in (mT5 (List.mem_of_getElem? (i := 120) rfl)) rfl
theorem w5_121 : (Jvm.Cond.selects "DotPress" ({ cls := "DotPress", name := "readings", desc := "(III)I" } : Jvm.MethodName) ({ cls := "DotPress", name := "readings", desc := "(III)I" } : Jvm.MethodName)) ∈ lw_g := lw_in (mT5 (List.mem_of_getElem? (i := 121) rfl)) rfl
theorem w5_122 : (Jvm.Cond.code ({ cls := "DotPress", name := "readings", desc := "(III)I" } : Jvm.MethodName) prog_1_method_41_code (6 : Nat) (Option.some Jvm.ClassFile.FieldType.int)) ∈ lw_g := lw_in (mT5 (List.mem_of_getElem? (i := 122) rfl)) rfl
theorem w5_123 : (Jvm.Cond.methodLink "DotPress" (356 : Nat) ({ cls := "DotPress$Readings", name := "collect", desc := "(LDotPress$Line;II)V" } : Jvm.MethodName)) ∈ lw_g := lw_in (mT5 (List.mem_of_getElem? (i := 123) rfl)) rfl
theorem w5_124 : (Jvm.Cond.instanceMethod ({ cls := "DotPress$Readings", name := "collect", desc := "(LDotPress$Line;II)V" } : Jvm.MethodName)) ∈ lw_g := lw_in (mT5 (List.mem_of_getElem? (i := 124) rfl)) rfl
theorem w5_125 : (Jvm.Cond.selects "DotPress$Readings" ({ cls := "DotPress$Readings", name := "collect", desc := "(LDotPress$Line;II)V" } : Jvm.MethodName) ({ cls := "DotPress$Readings", name := "collect", desc := "(LDotPress$Line;II)V" } : Jvm.MethodName)) ∈ lw_g := lw_in (mT5 (List.mem_of_getElem? (i := 125) rfl)) rfl
theorem w5_126 : (Jvm.Cond.code ({ cls := "DotPress$Readings", name := "collect", desc := "(LDotPress$Line;II)V" } : Jvm.MethodName) prog_6_method_3_code (4 : Nat) (Option.none : Option Jvm.ClassFile.FieldType)) ∈ lw_g := lw_in (mT5 (List.mem_of_getElem? (i := 126) rfl)) rfl
theorem w5_127 : (Jvm.Cond.methodLink "DotPress$Readings" (63 : Nat) ({ cls := "java/lang/Math", name := "min", desc := "(II)I" } : Jvm.MethodName)) ∈ lw_g := lw_in (mT5 (List.mem_of_getElem? (i := 127) rfl)) rfl
theorem w5_128 : (Jvm.Cond.methodLink "DotPress$Readings" (70 : Nat) ({ cls := "java/lang/System", name := "arraycopy", desc := "(Ljava/lang/Object;ILjava/lang/Object;II)V" } : Jvm.MethodName)) ∈ lw_g := lw_in (mT5 (List.mem_of_getElem? (i := 128) rfl)) rfl
theorem w5_129 : (Jvm.Cond.methodLink "DotPress$Readings" (76 : Nat) ({ cls := "DotPress$Ints", name := "clear", desc := "()V" } : Jvm.MethodName)) ∈ lw_g := lw_in (mT5 (List.mem_of_getElem? (i := 129) rfl)) rfl
theorem w5_13 : (Jvm.Cond.code ({ cls := "DotPress$Line", name := "dots", desc := "()I" } : Jvm.MethodName) prog_4_method_10_code (3 : Nat) (Option.some Jvm.ClassFile.FieldType.int)) ∈ lw_g := lw_in (mT5 (List.mem_of_getElem? (i := 13) rfl)) rfl
theorem w5_130 : (Jvm.Cond.methodLink "DotPress$Readings" (79 : Nat) ({ cls := "DotPress$Readings", name := "markEnds", desc := "()V" } : Jvm.MethodName)) ∈ lw_g := lw_in (mT5 (List.mem_of_getElem? (i := 130) rfl)) rfl
theorem w5_132 : (Jvm.Cond.instanceMethod ({ cls := "DotPress$Readings", name := "markEnds", desc := "()V" } : Jvm.MethodName)) ∈ lw_g := lw_in (mT5 (List.mem_of_getElem? (i := 132) rfl)) rfl
theorem w5_133 : (Jvm.Cond.code ({ cls := "DotPress$Readings", name := "markEnds", desc := "()V" } : Jvm.MethodName) prog_6_method_4_code (2 : Nat) (Option.none : Option Jvm.ClassFile.FieldType)) ∈ lw_g := lw_in (mT5 (List.mem_of_getElem? (i := 133) rfl)) rfl
theorem w5_134 : (Jvm.Cond.methodLink "DotPress$Readings" (85 : Nat) ({ cls := "DotPress$Readings", name := "nextChoice", desc := "(II)I" } : Jvm.MethodName)) ∈ lw_g := lw_in (mT5 (List.mem_of_getElem? (i := 134) rfl)) rfl
theorem w5_136 : (Jvm.Cond.instanceMethod ({ cls := "DotPress$Readings", name := "nextChoice", desc := "(II)I" } : Jvm.MethodName)) ∈ lw_g := lw_in (mT5 (List.mem_of_getElem? (i := 136) rfl)) rfl
theorem w5_137 : (Jvm.Cond.code ({ cls := "DotPress$Readings", name := "nextChoice", desc := "(II)I" } : Jvm.MethodName) prog_6_method_6_code (6 : Nat) (Option.some Jvm.ClassFile.FieldType.int)) ∈ lw_g := lw_in (mT5 (List.mem_of_getElem? (i := 137) rfl)) rfl
theorem w5_138 : (Jvm.Cond.methodLink "DotPress$Readings" (95 : Nat) ({ cls := "DotPress$Reader", name := "rowsOf", desc := "(Z)Ljava/util/ArrayList;" } : Jvm.MethodName)) ∈ lw_g := lw_in (mT5 (List.mem_of_getElem? (i := 138) rfl)) rfl
theorem w5_139 : (Jvm.Cond.methodLink "DotPress$Readings" (101 : Nat) ({ cls := "java/util/ArrayList", name := "size", desc := "()I" } : Jvm.MethodName)) ∈ lw_g := lw_in (mT5 (List.mem_of_getElem? (i := 139) rfl)) rfl
theorem w5_14 : (Jvm.Cond.methodLink "DotPress$Line" (42 : Nat) ({ cls := "java/lang/Integer", name := "bitCount", desc := "(I)I" } : Jvm.MethodName)) ∈ lw_g := lw_in (mT5 (List.mem_of_getElem? (i := 14) rfl)) rfl
theorem w5_140 : (Jvm.Cond.methodLink "DotPress$Readings" (92 : Nat) ({ cls := "DotPress$Readings", name := "nodeBehind", desc := "(II)I" } : Jvm.MethodName)) ∈ lw_g := lw_in (mT5 (List.mem_of_getElem? (i := 140) rfl)) rfl
theorem w5_142 : (Jvm.Cond.instanceMethod ({ cls := "DotPress$Readings", name := "nodeBehind", desc := "(II)I" } : Jvm.MethodName)) ∈ lw_g := lw_in (mT5 (List.mem_of_getElem? (i := 142) rfl)) rfl
theorem w5_143 : (Jvm.Cond.code ({ cls := "DotPress$Readings", name := "nodeBehind", desc := "(II)I" } : Jvm.MethodName) prog_6_method_7_code (7 : Nat) (Option.some Jvm.ClassFile.FieldType.int)) ∈ lw_g := lw_in (mT5 (List.mem_of_getElem? (i := 143) rfl)) rfl
theorem w5_144 : (Jvm.Cond.methodLink "DotPress$Readings" (106 : Nat) ({ cls := "DotPress$Readings", name := "looksLike", desc := "(II)Z" } : Jvm.MethodName)) ∈ lw_g := lw_in (mT5 (List.mem_of_getElem? (i := 144) rfl)) rfl
theorem w5_146 : (Jvm.Cond.instanceMethod ({ cls := "DotPress$Readings", name := "looksLike", desc := "(II)Z" } : Jvm.MethodName)) ∈ lw_g := lw_in (mT5 (List.mem_of_getElem? (i := 146) rfl)) rfl
theorem w5_147 : (Jvm.Cond.code ({ cls := "DotPress$Readings", name := "looksLike", desc := "(II)Z" } : Jvm.MethodName) prog_6_method_8_code (3 : Nat) (Option.some Jvm.ClassFile.FieldType.boolean)) ∈ lw_g := lw_in (mT5 (List.mem_of_getElem? (i := 147) rfl)) rfl
theorem w5_148 : (Jvm.Cond.methodLink "DotPress$Readings" (110 : Nat) ({ cls := "java/util/ArrayList", name := "get", desc := "(I)Ljava/lang/Object;" } : Jvm.MethodName)) ∈ lw_g := lw_in (mT5 (List.mem_of_getElem? (i := 148) rfl)) rfl
theorem w5_149 : (Jvm.Cond.classLink "DotPress$Readings" (114 : Nat) "DotPress$Row") ∈ lw_g := lw_in (mT5 (List.mem_of_getElem? (i := 149) rfl)) rfl
theorem w5_15 : (Jvm.Cond.static ({ cls := "java/lang/Integer", name := "bitCount", desc := "(I)I" } : Jvm.MethodName)) ∈ lw_g := lw_in (mT5 (List.mem_of_getElem? (i := 15) rfl)) rfl
theorem w5_150 : (Jvm.Cond.methodLink "DotPress$Readings" (116 : Nat) ({ cls := "DotPress$Readings", name := "looksLikeRow", desc := "(LDotPress$Row;I)Z" } : Jvm.MethodName)) ∈ lw_g := lw_in (mT5 (List.mem_of_getElem? (i := 150) rfl)) rfl
theorem w5_152 : (Jvm.Cond.instanceMethod ({ cls := "DotPress$Readings", name := "looksLikeRow", desc := "(LDotPress$Row;I)Z" } : Jvm.MethodName)) ∈ lw_g := lw_in (mT5 (List.mem_of_getElem? (i := 152) rfl)) rfl
theorem w5_153 : (Jvm.Cond.code ({ cls := "DotPress$Readings", name := "looksLikeRow", desc := "(LDotPress$Row;I)Z" } : Jvm.MethodName) prog_6_method_9_code (4 : Nat) (Option.some Jvm.ClassFile.FieldType.boolean)) ∈ lw_g := lw_in (mT5 (List.mem_of_getElem? (i := 153) rfl)) rfl
theorem w5_154 : (Jvm.Cond.methodLink "DotPress$Readings" (120 : Nat) ({ cls := "DotPress$Row", name := "beginsSmall", desc := "()Z" } : Jvm.MethodName)) ∈ lw_g := lw_in (mT5 (List.mem_of_getElem? (i := 154) rfl)) rfl
theorem w5_155 : (Jvm.Cond.methodLink "DotPress$Readings" (82 : Nat) ({ cls := "DotPress$Readings", name := "walk", desc := "(I)V" } : Jvm.MethodName)) ∈ lw_g := lw_in (mT5 (List.mem_of_getElem? (i := 155) rfl)) rfl
theorem w5_157 : (Jvm.Cond.instanceMethod ({ cls := "DotPress$Readings", name := "walk", desc := "(I)V" } : Jvm.MethodName)) ∈ lw_g := lw_in (mT5 (List.mem_of_getElem? (i := 157) rfl)) rfl
theorem w5_158 : (Jvm.Cond.code ({ cls := "DotPress$Readings", name := "walk", desc := "(I)V" } : Jvm.MethodName) prog_6_method_5_code (6 : Nat) (Option.none : Option Jvm.ClassFile.FieldType)) ∈ lw_g := lw_in (mT5 (List.mem_of_getElem? (i := 158) rfl)) rfl
theorem w5_159 : (Jvm.Cond.constant "DotPress$Readings" (88 : Nat) (1000000 : Int32)) ∈ lw_g := lw_in (mT5 (List.mem_of_getElem? (i := 159) rfl)) rfl
theorem w5_16 : (Jvm.Cond.code ({ cls := "java/lang/Integer", name := "bitCount", desc := "(I)I" } : Jvm.MethodName) prog_17_method_49_code (1 : Nat) (Option.some Jvm.ClassFile.FieldType.int)) ∈ lw_g := lw_in (mT5 (List.mem_of_getElem? (i := 16) rfl)) rfl
theorem w5_160 : (Jvm.Cond.methodLink "DotPress$Readings" (89 : Nat) ({ cls := "DotPress$Readings", name := "write", desc := "(I)V" } : Jvm.MethodName)) ∈ lw_g := lw_in (mT5 (List.mem_of_getElem? (i := 160) rfl)) rfl
theorem w5_162 : (Jvm.Cond.instanceMethod ({ cls := "DotPress$Readings", name := "write", desc := "(I)V" } : Jvm.MethodName)) ∈ lw_g := lw_in (mT5 (List.mem_of_getElem? (i := 162) rfl)) rfl
theorem w5_163 : (Jvm.Cond.code ({ cls := "DotPress$Readings", name := "write", desc := "(I)V" } : Jvm.MethodName) prog_6_method_10_code (5 : Nat) (Option.none : Option Jvm.ClassFile.FieldType)) ∈ lw_g := lw_in (mT5 (List.mem_of_getElem? (i := 163) rfl)) rfl
theorem w5_164 : (Jvm.Cond.methodLink "DotPress$Readings" (128 : Nat) ({ cls := "DotPress$Ints", name := "add", desc := "(I)V" } : Jvm.MethodName)) ∈ lw_g := lw_in (mT5 (List.mem_of_getElem? (i := 164) rfl)) rfl
theorem w5_165 : (Jvm.Cond.methodLink "DotPress$Readings" (131 : Nat) ({ cls := "DotPress$Row", name := "writeLetters", desc := "(LDotPress$Ints;Z)V" } : Jvm.MethodName)) ∈ lw_g := lw_in (mT5 (List.mem_of_getElem? (i := 165) rfl)) rfl
theorem w5_166 : (Jvm.Cond.methodLink "DotPressLaw" (135 : Nat) ({ cls := "DotPress", name := "more", desc := "()I" } : Jvm.MethodName)) ∈ lw_g := lw_in (mT5 (List.mem_of_getElem? (i := 166) rfl)) rfl
theorem w5_167 : (Jvm.Cond.instanceMethod ({ cls := "DotPress", name := "more", desc := "()I" } : Jvm.MethodName)) ∈ lw_g := lw_in (mT5 (List.mem_of_getElem? (i := 167) rfl)) rfl
theorem w5_168 : (Jvm.Cond.selects "DotPress" ({ cls := "DotPress", name := "more", desc := "()I" } : Jvm.MethodName) ({ cls := "DotPress", name := "more", desc := "()I" } : Jvm.MethodName)) ∈ lw_g := lw_in (mT5 (List.mem_of_getElem? (i := 168) rfl)) rfl
theorem w5_169 : (Jvm.Cond.code ({ cls := "DotPress", name := "more", desc := "()I" } : Jvm.MethodName) prog_1_method_42_code (1 : Nat) (Option.some Jvm.ClassFile.FieldType.int)) ∈ lw_g := lw_in (mT5 (List.mem_of_getElem? (i := 169) rfl)) rfl
theorem w5_17 : (Jvm.Cond.constant "java/lang/Integer" (265 : Nat) (1431655765 : Int32)) ∈ lw_g := lw_in (mT5 (List.mem_of_getElem? (i := 17) rfl)) rfl
theorem w5_170 : (Jvm.Cond.methodLink "DotPressLaw" (139 : Nat) ({ cls := "DotPress", name := "reading", desc := "(II)I" } : Jvm.MethodName)) ∈ lw_g := lw_in (mT5 (List.mem_of_getElem? (i := 170) rfl)) rfl
theorem w5_171 : (Jvm.Cond.instanceMethod ({ cls := "DotPress", name := "reading", desc := "(II)I" } : Jvm.MethodName)) ∈ lw_g := lw_in (mT5 (List.mem_of_getElem? (i := 171) rfl)) rfl
theorem w5_172 : (Jvm.Cond.selects "DotPress" ({ cls := "DotPress", name := "reading", desc := "(II)I" } : Jvm.MethodName) ({ cls := "DotPress", name := "reading", desc := "(II)I" } : Jvm.MethodName)) ∈ lw_g := lw_in (mT5 (List.mem_of_getElem? (i := 172) rfl)) rfl
theorem w5_173 : (Jvm.Cond.code ({ cls := "DotPress", name := "reading", desc := "(II)I" } : Jvm.MethodName) prog_1_method_43_code (4 : Nat) (Option.some Jvm.ClassFile.FieldType.int)) ∈ lw_g := lw_in (mT5 (List.mem_of_getElem? (i := 173) rfl)) rfl
theorem w5_174 : (Jvm.Cond.methodLink "DotPress" (364 : Nat) ({ cls := "DotPress$Readings", name := "byteOf", desc := "(II)I" } : Jvm.MethodName)) ∈ lw_g := lw_in (mT5 (List.mem_of_getElem? (i := 174) rfl)) rfl
theorem w5_175 : (Jvm.Cond.instanceMethod ({ cls := "DotPress$Readings", name := "byteOf", desc := "(II)I" } : Jvm.MethodName)) ∈ lw_g := lw_in (mT5 (List.mem_of_getElem? (i := 175) rfl)) rfl
theorem w5_176 : (Jvm.Cond.selects "DotPress$Readings" ({ cls := "DotPress$Readings", name := "byteOf", desc := "(II)I" } : Jvm.MethodName) ({ cls := "DotPress$Readings", name := "byteOf", desc := "(II)I" } : Jvm.MethodName)) ∈ lw_g := lw_in (mT5 (List.mem_of_getElem? (i := 176) rfl)) rfl
theorem w5_177 : (Jvm.Cond.code ({ cls := "DotPress$Readings", name := "byteOf", desc := "(II)I" } : Jvm.MethodName) prog_6_method_2_code (4 : Nat) (Option.some Jvm.ClassFile.FieldType.int)) ∈ lw_g := lw_in (mT5 (List.mem_of_getElem? (i := 177) rfl)) rfl
theorem w5_178 : (Jvm.Cond.methodLink "DotPress$Readings" (56 : Nat) ({ cls := "DotPress$Ints", name := "at", desc := "(I)I" } : Jvm.MethodName)) ∈ lw_g := lw_in (mT5 (List.mem_of_getElem? (i := 178) rfl)) rfl
theorem w5_179 : (Jvm.Cond.methodLink "DotPressLaw" (143 : Nat) ({ cls := "DotPress", name := "judge", desc := "(I)I" } : Jvm.MethodName)) ∈ lw_g := lw_in (mT5 (List.mem_of_getElem? (i := 179) rfl)) rfl
theorem w5_18 : (Jvm.Cond.constant "java/lang/Integer" (266 : Nat) (858993459 : Int32)) ∈ lw_g := lw_in (mT5 (List.mem_of_getElem? (i := 18) rfl)) rfl
theorem w5_180 : (Jvm.Cond.instanceMethod ({ cls := "DotPress", name := "judge", desc := "(I)I" } : Jvm.MethodName)) ∈ lw_g := lw_in (mT5 (List.mem_of_getElem? (i := 180) rfl)) rfl
theorem w5_181 : (Jvm.Cond.selects "DotPress" ({ cls := "DotPress", name := "judge", desc := "(I)I" } : Jvm.MethodName) ({ cls := "DotPress", name := "judge", desc := "(I)I" } : Jvm.MethodName)) ∈ lw_g := lw_in (mT5 (List.mem_of_getElem? (i := 181) rfl)) rfl
theorem w5_182 : (Jvm.Cond.code ({ cls := "DotPress", name := "judge", desc := "(I)I" } : Jvm.MethodName) prog_1_method_44_code (4 : Nat) (Option.some Jvm.ClassFile.FieldType.int)) ∈ lw_g := lw_in (mT5 (List.mem_of_getElem? (i := 182) rfl)) rfl
theorem w5_183 : (Jvm.Cond.methodLink "DotPress" (367 : Nat) ({ cls := "DotPress$Table", name := "hasShort", desc := "()Z" } : Jvm.MethodName)) ∈ lw_g := lw_in (mT5 (List.mem_of_getElem? (i := 183) rfl)) rfl
theorem w5_184 : (Jvm.Cond.instanceMethod ({ cls := "DotPress$Table", name := "hasShort", desc := "()Z" } : Jvm.MethodName)) ∈ lw_g := lw_in (mT5 (List.mem_of_getElem? (i := 184) rfl)) rfl
theorem w5_185 : (Jvm.Cond.selects "DotPress$Table" ({ cls := "DotPress$Table", name := "hasShort", desc := "()Z" } : Jvm.MethodName) ({ cls := "DotPress$Table", name := "hasShort", desc := "()Z" } : Jvm.MethodName)) ∈ lw_g := lw_in (mT5 (List.mem_of_getElem? (i := 185) rfl)) rfl
theorem w5_186 : (Jvm.Cond.code ({ cls := "DotPress$Table", name := "hasShort", desc := "()Z" } : Jvm.MethodName) prog_11_method_7_code (1 : Nat) (Option.some Jvm.ClassFile.FieldType.boolean)) ∈ lw_g := lw_in (mT5 (List.mem_of_getElem? (i := 186) rfl)) rfl
theorem w5_187 : (Jvm.Cond.methodLink "DotPress$Table" (80 : Nat) ({ cls := "DotPress$Table", name := "isOverShort", desc := "(LDotPress$Table;)Z" } : Jvm.MethodName)) ∈ lw_g := lw_in (mT5 (List.mem_of_getElem? (i := 187) rfl)) rfl
theorem w5_188 : (Jvm.Cond.static ({ cls := "DotPress$Table", name := "isOverShort", desc := "(LDotPress$Table;)Z" } : Jvm.MethodName)) ∈ lw_g := lw_in (mT5 (List.mem_of_getElem? (i := 188) rfl)) rfl
theorem w5_189 : (Jvm.Cond.code ({ cls := "DotPress$Table", name := "isOverShort", desc := "(LDotPress$Table;)Z" } : Jvm.MethodName) prog_11_method_8_code (2 : Nat) (Option.some Jvm.ClassFile.FieldType.boolean)) ∈ lw_g := lw_in (mT5 (List.mem_of_getElem? (i := 189) rfl)) rfl
theorem w5_19 : (Jvm.Cond.constant "java/lang/Integer" (267 : Nat) (252645135 : Int32)) ∈ lw_g := lw_in (mT5 (List.mem_of_getElem? (i := 19) rfl)) rfl
theorem w5_190 : (Jvm.Cond.methodLink "DotPress" (373 : Nat) ({ cls := "DotPress$Reader", name := "isReadable", desc := "(Ljava/util/ArrayList;I)Z" } : Jvm.MethodName)) ∈ lw_g := lw_in (mT5 (List.mem_of_getElem? (i := 190) rfl)) rfl
theorem w5_191 : (Jvm.Cond.static ({ cls := "DotPress$Reader", name := "isReadable", desc := "(Ljava/util/ArrayList;I)Z" } : Jvm.MethodName)) ∈ lw_g := lw_in (mT5 (List.mem_of_getElem? (i := 191) rfl)) rfl
theorem w5_192 : (Jvm.Cond.code ({ cls := "DotPress$Reader", name := "isReadable", desc := "(Ljava/util/ArrayList;I)Z" } : Jvm.MethodName) prog_5_method_7_code (6 : Nat) (Option.some Jvm.ClassFile.FieldType.boolean)) ∈ lw_g := lw_in (mT5 (List.mem_of_getElem? (i := 192) rfl)) rfl
theorem w5_193 : (Jvm.Cond.methodLink "DotPress$Reader" (100 : Nat) ({ cls := "DotPress$Row", name := "endsWith", desc := "(I)Z" } : Jvm.MethodName)) ∈ lw_g := lw_in (mT5 (List.mem_of_getElem? (i := 193) rfl)) rfl
theorem w5_194 : (Jvm.Cond.instanceMethod ({ cls := "DotPress$Row", name := "endsWith", desc := "(I)Z" } : Jvm.MethodName)) ∈ lw_g := lw_in (mT5 (List.mem_of_getElem? (i := 194) rfl)) rfl
theorem w5_195 : (Jvm.Cond.selects "DotPress$Row" ({ cls := "DotPress$Row", name := "endsWith", desc := "(I)Z" } : Jvm.MethodName) ({ cls := "DotPress$Row", name := "endsWith", desc := "(I)Z" } : Jvm.MethodName)) ∈ lw_g := lw_in (mT5 (List.mem_of_getElem? (i := 195) rfl)) rfl
theorem w5_196 : (Jvm.Cond.code ({ cls := "DotPress$Row", name := "endsWith", desc := "(I)Z" } : Jvm.MethodName) prog_7_method_5_code (2 : Nat) (Option.some Jvm.ClassFile.FieldType.boolean)) ∈ lw_g := lw_in (mT5 (List.mem_of_getElem? (i := 196) rfl)) rfl
theorem w5_197 : (Jvm.Cond.methodLink "DotPress$Reader" (104 : Nat) ({ cls := "DotPress$Row", name := "isAtBeginOf", desc := "(LDotPress$Row;)Z" } : Jvm.MethodName)) ∈ lw_g := lw_in (mT5 (List.mem_of_getElem? (i := 197) rfl)) rfl
theorem w5_198 : (Jvm.Cond.instanceMethod ({ cls := "DotPress$Row", name := "isAtBeginOf", desc := "(LDotPress$Row;)Z" } : Jvm.MethodName)) ∈ lw_g := lw_in (mT5 (List.mem_of_getElem? (i := 198) rfl)) rfl
theorem w5_199 : (Jvm.Cond.selects "DotPress$Row" ({ cls := "DotPress$Row", name := "isAtBeginOf", desc := "(LDotPress$Row;)Z" } : Jvm.MethodName) ({ cls := "DotPress$Row", name := "isAtBeginOf", desc := "(LDotPress$Row;)Z" } : Jvm.MethodName)) ∈ lw_g := lw_in (mT5 (List.mem_of_getElem? (i := 199) rfl)) rfl
theorem w5_2 : (Jvm.Cond.methodLink "DotPressLaw" (106 : Nat) ({ cls := "DotPress", name := "copied", desc := "()I" } : Jvm.MethodName)) ∈ lw_g := lw_in (mT5 (List.mem_of_getElem? (i := 2) rfl)) rfl
theorem w5_20 : (Jvm.Cond.methodLink "DotPressLaw" (114 : Nat) ({ cls := "DotPress", name := "closed", desc := "()I" } : Jvm.MethodName)) ∈ lw_g := lw_in (mT5 (List.mem_of_getElem? (i := 20) rfl)) rfl
theorem w5_200 : (Jvm.Cond.code ({ cls := "DotPress$Row", name := "isAtBeginOf", desc := "(LDotPress$Row;)Z" } : Jvm.MethodName) prog_7_method_4_code (2 : Nat) (Option.some Jvm.ClassFile.FieldType.boolean)) ∈ lw_g := lw_in (mT5 (List.mem_of_getElem? (i := 200) rfl)) rfl
theorem w5_201 : (Jvm.Cond.methodLink "DotPress$Row" (35 : Nat) ({ cls := "DotPress$Row", name := "alike", desc := "(LDotPress$Row;)I" } : Jvm.MethodName)) ∈ lw_g := lw_in (mT5 (List.mem_of_getElem? (i := 201) rfl)) rfl
theorem w5_202 : (Jvm.Cond.instanceMethod ({ cls := "DotPress$Row", name := "alike", desc := "(LDotPress$Row;)I" } : Jvm.MethodName)) ∈ lw_g := lw_in (mT5 (List.mem_of_getElem? (i := 202) rfl)) rfl
theorem w5_203 : (Jvm.Cond.selects "DotPress$Row" ({ cls := "DotPress$Row", name := "alike", desc := "(LDotPress$Row;)I" } : Jvm.MethodName) ({ cls := "DotPress$Row", name := "alike", desc := "(LDotPress$Row;)I" } : Jvm.MethodName)) ∈ lw_g := lw_in (mT5 (List.mem_of_getElem? (i := 203) rfl)) rfl
theorem w5_204 : (Jvm.Cond.code ({ cls := "DotPress$Row", name := "alike", desc := "(LDotPress$Row;)I" } : Jvm.MethodName) prog_7_method_3_code (4 : Nat) (Option.some Jvm.ClassFile.FieldType.int)) ∈ lw_g := lw_in (mT5 (List.mem_of_getElem? (i := 204) rfl)) rfl
theorem w5_205 : (Jvm.Cond.methodLink "DotPress$Row" (29 : Nat) ({ cls := "java/lang/Math", name := "min", desc := "(II)I" } : Jvm.MethodName)) ∈ lw_g := lw_in (mT5 (List.mem_of_getElem? (i := 205) rfl)) rfl
theorem w5_206 : (Jvm.Cond.methodLink "DotPressLaw" (147 : Nat) ({ cls := "DotPress", name := "parts", desc := "(III)I" } : Jvm.MethodName)) ∈ lw_g := lw_in (mT5 (List.mem_of_getElem? (i := 206) rfl)) rfl
theorem w5_207 : (Jvm.Cond.instanceMethod ({ cls := "DotPress", name := "parts", desc := "(III)I" } : Jvm.MethodName)) ∈ lw_g := lw_in (mT5 (List.mem_of_getElem? (i := 207) rfl)) rfl
theorem w5_208 : (Jvm.Cond.selects "DotPress" ({ cls := "DotPress", name := "parts", desc := "(III)I" } : Jvm.MethodName) ({ cls := "DotPress", name := "parts", desc := "(III)I" } : Jvm.MethodName)) ∈ lw_g := lw_in (mT5 (List.mem_of_getElem? (i := 208) rfl)) rfl
theorem w5_209 : (Jvm.Cond.code ({ cls := "DotPress", name := "parts", desc := "(III)I" } : Jvm.MethodName) prog_1_method_45_code (10 : Nat) (Option.some Jvm.ClassFile.FieldType.int)) ∈ lw_g := lw_in (mT5 (List.mem_of_getElem? (i := 209) rfl)) rfl
theorem w5_21 : (Jvm.Cond.instanceMethod ({ cls := "DotPress", name := "closed", desc := "()I" } : Jvm.MethodName)) ∈ lw_g := lw_in (mT5 (List.mem_of_getElem? (i := 21) rfl)) rfl
theorem w5_210 : (Jvm.Cond.methodLink "DotPress" (380 : Nat) ({ cls := "DotPress$Row", name := "alike", desc := "(LDotPress$Row;)I" } : Jvm.MethodName)) ∈ lw_g := lw_in (mT5 (List.mem_of_getElem? (i := 210) rfl)) rfl
theorem w5_211 : (Jvm.Cond.methodLink "DotPressLaw" (151 : Nat) ({ cls := "DotPress", name := "unreadable", desc := "(III)I" } : Jvm.MethodName)) ∈ lw_g := lw_in (mT5 (List.mem_of_getElem? (i := 211) rfl)) rfl
theorem w5_212 : (Jvm.Cond.instanceMethod ({ cls := "DotPress", name := "unreadable", desc := "(III)I" } : Jvm.MethodName)) ∈ lw_g := lw_in (mT5 (List.mem_of_getElem? (i := 212) rfl)) rfl
theorem w5_213 : (Jvm.Cond.selects "DotPress" ({ cls := "DotPress", name := "unreadable", desc := "(III)I" } : Jvm.MethodName) ({ cls := "DotPress", name := "unreadable", desc := "(III)I" } : Jvm.MethodName)) ∈ lw_g := lw_in (mT5 (List.mem_of_getElem? (i := 213) rfl)) rfl
theorem w5_214 : (Jvm.Cond.code ({ cls := "DotPress", name := "unreadable", desc := "(III)I" } : Jvm.MethodName) prog_1_method_46_code (7 : Nat) (Option.some Jvm.ClassFile.FieldType.int)) ∈ lw_g := lw_in (mT5 (List.mem_of_getElem? (i := 214) rfl)) rfl
theorem w5_215 : (Jvm.Cond.methodLink "DotPress" (385 : Nat) ({ cls := "DotPress$Source", name := "gatherAlphabet", desc := "(LDotPress$Reader;Z)V" } : Jvm.MethodName)) ∈ lw_g := lw_in (mT5 (List.mem_of_getElem? (i := 215) rfl)) rfl
theorem w5_216 : (Jvm.Cond.instanceMethod ({ cls := "DotPress$Source", name := "gatherAlphabet", desc := "(LDotPress$Reader;Z)V" } : Jvm.MethodName)) ∈ lw_g := lw_in (mT5 (List.mem_of_getElem? (i := 216) rfl)) rfl
theorem w5_217 : (Jvm.Cond.selects "DotPress$Source" ({ cls := "DotPress$Source", name := "gatherAlphabet", desc := "(LDotPress$Reader;Z)V" } : Jvm.MethodName) ({ cls := "DotPress$Source", name := "gatherAlphabet", desc := "(LDotPress$Reader;Z)V" } : Jvm.MethodName)) ∈ lw_g := lw_in (mT5 (List.mem_of_getElem? (i := 217) rfl)) rfl
theorem w5_218 : (Jvm.Cond.code ({ cls := "DotPress$Source", name := "gatherAlphabet", desc := "(LDotPress$Reader;Z)V" } : Jvm.MethodName) prog_10_method_5_code (4 : Nat) (Option.none : Option Jvm.ClassFile.FieldType)) ∈ lw_g := lw_in (mT5 (List.mem_of_getElem? (i := 218) rfl)) rfl
theorem w5_219 : (Jvm.Cond.methodLink "DotPress$Source" (70 : Nat) ({ cls := "DotPress$Source", name := "markLetters", desc := "(Ljava/util/ArrayList;)V" } : Jvm.MethodName)) ∈ lw_g := lw_in (mT5 (List.mem_of_getElem? (i := 219) rfl)) rfl
theorem w5_22 : (Jvm.Cond.selects "DotPress" ({ cls := "DotPress", name := "closed", desc := "()I" } : Jvm.MethodName) ({ cls := "DotPress", name := "closed", desc := "()I" } : Jvm.MethodName)) ∈ lw_g := lw_in (mT5 (List.mem_of_getElem? (i := 22) rfl)) rfl
theorem w5_221 : (Jvm.Cond.instanceMethod ({ cls := "DotPress$Source", name := "markLetters", desc := "(Ljava/util/ArrayList;)V" } : Jvm.MethodName)) ∈ lw_g := lw_in (mT5 (List.mem_of_getElem? (i := 221) rfl)) rfl
theorem w5_222 : (Jvm.Cond.code ({ cls := "DotPress$Source", name := "markLetters", desc := "(Ljava/util/ArrayList;)V" } : Jvm.MethodName) prog_10_method_6_code (5 : Nat) (Option.none : Option Jvm.ClassFile.FieldType)) ∈ lw_g := lw_in (mT5 (List.mem_of_getElem? (i := 222) rfl)) rfl
theorem w5_223 : (Jvm.Cond.methodLink "DotPress$Source" (77 : Nat) ({ cls := "java/util/ArrayList", name := "size", desc := "()I" } : Jvm.MethodName)) ∈ lw_g := lw_in (mT5 (List.mem_of_getElem? (i := 223) rfl)) rfl
theorem w5_224 : (Jvm.Cond.methodLink "DotPress$Source" (82 : Nat) ({ cls := "java/util/ArrayList", name := "get", desc := "(I)Ljava/lang/Object;" } : Jvm.MethodName)) ∈ lw_g := lw_in (mT5 (List.mem_of_getElem? (i := 224) rfl)) rfl
theorem w5_225 : (Jvm.Cond.classLink "DotPress$Source" (86 : Nat) "DotPress$Row") ∈ lw_g := lw_in (mT5 (List.mem_of_getElem? (i := 225) rfl)) rfl
theorem w5_226 : (Jvm.Cond.methodLink "DotPress" (389 : Nat) ({ cls := "DotPress$Source", name := "startSpelling", desc := "(I)Z" } : Jvm.MethodName)) ∈ lw_g := lw_in (mT5 (List.mem_of_getElem? (i := 226) rfl)) rfl
theorem w5_227 : (Jvm.Cond.instanceMethod ({ cls := "DotPress$Source", name := "startSpelling", desc := "(I)Z" } : Jvm.MethodName)) ∈ lw_g := lw_in (mT5 (List.mem_of_getElem? (i := 227) rfl)) rfl
theorem w5_228 : (Jvm.Cond.selects "DotPress$Source" ({ cls := "DotPress$Source", name := "startSpelling", desc := "(I)Z" } : Jvm.MethodName) ({ cls := "DotPress$Source", name := "startSpelling", desc := "(I)Z" } : Jvm.MethodName)) ∈ lw_g := lw_in (mT5 (List.mem_of_getElem? (i := 228) rfl)) rfl
theorem w5_229 : (Jvm.Cond.code ({ cls := "DotPress$Source", name := "startSpelling", desc := "(I)Z" } : Jvm.MethodName) prog_10_method_7_code (2 : Nat) (Option.some Jvm.ClassFile.FieldType.boolean)) ∈ lw_g := lw_in (mT5 (List.mem_of_getElem? (i := 229) rfl)) rfl
theorem w5_23 : (Jvm.Cond.code ({ cls := "DotPress", name := "closed", desc := "()I" } : Jvm.MethodName) prog_1_method_36_code (1 : Nat) (Option.some Jvm.ClassFile.FieldType.int)) ∈ lw_g := lw_in (mT5 (List.mem_of_getElem? (i := 23) rfl)) rfl
theorem w5_230 : (Jvm.Cond.methodLink "DotPress$Source" (91 : Nat) ({ cls := "DotPress$Source", name := "lengthen", desc := "(I)Z" } : Jvm.MethodName)) ∈ lw_g := lw_in (mT5 (List.mem_of_getElem? (i := 230) rfl)) rfl
theorem w5_232 : (Jvm.Cond.instanceMethod ({ cls := "DotPress$Source", name := "lengthen", desc := "(I)Z" } : Jvm.MethodName)) ∈ lw_g := lw_in (mT5 (List.mem_of_getElem? (i := 232) rfl)) rfl
theorem w5_233 : (Jvm.Cond.code ({ cls := "DotPress$Source", name := "lengthen", desc := "(I)Z" } : Jvm.MethodName) prog_10_method_8_code (2 : Nat) (Option.some Jvm.ClassFile.FieldType.boolean)) ∈ lw_g := lw_in (mT5 (List.mem_of_getElem? (i := 233) rfl)) rfl
theorem w5_234 : (Jvm.Cond.methodLink "DotPress$Source" (95 : Nat) ({ cls := "java/util/Arrays", name := "fill", desc := "([II)V" } : Jvm.MethodName)) ∈ lw_g := lw_in (mT5 (List.mem_of_getElem? (i := 234) rfl)) rfl
theorem w5_235 : (Jvm.Cond.static ({ cls := "java/util/Arrays", name := "fill", desc := "([II)V" } : Jvm.MethodName)) ∈ lw_g := lw_in (mT5 (List.mem_of_getElem? (i := 235) rfl)) rfl
theorem w5_236 : (Jvm.Cond.code ({ cls := "java/util/Arrays", name := "fill", desc := "([II)V" } : Jvm.MethodName) prog_24_method_103_code (4 : Nat) (Option.none : Option Jvm.ClassFile.FieldType)) ∈ lw_g := lw_in (mT5 (List.mem_of_getElem? (i := 236) rfl)) rfl
theorem w5_237 : (Jvm.Cond.methodLink "DotPress" (392 : Nat) ({ cls := "DotPress$Source", name := "spell", desc := "(LDotPress$Setting;)V" } : Jvm.MethodName)) ∈ lw_g := lw_in (mT5 (List.mem_of_getElem? (i := 237) rfl)) rfl
theorem w5_238 : (Jvm.Cond.instanceMethod ({ cls := "DotPress$Source", name := "spell", desc := "(LDotPress$Setting;)V" } : Jvm.MethodName)) ∈ lw_g := lw_in (mT5 (List.mem_of_getElem? (i := 238) rfl)) rfl
theorem w5_239 : (Jvm.Cond.selects "DotPress$Source" ({ cls := "DotPress$Source", name := "spell", desc := "(LDotPress$Setting;)V" } : Jvm.MethodName) ({ cls := "DotPress$Source", name := "spell", desc := "(LDotPress$Setting;)V" } : Jvm.MethodName)) ∈ lw_g := lw_in (mT5 (List.mem_of_getElem? (i := 239) rfl)) rfl
theorem w5_24 : (Jvm.Cond.methodLink "DotPressLaw" (118 : Nat) ({ cls := "DotPress", name := "read", desc := "(III)I" } : Jvm.MethodName)) ∈ lw_g := lw_in (mT5 (List.mem_of_getElem? (i := 24) rfl)) rfl
theorem w5_25 : (Jvm.Cond.instanceMethod ({ cls := "DotPress", name := "read", desc := "(III)I" } : Jvm.MethodName)) ∈ lw_g := lw_in (mT5 (List.mem_of_getElem? (i := 25) rfl)) rfl
theorem w5_26 : (Jvm.Cond.selects "DotPress" ({ cls := "DotPress", name := "read", desc := "(III)I" } : Jvm.MethodName) ({ cls := "DotPress", name := "read", desc := "(III)I" } : Jvm.MethodName)) ∈ lw_g := lw_in (mT5 (List.mem_of_getElem? (i := 26) rfl)) rfl
theorem w5_27 : (Jvm.Cond.code ({ cls := "DotPress", name := "read", desc := "(III)I" } : Jvm.MethodName) prog_1_method_37_code (6 : Nat) (Option.some Jvm.ClassFile.FieldType.int)) ∈ lw_g := lw_in (mT5 (List.mem_of_getElem? (i := 27) rfl)) rfl
theorem w5_28 : (Jvm.Cond.methodLink "DotPress" (328 : Nat) ({ cls := "DotPress", name := "chainLines", desc := "(II)V" } : Jvm.MethodName)) ∈ lw_g := lw_in (mT5 (List.mem_of_getElem? (i := 28) rfl)) rfl
theorem w5_3 : (Jvm.Cond.instanceMethod ({ cls := "DotPress", name := "copied", desc := "()I" } : Jvm.MethodName)) ∈ lw_g := lw_in (mT5 (List.mem_of_getElem? (i := 3) rfl)) rfl
theorem w5_30 : (Jvm.Cond.instanceMethod ({ cls := "DotPress", name := "chainLines", desc := "(II)V" } : Jvm.MethodName)) ∈ lw_g := lw_in (mT5 (List.mem_of_getElem? (i := 30) rfl)) rfl
theorem w5_31 : (Jvm.Cond.code ({ cls := "DotPress", name := "chainLines", desc := "(II)V" } : Jvm.MethodName) prog_1_method_38_code (5 : Nat) (Option.none : Option Jvm.ClassFile.FieldType)) ∈ lw_g := lw_in (mT5 (List.mem_of_getElem? (i := 31) rfl)) rfl
theorem w5_32 : (Jvm.Cond.methodLink "DotPress" (344 : Nat) ({ cls := "DotPress$Reader", name := "clearCells", desc := "()V" } : Jvm.MethodName)) ∈ lw_g := lw_in (mT5 (List.mem_of_getElem? (i := 32) rfl)) rfl
theorem w5_33 : (Jvm.Cond.instanceMethod ({ cls := "DotPress$Reader", name := "clearCells", desc := "()V" } : Jvm.MethodName)) ∈ lw_g := lw_in (mT5 (List.mem_of_getElem? (i := 33) rfl)) rfl
theorem w5_34 : (Jvm.Cond.selects "DotPress$Reader" ({ cls := "DotPress$Reader", name := "clearCells", desc := "()V" } : Jvm.MethodName) ({ cls := "DotPress$Reader", name := "clearCells", desc := "()V" } : Jvm.MethodName)) ∈ lw_g := lw_in (mT5 (List.mem_of_getElem? (i := 34) rfl)) rfl
theorem w5_35 : (Jvm.Cond.code ({ cls := "DotPress$Reader", name := "clearCells", desc := "()V" } : Jvm.MethodName) prog_5_method_8_code (1 : Nat) (Option.none : Option Jvm.ClassFile.FieldType)) ∈ lw_g := lw_in (mT5 (List.mem_of_getElem? (i := 35) rfl)) rfl
theorem w5_36 : (Jvm.Cond.methodLink "DotPress$Reader" (77 : Nat) ({ cls := "DotPress$Ints", name := "clear", desc := "()V" } : Jvm.MethodName)) ∈ lw_g := lw_in (mT5 (List.mem_of_getElem? (i := 36) rfl)) rfl
theorem w5_37 : (Jvm.Cond.methodLink "DotPress" (347 : Nat) ({ cls := "DotPress$Reader", name := "chain", desc := "(LDotPress$Line;IIZ)V" } : Jvm.MethodName)) ∈ lw_g := lw_in (mT5 (List.mem_of_getElem? (i := 37) rfl)) rfl
theorem w5_38 : (Jvm.Cond.instanceMethod ({ cls := "DotPress$Reader", name := "chain", desc := "(LDotPress$Line;IIZ)V" } : Jvm.MethodName)) ∈ lw_g := lw_in (mT5 (List.mem_of_getElem? (i := 38) rfl)) rfl
theorem w5_39 : (Jvm.Cond.selects "DotPress$Reader" ({ cls := "DotPress$Reader", name := "chain", desc := "(LDotPress$Line;IIZ)V" } : Jvm.MethodName) ({ cls := "DotPress$Reader", name := "chain", desc := "(LDotPress$Line;IIZ)V" } : Jvm.MethodName)) ∈ lw_g := lw_in (mT5 (List.mem_of_getElem? (i := 39) rfl)) rfl
theorem w5_4 : (Jvm.Cond.selects "DotPress" ({ cls := "DotPress", name := "copied", desc := "()I" } : Jvm.MethodName) ({ cls := "DotPress", name := "copied", desc := "()I" } : Jvm.MethodName)) ∈ lw_g := lw_in (mT5 (List.mem_of_getElem? (i := 4) rfl)) rfl
theorem w5_40 : (Jvm.Cond.code ({ cls := "DotPress$Reader", name := "chain", desc := "(LDotPress$Line;IIZ)V" } : Jvm.MethodName) prog_5_method_10_code (8 : Nat) (Option.none : Option Jvm.ClassFile.FieldType)) ∈ lw_g := lw_in (mT5 (List.mem_of_getElem? (i := 40) rfl)) rfl
theorem w5_41 : (Jvm.Cond.methodLink "DotPress$Reader" (108 : Nat) ({ cls := "DotPress$Line", name := "endsWith", desc := "(I)Z" } : Jvm.MethodName)) ∈ lw_g := lw_in (mT5 (List.mem_of_getElem? (i := 41) rfl)) rfl
theorem w5_42 : (Jvm.Cond.instanceMethod ({ cls := "DotPress$Line", name := "endsWith", desc := "(I)Z" } : Jvm.MethodName)) ∈ lw_g := lw_in (mT5 (List.mem_of_getElem? (i := 42) rfl)) rfl
theorem w5_43 : (Jvm.Cond.selects "DotPress$Line" ({ cls := "DotPress$Line", name := "endsWith", desc := "(I)Z" } : Jvm.MethodName) ({ cls := "DotPress$Line", name := "endsWith", desc := "(I)Z" } : Jvm.MethodName)) ∈ lw_g := lw_in (mT5 (List.mem_of_getElem? (i := 43) rfl)) rfl
theorem w5_44 : (Jvm.Cond.code ({ cls := "DotPress$Line", name := "endsWith", desc := "(I)Z" } : Jvm.MethodName) prog_4_method_9_code (2 : Nat) (Option.some Jvm.ClassFile.FieldType.boolean)) ∈ lw_g := lw_in (mT5 (List.mem_of_getElem? (i := 44) rfl)) rfl
theorem w5_45 : (Jvm.Cond.methodLink "DotPress$Reader" (114 : Nat) ({ cls := "DotPress$Reader", name := "addCell", desc := "(II)V" } : Jvm.MethodName)) ∈ lw_g := lw_in (mT5 (List.mem_of_getElem? (i := 45) rfl)) rfl
theorem w5_46 : (Jvm.Cond.instanceMethod ({ cls := "DotPress$Reader", name := "addCell", desc := "(II)V" } : Jvm.MethodName)) ∈ lw_g := lw_in (mT5 (List.mem_of_getElem? (i := 46) rfl)) rfl
theorem w5_47 : (Jvm.Cond.selects "DotPress$Reader" ({ cls := "DotPress$Reader", name := "addCell", desc := "(II)V" } : Jvm.MethodName) ({ cls := "DotPress$Reader", name := "addCell", desc := "(II)V" } : Jvm.MethodName)) ∈ lw_g := lw_in (mT5 (List.mem_of_getElem? (i := 47) rfl)) rfl
theorem w5_48 : (Jvm.Cond.code ({ cls := "DotPress$Reader", name := "addCell", desc := "(II)V" } : Jvm.MethodName) prog_5_method_9_code (3 : Nat) (Option.none : Option Jvm.ClassFile.FieldType)) ∈ lw_g := lw_in (mT5 (List.mem_of_getElem? (i := 48) rfl)) rfl
theorem w5_49 : (Jvm.Cond.methodLink "DotPress$Reader" (91 : Nat) ({ cls := "DotPress$Ints", name := "add", desc := "(I)V" } : Jvm.MethodName)) ∈ lw_g := lw_in (mT5 (List.mem_of_getElem? (i := 49) rfl)) rfl
theorem w5_5 : (Jvm.Cond.code ({ cls := "DotPress", name := "copied", desc := "()I" } : Jvm.MethodName) prog_1_method_34_code (1 : Nat) (Option.some Jvm.ClassFile.FieldType.int)) ∈ lw_g := lw_in (mT5 (List.mem_of_getElem? (i := 5) rfl)) rfl
theorem w5_50 : (Jvm.Cond.methodLink "DotPress" (331 : Nat) ({ cls := "DotPress$Reader", name := "gather", desc := "(LDotPress$Table;)V" } : Jvm.MethodName)) ∈ lw_g := lw_in (mT5 (List.mem_of_getElem? (i := 50) rfl)) rfl
theorem w5_51 : (Jvm.Cond.instanceMethod ({ cls := "DotPress$Reader", name := "gather", desc := "(LDotPress$Table;)V" } : Jvm.MethodName)) ∈ lw_g := lw_in (mT5 (List.mem_of_getElem? (i := 51) rfl)) rfl
theorem w5_52 : (Jvm.Cond.selects "DotPress$Reader" ({ cls := "DotPress$Reader", name := "gather", desc := "(LDotPress$Table;)V" } : Jvm.MethodName) ({ cls := "DotPress$Reader", name := "gather", desc := "(LDotPress$Table;)V" } : Jvm.MethodName)) ∈ lw_g := lw_in (mT5 (List.mem_of_getElem? (i := 52) rfl)) rfl
theorem w5_53 : (Jvm.Cond.code ({ cls := "DotPress$Reader", name := "gather", desc := "(LDotPress$Table;)V" } : Jvm.MethodName) prog_5_method_2_code (2 : Nat) (Option.none : Option Jvm.ClassFile.FieldType)) ∈ lw_g := lw_in (mT5 (List.mem_of_getElem? (i := 53) rfl)) rfl
theorem w5_54 : (Jvm.Cond.methodLink "DotPress$Reader" (47 : Nat) ({ cls := "java/util/ArrayList", name := "clear", desc := "()V" } : Jvm.MethodName)) ∈ lw_g := lw_in (mT5 (List.mem_of_getElem? (i := 54) rfl)) rfl
theorem w5_55 : (Jvm.Cond.instanceMethod ({ cls := "java/util/ArrayList", name := "clear", desc := "()V" } : Jvm.MethodName)) ∈ lw_g := lw_in (mT5 (List.mem_of_getElem? (i := 55) rfl)) rfl
theorem w5_56 : (Jvm.Cond.selects "java/util/ArrayList" ({ cls := "java/util/ArrayList", name := "clear", desc := "()V" } : Jvm.MethodName) ({ cls := "java/util/ArrayList", name := "clear", desc := "()V" } : Jvm.MethodName)) ∈ lw_g := lw_in (mT5 (List.mem_of_getElem? (i := 56) rfl)) rfl
theorem w5_57 : (Jvm.Cond.code ({ cls := "java/util/ArrayList", name := "clear", desc := "()V" } : Jvm.MethodName) prog_23_method_40_code (4 : Nat) (Option.none : Option Jvm.ClassFile.FieldType)) ∈ lw_g := lw_in (mT5 (List.mem_of_getElem? (i := 57) rfl)) rfl
theorem w5_58 : (Jvm.Cond.methodLink "DotPress$Reader" (59 : Nat) ({ cls := "DotPress$Reader", name := "gatherPart", desc := "(Ljava/util/ArrayList;LDotPress$Table;)V" } : Jvm.MethodName)) ∈ lw_g := lw_in (mT5 (List.mem_of_getElem? (i := 58) rfl)) rfl
theorem w5_59 : (Jvm.Cond.static ({ cls := "DotPress$Reader", name := "gatherPart", desc := "(Ljava/util/ArrayList;LDotPress$Table;)V" } : Jvm.MethodName)) ∈ lw_g := lw_in (mT5 (List.mem_of_getElem? (i := 59) rfl)) rfl
theorem w5_6 : (Jvm.Cond.methodLink "DotPressLaw" (110 : Nat) ({ cls := "DotPress", name := "emboss", desc := "(II)I" } : Jvm.MethodName)) ∈ lw_g := lw_in (mT5 (List.mem_of_getElem? (i := 6) rfl)) rfl
theorem w5_60 : (Jvm.Cond.code ({ cls := "DotPress$Reader", name := "gatherPart", desc := "(Ljava/util/ArrayList;LDotPress$Table;)V" } : Jvm.MethodName) prog_5_method_4_code (4 : Nat) (Option.none : Option Jvm.ClassFile.FieldType)) ∈ lw_g := lw_in (mT5 (List.mem_of_getElem? (i := 60) rfl)) rfl
theorem w5_61 : (Jvm.Cond.methodLink "DotPress$Reader" (78 : Nat) ({ cls := "java/util/ArrayList", name := "size", desc := "()I" } : Jvm.MethodName)) ∈ lw_g := lw_in (mT5 (List.mem_of_getElem? (i := 61) rfl)) rfl
theorem w5_62 : (Jvm.Cond.methodLink "DotPress$Reader" (82 : Nat) ({ cls := "java/util/ArrayList", name := "get", desc := "(I)Ljava/lang/Object;" } : Jvm.MethodName)) ∈ lw_g := lw_in (mT5 (List.mem_of_getElem? (i := 62) rfl)) rfl
theorem w5_63 : (Jvm.Cond.classLink "DotPress$Reader" (86 : Nat) "DotPress$Row") ∈ lw_g := lw_in (mT5 (List.mem_of_getElem? (i := 63) rfl)) rfl
theorem w5_64 : (Jvm.Cond.methodLink "DotPress$Reader" (97 : Nat) ({ cls := "java/util/ArrayList", name := "add", desc := "(Ljava/lang/Object;)Z" } : Jvm.MethodName)) ∈ lw_g := lw_in (mT5 (List.mem_of_getElem? (i := 64) rfl)) rfl
theorem w5_65 : (Jvm.Cond.methodLink "DotPress$Reader" (67 : Nat) ({ cls := "DotPress$Reader", name := "addIndicator", desc := "(Ljava/util/ArrayList;LDotPress$Row;)V" } : Jvm.MethodName)) ∈ lw_g := lw_in (mT5 (List.mem_of_getElem? (i := 65) rfl)) rfl
theorem w5_66 : (Jvm.Cond.static ({ cls := "DotPress$Reader", name := "addIndicator", desc := "(Ljava/util/ArrayList;LDotPress$Row;)V" } : Jvm.MethodName)) ∈ lw_g := lw_in (mT5 (List.mem_of_getElem? (i := 66) rfl)) rfl
theorem w5_67 : (Jvm.Cond.code ({ cls := "DotPress$Reader", name := "addIndicator", desc := "(Ljava/util/ArrayList;LDotPress$Row;)V" } : Jvm.MethodName) prog_5_method_5_code (2 : Nat) (Option.none : Option Jvm.ClassFile.FieldType)) ∈ lw_g := lw_in (mT5 (List.mem_of_getElem? (i := 67) rfl)) rfl
theorem w5_68 : (Jvm.Cond.methodLink "DotPress$Reader" (73 : Nat) ({ cls := "DotPress$Reader", name := "markBegins", desc := "(Ljava/util/ArrayList;LDotPress$Ints;)V" } : Jvm.MethodName)) ∈ lw_g := lw_in (mT5 (List.mem_of_getElem? (i := 68) rfl)) rfl
theorem w5_69 : (Jvm.Cond.static ({ cls := "DotPress$Reader", name := "markBegins", desc := "(Ljava/util/ArrayList;LDotPress$Ints;)V" } : Jvm.MethodName)) ∈ lw_g := lw_in (mT5 (List.mem_of_getElem? (i := 69) rfl)) rfl
theorem w5_7 : (Jvm.Cond.instanceMethod ({ cls := "DotPress", name := "emboss", desc := "(II)I" } : Jvm.MethodName)) ∈ lw_g := lw_in (mT5 (List.mem_of_getElem? (i := 7) rfl)) rfl
theorem w5_70 : (Jvm.Cond.code ({ cls := "DotPress$Reader", name := "markBegins", desc := "(Ljava/util/ArrayList;LDotPress$Ints;)V" } : Jvm.MethodName) prog_5_method_3_code (5 : Nat) (Option.none : Option Jvm.ClassFile.FieldType)) ∈ lw_g := lw_in (mT5 (List.mem_of_getElem? (i := 70) rfl)) rfl
theorem w5_71 : (Jvm.Cond.methodLink "DotPress" (335 : Nat) ({ cls := "DotPress$Reader", name := "decode", desc := "()Z" } : Jvm.MethodName)) ∈ lw_g := lw_in (mT5 (List.mem_of_getElem? (i := 71) rfl)) rfl
theorem w5_72 : (Jvm.Cond.instanceMethod ({ cls := "DotPress$Reader", name := "decode", desc := "()Z" } : Jvm.MethodName)) ∈ lw_g := lw_in (mT5 (List.mem_of_getElem? (i := 72) rfl)) rfl
theorem w5_73 : (Jvm.Cond.selects "DotPress$Reader" ({ cls := "DotPress$Reader", name := "decode", desc := "()Z" } : Jvm.MethodName) ({ cls := "DotPress$Reader", name := "decode", desc := "()Z" } : Jvm.MethodName)) ∈ lw_g := lw_in (mT5 (List.mem_of_getElem? (i := 73) rfl)) rfl
theorem w5_74 : (Jvm.Cond.code ({ cls := "DotPress$Reader", name := "decode", desc := "()Z" } : Jvm.MethodName) prog_5_method_11_code (4 : Nat) (Option.some Jvm.ClassFile.FieldType.boolean)) ∈ lw_g := lw_in (mT5 (List.mem_of_getElem? (i := 74) rfl)) rfl
theorem w5_75 : (Jvm.Cond.methodLink "DotPress$Reader" (119 : Nat) ({ cls := "DotPress$Ints", name := "at", desc := "(I)I" } : Jvm.MethodName)) ∈ lw_g := lw_in (mT5 (List.mem_of_getElem? (i := 75) rfl)) rfl
theorem w5_76 : (Jvm.Cond.methodLink "DotPress$Reader" (123 : Nat) ({ cls := "DotPress$Reader", name := "decodeWord", desc := "(I)I" } : Jvm.MethodName)) ∈ lw_g := lw_in (mT5 (List.mem_of_getElem? (i := 76) rfl)) rfl
theorem w5_78 : (Jvm.Cond.instanceMethod ({ cls := "DotPress$Reader", name := "decodeWord", desc := "(I)I" } : Jvm.MethodName)) ∈ lw_g := lw_in (mT5 (List.mem_of_getElem? (i := 78) rfl)) rfl
theorem w5_79 : (Jvm.Cond.code ({ cls := "DotPress$Reader", name := "decodeWord", desc := "(I)I" } : Jvm.MethodName) prog_5_method_12_code (6 : Nat) (Option.some Jvm.ClassFile.FieldType.int)) ∈ lw_g := lw_in (mT5 (List.mem_of_getElem? (i := 79) rfl)) rfl
theorem w5_8 : (Jvm.Cond.selects "DotPress" ({ cls := "DotPress", name := "emboss", desc := "(II)I" } : Jvm.MethodName) ({ cls := "DotPress", name := "emboss", desc := "(II)I" } : Jvm.MethodName)) ∈ lw_g := lw_in (mT5 (List.mem_of_getElem? (i := 8) rfl)) rfl
theorem w5_80 : (Jvm.Cond.methodLink "DotPress$Reader" (126 : Nat) ({ cls := "DotPress$Reader", name := "longestAt", desc := "(ZI)LDotPress$Row;" } : Jvm.MethodName)) ∈ lw_g := lw_in (mT5 (List.mem_of_getElem? (i := 80) rfl)) rfl
theorem w5_82 : (Jvm.Cond.instanceMethod ({ cls := "DotPress$Reader", name := "longestAt", desc := "(ZI)LDotPress$Row;" } : Jvm.MethodName)) ∈ lw_g := lw_in (mT5 (List.mem_of_getElem? (i := 82) rfl)) rfl
theorem w5_83 : (Jvm.Cond.code ({ cls := "DotPress$Reader", name := "longestAt", desc := "(ZI)LDotPress$Row;" } : Jvm.MethodName) prog_5_method_13_code (11 : Nat) (Option.some (Jvm.ClassFile.FieldType.object "DotPress$Row"))) ∈ lw_g := lw_in (mT5 (List.mem_of_getElem? (i := 83) rfl)) rfl
theorem w5_84 : (Jvm.Cond.methodLink "DotPress$Reader" (147 : Nat) ({ cls := "DotPress$Reader", name := "rowsOf", desc := "(Z)Ljava/util/ArrayList;" } : Jvm.MethodName)) ∈ lw_g := lw_in (mT5 (List.mem_of_getElem? (i := 84) rfl)) rfl
theorem w5_85 : (Jvm.Cond.instanceMethod ({ cls := "DotPress$Reader", name := "rowsOf", desc := "(Z)Ljava/util/ArrayList;" } : Jvm.MethodName)) ∈ lw_g := lw_in (mT5 (List.mem_of_getElem? (i := 85) rfl)) rfl
theorem w5_86 : (Jvm.Cond.selects "DotPress$Reader" ({ cls := "DotPress$Reader", name := "rowsOf", desc := "(Z)Ljava/util/ArrayList;" } : Jvm.MethodName) ({ cls := "DotPress$Reader", name := "rowsOf", desc := "(Z)Ljava/util/ArrayList;" } : Jvm.MethodName)) ∈ lw_g := lw_in (mT5 (List.mem_of_getElem? (i := 86) rfl)) rfl
theorem w5_87 : (Jvm.Cond.code ({ cls := "DotPress$Reader", name := "rowsOf", desc := "(Z)Ljava/util/ArrayList;" } : Jvm.MethodName) prog_5_method_6_code (2 : Nat) (Option.some (Jvm.ClassFile.FieldType.object "java/util/ArrayList"))) ∈ lw_g := lw_in (mT5 (List.mem_of_getElem? (i := 87) rfl)) rfl
theorem w5_88 : (Jvm.Cond.methodLink "DotPress$Reader" (151 : Nat) ({ cls := "java/lang/Math", name := "min", desc := "(II)I" } : Jvm.MethodName)) ∈ lw_g := lw_in (mT5 (List.mem_of_getElem? (i := 88) rfl)) rfl
theorem w5_89 : (Jvm.Cond.methodLink "DotPress$Reader" (157 : Nat) ({ cls := "DotPress$Row", name := "standsAt", desc := "(LDotPress$Ints;I)Z" } : Jvm.MethodName)) ∈ lw_g := lw_in (mT5 (List.mem_of_getElem? (i := 89) rfl)) rfl
theorem w5_9 : (Jvm.Cond.code ({ cls := "DotPress", name := "emboss", desc := "(II)I" } : Jvm.MethodName) prog_1_method_35_code (6 : Nat) (Option.some Jvm.ClassFile.FieldType.int)) ∈ lw_g := lw_in (mT5 (List.mem_of_getElem? (i := 9) rfl)) rfl
theorem w5_90 : (Jvm.Cond.instanceMethod ({ cls := "DotPress$Row", name := "standsAt", desc := "(LDotPress$Ints;I)Z" } : Jvm.MethodName)) ∈ lw_g := lw_in (mT5 (List.mem_of_getElem? (i := 90) rfl)) rfl
theorem w5_91 : (Jvm.Cond.selects "DotPress$Row" ({ cls := "DotPress$Row", name := "standsAt", desc := "(LDotPress$Ints;I)Z" } : Jvm.MethodName) ({ cls := "DotPress$Row", name := "standsAt", desc := "(LDotPress$Ints;I)Z" } : Jvm.MethodName)) ∈ lw_g := lw_in (mT5 (List.mem_of_getElem? (i := 91) rfl)) rfl
theorem w5_92 : (Jvm.Cond.code ({ cls := "DotPress$Row", name := "standsAt", desc := "(LDotPress$Ints;I)Z" } : Jvm.MethodName) prog_7_method_6_code (4 : Nat) (Option.some Jvm.ClassFile.FieldType.boolean)) ∈ lw_g := lw_in (mT5 (List.mem_of_getElem? (i := 92) rfl)) rfl
theorem w5_93 : (Jvm.Cond.methodLink "DotPress$Reader" (130 : Nat) ({ cls := "DotPress$Row", name := "beginsSmall", desc := "()Z" } : Jvm.MethodName)) ∈ lw_g := lw_in (mT5 (List.mem_of_getElem? (i := 93) rfl)) rfl
theorem w5_94 : (Jvm.Cond.instanceMethod ({ cls := "DotPress$Row", name := "beginsSmall", desc := "()Z" } : Jvm.MethodName)) ∈ lw_g := lw_in (mT5 (List.mem_of_getElem? (i := 94) rfl)) rfl
theorem w5_95 : (Jvm.Cond.selects "DotPress$Row" ({ cls := "DotPress$Row", name := "beginsSmall", desc := "()Z" } : Jvm.MethodName) ({ cls := "DotPress$Row", name := "beginsSmall", desc := "()Z" } : Jvm.MethodName)) ∈ lw_g := lw_in (mT5 (List.mem_of_getElem? (i := 95) rfl)) rfl
theorem w5_96 : (Jvm.Cond.code ({ cls := "DotPress$Row", name := "beginsSmall", desc := "()Z" } : Jvm.MethodName) prog_7_method_2_code (1 : Nat) (Option.some Jvm.ClassFile.FieldType.boolean)) ∈ lw_g := lw_in (mT5 (List.mem_of_getElem? (i := 96) rfl)) rfl
theorem w5_97t : (Jvm.Cond.methodLinkNest "DotPress$Row" (25 : Nat) ({ cls := "DotPress", name := "isSmall", desc := "(I)Z" } : Jvm.MethodName) "DotPress") ∈ lw_tbl := mT5 (List.mem_of_getElem? (i := 97) rfl)
theorem w5_98 : (Jvm.Cond.static ({ cls := "DotPress", name := "isSmall", desc := "(I)Z" } : Jvm.MethodName)) ∈ lw_g := lw_in (mT5 (List.mem_of_getElem? (i := 98) rfl)) rfl
theorem w5_99 : (Jvm.Cond.code ({ cls := "DotPress", name := "isSmall", desc := "(I)Z" } : Jvm.MethodName) prog_1_method_58_code (1 : Nat) (Option.some Jvm.ClassFile.FieldType.boolean)) ∈ lw_g := lw_in (mT5 (List.mem_of_getElem? (i := 99) rfl)) rfl
theorem w6_0 : (Jvm.Cond.code ({ cls := "DotPress$Source", name := "spell", desc := "(LDotPress$Setting;)V" } : Jvm.MethodName) prog_10_method_9_code (3 : Nat) (Option.none : Option Jvm.ClassFile.FieldType)) ∈ lw_g := lw_in (mT6 (List.mem_of_getElem? (i := 0) rfl)) rfl
theorem w6_1 : (Jvm.Cond.methodLink "DotPress" (396 : Nat) ({ cls := "DotPress", name := "isReadBack", desc := "()Z" } : Jvm.MethodName)) ∈ lw_g := lw_in (mT6 (List.mem_of_getElem? (i := 1) rfl)) rfl
theorem w6_10 : (Jvm.Cond.methodLink "DotPress$Setting" (54 : Nat) ({ cls := "DotPress$Ints", name := "at", desc := "(I)I" } : Jvm.MethodName)) ∈ lw_g := lw_in (mT6 (List.mem_of_getElem? (i := 10) rfl)) rfl
theorem w6_100 : (Jvm.Cond.fieldLink "DotPressModel" (285 : Nat) "DotPressModel" "headMany" "I") ∈ lw_g := lw_in (mT6 (List.mem_of_getElem? (i := 100) rfl)) rfl
theorem w6_101 : (Jvm.Cond.fieldLink "DotPressModel" (303 : Nat) "DotPressModel" "copied" "I") ∈ lw_g := lw_in (mT6 (List.mem_of_getElem? (i := 101) rfl)) rfl
theorem w6_102 : (Jvm.Cond.fieldLink "DotPressModel" (306 : Nat) "DotPressModel" "closed" "I") ∈ lw_g := lw_in (mT6 (List.mem_of_getElem? (i := 102) rfl)) rfl
theorem w6_103 : (Jvm.Cond.fieldLink "DotPressModel" (107 : Nat) "DotPressModel" "rowIs" "[I") ∈ lw_g := lw_in (mT6 (List.mem_of_getElem? (i := 103) rfl)) rfl
theorem w6_104 : (Jvm.Cond.fieldLink "DotPressModel" (110 : Nat) "DotPressModel" "rowAt" "[I") ∈ lw_g := lw_in (mT6 (List.mem_of_getElem? (i := 104) rfl)) rfl
theorem w6_105 : (Jvm.Cond.fieldLink "DotPressModel" (113 : Nat) "DotPressModel" "rowLong" "[I") ∈ lw_g := lw_in (mT6 (List.mem_of_getElem? (i := 105) rfl)) rfl
theorem w6_106 : (Jvm.Cond.fieldLink "DotPressModel" (116 : Nat) "DotPressModel" "rowMany" "[I") ∈ lw_g := lw_in (mT6 (List.mem_of_getElem? (i := 106) rfl)) rfl
theorem w6_107 : (Jvm.Cond.fieldLink "DotPressModel" (120 : Nat) "DotPressModel" "row" "[I") ∈ lw_g := lw_in (mT6 (List.mem_of_getElem? (i := 107) rfl)) rfl
theorem w6_108 : (Jvm.Cond.fieldLink "DotPressModel" (123 : Nat) "DotPressModel" "rowPlace" "[I") ∈ lw_g := lw_in (mT6 (List.mem_of_getElem? (i := 108) rfl)) rfl
theorem w6_109 : (Jvm.Cond.fieldLink "DotPressModel" (333 : Nat) "DotPressModel" "rowEnd" "I") ∈ lw_g := lw_in (mT6 (List.mem_of_getElem? (i := 109) rfl)) rfl
theorem w6_11 : (Jvm.Cond.methodLink "DotPress" (399 : Nat) ({ cls := "DotPress$Setting", name := "writeLetters", desc := "(LDotPress$Ints;)V" } : Jvm.MethodName)) ∈ lw_g := lw_in (mT6 (List.mem_of_getElem? (i := 11) rfl)) rfl
theorem w6_110 : (Jvm.Cond.fieldLink "DotPressModel" (126 : Nat) "DotPressModel" "out" "[I") ∈ lw_g := lw_in (mT6 (List.mem_of_getElem? (i := 110) rfl)) rfl
theorem w6_111 : (Jvm.Cond.fieldLink "DotPressModel" (330 : Nat) "DotPressModel" "outs" "I") ∈ lw_g := lw_in (mT6 (List.mem_of_getElem? (i := 111) rfl)) rfl
theorem w6_112 : (Jvm.Cond.fieldLink "DotPressModel" (345 : Nat) "DotPressModel" "wrongAt" "I") ∈ lw_g := lw_in (mT6 (List.mem_of_getElem? (i := 112) rfl)) rfl
theorem w6_113 : (Jvm.Cond.fieldLink "DotPressModel" (129 : Nat) "DotPressModel" "was" "[I") ∈ lw_g := lw_in (mT6 (List.mem_of_getElem? (i := 113) rfl)) rfl
theorem w6_114 : (Jvm.Cond.fieldLink "DotPressModel" (419 : Nat) "DotPressModel" "wasMany" "I") ∈ lw_g := lw_in (mT6 (List.mem_of_getElem? (i := 114) rfl)) rfl
theorem w6_115 : (Jvm.Cond.fieldLink "DotPressModel" (360 : Nat) "DotPressModel" "failed" "I") ∈ lw_g := lw_in (mT6 (List.mem_of_getElem? (i := 115) rfl)) rfl
theorem w6_116 : (Jvm.Cond.fieldLink "DotPressModel" (132 : Nat) "DotPressModel" "can" "[Z") ∈ lw_g := lw_in (mT6 (List.mem_of_getElem? (i := 116) rfl)) rfl
theorem w6_117 : (Jvm.Cond.fieldLink "DotPressModel" (136 : Nat) "DotPressModel" "kept" "[I") ∈ lw_g := lw_in (mT6 (List.mem_of_getElem? (i := 117) rfl)) rfl
theorem w6_118 : (Jvm.Cond.fieldLink "DotPressModel" (139 : Nat) "DotPressModel" "keptLong" "[I") ∈ lw_g := lw_in (mT6 (List.mem_of_getElem? (i := 118) rfl)) rfl
theorem w6_119 : (Jvm.Cond.fieldLink "DotPressModel" (395 : Nat) "DotPressModel" "keptMany" "I") ∈ lw_g := lw_in (mT6 (List.mem_of_getElem? (i := 119) rfl)) rfl
theorem w6_12 : (Jvm.Cond.instanceMethod ({ cls := "DotPress$Setting", name := "writeLetters", desc := "(LDotPress$Ints;)V" } : Jvm.MethodName)) ∈ lw_g := lw_in (mT6 (List.mem_of_getElem? (i := 12) rfl)) rfl
theorem w6_120 : (Jvm.Cond.fieldLink "DotPressModel" (382 : Nat) "DotPressModel" "more" "I") ∈ lw_g := lw_in (mT6 (List.mem_of_getElem? (i := 120) rfl)) rfl
theorem w6_121 : (Jvm.Cond.fieldLink "DotPressModel" (142 : Nat) "DotPressModel" "now" "[I") ∈ lw_g := lw_in (mT6 (List.mem_of_getElem? (i := 121) rfl)) rfl
theorem w6_122 : (Jvm.Cond.fieldLink "DotPressModel" (388 : Nat) "DotPressModel" "nowLong" "I") ∈ lw_g := lw_in (mT6 (List.mem_of_getElem? (i := 122) rfl)) rfl
theorem w6_123 : (Jvm.Cond.fieldLink "DotPressModel" (398 : Nat) "DotPressModel" "wanted" "I") ∈ lw_g := lw_in (mT6 (List.mem_of_getElem? (i := 123) rfl)) rfl
theorem w6_124 : (Jvm.Cond.fieldLink "DotPressModel" (145 : Nat) "DotPressModel" "signs" "[I") ∈ lw_g := lw_in (mT6 (List.mem_of_getElem? (i := 124) rfl)) rfl
theorem w6_125 : (Jvm.Cond.fieldLink "DotPressModel" (413 : Nat) "DotPressModel" "signMany" "I") ∈ lw_g := lw_in (mT6 (List.mem_of_getElem? (i := 125) rfl)) rfl
theorem w6_126 : (Jvm.Cond.lays "DotPressModel" "DotPressModel" "status" "I") ∈ lw_g := lw_in (mT6 (List.mem_of_getElem? (i := 126) rfl)) rfl
theorem w6_128 : (Jvm.Cond.lays "DotPressModel" "DotPressModel" "place" "I") ∈ lw_g := lw_in (mT6 (List.mem_of_getElem? (i := 128) rfl)) rfl
theorem w6_13 : (Jvm.Cond.selects "DotPress$Setting" ({ cls := "DotPress$Setting", name := "writeLetters", desc := "(LDotPress$Ints;)V" } : Jvm.MethodName) ({ cls := "DotPress$Setting", name := "writeLetters", desc := "(LDotPress$Ints;)V" } : Jvm.MethodName)) ∈ lw_g := lw_in (mT6 (List.mem_of_getElem? (i := 13) rfl)) rfl
theorem w6_130 : (Jvm.Cond.laysFinal "DotPressModel" "DotPressModel" "tape" "[I") ∈ lw_g := lw_in (mT6 (List.mem_of_getElem? (i := 130) rfl)) rfl
theorem w6_132 : (Jvm.Cond.lays "DotPressModel" "DotPressModel" "taped" "I") ∈ lw_g := lw_in (mT6 (List.mem_of_getElem? (i := 132) rfl)) rfl
theorem w6_134 : (Jvm.Cond.lays "DotPressModel" "DotPressModel" "tables" "I") ∈ lw_g := lw_in (mT6 (List.mem_of_getElem? (i := 134) rfl)) rfl
theorem w6_136 : (Jvm.Cond.laysFinal "DotPressModel" "DotPressModel" "isThere" "[Z") ∈ lw_g := lw_in (mT6 (List.mem_of_getElem? (i := 136) rfl)) rfl
theorem w6_138 : (Jvm.Cond.laysFinal "DotPressModel" "DotPressModel" "kind" "[I") ∈ lw_g := lw_in (mT6 (List.mem_of_getElem? (i := 138) rfl)) rfl
theorem w6_14 : (Jvm.Cond.code ({ cls := "DotPress$Setting", name := "writeLetters", desc := "(LDotPress$Ints;)V" } : Jvm.MethodName) prog_8_method_8_code (3 : Nat) (Option.none : Option Jvm.ClassFile.FieldType)) ∈ lw_g := lw_in (mT6 (List.mem_of_getElem? (i := 14) rfl)) rfl
theorem w6_140 : (Jvm.Cond.laysFinal "DotPressModel" "DotPressModel" "dots" "[I") ∈ lw_g := lw_in (mT6 (List.mem_of_getElem? (i := 140) rfl)) rfl
theorem w6_142 : (Jvm.Cond.laysFinal "DotPressModel" "DotPressModel" "base" "[I") ∈ lw_g := lw_in (mT6 (List.mem_of_getElem? (i := 142) rfl)) rfl
theorem w6_144 : (Jvm.Cond.laysFinal "DotPressModel" "DotPressModel" "second" "[I") ∈ lw_g := lw_in (mT6 (List.mem_of_getElem? (i := 144) rfl)) rfl
theorem w6_146 : (Jvm.Cond.laysFinal "DotPressModel" "DotPressModel" "ruleMany" "[I") ∈ lw_g := lw_in (mT6 (List.mem_of_getElem? (i := 146) rfl)) rfl
theorem w6_148 : (Jvm.Cond.laysFinal "DotPressModel" "DotPressModel" "conditions" "[I") ∈ lw_g := lw_in (mT6 (List.mem_of_getElem? (i := 148) rfl)) rfl
theorem w6_15 : (Jvm.Cond.methodLink "DotPress$Setting" (58 : Nat) ({ cls := "DotPress$Ints", name := "add", desc := "(I)V" } : Jvm.MethodName)) ∈ lw_g := lw_in (mT6 (List.mem_of_getElem? (i := 15) rfl)) rfl
theorem w6_150 : (Jvm.Cond.laysFinal "DotPressModel" "DotPressModel" "letterMany" "[I") ∈ lw_g := lw_in (mT6 (List.mem_of_getElem? (i := 150) rfl)) rfl
theorem w6_152 : (Jvm.Cond.laysFinal "DotPressModel" "DotPressModel" "cellMany" "[I") ∈ lw_g := lw_in (mT6 (List.mem_of_getElem? (i := 152) rfl)) rfl
theorem w6_154 : (Jvm.Cond.laysFinal "DotPressModel" "DotPressModel" "letters" "[I") ∈ lw_g := lw_in (mT6 (List.mem_of_getElem? (i := 154) rfl)) rfl
theorem w6_156 : (Jvm.Cond.laysFinal "DotPressModel" "DotPressModel" "cells" "[I") ∈ lw_g := lw_in (mT6 (List.mem_of_getElem? (i := 156) rfl)) rfl
theorem w6_158 : (Jvm.Cond.laysFinal "DotPressModel" "DotPressModel" "indicatorMany" "[I") ∈ lw_g := lw_in (mT6 (List.mem_of_getElem? (i := 158) rfl)) rfl
theorem w6_16 : (Jvm.Cond.methodLink "DotPress" (403 : Nat) ({ cls := "DotPress$Source", name := "spellNext", desc := "(I)Z" } : Jvm.MethodName)) ∈ lw_g := lw_in (mT6 (List.mem_of_getElem? (i := 16) rfl)) rfl
theorem w6_160 : (Jvm.Cond.laysFinal "DotPressModel" "DotPressModel" "indicatorCells" "[I") ∈ lw_g := lw_in (mT6 (List.mem_of_getElem? (i := 160) rfl)) rfl
theorem w6_162 : (Jvm.Cond.lays "DotPressModel" "DotPressModel" "steps" "[I") ∈ lw_g := lw_in (mT6 (List.mem_of_getElem? (i := 162) rfl)) rfl
theorem w6_164 : (Jvm.Cond.lays "DotPressModel" "DotPressModel" "stepMany" "I") ∈ lw_g := lw_in (mT6 (List.mem_of_getElem? (i := 164) rfl)) rfl
theorem w6_166 : (Jvm.Cond.laysFinal "DotPressModel" "DotPressModel" "word" "[I") ∈ lw_g := lw_in (mT6 (List.mem_of_getElem? (i := 166) rfl)) rfl
theorem w6_168 : (Jvm.Cond.laysFinal "DotPressModel" "DotPressModel" "wordPlace" "[I") ∈ lw_g := lw_in (mT6 (List.mem_of_getElem? (i := 168) rfl)) rfl
theorem w6_17 : (Jvm.Cond.instanceMethod ({ cls := "DotPress$Source", name := "spellNext", desc := "(I)Z" } : Jvm.MethodName)) ∈ lw_g := lw_in (mT6 (List.mem_of_getElem? (i := 17) rfl)) rfl
theorem w6_170 : (Jvm.Cond.laysFinal "DotPressModel" "DotPressModel" "mayBreak" "[Z") ∈ lw_g := lw_in (mT6 (List.mem_of_getElem? (i := 170) rfl)) rfl
theorem w6_172 : (Jvm.Cond.lays "DotPressModel" "DotPressModel" "wordLong" "I") ∈ lw_g := lw_in (mT6 (List.mem_of_getElem? (i := 172) rfl)) rfl
theorem w6_174 : (Jvm.Cond.laysFinal "DotPressModel" "DotPressModel" "made" "[I") ∈ lw_g := lw_in (mT6 (List.mem_of_getElem? (i := 174) rfl)) rfl
theorem w6_176 : (Jvm.Cond.lays "DotPressModel" "DotPressModel" "madeMany" "I") ∈ lw_g := lw_in (mT6 (List.mem_of_getElem? (i := 176) rfl)) rfl
theorem w6_178 : (Jvm.Cond.laysFinal "DotPressModel" "DotPressModel" "begins" "[I") ∈ lw_g := lw_in (mT6 (List.mem_of_getElem? (i := 178) rfl)) rfl
theorem w6_18 : (Jvm.Cond.selects "DotPress$Source" ({ cls := "DotPress$Source", name := "spellNext", desc := "(I)Z" } : Jvm.MethodName) ({ cls := "DotPress$Source", name := "spellNext", desc := "(I)Z" } : Jvm.MethodName)) ∈ lw_g := lw_in (mT6 (List.mem_of_getElem? (i := 18) rfl)) rfl
theorem w6_180 : (Jvm.Cond.laysFinal "DotPressModel" "DotPressModel" "finds" "[I") ∈ lw_g := lw_in (mT6 (List.mem_of_getElem? (i := 180) rfl)) rfl
theorem w6_182 : (Jvm.Cond.lays "DotPressModel" "DotPressModel" "unknown" "I") ∈ lw_g := lw_in (mT6 (List.mem_of_getElem? (i := 182) rfl)) rfl
theorem w6_184 : (Jvm.Cond.laysFinal "DotPressModel" "DotPressModel" "text" "[I") ∈ lw_g := lw_in (mT6 (List.mem_of_getElem? (i := 184) rfl)) rfl
theorem w6_186 : (Jvm.Cond.lays "DotPressModel" "DotPressModel" "textLong" "I") ∈ lw_g := lw_in (mT6 (List.mem_of_getElem? (i := 186) rfl)) rfl
theorem w6_188 : (Jvm.Cond.lays "DotPressModel" "DotPressModel" "width" "I") ∈ lw_g := lw_in (mT6 (List.mem_of_getElem? (i := 188) rfl)) rfl
theorem w6_19 : (Jvm.Cond.code ({ cls := "DotPress$Source", name := "spellNext", desc := "(I)Z" } : Jvm.MethodName) prog_10_method_10_code (3 : Nat) (Option.some Jvm.ClassFile.FieldType.boolean)) ∈ lw_g := lw_in (mT6 (List.mem_of_getElem? (i := 19) rfl)) rfl
theorem w6_190 : (Jvm.Cond.lays "DotPressModel" "DotPressModel" "height" "I") ∈ lw_g := lw_in (mT6 (List.mem_of_getElem? (i := 190) rfl)) rfl
theorem w6_192 : (Jvm.Cond.lays "DotPressModel" "DotPressModel" "hyphen" "I") ∈ lw_g := lw_in (mT6 (List.mem_of_getElem? (i := 192) rfl)) rfl
theorem w6_194 : (Jvm.Cond.laysFinal "DotPressModel" "DotPressModel" "long0" "[I") ∈ lw_g := lw_in (mT6 (List.mem_of_getElem? (i := 194) rfl)) rfl
theorem w6_196 : (Jvm.Cond.laysFinal "DotPressModel" "DotPressModel" "lineCells" "[I") ∈ lw_g := lw_in (mT6 (List.mem_of_getElem? (i := 196) rfl)) rfl
theorem w6_198 : (Jvm.Cond.lays "DotPressModel" "DotPressModel" "lines" "I") ∈ lw_g := lw_in (mT6 (List.mem_of_getElem? (i := 198) rfl)) rfl
theorem w6_20 : (Jvm.Cond.methodLink "DotPressLaw" (155 : Nat) ({ cls := "DotPress", name := "saved", desc := "(II)I" } : Jvm.MethodName)) ∈ lw_g := lw_in (mT6 (List.mem_of_getElem? (i := 20) rfl)) rfl
theorem w6_200 : (Jvm.Cond.laysFinal "DotPressModel" "DotPressModel" "newLong" "[I") ∈ lw_g := lw_in (mT6 (List.mem_of_getElem? (i := 200) rfl)) rfl
theorem w6_202 : (Jvm.Cond.laysFinal "DotPressModel" "DotPressModel" "newCells" "[I") ∈ lw_g := lw_in (mT6 (List.mem_of_getElem? (i := 202) rfl)) rfl
theorem w6_204 : (Jvm.Cond.lays "DotPressModel" "DotPressModel" "newMany" "I") ∈ lw_g := lw_in (mT6 (List.mem_of_getElem? (i := 204) rfl)) rfl
theorem w6_206 : (Jvm.Cond.laysFinal "DotPressModel" "DotPressModel" "head" "[I") ∈ lw_g := lw_in (mT6 (List.mem_of_getElem? (i := 206) rfl)) rfl
theorem w6_208 : (Jvm.Cond.lays "DotPressModel" "DotPressModel" "headMany" "I") ∈ lw_g := lw_in (mT6 (List.mem_of_getElem? (i := 208) rfl)) rfl
theorem w6_21 : (Jvm.Cond.instanceMethod ({ cls := "DotPress", name := "saved", desc := "(II)I" } : Jvm.MethodName)) ∈ lw_g := lw_in (mT6 (List.mem_of_getElem? (i := 21) rfl)) rfl
theorem w6_210 : (Jvm.Cond.lays "DotPressModel" "DotPressModel" "copied" "I") ∈ lw_g := lw_in (mT6 (List.mem_of_getElem? (i := 210) rfl)) rfl
theorem w6_212 : (Jvm.Cond.lays "DotPressModel" "DotPressModel" "closed" "I") ∈ lw_g := lw_in (mT6 (List.mem_of_getElem? (i := 212) rfl)) rfl
theorem w6_214 : (Jvm.Cond.laysFinal "DotPressModel" "DotPressModel" "rowIs" "[I") ∈ lw_g := lw_in (mT6 (List.mem_of_getElem? (i := 214) rfl)) rfl
theorem w6_216 : (Jvm.Cond.laysFinal "DotPressModel" "DotPressModel" "rowAt" "[I") ∈ lw_g := lw_in (mT6 (List.mem_of_getElem? (i := 216) rfl)) rfl
theorem w6_218 : (Jvm.Cond.laysFinal "DotPressModel" "DotPressModel" "rowLong" "[I") ∈ lw_g := lw_in (mT6 (List.mem_of_getElem? (i := 218) rfl)) rfl
theorem w6_22 : (Jvm.Cond.selects "DotPress" ({ cls := "DotPress", name := "saved", desc := "(II)I" } : Jvm.MethodName) ({ cls := "DotPress", name := "saved", desc := "(II)I" } : Jvm.MethodName)) ∈ lw_g := lw_in (mT6 (List.mem_of_getElem? (i := 22) rfl)) rfl
theorem w6_220 : (Jvm.Cond.laysFinal "DotPressModel" "DotPressModel" "rowMany" "[I") ∈ lw_g := lw_in (mT6 (List.mem_of_getElem? (i := 220) rfl)) rfl
theorem w6_222 : (Jvm.Cond.laysFinal "DotPressModel" "DotPressModel" "row" "[I") ∈ lw_g := lw_in (mT6 (List.mem_of_getElem? (i := 222) rfl)) rfl
theorem w6_224 : (Jvm.Cond.laysFinal "DotPressModel" "DotPressModel" "rowPlace" "[I") ∈ lw_g := lw_in (mT6 (List.mem_of_getElem? (i := 224) rfl)) rfl
theorem w6_226 : (Jvm.Cond.lays "DotPressModel" "DotPressModel" "rowEnd" "I") ∈ lw_g := lw_in (mT6 (List.mem_of_getElem? (i := 226) rfl)) rfl
theorem w6_228 : (Jvm.Cond.laysFinal "DotPressModel" "DotPressModel" "out" "[I") ∈ lw_g := lw_in (mT6 (List.mem_of_getElem? (i := 228) rfl)) rfl
theorem w6_23 : (Jvm.Cond.code ({ cls := "DotPress", name := "saved", desc := "(II)I" } : Jvm.MethodName) prog_1_method_48_code (10 : Nat) (Option.some Jvm.ClassFile.FieldType.int)) ∈ lw_g := lw_in (mT6 (List.mem_of_getElem? (i := 23) rfl)) rfl
theorem w6_230 : (Jvm.Cond.lays "DotPressModel" "DotPressModel" "outs" "I") ∈ lw_g := lw_in (mT6 (List.mem_of_getElem? (i := 230) rfl)) rfl
theorem w6_232 : (Jvm.Cond.lays "DotPressModel" "DotPressModel" "wrongAt" "I") ∈ lw_g := lw_in (mT6 (List.mem_of_getElem? (i := 232) rfl)) rfl
theorem w6_234 : (Jvm.Cond.laysFinal "DotPressModel" "DotPressModel" "was" "[I") ∈ lw_g := lw_in (mT6 (List.mem_of_getElem? (i := 234) rfl)) rfl
theorem w6_236 : (Jvm.Cond.lays "DotPressModel" "DotPressModel" "wasMany" "I") ∈ lw_g := lw_in (mT6 (List.mem_of_getElem? (i := 236) rfl)) rfl
theorem w6_238 : (Jvm.Cond.lays "DotPressModel" "DotPressModel" "failed" "I") ∈ lw_g := lw_in (mT6 (List.mem_of_getElem? (i := 238) rfl)) rfl
theorem w6_24 : (Jvm.Cond.methodLink "DotPressLaw" (159 : Nat) ({ cls := "DotPress", name := "place", desc := "()I" } : Jvm.MethodName)) ∈ lw_g := lw_in (mT6 (List.mem_of_getElem? (i := 24) rfl)) rfl
theorem w6_25 : (Jvm.Cond.instanceMethod ({ cls := "DotPress", name := "place", desc := "()I" } : Jvm.MethodName)) ∈ lw_g := lw_in (mT6 (List.mem_of_getElem? (i := 25) rfl)) rfl
theorem w6_26 : (Jvm.Cond.selects "DotPress" ({ cls := "DotPress", name := "place", desc := "()I" } : Jvm.MethodName) ({ cls := "DotPress", name := "place", desc := "()I" } : Jvm.MethodName)) ∈ lw_g := lw_in (mT6 (List.mem_of_getElem? (i := 26) rfl)) rfl
theorem w6_27 : (Jvm.Cond.code ({ cls := "DotPress", name := "place", desc := "()I" } : Jvm.MethodName) prog_1_method_49_code (1 : Nat) (Option.some Jvm.ClassFile.FieldType.int)) ∈ lw_g := lw_in (mT6 (List.mem_of_getElem? (i := 27) rfl)) rfl
theorem w6_28 : (Jvm.Cond.methodLink "DotPressLaw" (163 : Nat) ({ cls := "DotPress", name := "finds", desc := "(I)I" } : Jvm.MethodName)) ∈ lw_g := lw_in (mT6 (List.mem_of_getElem? (i := 28) rfl)) rfl
theorem w6_29 : (Jvm.Cond.instanceMethod ({ cls := "DotPress", name := "finds", desc := "(I)I" } : Jvm.MethodName)) ∈ lw_g := lw_in (mT6 (List.mem_of_getElem? (i := 29) rfl)) rfl
theorem w6_3 : (Jvm.Cond.instanceMethod ({ cls := "DotPress", name := "isReadBack", desc := "()Z" } : Jvm.MethodName)) ∈ lw_g := lw_in (mT6 (List.mem_of_getElem? (i := 3) rfl)) rfl
theorem w6_30 : (Jvm.Cond.selects "DotPress" ({ cls := "DotPress", name := "finds", desc := "(I)I" } : Jvm.MethodName) ({ cls := "DotPress", name := "finds", desc := "(I)I" } : Jvm.MethodName)) ∈ lw_g := lw_in (mT6 (List.mem_of_getElem? (i := 30) rfl)) rfl
theorem w6_31 : (Jvm.Cond.code ({ cls := "DotPress", name := "finds", desc := "(I)I" } : Jvm.MethodName) prog_1_method_50_code (2 : Nat) (Option.some Jvm.ClassFile.FieldType.int)) ∈ lw_g := lw_in (mT6 (List.mem_of_getElem? (i := 31) rfl)) rfl
theorem w6_32 : (Jvm.Cond.methodLink "DotPress" (413 : Nat) ({ cls := "DotPress$Setting", name := "findsOf", desc := "(I)I" } : Jvm.MethodName)) ∈ lw_g := lw_in (mT6 (List.mem_of_getElem? (i := 32) rfl)) rfl
theorem w6_33 : (Jvm.Cond.instanceMethod ({ cls := "DotPress$Setting", name := "findsOf", desc := "(I)I" } : Jvm.MethodName)) ∈ lw_g := lw_in (mT6 (List.mem_of_getElem? (i := 33) rfl)) rfl
theorem w6_34 : (Jvm.Cond.selects "DotPress$Setting" ({ cls := "DotPress$Setting", name := "findsOf", desc := "(I)I" } : Jvm.MethodName) ({ cls := "DotPress$Setting", name := "findsOf", desc := "(I)I" } : Jvm.MethodName)) ∈ lw_g := lw_in (mT6 (List.mem_of_getElem? (i := 34) rfl)) rfl
theorem w6_35 : (Jvm.Cond.code ({ cls := "DotPress$Setting", name := "findsOf", desc := "(I)I" } : Jvm.MethodName) prog_8_method_6_code (2 : Nat) (Option.some Jvm.ClassFile.FieldType.int)) ∈ lw_g := lw_in (mT6 (List.mem_of_getElem? (i := 35) rfl)) rfl
theorem w6_36 : (Jvm.Cond.methodLink "DotPressLaw" (167 : Nat) ({ cls := "DotPress", name := "status", desc := "()I" } : Jvm.MethodName)) ∈ lw_g := lw_in (mT6 (List.mem_of_getElem? (i := 36) rfl)) rfl
theorem w6_37 : (Jvm.Cond.instanceMethod ({ cls := "DotPress", name := "status", desc := "()I" } : Jvm.MethodName)) ∈ lw_g := lw_in (mT6 (List.mem_of_getElem? (i := 37) rfl)) rfl
theorem w6_38 : (Jvm.Cond.selects "DotPress" ({ cls := "DotPress", name := "status", desc := "()I" } : Jvm.MethodName) ({ cls := "DotPress", name := "status", desc := "()I" } : Jvm.MethodName)) ∈ lw_g := lw_in (mT6 (List.mem_of_getElem? (i := 38) rfl)) rfl
theorem w6_39 : (Jvm.Cond.code ({ cls := "DotPress", name := "status", desc := "()I" } : Jvm.MethodName) prog_1_method_51_code (1 : Nat) (Option.some Jvm.ClassFile.FieldType.int)) ∈ lw_g := lw_in (mT6 (List.mem_of_getElem? (i := 39) rfl)) rfl
theorem w6_4 : (Jvm.Cond.code ({ cls := "DotPress", name := "isReadBack", desc := "()Z" } : Jvm.MethodName) prog_1_method_47_code (2 : Nat) (Option.some Jvm.ClassFile.FieldType.boolean)) ∈ lw_g := lw_in (mT6 (List.mem_of_getElem? (i := 4) rfl)) rfl
theorem w6_40 : (Jvm.Cond.methodLink "DotPressLaw" (171 : Nat) ({ cls := "DotPress", name := "digest", desc := "()I" } : Jvm.MethodName)) ∈ lw_g := lw_in (mT6 (List.mem_of_getElem? (i := 40) rfl)) rfl
theorem w6_41 : (Jvm.Cond.instanceMethod ({ cls := "DotPress", name := "digest", desc := "()I" } : Jvm.MethodName)) ∈ lw_g := lw_in (mT6 (List.mem_of_getElem? (i := 41) rfl)) rfl
theorem w6_42 : (Jvm.Cond.selects "DotPress" ({ cls := "DotPress", name := "digest", desc := "()I" } : Jvm.MethodName) ({ cls := "DotPress", name := "digest", desc := "()I" } : Jvm.MethodName)) ∈ lw_g := lw_in (mT6 (List.mem_of_getElem? (i := 42) rfl)) rfl
theorem w6_43 : (Jvm.Cond.code ({ cls := "DotPress", name := "digest", desc := "()I" } : Jvm.MethodName) prog_1_method_52_code (3 : Nat) (Option.some Jvm.ClassFile.FieldType.int)) ∈ lw_g := lw_in (mT6 (List.mem_of_getElem? (i := 43) rfl)) rfl
theorem w6_44 : (Jvm.Cond.methodLink "DotPress" (416 : Nat) ({ cls := "DotPress$Sheet", name := "goOver", desc := "(I)I" } : Jvm.MethodName)) ∈ lw_g := lw_in (mT6 (List.mem_of_getElem? (i := 44) rfl)) rfl
theorem w6_45 : (Jvm.Cond.instanceMethod ({ cls := "DotPress$Sheet", name := "goOver", desc := "(I)I" } : Jvm.MethodName)) ∈ lw_g := lw_in (mT6 (List.mem_of_getElem? (i := 45) rfl)) rfl
theorem w6_46 : (Jvm.Cond.selects "DotPress$Sheet" ({ cls := "DotPress$Sheet", name := "goOver", desc := "(I)I" } : Jvm.MethodName) ({ cls := "DotPress$Sheet", name := "goOver", desc := "(I)I" } : Jvm.MethodName)) ∈ lw_g := lw_in (mT6 (List.mem_of_getElem? (i := 46) rfl)) rfl
theorem w6_47 : (Jvm.Cond.code ({ cls := "DotPress$Sheet", name := "goOver", desc := "(I)I" } : Jvm.MethodName) prog_9_method_10_code (6 : Nat) (Option.some Jvm.ClassFile.FieldType.int)) ∈ lw_g := lw_in (mT6 (List.mem_of_getElem? (i := 47) rfl)) rfl
theorem w6_48 : (Jvm.Cond.methodLink "DotPress$Sheet" (61 : Nat) ({ cls := "DotPress$Sheet", name := "present", desc := "(I)LDotPress$Line;" } : Jvm.MethodName)) ∈ lw_g := lw_in (mT6 (List.mem_of_getElem? (i := 48) rfl)) rfl
theorem w6_49 : (Jvm.Cond.classLink "DotPressLaw" (10 : Nat) "DotPressModel") ∈ lw_g := lw_in (mT6 (List.mem_of_getElem? (i := 49) rfl)) rfl
theorem w6_5 : (Jvm.Cond.methodLink "DotPress" (406 : Nat) ({ cls := "DotPress$Reader", name := "addCell", desc := "(II)V" } : Jvm.MethodName)) ∈ lw_g := lw_in (mT6 (List.mem_of_getElem? (i := 5) rfl)) rfl
theorem w6_50 : (Jvm.Cond.instantiable "DotPressModel" (67 : Nat)) ∈ lw_g := lw_in (mT6 (List.mem_of_getElem? (i := 50) rfl)) rfl
theorem w6_51 : (Jvm.Cond.methodLink "DotPressLaw" (12 : Nat) ({ cls := "DotPressModel", name := "<init>", desc := "()V" } : Jvm.MethodName)) ∈ lw_g := lw_in (mT6 (List.mem_of_getElem? (i := 51) rfl)) rfl
theorem w6_52 : (Jvm.Cond.instanceMethod ({ cls := "DotPressModel", name := "<init>", desc := "()V" } : Jvm.MethodName)) ∈ lw_g := lw_in (mT6 (List.mem_of_getElem? (i := 52) rfl)) rfl
theorem w6_53 : (Jvm.Cond.code ({ cls := "DotPressModel", name := "<init>", desc := "()V" } : Jvm.MethodName) prog_14_method_1_code (1 : Nat) (Option.none : Option Jvm.ClassFile.FieldType)) ∈ lw_g := lw_in (mT6 (List.mem_of_getElem? (i := 53) rfl)) rfl
theorem w6_54 : (Jvm.Cond.methodLink "DotPressModel" (3 : Nat) ({ cls := "java/lang/Object", name := "<init>", desc := "()V" } : Jvm.MethodName)) ∈ lw_g := lw_in (mT6 (List.mem_of_getElem? (i := 54) rfl)) rfl
theorem w6_55 : (Jvm.Cond.constant "DotPressModel" (45 : Nat) (48000 : Int32)) ∈ lw_g := lw_in (mT6 (List.mem_of_getElem? (i := 55) rfl)) rfl
theorem w6_56 : (Jvm.Cond.constant "DotPressModel" (94 : Nat) (40000 : Int32)) ∈ lw_g := lw_in (mT6 (List.mem_of_getElem? (i := 56) rfl)) rfl
theorem w6_57 : (Jvm.Cond.constant "DotPressModel" (119 : Nat) (40200 : Int32)) ∈ lw_g := lw_in (mT6 (List.mem_of_getElem? (i := 57) rfl)) rfl
theorem w6_58 : (Jvm.Cond.constant "DotPressModel" (135 : Nat) (40400 : Int32)) ∈ lw_g := lw_in (mT6 (List.mem_of_getElem? (i := 58) rfl)) rfl
theorem w6_59 : (Jvm.Cond.fieldLink "DotPressModel" (148 : Nat) "DotPressModel" "status" "I") ∈ lw_g := lw_in (mT6 (List.mem_of_getElem? (i := 59) rfl)) rfl
theorem w6_6 : (Jvm.Cond.methodLink "DotPress" (409 : Nat) ({ cls := "DotPress$Setting", name := "hasLetters", desc := "(LDotPress$Ints;)Z" } : Jvm.MethodName)) ∈ lw_g := lw_in (mT6 (List.mem_of_getElem? (i := 6) rfl)) rfl
theorem w6_60 : (Jvm.Cond.fieldLink "DotPressModel" (9 : Nat) "DotPressModel" "place" "I") ∈ lw_g := lw_in (mT6 (List.mem_of_getElem? (i := 60) rfl)) rfl
theorem w6_61 : (Jvm.Cond.fieldLink "DotPressModel" (13 : Nat) "DotPressModel" "tape" "[I") ∈ lw_g := lw_in (mT6 (List.mem_of_getElem? (i := 61) rfl)) rfl
theorem w6_62 : (Jvm.Cond.fieldLink "DotPressModel" (151 : Nat) "DotPressModel" "taped" "I") ∈ lw_g := lw_in (mT6 (List.mem_of_getElem? (i := 62) rfl)) rfl
theorem w6_63 : (Jvm.Cond.fieldLink "DotPressModel" (164 : Nat) "DotPressModel" "tables" "I") ∈ lw_g := lw_in (mT6 (List.mem_of_getElem? (i := 63) rfl)) rfl
theorem w6_64 : (Jvm.Cond.fieldLink "DotPressModel" (17 : Nat) "DotPressModel" "isThere" "[Z") ∈ lw_g := lw_in (mT6 (List.mem_of_getElem? (i := 64) rfl)) rfl
theorem w6_65 : (Jvm.Cond.fieldLink "DotPressModel" (21 : Nat) "DotPressModel" "kind" "[I") ∈ lw_g := lw_in (mT6 (List.mem_of_getElem? (i := 65) rfl)) rfl
theorem w6_66 : (Jvm.Cond.fieldLink "DotPressModel" (24 : Nat) "DotPressModel" "dots" "[I") ∈ lw_g := lw_in (mT6 (List.mem_of_getElem? (i := 66) rfl)) rfl
theorem w6_67 : (Jvm.Cond.fieldLink "DotPressModel" (27 : Nat) "DotPressModel" "base" "[I") ∈ lw_g := lw_in (mT6 (List.mem_of_getElem? (i := 67) rfl)) rfl
theorem w6_68 : (Jvm.Cond.fieldLink "DotPressModel" (30 : Nat) "DotPressModel" "second" "[I") ∈ lw_g := lw_in (mT6 (List.mem_of_getElem? (i := 68) rfl)) rfl
theorem w6_69 : (Jvm.Cond.fieldLink "DotPressModel" (33 : Nat) "DotPressModel" "ruleMany" "[I") ∈ lw_g := lw_in (mT6 (List.mem_of_getElem? (i := 69) rfl)) rfl
theorem w6_7 : (Jvm.Cond.instanceMethod ({ cls := "DotPress$Setting", name := "hasLetters", desc := "(LDotPress$Ints;)Z" } : Jvm.MethodName)) ∈ lw_g := lw_in (mT6 (List.mem_of_getElem? (i := 7) rfl)) rfl
theorem w6_70 : (Jvm.Cond.fieldLink "DotPressModel" (36 : Nat) "DotPressModel" "conditions" "[I") ∈ lw_g := lw_in (mT6 (List.mem_of_getElem? (i := 70) rfl)) rfl
theorem w6_71 : (Jvm.Cond.fieldLink "DotPressModel" (39 : Nat) "DotPressModel" "letterMany" "[I") ∈ lw_g := lw_in (mT6 (List.mem_of_getElem? (i := 71) rfl)) rfl
theorem w6_72 : (Jvm.Cond.fieldLink "DotPressModel" (42 : Nat) "DotPressModel" "cellMany" "[I") ∈ lw_g := lw_in (mT6 (List.mem_of_getElem? (i := 72) rfl)) rfl
theorem w6_73 : (Jvm.Cond.fieldLink "DotPressModel" (46 : Nat) "DotPressModel" "letters" "[I") ∈ lw_g := lw_in (mT6 (List.mem_of_getElem? (i := 73) rfl)) rfl
theorem w6_74 : (Jvm.Cond.fieldLink "DotPressModel" (49 : Nat) "DotPressModel" "cells" "[I") ∈ lw_g := lw_in (mT6 (List.mem_of_getElem? (i := 74) rfl)) rfl
theorem w6_75 : (Jvm.Cond.fieldLink "DotPressModel" (52 : Nat) "DotPressModel" "indicatorMany" "[I") ∈ lw_g := lw_in (mT6 (List.mem_of_getElem? (i := 75) rfl)) rfl
theorem w6_76 : (Jvm.Cond.fieldLink "DotPressModel" (55 : Nat) "DotPressModel" "indicatorCells" "[I") ∈ lw_g := lw_in (mT6 (List.mem_of_getElem? (i := 76) rfl)) rfl
theorem w6_77 : (Jvm.Cond.fieldLink "DotPressModel" (58 : Nat) "DotPressModel" "steps" "[I") ∈ lw_g := lw_in (mT6 (List.mem_of_getElem? (i := 77) rfl)) rfl
theorem w6_78 : (Jvm.Cond.fieldLink "DotPressModel" (161 : Nat) "DotPressModel" "stepMany" "I") ∈ lw_g := lw_in (mT6 (List.mem_of_getElem? (i := 78) rfl)) rfl
theorem w6_79 : (Jvm.Cond.fieldLink "DotPressModel" (61 : Nat) "DotPressModel" "word" "[I") ∈ lw_g := lw_in (mT6 (List.mem_of_getElem? (i := 79) rfl)) rfl
theorem w6_8 : (Jvm.Cond.selects "DotPress$Setting" ({ cls := "DotPress$Setting", name := "hasLetters", desc := "(LDotPress$Ints;)Z" } : Jvm.MethodName) ({ cls := "DotPress$Setting", name := "hasLetters", desc := "(LDotPress$Ints;)Z" } : Jvm.MethodName)) ∈ lw_g := lw_in (mT6 (List.mem_of_getElem? (i := 8) rfl)) rfl
theorem w6_80 : (Jvm.Cond.fieldLink "DotPressModel" (64 : Nat) "DotPressModel" "wordPlace" "[I") ∈ lw_g := lw_in (mT6 (List.mem_of_getElem? (i := 80) rfl)) rfl
theorem w6_81 : (Jvm.Cond.fieldLink "DotPressModel" (67 : Nat) "DotPressModel" "mayBreak" "[Z") ∈ lw_g := lw_in (mT6 (List.mem_of_getElem? (i := 81) rfl)) rfl
theorem w6_82 : (Jvm.Cond.fieldLink "DotPressModel" (234 : Nat) "DotPressModel" "wordLong" "I") ∈ lw_g := lw_in (mT6 (List.mem_of_getElem? (i := 82) rfl)) rfl
theorem w6_83 : (Jvm.Cond.fieldLink "DotPressModel" (70 : Nat) "DotPressModel" "made" "[I") ∈ lw_g := lw_in (mT6 (List.mem_of_getElem? (i := 83) rfl)) rfl
theorem w6_84 : (Jvm.Cond.fieldLink "DotPressModel" (224 : Nat) "DotPressModel" "madeMany" "I") ∈ lw_g := lw_in (mT6 (List.mem_of_getElem? (i := 84) rfl)) rfl
theorem w6_85 : (Jvm.Cond.fieldLink "DotPressModel" (73 : Nat) "DotPressModel" "begins" "[I") ∈ lw_g := lw_in (mT6 (List.mem_of_getElem? (i := 85) rfl)) rfl
theorem w6_86 : (Jvm.Cond.fieldLink "DotPressModel" (76 : Nat) "DotPressModel" "finds" "[I") ∈ lw_g := lw_in (mT6 (List.mem_of_getElem? (i := 86) rfl)) rfl
theorem w6_87 : (Jvm.Cond.fieldLink "DotPressModel" (231 : Nat) "DotPressModel" "unknown" "I") ∈ lw_g := lw_in (mT6 (List.mem_of_getElem? (i := 87) rfl)) rfl
theorem w6_88 : (Jvm.Cond.fieldLink "DotPressModel" (79 : Nat) "DotPressModel" "text" "[I") ∈ lw_g := lw_in (mT6 (List.mem_of_getElem? (i := 88) rfl)) rfl
theorem w6_89 : (Jvm.Cond.fieldLink "DotPressModel" (243 : Nat) "DotPressModel" "textLong" "I") ∈ lw_g := lw_in (mT6 (List.mem_of_getElem? (i := 89) rfl)) rfl
theorem w6_9 : (Jvm.Cond.code ({ cls := "DotPress$Setting", name := "hasLetters", desc := "(LDotPress$Ints;)Z" } : Jvm.MethodName) prog_8_method_7_code (3 : Nat) (Option.some Jvm.ClassFile.FieldType.boolean)) ∈ lw_g := lw_in (mT6 (List.mem_of_getElem? (i := 9) rfl)) rfl
theorem w6_90 : (Jvm.Cond.fieldLink "DotPressModel" (82 : Nat) "DotPressModel" "width" "I") ∈ lw_g := lw_in (mT6 (List.mem_of_getElem? (i := 90) rfl)) rfl
theorem w6_91 : (Jvm.Cond.fieldLink "DotPressModel" (85 : Nat) "DotPressModel" "height" "I") ∈ lw_g := lw_in (mT6 (List.mem_of_getElem? (i := 91) rfl)) rfl
theorem w6_92 : (Jvm.Cond.fieldLink "DotPressModel" (88 : Nat) "DotPressModel" "hyphen" "I") ∈ lw_g := lw_in (mT6 (List.mem_of_getElem? (i := 92) rfl)) rfl
theorem w6_93 : (Jvm.Cond.fieldLink "DotPressModel" (91 : Nat) "DotPressModel" "long0" "[I") ∈ lw_g := lw_in (mT6 (List.mem_of_getElem? (i := 93) rfl)) rfl
theorem w6_94 : (Jvm.Cond.fieldLink "DotPressModel" (95 : Nat) "DotPressModel" "lineCells" "[I") ∈ lw_g := lw_in (mT6 (List.mem_of_getElem? (i := 94) rfl)) rfl
theorem w6_95 : (Jvm.Cond.fieldLink "DotPressModel" (279 : Nat) "DotPressModel" "lines" "I") ∈ lw_g := lw_in (mT6 (List.mem_of_getElem? (i := 95) rfl)) rfl
theorem w6_96 : (Jvm.Cond.fieldLink "DotPressModel" (98 : Nat) "DotPressModel" "newLong" "[I") ∈ lw_g := lw_in (mT6 (List.mem_of_getElem? (i := 96) rfl)) rfl
theorem w6_97 : (Jvm.Cond.fieldLink "DotPressModel" (101 : Nat) "DotPressModel" "newCells" "[I") ∈ lw_g := lw_in (mT6 (List.mem_of_getElem? (i := 97) rfl)) rfl
theorem w6_98 : (Jvm.Cond.fieldLink "DotPressModel" (246 : Nat) "DotPressModel" "newMany" "I") ∈ lw_g := lw_in (mT6 (List.mem_of_getElem? (i := 98) rfl)) rfl
theorem w6_99 : (Jvm.Cond.fieldLink "DotPressModel" (104 : Nat) "DotPressModel" "head" "[I") ∈ lw_g := lw_in (mT6 (List.mem_of_getElem? (i := 99) rfl)) rfl
theorem w7_0 : (Jvm.Cond.laysFinal "DotPressModel" "DotPressModel" "can" "[Z") ∈ lw_g := lw_in (mT7 (List.mem_of_getElem? (i := 0) rfl)) rfl
theorem w7_10 : (Jvm.Cond.laysFinal "DotPressModel" "DotPressModel" "now" "[I") ∈ lw_g := lw_in (mT7 (List.mem_of_getElem? (i := 10) rfl)) rfl
theorem w7_100 : (Jvm.Cond.methodLink "DotPressLaw" (61 : Nat) ({ cls := "DotPressModel", name := "measure", desc := "(III)I" } : Jvm.MethodName)) ∈ lw_g := lw_in (mT7 (List.mem_of_getElem? (i := 100) rfl)) rfl
theorem w7_101 : (Jvm.Cond.instanceMethod ({ cls := "DotPressModel", name := "measure", desc := "(III)I" } : Jvm.MethodName)) ∈ lw_g := lw_in (mT7 (List.mem_of_getElem? (i := 101) rfl)) rfl
theorem w7_102 : (Jvm.Cond.selects "DotPressModel" ({ cls := "DotPressModel", name := "measure", desc := "(III)I" } : Jvm.MethodName) ({ cls := "DotPressModel", name := "measure", desc := "(III)I" } : Jvm.MethodName)) ∈ lw_g := lw_in (mT7 (List.mem_of_getElem? (i := 102) rfl)) rfl
theorem w7_103 : (Jvm.Cond.code ({ cls := "DotPressModel", name := "measure", desc := "(III)I" } : Jvm.MethodName) prog_14_method_35_code (4 : Nat) (Option.some Jvm.ClassFile.FieldType.int)) ∈ lw_g := lw_in (mT7 (List.mem_of_getElem? (i := 103) rfl)) rfl
theorem w7_104 : (Jvm.Cond.methodLink "DotPressLaw" (65 : Nat) ({ cls := "DotPressModel", name := "set", desc := "(I)I" } : Jvm.MethodName)) ∈ lw_g := lw_in (mT7 (List.mem_of_getElem? (i := 104) rfl)) rfl
theorem w7_105 : (Jvm.Cond.instanceMethod ({ cls := "DotPressModel", name := "set", desc := "(I)I" } : Jvm.MethodName)) ∈ lw_g := lw_in (mT7 (List.mem_of_getElem? (i := 105) rfl)) rfl
theorem w7_106 : (Jvm.Cond.selects "DotPressModel" ({ cls := "DotPressModel", name := "set", desc := "(I)I" } : Jvm.MethodName) ({ cls := "DotPressModel", name := "set", desc := "(I)I" } : Jvm.MethodName)) ∈ lw_g := lw_in (mT7 (List.mem_of_getElem? (i := 106) rfl)) rfl
theorem w7_107 : (Jvm.Cond.code ({ cls := "DotPressModel", name := "set", desc := "(I)I" } : Jvm.MethodName) prog_14_method_43_code (7 : Nat) (Option.some Jvm.ClassFile.FieldType.int)) ∈ lw_g := lw_in (mT7 (List.mem_of_getElem? (i := 107) rfl)) rfl
theorem w7_108 : (Jvm.Cond.methodLink "DotPressModel" (171 : Nat) ({ cls := "DotPressModel", name := "isWhole", desc := "(I)Z" } : Jvm.MethodName)) ∈ lw_g := lw_in (mT7 (List.mem_of_getElem? (i := 108) rfl)) rfl
theorem w7_110 : (Jvm.Cond.instanceMethod ({ cls := "DotPressModel", name := "isWhole", desc := "(I)Z" } : Jvm.MethodName)) ∈ lw_g := lw_in (mT7 (List.mem_of_getElem? (i := 110) rfl)) rfl
theorem w7_111 : (Jvm.Cond.code ({ cls := "DotPressModel", name := "isWhole", desc := "(I)Z" } : Jvm.MethodName) prog_14_method_10_code (2 : Nat) (Option.some Jvm.ClassFile.FieldType.boolean)) ∈ lw_g := lw_in (mT7 (List.mem_of_getElem? (i := 111) rfl)) rfl
theorem w7_112 : (Jvm.Cond.methodLink "DotPressModel" (261 : Nat) ({ cls := "DotPressModel", name := "lineEnd", desc := "(I)I" } : Jvm.MethodName)) ∈ lw_g := lw_in (mT7 (List.mem_of_getElem? (i := 112) rfl)) rfl
theorem w7_114 : (Jvm.Cond.instanceMethod ({ cls := "DotPressModel", name := "lineEnd", desc := "(I)I" } : Jvm.MethodName)) ∈ lw_g := lw_in (mT7 (List.mem_of_getElem? (i := 114) rfl)) rfl
theorem w7_115 : (Jvm.Cond.code ({ cls := "DotPressModel", name := "lineEnd", desc := "(I)I" } : Jvm.MethodName) prog_14_method_37_code (3 : Nat) (Option.some Jvm.ClassFile.FieldType.int)) ∈ lw_g := lw_in (mT7 (List.mem_of_getElem? (i := 115) rfl)) rfl
theorem w7_116 : (Jvm.Cond.methodLink "DotPressModel" (257 : Nat) ({ cls := "DotPressModel", name := "newLine", desc := "()Z" } : Jvm.MethodName)) ∈ lw_g := lw_in (mT7 (List.mem_of_getElem? (i := 116) rfl)) rfl
theorem w7_118 : (Jvm.Cond.instanceMethod ({ cls := "DotPressModel", name := "newLine", desc := "()Z" } : Jvm.MethodName)) ∈ lw_g := lw_in (mT7 (List.mem_of_getElem? (i := 118) rfl)) rfl
theorem w7_119 : (Jvm.Cond.code ({ cls := "DotPressModel", name := "newLine", desc := "()Z" } : Jvm.MethodName) prog_14_method_38_code (1 : Nat) (Option.some Jvm.ClassFile.FieldType.boolean)) ∈ lw_g := lw_in (mT7 (List.mem_of_getElem? (i := 119) rfl)) rfl
theorem w7_12 : (Jvm.Cond.lays "DotPressModel" "DotPressModel" "nowLong" "I") ∈ lw_g := lw_in (mT7 (List.mem_of_getElem? (i := 12) rfl)) rfl
theorem w7_120 : (Jvm.Cond.methodLink "DotPressModel" (264 : Nat) ({ cls := "DotPressModel", name := "takeWord", desc := "(II)I" } : Jvm.MethodName)) ∈ lw_g := lw_in (mT7 (List.mem_of_getElem? (i := 120) rfl)) rfl
theorem w7_122 : (Jvm.Cond.instanceMethod ({ cls := "DotPressModel", name := "takeWord", desc := "(II)I" } : Jvm.MethodName)) ∈ lw_g := lw_in (mT7 (List.mem_of_getElem? (i := 122) rfl)) rfl
theorem w7_123 : (Jvm.Cond.code ({ cls := "DotPressModel", name := "takeWord", desc := "(II)I" } : Jvm.MethodName) prog_14_method_36_code (4 : Nat) (Option.some Jvm.ClassFile.FieldType.int)) ∈ lw_g := lw_in (mT7 (List.mem_of_getElem? (i := 123) rfl)) rfl
theorem w7_124 : (Jvm.Cond.methodLink "DotPressModel" (267 : Nat) ({ cls := "DotPressModel", name := "setWord", desc := "(I)Z" } : Jvm.MethodName)) ∈ lw_g := lw_in (mT7 (List.mem_of_getElem? (i := 124) rfl)) rfl
theorem w7_126 : (Jvm.Cond.instanceMethod ({ cls := "DotPressModel", name := "setWord", desc := "(I)Z" } : Jvm.MethodName)) ∈ lw_g := lw_in (mT7 (List.mem_of_getElem? (i := 126) rfl)) rfl
theorem w7_127 : (Jvm.Cond.code ({ cls := "DotPressModel", name := "setWord", desc := "(I)Z" } : Jvm.MethodName) prog_14_method_32_code (7 : Nat) (Option.some Jvm.ClassFile.FieldType.boolean)) ∈ lw_g := lw_in (mT7 (List.mem_of_getElem? (i := 127) rfl)) rfl
theorem w7_128 : (Jvm.Cond.methodLink "DotPressModel" (237 : Nat) ({ cls := "DotPressModel", name := "setPart", desc := "(III)Z" } : Jvm.MethodName)) ∈ lw_g := lw_in (mT7 (List.mem_of_getElem? (i := 128) rfl)) rfl
theorem w7_130 : (Jvm.Cond.instanceMethod ({ cls := "DotPressModel", name := "setPart", desc := "(III)Z" } : Jvm.MethodName)) ∈ lw_g := lw_in (mT7 (List.mem_of_getElem? (i := 130) rfl)) rfl
theorem w7_131 : (Jvm.Cond.code ({ cls := "DotPressModel", name := "setPart", desc := "(III)Z" } : Jvm.MethodName) prog_14_method_31_code (8 : Nat) (Option.some Jvm.ClassFile.FieldType.boolean)) ∈ lw_g := lw_in (mT7 (List.mem_of_getElem? (i := 131) rfl)) rfl
theorem w7_132 : (Jvm.Cond.methodLink "DotPressModel" (202 : Nat) ({ cls := "DotPressModel", name := "isDigit", desc := "(I)Z" } : Jvm.MethodName)) ∈ lw_g := lw_in (mT7 (List.mem_of_getElem? (i := 132) rfl)) rfl
theorem w7_133 : (Jvm.Cond.static ({ cls := "DotPressModel", name := "isDigit", desc := "(I)Z" } : Jvm.MethodName)) ∈ lw_g := lw_in (mT7 (List.mem_of_getElem? (i := 133) rfl)) rfl
theorem w7_134 : (Jvm.Cond.code ({ cls := "DotPressModel", name := "isDigit", desc := "(I)Z" } : Jvm.MethodName) prog_14_method_23_code (1 : Nat) (Option.some Jvm.ClassFile.FieldType.boolean)) ∈ lw_g := lw_in (mT7 (List.mem_of_getElem? (i := 134) rfl)) rfl
theorem w7_135 : (Jvm.Cond.methodLink "DotPressModel" (227 : Nat) ({ cls := "DotPressModel", name := "putIndicator", desc := "(II)V" } : Jvm.MethodName)) ∈ lw_g := lw_in (mT7 (List.mem_of_getElem? (i := 135) rfl)) rfl
theorem w7_137 : (Jvm.Cond.instanceMethod ({ cls := "DotPressModel", name := "putIndicator", desc := "(II)V" } : Jvm.MethodName)) ∈ lw_g := lw_in (mT7 (List.mem_of_getElem? (i := 137) rfl)) rfl
theorem w7_138 : (Jvm.Cond.code ({ cls := "DotPressModel", name := "putIndicator", desc := "(II)V" } : Jvm.MethodName) prog_14_method_30_code (5 : Nat) (Option.none : Option Jvm.ClassFile.FieldType)) ∈ lw_g := lw_in (mT7 (List.mem_of_getElem? (i := 138) rfl)) rfl
theorem w7_139 : (Jvm.Cond.methodLink "DotPressModel" (218 : Nat) ({ cls := "DotPressModel", name := "find", desc := "(IIII)I" } : Jvm.MethodName)) ∈ lw_g := lw_in (mT7 (List.mem_of_getElem? (i := 139) rfl)) rfl
theorem w7_14 : (Jvm.Cond.lays "DotPressModel" "DotPressModel" "wanted" "I") ∈ lw_g := lw_in (mT7 (List.mem_of_getElem? (i := 14) rfl)) rfl
theorem w7_141 : (Jvm.Cond.instanceMethod ({ cls := "DotPressModel", name := "find", desc := "(IIII)I" } : Jvm.MethodName)) ∈ lw_g := lw_in (mT7 (List.mem_of_getElem? (i := 141) rfl)) rfl
theorem w7_142 : (Jvm.Cond.code ({ cls := "DotPressModel", name := "find", desc := "(IIII)I" } : Jvm.MethodName) prog_14_method_28_code (7 : Nat) (Option.some Jvm.ClassFile.FieldType.int)) ∈ lw_g := lw_in (mT7 (List.mem_of_getElem? (i := 142) rfl)) rfl
theorem w7_143 : (Jvm.Cond.methodLink "DotPressModel" (215 : Nat) ({ cls := "DotPressModel", name := "contracted", desc := "(IIII)I" } : Jvm.MethodName)) ∈ lw_g := lw_in (mT7 (List.mem_of_getElem? (i := 143) rfl)) rfl
theorem w7_145 : (Jvm.Cond.instanceMethod ({ cls := "DotPressModel", name := "contracted", desc := "(IIII)I" } : Jvm.MethodName)) ∈ lw_g := lw_in (mT7 (List.mem_of_getElem? (i := 145) rfl)) rfl
theorem w7_146 : (Jvm.Cond.code ({ cls := "DotPressModel", name := "contracted", desc := "(IIII)I" } : Jvm.MethodName) prog_14_method_29_code (7 : Nat) (Option.some Jvm.ClassFile.FieldType.int)) ∈ lw_g := lw_in (mT7 (List.mem_of_getElem? (i := 146) rfl)) rfl
theorem w7_147 : (Jvm.Cond.methodLink "DotPressModel" (221 : Nat) ({ cls := "DotPressModel", name := "own", desc := "(IIII)I" } : Jvm.MethodName)) ∈ lw_g := lw_in (mT7 (List.mem_of_getElem? (i := 147) rfl)) rfl
theorem w7_149 : (Jvm.Cond.instanceMethod ({ cls := "DotPressModel", name := "own", desc := "(IIII)I" } : Jvm.MethodName)) ∈ lw_g := lw_in (mT7 (List.mem_of_getElem? (i := 149) rfl)) rfl
theorem w7_150 : (Jvm.Cond.code ({ cls := "DotPressModel", name := "own", desc := "(IIII)I" } : Jvm.MethodName) prog_14_method_27_code (7 : Nat) (Option.some Jvm.ClassFile.FieldType.int)) ∈ lw_g := lw_in (mT7 (List.mem_of_getElem? (i := 150) rfl)) rfl
theorem w7_151 : (Jvm.Cond.methodLink "DotPressModel" (211 : Nat) ({ cls := "DotPressModel", name := "fits", desc := "(IIII)Z" } : Jvm.MethodName)) ∈ lw_g := lw_in (mT7 (List.mem_of_getElem? (i := 151) rfl)) rfl
theorem w7_153 : (Jvm.Cond.instanceMethod ({ cls := "DotPressModel", name := "fits", desc := "(IIII)Z" } : Jvm.MethodName)) ∈ lw_g := lw_in (mT7 (List.mem_of_getElem? (i := 153) rfl)) rfl
theorem w7_154 : (Jvm.Cond.code ({ cls := "DotPressModel", name := "fits", desc := "(IIII)Z" } : Jvm.MethodName) prog_14_method_26_code (9 : Nat) (Option.some Jvm.ClassFile.FieldType.boolean)) ∈ lw_g := lw_in (mT7 (List.mem_of_getElem? (i := 154) rfl)) rfl
theorem w7_155 : (Jvm.Cond.methodLink "DotPressModel" (205 : Nat) ({ cls := "DotPressModel", name := "isGreat", desc := "(I)Z" } : Jvm.MethodName)) ∈ lw_g := lw_in (mT7 (List.mem_of_getElem? (i := 155) rfl)) rfl
theorem w7_156 : (Jvm.Cond.static ({ cls := "DotPressModel", name := "isGreat", desc := "(I)Z" } : Jvm.MethodName)) ∈ lw_g := lw_in (mT7 (List.mem_of_getElem? (i := 156) rfl)) rfl
theorem w7_157 : (Jvm.Cond.code ({ cls := "DotPressModel", name := "isGreat", desc := "(I)Z" } : Jvm.MethodName) prog_14_method_24_code (1 : Nat) (Option.some Jvm.ClassFile.FieldType.boolean)) ∈ lw_g := lw_in (mT7 (List.mem_of_getElem? (i := 157) rfl)) rfl
theorem w7_158 : (Jvm.Cond.methodLink "DotPressModel" (208 : Nat) ({ cls := "DotPressModel", name := "isSmall", desc := "(I)Z" } : Jvm.MethodName)) ∈ lw_g := lw_in (mT7 (List.mem_of_getElem? (i := 158) rfl)) rfl
theorem w7_159 : (Jvm.Cond.static ({ cls := "DotPressModel", name := "isSmall", desc := "(I)Z" } : Jvm.MethodName)) ∈ lw_g := lw_in (mT7 (List.mem_of_getElem? (i := 159) rfl)) rfl
theorem w7_16 : (Jvm.Cond.laysFinal "DotPressModel" "DotPressModel" "signs" "[I") ∈ lw_g := lw_in (mT7 (List.mem_of_getElem? (i := 16) rfl)) rfl
theorem w7_160 : (Jvm.Cond.code ({ cls := "DotPressModel", name := "isSmall", desc := "(I)Z" } : Jvm.MethodName) prog_14_method_25_code (1 : Nat) (Option.some Jvm.ClassFile.FieldType.boolean)) ∈ lw_g := lw_in (mT7 (List.mem_of_getElem? (i := 160) rfl)) rfl
theorem w7_161 : (Jvm.Cond.methodLink "DotPressModel" (270 : Nat) ({ cls := "DotPressModel", name := "notSet", desc := "()I" } : Jvm.MethodName)) ∈ lw_g := lw_in (mT7 (List.mem_of_getElem? (i := 161) rfl)) rfl
theorem w7_163 : (Jvm.Cond.instanceMethod ({ cls := "DotPressModel", name := "notSet", desc := "()I" } : Jvm.MethodName)) ∈ lw_g := lw_in (mT7 (List.mem_of_getElem? (i := 163) rfl)) rfl
theorem w7_164 : (Jvm.Cond.code ({ cls := "DotPressModel", name := "notSet", desc := "()I" } : Jvm.MethodName) prog_14_method_33_code (1 : Nat) (Option.some Jvm.ClassFile.FieldType.int)) ∈ lw_g := lw_in (mT7 (List.mem_of_getElem? (i := 164) rfl)) rfl
theorem w7_165 : (Jvm.Cond.methodLink "DotPressModel" (240 : Nat) ({ cls := "DotPressModel", name := "badAt", desc := "(II)I" } : Jvm.MethodName)) ∈ lw_g := lw_in (mT7 (List.mem_of_getElem? (i := 165) rfl)) rfl
theorem w7_167 : (Jvm.Cond.instanceMethod ({ cls := "DotPressModel", name := "badAt", desc := "(II)I" } : Jvm.MethodName)) ∈ lw_g := lw_in (mT7 (List.mem_of_getElem? (i := 167) rfl)) rfl
theorem w7_168 : (Jvm.Cond.code ({ cls := "DotPressModel", name := "badAt", desc := "(II)I" } : Jvm.MethodName) prog_14_method_4_code (3 : Nat) (Option.some Jvm.ClassFile.FieldType.int)) ∈ lw_g := lw_in (mT7 (List.mem_of_getElem? (i := 168) rfl)) rfl
theorem w7_169 : (Jvm.Cond.methodLink "DotPressModel" (273 : Nat) ({ cls := "DotPressModel", name := "flow", desc := "(I)Z" } : Jvm.MethodName)) ∈ lw_g := lw_in (mT7 (List.mem_of_getElem? (i := 169) rfl)) rfl
theorem w7_171 : (Jvm.Cond.instanceMethod ({ cls := "DotPressModel", name := "flow", desc := "(I)Z" } : Jvm.MethodName)) ∈ lw_g := lw_in (mT7 (List.mem_of_getElem? (i := 171) rfl)) rfl
theorem w7_172 : (Jvm.Cond.code ({ cls := "DotPressModel", name := "flow", desc := "(I)Z" } : Jvm.MethodName) prog_14_method_41_code (7 : Nat) (Option.some Jvm.ClassFile.FieldType.boolean)) ∈ lw_g := lw_in (mT7 (List.mem_of_getElem? (i := 172) rfl)) rfl
theorem w7_173 : (Jvm.Cond.methodLink "DotPressModel" (249 : Nat) ({ cls := "DotPressModel", name := "breakOf", desc := "(III)I" } : Jvm.MethodName)) ∈ lw_g := lw_in (mT7 (List.mem_of_getElem? (i := 173) rfl)) rfl
theorem w7_175 : (Jvm.Cond.instanceMethod ({ cls := "DotPressModel", name := "breakOf", desc := "(III)I" } : Jvm.MethodName)) ∈ lw_g := lw_in (mT7 (List.mem_of_getElem? (i := 175) rfl)) rfl
theorem w7_176 : (Jvm.Cond.code ({ cls := "DotPressModel", name := "breakOf", desc := "(III)I" } : Jvm.MethodName) prog_14_method_40_code (7 : Nat) (Option.some Jvm.ClassFile.FieldType.int)) ∈ lw_g := lw_in (mT7 (List.mem_of_getElem? (i := 176) rfl)) rfl
theorem w7_177 : (Jvm.Cond.methodLink "DotPressModel" (253 : Nat) ({ cls := "DotPressModel", name := "putCell", desc := "(I)V" } : Jvm.MethodName)) ∈ lw_g := lw_in (mT7 (List.mem_of_getElem? (i := 177) rfl)) rfl
theorem w7_179 : (Jvm.Cond.instanceMethod ({ cls := "DotPressModel", name := "putCell", desc := "(I)V" } : Jvm.MethodName)) ∈ lw_g := lw_in (mT7 (List.mem_of_getElem? (i := 179) rfl)) rfl
theorem w7_18 : (Jvm.Cond.lays "DotPressModel" "DotPressModel" "signMany" "I") ∈ lw_g := lw_in (mT7 (List.mem_of_getElem? (i := 18) rfl)) rfl
theorem w7_180 : (Jvm.Cond.code ({ cls := "DotPressModel", name := "putCell", desc := "(I)V" } : Jvm.MethodName) prog_14_method_39_code (3 : Nat) (Option.none : Option Jvm.ClassFile.FieldType)) ∈ lw_g := lw_in (mT7 (List.mem_of_getElem? (i := 180) rfl)) rfl
theorem w7_181 : (Jvm.Cond.methodLink "DotPressModel" (276 : Nat) ({ cls := "DotPressModel", name := "centre", desc := "(I)V" } : Jvm.MethodName)) ∈ lw_g := lw_in (mT7 (List.mem_of_getElem? (i := 181) rfl)) rfl
theorem w7_183 : (Jvm.Cond.instanceMethod ({ cls := "DotPressModel", name := "centre", desc := "(I)V" } : Jvm.MethodName)) ∈ lw_g := lw_in (mT7 (List.mem_of_getElem? (i := 183) rfl)) rfl
theorem w7_184 : (Jvm.Cond.code ({ cls := "DotPressModel", name := "centre", desc := "(I)V" } : Jvm.MethodName) prog_14_method_42_code (5 : Nat) (Option.none : Option Jvm.ClassFile.FieldType)) ∈ lw_g := lw_in (mT7 (List.mem_of_getElem? (i := 184) rfl)) rfl
theorem w7_185 : (Jvm.Cond.methodLink "DotPressLaw" (69 : Nat) ({ cls := "DotPressModel", name := "head", desc := "(I)I" } : Jvm.MethodName)) ∈ lw_g := lw_in (mT7 (List.mem_of_getElem? (i := 185) rfl)) rfl
theorem w7_186 : (Jvm.Cond.instanceMethod ({ cls := "DotPressModel", name := "head", desc := "(I)I" } : Jvm.MethodName)) ∈ lw_g := lw_in (mT7 (List.mem_of_getElem? (i := 186) rfl)) rfl
theorem w7_187 : (Jvm.Cond.selects "DotPressModel" ({ cls := "DotPressModel", name := "head", desc := "(I)I" } : Jvm.MethodName) ({ cls := "DotPressModel", name := "head", desc := "(I)I" } : Jvm.MethodName)) ∈ lw_g := lw_in (mT7 (List.mem_of_getElem? (i := 187) rfl)) rfl
theorem w7_188 : (Jvm.Cond.code ({ cls := "DotPressModel", name := "head", desc := "(I)I" } : Jvm.MethodName) prog_14_method_44_code (5 : Nat) (Option.some Jvm.ClassFile.FieldType.int)) ∈ lw_g := lw_in (mT7 (List.mem_of_getElem? (i := 188) rfl)) rfl
theorem w7_189 : (Jvm.Cond.methodLink "DotPressModel" (282 : Nat) ({ cls := "java/lang/Math", name := "min", desc := "(II)I" } : Jvm.MethodName)) ∈ lw_g := lw_in (mT7 (List.mem_of_getElem? (i := 189) rfl)) rfl
theorem w7_190 : (Jvm.Cond.methodLink "DotPressLaw" (73 : Nat) ({ cls := "DotPressModel", name := "lines", desc := "()I" } : Jvm.MethodName)) ∈ lw_g := lw_in (mT7 (List.mem_of_getElem? (i := 190) rfl)) rfl
theorem w7_191 : (Jvm.Cond.instanceMethod ({ cls := "DotPressModel", name := "lines", desc := "()I" } : Jvm.MethodName)) ∈ lw_g := lw_in (mT7 (List.mem_of_getElem? (i := 191) rfl)) rfl
theorem w7_192 : (Jvm.Cond.selects "DotPressModel" ({ cls := "DotPressModel", name := "lines", desc := "()I" } : Jvm.MethodName) ({ cls := "DotPressModel", name := "lines", desc := "()I" } : Jvm.MethodName)) ∈ lw_g := lw_in (mT7 (List.mem_of_getElem? (i := 192) rfl)) rfl
theorem w7_193 : (Jvm.Cond.code ({ cls := "DotPressModel", name := "lines", desc := "()I" } : Jvm.MethodName) prog_14_method_45_code (1 : Nat) (Option.some Jvm.ClassFile.FieldType.int)) ∈ lw_g := lw_in (mT7 (List.mem_of_getElem? (i := 193) rfl)) rfl
theorem w7_194 : (Jvm.Cond.methodLink "DotPressLaw" (77 : Nat) ({ cls := "DotPressModel", name := "pages", desc := "()I" } : Jvm.MethodName)) ∈ lw_g := lw_in (mT7 (List.mem_of_getElem? (i := 194) rfl)) rfl
theorem w7_195 : (Jvm.Cond.instanceMethod ({ cls := "DotPressModel", name := "pages", desc := "()I" } : Jvm.MethodName)) ∈ lw_g := lw_in (mT7 (List.mem_of_getElem? (i := 195) rfl)) rfl
theorem w7_196 : (Jvm.Cond.selects "DotPressModel" ({ cls := "DotPressModel", name := "pages", desc := "()I" } : Jvm.MethodName) ({ cls := "DotPressModel", name := "pages", desc := "()I" } : Jvm.MethodName)) ∈ lw_g := lw_in (mT7 (List.mem_of_getElem? (i := 196) rfl)) rfl
theorem w7_197 : (Jvm.Cond.code ({ cls := "DotPressModel", name := "pages", desc := "()I" } : Jvm.MethodName) prog_14_method_48_code (1 : Nat) (Option.some Jvm.ClassFile.FieldType.int)) ∈ lw_g := lw_in (mT7 (List.mem_of_getElem? (i := 197) rfl)) rfl
theorem w7_198 : (Jvm.Cond.methodLink "DotPressModel" (291 : Nat) ({ cls := "DotPressModel", name := "onPage", desc := "()I" } : Jvm.MethodName)) ∈ lw_g := lw_in (mT7 (List.mem_of_getElem? (i := 198) rfl)) rfl
theorem w7_2 : (Jvm.Cond.laysFinal "DotPressModel" "DotPressModel" "kept" "[I") ∈ lw_g := lw_in (mT7 (List.mem_of_getElem? (i := 2) rfl)) rfl
theorem w7_200 : (Jvm.Cond.instanceMethod ({ cls := "DotPressModel", name := "onPage", desc := "()I" } : Jvm.MethodName)) ∈ lw_g := lw_in (mT7 (List.mem_of_getElem? (i := 200) rfl)) rfl
theorem w7_201 : (Jvm.Cond.code ({ cls := "DotPressModel", name := "onPage", desc := "()I" } : Jvm.MethodName) prog_14_method_47_code (1 : Nat) (Option.some Jvm.ClassFile.FieldType.int)) ∈ lw_g := lw_in (mT7 (List.mem_of_getElem? (i := 201) rfl)) rfl
theorem w7_202 : (Jvm.Cond.methodLink "DotPressModel" (288 : Nat) ({ cls := "DotPressModel", name := "hasHead", desc := "()Z" } : Jvm.MethodName)) ∈ lw_g := lw_in (mT7 (List.mem_of_getElem? (i := 202) rfl)) rfl
theorem w7_204 : (Jvm.Cond.instanceMethod ({ cls := "DotPressModel", name := "hasHead", desc := "()Z" } : Jvm.MethodName)) ∈ lw_g := lw_in (mT7 (List.mem_of_getElem? (i := 204) rfl)) rfl
theorem w7_205 : (Jvm.Cond.code ({ cls := "DotPressModel", name := "hasHead", desc := "()Z" } : Jvm.MethodName) prog_14_method_46_code (1 : Nat) (Option.some Jvm.ClassFile.FieldType.boolean)) ∈ lw_g := lw_in (mT7 (List.mem_of_getElem? (i := 205) rfl)) rfl
theorem w7_206 : (Jvm.Cond.methodLink "DotPressLaw" (81 : Nat) ({ cls := "DotPressModel", name := "length", desc := "(I)I" } : Jvm.MethodName)) ∈ lw_g := lw_in (mT7 (List.mem_of_getElem? (i := 206) rfl)) rfl
theorem w7_207 : (Jvm.Cond.instanceMethod ({ cls := "DotPressModel", name := "length", desc := "(I)I" } : Jvm.MethodName)) ∈ lw_g := lw_in (mT7 (List.mem_of_getElem? (i := 207) rfl)) rfl
theorem w7_208 : (Jvm.Cond.selects "DotPressModel" ({ cls := "DotPressModel", name := "length", desc := "(I)I" } : Jvm.MethodName) ({ cls := "DotPressModel", name := "length", desc := "(I)I" } : Jvm.MethodName)) ∈ lw_g := lw_in (mT7 (List.mem_of_getElem? (i := 208) rfl)) rfl
theorem w7_209 : (Jvm.Cond.code ({ cls := "DotPressModel", name := "length", desc := "(I)I" } : Jvm.MethodName) prog_14_method_50_code (2 : Nat) (Option.some Jvm.ClassFile.FieldType.int)) ∈ lw_g := lw_in (mT7 (List.mem_of_getElem? (i := 209) rfl)) rfl
theorem w7_21 : (Jvm.Cond.methodLink "DotPressLaw" (17 : Nat) ({ cls := "DotPressModel", name := "feed", desc := "(IIIII)I" } : Jvm.MethodName)) ∈ lw_g := lw_in (mT7 (List.mem_of_getElem? (i := 21) rfl)) rfl
theorem w7_210 : (Jvm.Cond.methodLink "DotPressModel" (294 : Nat) ({ cls := "DotPressModel", name := "lineFault", desc := "(I)I" } : Jvm.MethodName)) ∈ lw_g := lw_in (mT7 (List.mem_of_getElem? (i := 210) rfl)) rfl
theorem w7_212 : (Jvm.Cond.instanceMethod ({ cls := "DotPressModel", name := "lineFault", desc := "(I)I" } : Jvm.MethodName)) ∈ lw_g := lw_in (mT7 (List.mem_of_getElem? (i := 212) rfl)) rfl
theorem w7_213 : (Jvm.Cond.code ({ cls := "DotPressModel", name := "lineFault", desc := "(I)I" } : Jvm.MethodName) prog_14_method_49_code (2 : Nat) (Option.some Jvm.ClassFile.FieldType.int)) ∈ lw_g := lw_in (mT7 (List.mem_of_getElem? (i := 213) rfl)) rfl
theorem w7_214 : (Jvm.Cond.methodLink "DotPressLaw" (85 : Nat) ({ cls := "DotPressModel", name := "cell", desc := "(II)I" } : Jvm.MethodName)) ∈ lw_g := lw_in (mT7 (List.mem_of_getElem? (i := 214) rfl)) rfl
theorem w7_215 : (Jvm.Cond.instanceMethod ({ cls := "DotPressModel", name := "cell", desc := "(II)I" } : Jvm.MethodName)) ∈ lw_g := lw_in (mT7 (List.mem_of_getElem? (i := 215) rfl)) rfl
theorem w7_216 : (Jvm.Cond.selects "DotPressModel" ({ cls := "DotPressModel", name := "cell", desc := "(II)I" } : Jvm.MethodName) ({ cls := "DotPressModel", name := "cell", desc := "(II)I" } : Jvm.MethodName)) ∈ lw_g := lw_in (mT7 (List.mem_of_getElem? (i := 216) rfl)) rfl
theorem w7_217 : (Jvm.Cond.code ({ cls := "DotPressModel", name := "cell", desc := "(II)I" } : Jvm.MethodName) prog_14_method_51_code (3 : Nat) (Option.some Jvm.ClassFile.FieldType.int)) ∈ lw_g := lw_in (mT7 (List.mem_of_getElem? (i := 217) rfl)) rfl
theorem w7_218 : (Jvm.Cond.methodLink "DotPressLaw" (89 : Nat) ({ cls := "DotPressModel", name := "page", desc := "(III)I" } : Jvm.MethodName)) ∈ lw_g := lw_in (mT7 (List.mem_of_getElem? (i := 218) rfl)) rfl
theorem w7_219 : (Jvm.Cond.instanceMethod ({ cls := "DotPressModel", name := "page", desc := "(III)I" } : Jvm.MethodName)) ∈ lw_g := lw_in (mT7 (List.mem_of_getElem? (i := 219) rfl)) rfl
theorem w7_22 : (Jvm.Cond.instanceMethod ({ cls := "DotPressModel", name := "feed", desc := "(IIIII)I" } : Jvm.MethodName)) ∈ lw_g := lw_in (mT7 (List.mem_of_getElem? (i := 22) rfl)) rfl
theorem w7_220 : (Jvm.Cond.selects "DotPressModel" ({ cls := "DotPressModel", name := "page", desc := "(III)I" } : Jvm.MethodName) ({ cls := "DotPressModel", name := "page", desc := "(III)I" } : Jvm.MethodName)) ∈ lw_g := lw_in (mT7 (List.mem_of_getElem? (i := 220) rfl)) rfl
theorem w7_221 : (Jvm.Cond.code ({ cls := "DotPressModel", name := "page", desc := "(III)I" } : Jvm.MethodName) prog_14_method_52_code (5 : Nat) (Option.some Jvm.ClassFile.FieldType.int)) ∈ lw_g := lw_in (mT7 (List.mem_of_getElem? (i := 221) rfl)) rfl
theorem w7_222 : (Jvm.Cond.methodLink "DotPressModel" (297 : Nat) ({ cls := "DotPressModel", name := "pages", desc := "()I" } : Jvm.MethodName)) ∈ lw_g := lw_in (mT7 (List.mem_of_getElem? (i := 222) rfl)) rfl
theorem w7_223 : (Jvm.Cond.methodLink "DotPressModel" (300 : Nat) ({ cls := "DotPressModel", name := "cell", desc := "(II)I" } : Jvm.MethodName)) ∈ lw_g := lw_in (mT7 (List.mem_of_getElem? (i := 223) rfl)) rfl
theorem w7_224 : (Jvm.Cond.methodLink "DotPressLaw" (93 : Nat) ({ cls := "DotPressModel", name := "cut", desc := "(II)I" } : Jvm.MethodName)) ∈ lw_g := lw_in (mT7 (List.mem_of_getElem? (i := 224) rfl)) rfl
theorem w7_225 : (Jvm.Cond.instanceMethod ({ cls := "DotPressModel", name := "cut", desc := "(II)I" } : Jvm.MethodName)) ∈ lw_g := lw_in (mT7 (List.mem_of_getElem? (i := 225) rfl)) rfl
theorem w7_226 : (Jvm.Cond.selects "DotPressModel" ({ cls := "DotPressModel", name := "cut", desc := "(II)I" } : Jvm.MethodName) ({ cls := "DotPressModel", name := "cut", desc := "(II)I" } : Jvm.MethodName)) ∈ lw_g := lw_in (mT7 (List.mem_of_getElem? (i := 226) rfl)) rfl
theorem w7_227 : (Jvm.Cond.code ({ cls := "DotPressModel", name := "cut", desc := "(II)I" } : Jvm.MethodName) prog_14_method_53_code (4 : Nat) (Option.some Jvm.ClassFile.FieldType.int)) ∈ lw_g := lw_in (mT7 (List.mem_of_getElem? (i := 227) rfl)) rfl
theorem w7_228 : (Jvm.Cond.methodLink "DotPressLaw" (97 : Nat) ({ cls := "DotPressModel", name := "lose", desc := "(I)I" } : Jvm.MethodName)) ∈ lw_g := lw_in (mT7 (List.mem_of_getElem? (i := 228) rfl)) rfl
theorem w7_229 : (Jvm.Cond.instanceMethod ({ cls := "DotPressModel", name := "lose", desc := "(I)I" } : Jvm.MethodName)) ∈ lw_g := lw_in (mT7 (List.mem_of_getElem? (i := 229) rfl)) rfl
theorem w7_23 : (Jvm.Cond.selects "DotPressModel" ({ cls := "DotPressModel", name := "feed", desc := "(IIIII)I" } : Jvm.MethodName) ({ cls := "DotPressModel", name := "feed", desc := "(IIIII)I" } : Jvm.MethodName)) ∈ lw_g := lw_in (mT7 (List.mem_of_getElem? (i := 23) rfl)) rfl
theorem w7_230 : (Jvm.Cond.selects "DotPressModel" ({ cls := "DotPressModel", name := "lose", desc := "(I)I" } : Jvm.MethodName) ({ cls := "DotPressModel", name := "lose", desc := "(I)I" } : Jvm.MethodName)) ∈ lw_g := lw_in (mT7 (List.mem_of_getElem? (i := 230) rfl)) rfl
theorem w7_231 : (Jvm.Cond.code ({ cls := "DotPressModel", name := "lose", desc := "(I)I" } : Jvm.MethodName) prog_14_method_54_code (2 : Nat) (Option.some Jvm.ClassFile.FieldType.int)) ∈ lw_g := lw_in (mT7 (List.mem_of_getElem? (i := 231) rfl)) rfl
theorem w7_232 : (Jvm.Cond.methodLink "DotPressLaw" (101 : Nat) ({ cls := "DotPressModel", name := "copyRow", desc := "(IIIII)I" } : Jvm.MethodName)) ∈ lw_g := lw_in (mT7 (List.mem_of_getElem? (i := 232) rfl)) rfl
theorem w7_233 : (Jvm.Cond.instanceMethod ({ cls := "DotPressModel", name := "copyRow", desc := "(IIIII)I" } : Jvm.MethodName)) ∈ lw_g := lw_in (mT7 (List.mem_of_getElem? (i := 233) rfl)) rfl
theorem w7_234 : (Jvm.Cond.selects "DotPressModel" ({ cls := "DotPressModel", name := "copyRow", desc := "(IIIII)I" } : Jvm.MethodName) ({ cls := "DotPressModel", name := "copyRow", desc := "(IIIII)I" } : Jvm.MethodName)) ∈ lw_g := lw_in (mT7 (List.mem_of_getElem? (i := 234) rfl)) rfl
theorem w7_235 : (Jvm.Cond.code ({ cls := "DotPressModel", name := "copyRow", desc := "(IIIII)I" } : Jvm.MethodName) prog_14_method_55_code (11 : Nat) (Option.some Jvm.ClassFile.FieldType.int)) ∈ lw_g := lw_in (mT7 (List.mem_of_getElem? (i := 235) rfl)) rfl
theorem w7_236 : (Jvm.Cond.methodLink "DotPressLaw" (105 : Nat) ({ cls := "DotPressModel", name := "copyLines", desc := "(III)I" } : Jvm.MethodName)) ∈ lw_g := lw_in (mT7 (List.mem_of_getElem? (i := 236) rfl)) rfl
theorem w7_237 : (Jvm.Cond.instanceMethod ({ cls := "DotPressModel", name := "copyLines", desc := "(III)I" } : Jvm.MethodName)) ∈ lw_g := lw_in (mT7 (List.mem_of_getElem? (i := 237) rfl)) rfl
theorem w7_238 : (Jvm.Cond.selects "DotPressModel" ({ cls := "DotPressModel", name := "copyLines", desc := "(III)I" } : Jvm.MethodName) ({ cls := "DotPressModel", name := "copyLines", desc := "(III)I" } : Jvm.MethodName)) ∈ lw_g := lw_in (mT7 (List.mem_of_getElem? (i := 238) rfl)) rfl
theorem w7_239 : (Jvm.Cond.code ({ cls := "DotPressModel", name := "copyLines", desc := "(III)I" } : Jvm.MethodName) prog_14_method_56_code (10 : Nat) (Option.some Jvm.ClassFile.FieldType.int)) ∈ lw_g := lw_in (mT7 (List.mem_of_getElem? (i := 239) rfl)) rfl
theorem w7_24 : (Jvm.Cond.code ({ cls := "DotPressModel", name := "feed", desc := "(IIIII)I" } : Jvm.MethodName) prog_14_method_5_code (8 : Nat) (Option.some Jvm.ClassFile.FieldType.int)) ∈ lw_g := lw_in (mT7 (List.mem_of_getElem? (i := 24) rfl)) rfl
theorem w7_25 : (Jvm.Cond.methodLink "DotPressModel" (154 : Nat) ({ cls := "DotPressModel", name := "bad", desc := "(I)I" } : Jvm.MethodName)) ∈ lw_g := lw_in (mT7 (List.mem_of_getElem? (i := 25) rfl)) rfl
theorem w7_27 : (Jvm.Cond.instanceMethod ({ cls := "DotPressModel", name := "bad", desc := "(I)I" } : Jvm.MethodName)) ∈ lw_g := lw_in (mT7 (List.mem_of_getElem? (i := 27) rfl)) rfl
theorem w7_28 : (Jvm.Cond.code ({ cls := "DotPressModel", name := "bad", desc := "(I)I" } : Jvm.MethodName) prog_14_method_3_code (2 : Nat) (Option.some Jvm.ClassFile.FieldType.int)) ∈ lw_g := lw_in (mT7 (List.mem_of_getElem? (i := 28) rfl)) rfl
theorem w7_29 : (Jvm.Cond.methodLink "DotPressModel" (158 : Nat) ({ cls := "DotPressModel", name := "fine", desc := "(I)I" } : Jvm.MethodName)) ∈ lw_g := lw_in (mT7 (List.mem_of_getElem? (i := 29) rfl)) rfl
theorem w7_31 : (Jvm.Cond.instanceMethod ({ cls := "DotPressModel", name := "fine", desc := "(I)I" } : Jvm.MethodName)) ∈ lw_g := lw_in (mT7 (List.mem_of_getElem? (i := 31) rfl)) rfl
theorem w7_32 : (Jvm.Cond.code ({ cls := "DotPressModel", name := "fine", desc := "(I)I" } : Jvm.MethodName) prog_14_method_2_code (2 : Nat) (Option.some Jvm.ClassFile.FieldType.int)) ∈ lw_g := lw_in (mT7 (List.mem_of_getElem? (i := 32) rfl)) rfl
theorem w7_33 : (Jvm.Cond.methodLink "DotPressLaw" (22 : Nat) ({ cls := "DotPressModel", name := "end", desc := "(I)I" } : Jvm.MethodName)) ∈ lw_g := lw_in (mT7 (List.mem_of_getElem? (i := 33) rfl)) rfl
theorem w7_34 : (Jvm.Cond.instanceMethod ({ cls := "DotPressModel", name := "end", desc := "(I)I" } : Jvm.MethodName)) ∈ lw_g := lw_in (mT7 (List.mem_of_getElem? (i := 34) rfl)) rfl
theorem w7_35 : (Jvm.Cond.selects "DotPressModel" ({ cls := "DotPressModel", name := "end", desc := "(I)I" } : Jvm.MethodName) ({ cls := "DotPressModel", name := "end", desc := "(I)I" } : Jvm.MethodName)) ∈ lw_g := lw_in (mT7 (List.mem_of_getElem? (i := 35) rfl)) rfl
theorem w7_36 : (Jvm.Cond.code ({ cls := "DotPressModel", name := "end", desc := "(I)I" } : Jvm.MethodName) prog_14_method_6_code (2 : Nat) (Option.some Jvm.ClassFile.FieldType.int)) ∈ lw_g := lw_in (mT7 (List.mem_of_getElem? (i := 36) rfl)) rfl
theorem w7_37 : (Jvm.Cond.methodLink "DotPressLaw" (27 : Nat) ({ cls := "DotPressModel", name := "table", desc := "(III)I" } : Jvm.MethodName)) ∈ lw_g := lw_in (mT7 (List.mem_of_getElem? (i := 37) rfl)) rfl
theorem w7_38 : (Jvm.Cond.instanceMethod ({ cls := "DotPressModel", name := "table", desc := "(III)I" } : Jvm.MethodName)) ∈ lw_g := lw_in (mT7 (List.mem_of_getElem? (i := 38) rfl)) rfl
theorem w7_39 : (Jvm.Cond.selects "DotPressModel" ({ cls := "DotPressModel", name := "table", desc := "(III)I" } : Jvm.MethodName) ({ cls := "DotPressModel", name := "table", desc := "(III)I" } : Jvm.MethodName)) ∈ lw_g := lw_in (mT7 (List.mem_of_getElem? (i := 39) rfl)) rfl
theorem w7_4 : (Jvm.Cond.laysFinal "DotPressModel" "DotPressModel" "keptLong" "[I") ∈ lw_g := lw_in (mT7 (List.mem_of_getElem? (i := 4) rfl)) rfl
theorem w7_40 : (Jvm.Cond.code ({ cls := "DotPressModel", name := "table", desc := "(III)I" } : Jvm.MethodName) prog_14_method_12_code (5 : Nat) (Option.some Jvm.ClassFile.FieldType.int)) ∈ lw_g := lw_in (mT7 (List.mem_of_getElem? (i := 40) rfl)) rfl
theorem w7_41 : (Jvm.Cond.methodLink "DotPressModel" (174 : Nat) ({ cls := "DotPressModel", name := "isIn", desc := "(III)Z" } : Jvm.MethodName)) ∈ lw_g := lw_in (mT7 (List.mem_of_getElem? (i := 41) rfl)) rfl
theorem w7_42 : (Jvm.Cond.static ({ cls := "DotPressModel", name := "isIn", desc := "(III)Z" } : Jvm.MethodName)) ∈ lw_g := lw_in (mT7 (List.mem_of_getElem? (i := 42) rfl)) rfl
theorem w7_43 : (Jvm.Cond.code ({ cls := "DotPressModel", name := "isIn", desc := "(III)Z" } : Jvm.MethodName) prog_14_method_11_code (3 : Nat) (Option.some Jvm.ClassFile.FieldType.boolean)) ∈ lw_g := lw_in (mT7 (List.mem_of_getElem? (i := 43) rfl)) rfl
theorem w7_44 : (Jvm.Cond.methodLink "DotPressModel" (167 : Nat) ({ cls := "DotPressModel", name := "isTable", desc := "(I)Z" } : Jvm.MethodName)) ∈ lw_g := lw_in (mT7 (List.mem_of_getElem? (i := 44) rfl)) rfl
theorem w7_46 : (Jvm.Cond.instanceMethod ({ cls := "DotPressModel", name := "isTable", desc := "(I)Z" } : Jvm.MethodName)) ∈ lw_g := lw_in (mT7 (List.mem_of_getElem? (i := 46) rfl)) rfl
theorem w7_47 : (Jvm.Cond.code ({ cls := "DotPressModel", name := "isTable", desc := "(I)Z" } : Jvm.MethodName) prog_14_method_9_code (2 : Nat) (Option.some Jvm.ClassFile.FieldType.boolean)) ∈ lw_g := lw_in (mT7 (List.mem_of_getElem? (i := 47) rfl)) rfl
theorem w7_48 : (Jvm.Cond.methodLink "DotPressModel" (178 : Nat) ({ cls := "DotPressModel", name := "newTable", desc := "(IIII)I" } : Jvm.MethodName)) ∈ lw_g := lw_in (mT7 (List.mem_of_getElem? (i := 48) rfl)) rfl
theorem w7_50 : (Jvm.Cond.instanceMethod ({ cls := "DotPressModel", name := "newTable", desc := "(IIII)I" } : Jvm.MethodName)) ∈ lw_g := lw_in (mT7 (List.mem_of_getElem? (i := 50) rfl)) rfl
theorem w7_51 : (Jvm.Cond.code ({ cls := "DotPressModel", name := "newTable", desc := "(IIII)I" } : Jvm.MethodName) prog_14_method_13_code (7 : Nat) (Option.some Jvm.ClassFile.FieldType.int)) ∈ lw_g := lw_in (mT7 (List.mem_of_getElem? (i := 51) rfl)) rfl
theorem w7_52 : (Jvm.Cond.methodLink "DotPressModel" (182 : Nat) ({ cls := "DotPressModel", name := "step", desc := "(IIII)V" } : Jvm.MethodName)) ∈ lw_g := lw_in (mT7 (List.mem_of_getElem? (i := 52) rfl)) rfl
theorem w7_54 : (Jvm.Cond.instanceMethod ({ cls := "DotPressModel", name := "step", desc := "(IIII)V" } : Jvm.MethodName)) ∈ lw_g := lw_in (mT7 (List.mem_of_getElem? (i := 54) rfl)) rfl
theorem w7_55 : (Jvm.Cond.code ({ cls := "DotPressModel", name := "step", desc := "(IIII)V" } : Jvm.MethodName) prog_14_method_8_code (7 : Nat) (Option.none : Option Jvm.ClassFile.FieldType)) ∈ lw_g := lw_in (mT7 (List.mem_of_getElem? (i := 55) rfl)) rfl
theorem w7_56 : (Jvm.Cond.methodLink "DotPressLaw" (32 : Nat) ({ cls := "DotPressModel", name := "join", desc := "(II)I" } : Jvm.MethodName)) ∈ lw_g := lw_in (mT7 (List.mem_of_getElem? (i := 56) rfl)) rfl
theorem w7_57 : (Jvm.Cond.instanceMethod ({ cls := "DotPressModel", name := "join", desc := "(II)I" } : Jvm.MethodName)) ∈ lw_g := lw_in (mT7 (List.mem_of_getElem? (i := 57) rfl)) rfl
theorem w7_58 : (Jvm.Cond.selects "DotPressModel" ({ cls := "DotPressModel", name := "join", desc := "(II)I" } : Jvm.MethodName) ({ cls := "DotPressModel", name := "join", desc := "(II)I" } : Jvm.MethodName)) ∈ lw_g := lw_in (mT7 (List.mem_of_getElem? (i := 58) rfl)) rfl
theorem w7_59 : (Jvm.Cond.code ({ cls := "DotPressModel", name := "join", desc := "(II)I" } : Jvm.MethodName) prog_14_method_14_code (3 : Nat) (Option.some Jvm.ClassFile.FieldType.int)) ∈ lw_g := lw_in (mT7 (List.mem_of_getElem? (i := 59) rfl)) rfl
theorem w7_6 : (Jvm.Cond.lays "DotPressModel" "DotPressModel" "keptMany" "I") ∈ lw_g := lw_in (mT7 (List.mem_of_getElem? (i := 6) rfl)) rfl
theorem w7_60 : (Jvm.Cond.methodLink "DotPressModel" (186 : Nat) ({ cls := "java/lang/Math", name := "max", desc := "(II)I" } : Jvm.MethodName)) ∈ lw_g := lw_in (mT7 (List.mem_of_getElem? (i := 60) rfl)) rfl
theorem w7_61 : (Jvm.Cond.methodLink "DotPressLaw" (36 : Nat) ({ cls := "DotPressModel", name := "drop", desc := "(I)I" } : Jvm.MethodName)) ∈ lw_g := lw_in (mT7 (List.mem_of_getElem? (i := 61) rfl)) rfl
theorem w7_62 : (Jvm.Cond.instanceMethod ({ cls := "DotPressModel", name := "drop", desc := "(I)I" } : Jvm.MethodName)) ∈ lw_g := lw_in (mT7 (List.mem_of_getElem? (i := 62) rfl)) rfl
theorem w7_63 : (Jvm.Cond.selects "DotPressModel" ({ cls := "DotPressModel", name := "drop", desc := "(I)I" } : Jvm.MethodName) ({ cls := "DotPressModel", name := "drop", desc := "(I)I" } : Jvm.MethodName)) ∈ lw_g := lw_in (mT7 (List.mem_of_getElem? (i := 63) rfl)) rfl
theorem w7_64 : (Jvm.Cond.code ({ cls := "DotPressModel", name := "drop", desc := "(I)I" } : Jvm.MethodName) prog_14_method_15_code (2 : Nat) (Option.some Jvm.ClassFile.FieldType.int)) ∈ lw_g := lw_in (mT7 (List.mem_of_getElem? (i := 64) rfl)) rfl
theorem w7_65 : (Jvm.Cond.methodLink "DotPressLaw" (40 : Nat) ({ cls := "DotPressModel", name := "rule", desc := "(III)I" } : Jvm.MethodName)) ∈ lw_g := lw_in (mT7 (List.mem_of_getElem? (i := 65) rfl)) rfl
theorem w7_66 : (Jvm.Cond.instanceMethod ({ cls := "DotPressModel", name := "rule", desc := "(III)I" } : Jvm.MethodName)) ∈ lw_g := lw_in (mT7 (List.mem_of_getElem? (i := 66) rfl)) rfl
theorem w7_67 : (Jvm.Cond.selects "DotPressModel" ({ cls := "DotPressModel", name := "rule", desc := "(III)I" } : Jvm.MethodName) ({ cls := "DotPressModel", name := "rule", desc := "(III)I" } : Jvm.MethodName)) ∈ lw_g := lw_in (mT7 (List.mem_of_getElem? (i := 67) rfl)) rfl
theorem w7_68 : (Jvm.Cond.code ({ cls := "DotPressModel", name := "rule", desc := "(III)I" } : Jvm.MethodName) prog_14_method_18_code (8 : Nat) (Option.some Jvm.ClassFile.FieldType.int)) ∈ lw_g := lw_in (mT7 (List.mem_of_getElem? (i := 68) rfl)) rfl
theorem w7_69 : (Jvm.Cond.methodLink "DotPressModel" (192 : Nat) ({ cls := "DotPressModel", name := "taken", desc := "()I" } : Jvm.MethodName)) ∈ lw_g := lw_in (mT7 (List.mem_of_getElem? (i := 69) rfl)) rfl
theorem w7_71 : (Jvm.Cond.instanceMethod ({ cls := "DotPressModel", name := "taken", desc := "()I" } : Jvm.MethodName)) ∈ lw_g := lw_in (mT7 (List.mem_of_getElem? (i := 71) rfl)) rfl
theorem w7_72 : (Jvm.Cond.code ({ cls := "DotPressModel", name := "taken", desc := "()I" } : Jvm.MethodName) prog_14_method_7_code (2 : Nat) (Option.some Jvm.ClassFile.FieldType.int)) ∈ lw_g := lw_in (mT7 (List.mem_of_getElem? (i := 72) rfl)) rfl
theorem w7_73 : (Jvm.Cond.methodLink "DotPressModel" (196 : Nat) ({ cls := "DotPressModel", name := "areCells", desc := "(III)Z" } : Jvm.MethodName)) ∈ lw_g := lw_in (mT7 (List.mem_of_getElem? (i := 73) rfl)) rfl
theorem w7_75 : (Jvm.Cond.instanceMethod ({ cls := "DotPressModel", name := "areCells", desc := "(III)Z" } : Jvm.MethodName)) ∈ lw_g := lw_in (mT7 (List.mem_of_getElem? (i := 75) rfl)) rfl
theorem w7_76 : (Jvm.Cond.code ({ cls := "DotPressModel", name := "areCells", desc := "(III)Z" } : Jvm.MethodName) prog_14_method_17_code (6 : Nat) (Option.some Jvm.ClassFile.FieldType.boolean)) ∈ lw_g := lw_in (mT7 (List.mem_of_getElem? (i := 76) rfl)) rfl
theorem w7_77 : (Jvm.Cond.methodLink "DotPressModel" (199 : Nat) ({ cls := "DotPressModel", name := "isLetter", desc := "(I)Z" } : Jvm.MethodName)) ∈ lw_g := lw_in (mT7 (List.mem_of_getElem? (i := 77) rfl)) rfl
theorem w7_78 : (Jvm.Cond.static ({ cls := "DotPressModel", name := "isLetter", desc := "(I)Z" } : Jvm.MethodName)) ∈ lw_g := lw_in (mT7 (List.mem_of_getElem? (i := 78) rfl)) rfl
theorem w7_79 : (Jvm.Cond.code ({ cls := "DotPressModel", name := "isLetter", desc := "(I)Z" } : Jvm.MethodName) prog_14_method_16_code (1 : Nat) (Option.some Jvm.ClassFile.FieldType.boolean)) ∈ lw_g := lw_in (mT7 (List.mem_of_getElem? (i := 79) rfl)) rfl
theorem w7_8 : (Jvm.Cond.lays "DotPressModel" "DotPressModel" "more" "I") ∈ lw_g := lw_in (mT7 (List.mem_of_getElem? (i := 8) rfl)) rfl
theorem w7_80 : (Jvm.Cond.methodLink "DotPressLaw" (44 : Nat) ({ cls := "DotPressModel", name := "condition", desc := "(III)I" } : Jvm.MethodName)) ∈ lw_g := lw_in (mT7 (List.mem_of_getElem? (i := 80) rfl)) rfl
theorem w7_81 : (Jvm.Cond.instanceMethod ({ cls := "DotPressModel", name := "condition", desc := "(III)I" } : Jvm.MethodName)) ∈ lw_g := lw_in (mT7 (List.mem_of_getElem? (i := 81) rfl)) rfl
theorem w7_82 : (Jvm.Cond.selects "DotPressModel" ({ cls := "DotPressModel", name := "condition", desc := "(III)I" } : Jvm.MethodName) ({ cls := "DotPressModel", name := "condition", desc := "(III)I" } : Jvm.MethodName)) ∈ lw_g := lw_in (mT7 (List.mem_of_getElem? (i := 82) rfl)) rfl
theorem w7_83 : (Jvm.Cond.code ({ cls := "DotPressModel", name := "condition", desc := "(III)I" } : Jvm.MethodName) prog_14_method_19_code (5 : Nat) (Option.some Jvm.ClassFile.FieldType.int)) ∈ lw_g := lw_in (mT7 (List.mem_of_getElem? (i := 83) rfl)) rfl
theorem w7_84 : (Jvm.Cond.methodLink "DotPressLaw" (48 : Nat) ({ cls := "DotPressModel", name := "indicator", desc := "(II)I" } : Jvm.MethodName)) ∈ lw_g := lw_in (mT7 (List.mem_of_getElem? (i := 84) rfl)) rfl
theorem w7_85 : (Jvm.Cond.instanceMethod ({ cls := "DotPressModel", name := "indicator", desc := "(II)I" } : Jvm.MethodName)) ∈ lw_g := lw_in (mT7 (List.mem_of_getElem? (i := 85) rfl)) rfl
theorem w7_86 : (Jvm.Cond.selects "DotPressModel" ({ cls := "DotPressModel", name := "indicator", desc := "(II)I" } : Jvm.MethodName) ({ cls := "DotPressModel", name := "indicator", desc := "(II)I" } : Jvm.MethodName)) ∈ lw_g := lw_in (mT7 (List.mem_of_getElem? (i := 86) rfl)) rfl
theorem w7_87 : (Jvm.Cond.code ({ cls := "DotPressModel", name := "indicator", desc := "(II)I" } : Jvm.MethodName) prog_14_method_20_code (8 : Nat) (Option.some Jvm.ClassFile.FieldType.int)) ∈ lw_g := lw_in (mT7 (List.mem_of_getElem? (i := 87) rfl)) rfl
theorem w7_88 : (Jvm.Cond.methodLink "DotPressLaw" (53 : Nat) ({ cls := "DotPressModel", name := "undo", desc := "()I" } : Jvm.MethodName)) ∈ lw_g := lw_in (mT7 (List.mem_of_getElem? (i := 88) rfl)) rfl
theorem w7_89 : (Jvm.Cond.instanceMethod ({ cls := "DotPressModel", name := "undo", desc := "()I" } : Jvm.MethodName)) ∈ lw_g := lw_in (mT7 (List.mem_of_getElem? (i := 89) rfl)) rfl
theorem w7_90 : (Jvm.Cond.selects "DotPressModel" ({ cls := "DotPressModel", name := "undo", desc := "()I" } : Jvm.MethodName) ({ cls := "DotPressModel", name := "undo", desc := "()I" } : Jvm.MethodName)) ∈ lw_g := lw_in (mT7 (List.mem_of_getElem? (i := 90) rfl)) rfl
theorem w7_91 : (Jvm.Cond.code ({ cls := "DotPressModel", name := "undo", desc := "()I" } : Jvm.MethodName) prog_14_method_21_code (5 : Nat) (Option.some Jvm.ClassFile.FieldType.int)) ∈ lw_g := lw_in (mT7 (List.mem_of_getElem? (i := 91) rfl)) rfl
theorem w7_92 : (Jvm.Cond.methodLink "DotPressLaw" (166 : Nat) ({ cls := "DotPressModel", name := "finds", desc := "(I)I" } : Jvm.MethodName)) ∈ lw_g := lw_in (mT7 (List.mem_of_getElem? (i := 92) rfl)) rfl
theorem w7_93 : (Jvm.Cond.instanceMethod ({ cls := "DotPressModel", name := "finds", desc := "(I)I" } : Jvm.MethodName)) ∈ lw_g := lw_in (mT7 (List.mem_of_getElem? (i := 93) rfl)) rfl
theorem w7_94 : (Jvm.Cond.selects "DotPressModel" ({ cls := "DotPressModel", name := "finds", desc := "(I)I" } : Jvm.MethodName) ({ cls := "DotPressModel", name := "finds", desc := "(I)I" } : Jvm.MethodName)) ∈ lw_g := lw_in (mT7 (List.mem_of_getElem? (i := 94) rfl)) rfl
theorem w7_95 : (Jvm.Cond.code ({ cls := "DotPressModel", name := "finds", desc := "(I)I" } : Jvm.MethodName) prog_14_method_22_code (2 : Nat) (Option.some Jvm.ClassFile.FieldType.int)) ∈ lw_g := lw_in (mT7 (List.mem_of_getElem? (i := 95) rfl)) rfl
theorem w7_96 : (Jvm.Cond.methodLink "DotPressLaw" (57 : Nat) ({ cls := "DotPressModel", name := "text", desc := "()I" } : Jvm.MethodName)) ∈ lw_g := lw_in (mT7 (List.mem_of_getElem? (i := 96) rfl)) rfl
theorem w7_97 : (Jvm.Cond.instanceMethod ({ cls := "DotPressModel", name := "text", desc := "()I" } : Jvm.MethodName)) ∈ lw_g := lw_in (mT7 (List.mem_of_getElem? (i := 97) rfl)) rfl
theorem w7_98 : (Jvm.Cond.selects "DotPressModel" ({ cls := "DotPressModel", name := "text", desc := "()I" } : Jvm.MethodName) ({ cls := "DotPressModel", name := "text", desc := "()I" } : Jvm.MethodName)) ∈ lw_g := lw_in (mT7 (List.mem_of_getElem? (i := 98) rfl)) rfl
theorem w7_99 : (Jvm.Cond.code ({ cls := "DotPressModel", name := "text", desc := "()I" } : Jvm.MethodName) prog_14_method_34_code (4 : Nat) (Option.some Jvm.ClassFile.FieldType.int)) ∈ lw_g := lw_in (mT7 (List.mem_of_getElem? (i := 99) rfl)) rfl
theorem w8_0 : (Jvm.Cond.methodLink "DotPressLaw" (109 : Nat) ({ cls := "DotPressModel", name := "copied", desc := "()I" } : Jvm.MethodName)) ∈ lw_g := lw_in (mT8 (List.mem_of_getElem? (i := 0) rfl)) rfl
theorem w8_1 : (Jvm.Cond.instanceMethod ({ cls := "DotPressModel", name := "copied", desc := "()I" } : Jvm.MethodName)) ∈ lw_g := lw_in (mT8 (List.mem_of_getElem? (i := 1) rfl)) rfl
theorem w8_10 : (Jvm.Cond.instanceMethod ({ cls := "DotPressModel", name := "closed", desc := "()I" } : Jvm.MethodName)) ∈ lw_g := lw_in (mT8 (List.mem_of_getElem? (i := 10) rfl)) rfl
theorem w8_100 : (Jvm.Cond.methodLink "DotPressModel" (367 : Nat) ({ cls := "DotPressModel", name := "next", desc := "(II)I" } : Jvm.MethodName)) ∈ lw_g := lw_in (mT8 (List.mem_of_getElem? (i := 100) rfl)) rfl
theorem w8_102 : (Jvm.Cond.instanceMethod ({ cls := "DotPressModel", name := "next", desc := "(II)I" } : Jvm.MethodName)) ∈ lw_g := lw_in (mT8 (List.mem_of_getElem? (i := 102) rfl)) rfl
theorem w8_103 : (Jvm.Cond.code ({ cls := "DotPressModel", name := "next", desc := "(II)I" } : Jvm.MethodName) prog_14_method_77_code (3 : Nat) (Option.some Jvm.ClassFile.FieldType.int)) ∈ lw_g := lw_in (mT8 (List.mem_of_getElem? (i := 103) rfl)) rfl
theorem w8_104 : (Jvm.Cond.methodLink "DotPressModel" (391 : Nat) ({ cls := "DotPressModel", name := "go", desc := "(IIZ)V" } : Jvm.MethodName)) ∈ lw_g := lw_in (mT8 (List.mem_of_getElem? (i := 104) rfl)) rfl
theorem w8_106 : (Jvm.Cond.instanceMethod ({ cls := "DotPressModel", name := "go", desc := "(IIZ)V" } : Jvm.MethodName)) ∈ lw_g := lw_in (mT8 (List.mem_of_getElem? (i := 106) rfl)) rfl
theorem w8_107 : (Jvm.Cond.code ({ cls := "DotPressModel", name := "go", desc := "(IIZ)V" } : Jvm.MethodName) prog_14_method_82_code (8 : Nat) (Option.none : Option Jvm.ClassFile.FieldType)) ∈ lw_g := lw_in (mT8 (List.mem_of_getElem? (i := 107) rfl)) rfl
theorem w8_108 : (Jvm.Cond.methodLink "DotPressModel" (385 : Nat) ({ cls := "DotPressModel", name := "keep", desc := "()V" } : Jvm.MethodName)) ∈ lw_g := lw_in (mT8 (List.mem_of_getElem? (i := 108) rfl)) rfl
theorem w8_11 : (Jvm.Cond.selects "DotPressModel" ({ cls := "DotPressModel", name := "closed", desc := "()I" } : Jvm.MethodName) ({ cls := "DotPressModel", name := "closed", desc := "()I" } : Jvm.MethodName)) ∈ lw_g := lw_in (mT8 (List.mem_of_getElem? (i := 11) rfl)) rfl
theorem w8_110 : (Jvm.Cond.instanceMethod ({ cls := "DotPressModel", name := "keep", desc := "()V" } : Jvm.MethodName)) ∈ lw_g := lw_in (mT8 (List.mem_of_getElem? (i := 110) rfl)) rfl
theorem w8_111 : (Jvm.Cond.code ({ cls := "DotPressModel", name := "keep", desc := "()V" } : Jvm.MethodName) prog_14_method_83_code (2 : Nat) (Option.none : Option Jvm.ClassFile.FieldType)) ∈ lw_g := lw_in (mT8 (List.mem_of_getElem? (i := 111) rfl)) rfl
theorem w8_112 : (Jvm.Cond.methodLink "DotPressLaw" (138 : Nat) ({ cls := "DotPressModel", name := "more", desc := "()I" } : Jvm.MethodName)) ∈ lw_g := lw_in (mT8 (List.mem_of_getElem? (i := 112) rfl)) rfl
theorem w8_113 : (Jvm.Cond.instanceMethod ({ cls := "DotPressModel", name := "more", desc := "()I" } : Jvm.MethodName)) ∈ lw_g := lw_in (mT8 (List.mem_of_getElem? (i := 113) rfl)) rfl
theorem w8_114 : (Jvm.Cond.selects "DotPressModel" ({ cls := "DotPressModel", name := "more", desc := "()I" } : Jvm.MethodName) ({ cls := "DotPressModel", name := "more", desc := "()I" } : Jvm.MethodName)) ∈ lw_g := lw_in (mT8 (List.mem_of_getElem? (i := 114) rfl)) rfl
theorem w8_115 : (Jvm.Cond.code ({ cls := "DotPressModel", name := "more", desc := "()I" } : Jvm.MethodName) prog_14_method_85_code (1 : Nat) (Option.some Jvm.ClassFile.FieldType.int)) ∈ lw_g := lw_in (mT8 (List.mem_of_getElem? (i := 115) rfl)) rfl
theorem w8_116 : (Jvm.Cond.methodLink "DotPressLaw" (142 : Nat) ({ cls := "DotPressModel", name := "reading", desc := "(II)I" } : Jvm.MethodName)) ∈ lw_g := lw_in (mT8 (List.mem_of_getElem? (i := 116) rfl)) rfl
theorem w8_117 : (Jvm.Cond.instanceMethod ({ cls := "DotPressModel", name := "reading", desc := "(II)I" } : Jvm.MethodName)) ∈ lw_g := lw_in (mT8 (List.mem_of_getElem? (i := 117) rfl)) rfl
theorem w8_118 : (Jvm.Cond.selects "DotPressModel" ({ cls := "DotPressModel", name := "reading", desc := "(II)I" } : Jvm.MethodName) ({ cls := "DotPressModel", name := "reading", desc := "(II)I" } : Jvm.MethodName)) ∈ lw_g := lw_in (mT8 (List.mem_of_getElem? (i := 118) rfl)) rfl
theorem w8_119 : (Jvm.Cond.code ({ cls := "DotPressModel", name := "reading", desc := "(II)I" } : Jvm.MethodName) prog_14_method_86_code (3 : Nat) (Option.some Jvm.ClassFile.FieldType.int)) ∈ lw_g := lw_in (mT8 (List.mem_of_getElem? (i := 119) rfl)) rfl
theorem w8_12 : (Jvm.Cond.code ({ cls := "DotPressModel", name := "closed", desc := "()I" } : Jvm.MethodName) prog_14_method_59_code (1 : Nat) (Option.some Jvm.ClassFile.FieldType.int)) ∈ lw_g := lw_in (mT8 (List.mem_of_getElem? (i := 12) rfl)) rfl
theorem w8_120 : (Jvm.Cond.methodLink "DotPressLaw" (146 : Nat) ({ cls := "DotPressModel", name := "judge", desc := "(I)I" } : Jvm.MethodName)) ∈ lw_g := lw_in (mT8 (List.mem_of_getElem? (i := 120) rfl)) rfl
theorem w8_121 : (Jvm.Cond.instanceMethod ({ cls := "DotPressModel", name := "judge", desc := "(I)I" } : Jvm.MethodName)) ∈ lw_g := lw_in (mT8 (List.mem_of_getElem? (i := 121) rfl)) rfl
theorem w8_122 : (Jvm.Cond.selects "DotPressModel" ({ cls := "DotPressModel", name := "judge", desc := "(I)I" } : Jvm.MethodName) ({ cls := "DotPressModel", name := "judge", desc := "(I)I" } : Jvm.MethodName)) ∈ lw_g := lw_in (mT8 (List.mem_of_getElem? (i := 122) rfl)) rfl
theorem w8_123 : (Jvm.Cond.code ({ cls := "DotPressModel", name := "judge", desc := "(I)I" } : Jvm.MethodName) prog_14_method_90_code (3 : Nat) (Option.some Jvm.ClassFile.FieldType.int)) ∈ lw_g := lw_in (mT8 (List.mem_of_getElem? (i := 123) rfl)) rfl
theorem w8_124 : (Jvm.Cond.methodLink "DotPressModel" (407 : Nat) ({ cls := "DotPressModel", name := "isShort", desc := "(I)Z" } : Jvm.MethodName)) ∈ lw_g := lw_in (mT8 (List.mem_of_getElem? (i := 124) rfl)) rfl
theorem w8_126 : (Jvm.Cond.instanceMethod ({ cls := "DotPressModel", name := "isShort", desc := "(I)Z" } : Jvm.MethodName)) ∈ lw_g := lw_in (mT8 (List.mem_of_getElem? (i := 126) rfl)) rfl
theorem w8_127 : (Jvm.Cond.code ({ cls := "DotPressModel", name := "isShort", desc := "(I)Z" } : Jvm.MethodName) prog_14_method_87_code (4 : Nat) (Option.some Jvm.ClassFile.FieldType.boolean)) ∈ lw_g := lw_in (mT8 (List.mem_of_getElem? (i := 127) rfl)) rfl
theorem w8_128 : (Jvm.Cond.methodLink "DotPressModel" (410 : Nat) ({ cls := "DotPressModel", name := "isReadable", desc := "(I)Z" } : Jvm.MethodName)) ∈ lw_g := lw_in (mT8 (List.mem_of_getElem? (i := 128) rfl)) rfl
theorem w8_13 : (Jvm.Cond.methodLink "DotPressLaw" (158 : Nat) ({ cls := "DotPressModel", name := "saved", desc := "(II)I" } : Jvm.MethodName)) ∈ lw_g := lw_in (mT8 (List.mem_of_getElem? (i := 13) rfl)) rfl
theorem w8_130 : (Jvm.Cond.instanceMethod ({ cls := "DotPressModel", name := "isReadable", desc := "(I)Z" } : Jvm.MethodName)) ∈ lw_g := lw_in (mT8 (List.mem_of_getElem? (i := 130) rfl)) rfl
theorem w8_131 : (Jvm.Cond.code ({ cls := "DotPressModel", name := "isReadable", desc := "(I)Z" } : Jvm.MethodName) prog_14_method_89_code (6 : Nat) (Option.some Jvm.ClassFile.FieldType.boolean)) ∈ lw_g := lw_in (mT8 (List.mem_of_getElem? (i := 131) rfl)) rfl
theorem w8_132 : (Jvm.Cond.methodLink "DotPressModel" (404 : Nat) ({ cls := "DotPressModel", name := "alike", desc := "(II)I" } : Jvm.MethodName)) ∈ lw_g := lw_in (mT8 (List.mem_of_getElem? (i := 132) rfl)) rfl
theorem w8_134 : (Jvm.Cond.instanceMethod ({ cls := "DotPressModel", name := "alike", desc := "(II)I" } : Jvm.MethodName)) ∈ lw_g := lw_in (mT8 (List.mem_of_getElem? (i := 134) rfl)) rfl
theorem w8_135 : (Jvm.Cond.code ({ cls := "DotPressModel", name := "alike", desc := "(II)I" } : Jvm.MethodName) prog_14_method_88_code (4 : Nat) (Option.some Jvm.ClassFile.FieldType.int)) ∈ lw_g := lw_in (mT8 (List.mem_of_getElem? (i := 135) rfl)) rfl
theorem w8_136 : (Jvm.Cond.methodLink "DotPressLaw" (150 : Nat) ({ cls := "DotPressModel", name := "parts", desc := "(III)I" } : Jvm.MethodName)) ∈ lw_g := lw_in (mT8 (List.mem_of_getElem? (i := 136) rfl)) rfl
theorem w8_137 : (Jvm.Cond.instanceMethod ({ cls := "DotPressModel", name := "parts", desc := "(III)I" } : Jvm.MethodName)) ∈ lw_g := lw_in (mT8 (List.mem_of_getElem? (i := 137) rfl)) rfl
theorem w8_138 : (Jvm.Cond.selects "DotPressModel" ({ cls := "DotPressModel", name := "parts", desc := "(III)I" } : Jvm.MethodName) ({ cls := "DotPressModel", name := "parts", desc := "(III)I" } : Jvm.MethodName)) ∈ lw_g := lw_in (mT8 (List.mem_of_getElem? (i := 138) rfl)) rfl
theorem w8_139 : (Jvm.Cond.code ({ cls := "DotPressModel", name := "parts", desc := "(III)I" } : Jvm.MethodName) prog_14_method_91_code (5 : Nat) (Option.some Jvm.ClassFile.FieldType.int)) ∈ lw_g := lw_in (mT8 (List.mem_of_getElem? (i := 139) rfl)) rfl
theorem w8_14 : (Jvm.Cond.instanceMethod ({ cls := "DotPressModel", name := "saved", desc := "(II)I" } : Jvm.MethodName)) ∈ lw_g := lw_in (mT8 (List.mem_of_getElem? (i := 14) rfl)) rfl
theorem w8_140 : (Jvm.Cond.methodLink "DotPressLaw" (154 : Nat) ({ cls := "DotPressModel", name := "unreadable", desc := "(III)I" } : Jvm.MethodName)) ∈ lw_g := lw_in (mT8 (List.mem_of_getElem? (i := 140) rfl)) rfl
theorem w8_141 : (Jvm.Cond.instanceMethod ({ cls := "DotPressModel", name := "unreadable", desc := "(III)I" } : Jvm.MethodName)) ∈ lw_g := lw_in (mT8 (List.mem_of_getElem? (i := 141) rfl)) rfl
theorem w8_142 : (Jvm.Cond.selects "DotPressModel" ({ cls := "DotPressModel", name := "unreadable", desc := "(III)I" } : Jvm.MethodName) ({ cls := "DotPressModel", name := "unreadable", desc := "(III)I" } : Jvm.MethodName)) ∈ lw_g := lw_in (mT8 (List.mem_of_getElem? (i := 142) rfl)) rfl
theorem w8_143 : (Jvm.Cond.code ({ cls := "DotPressModel", name := "unreadable", desc := "(III)I" } : Jvm.MethodName) prog_14_method_94_code (9 : Nat) (Option.some Jvm.ClassFile.FieldType.int)) ∈ lw_g := lw_in (mT8 (List.mem_of_getElem? (i := 143) rfl)) rfl
theorem w8_144 : (Jvm.Cond.methodLink "DotPressModel" (416 : Nat) ({ cls := "DotPressModel", name := "gatherSigns", desc := "(I)V" } : Jvm.MethodName)) ∈ lw_g := lw_in (mT8 (List.mem_of_getElem? (i := 144) rfl)) rfl
theorem w8_146 : (Jvm.Cond.instanceMethod ({ cls := "DotPressModel", name := "gatherSigns", desc := "(I)V" } : Jvm.MethodName)) ∈ lw_g := lw_in (mT8 (List.mem_of_getElem? (i := 146) rfl)) rfl
theorem w8_147 : (Jvm.Cond.code ({ cls := "DotPressModel", name := "gatherSigns", desc := "(I)V" } : Jvm.MethodName) prog_14_method_92_code (8 : Nat) (Option.none : Option Jvm.ClassFile.FieldType)) ∈ lw_g := lw_in (mT8 (List.mem_of_getElem? (i := 147) rfl)) rfl
theorem w8_148 : (Jvm.Cond.methodLink "DotPressModel" (422 : Nat) ({ cls := "DotPressModel", name := "putBack", desc := "()V" } : Jvm.MethodName)) ∈ lw_g := lw_in (mT8 (List.mem_of_getElem? (i := 148) rfl)) rfl
theorem w8_15 : (Jvm.Cond.selects "DotPressModel" ({ cls := "DotPressModel", name := "saved", desc := "(II)I" } : Jvm.MethodName) ({ cls := "DotPressModel", name := "saved", desc := "(II)I" } : Jvm.MethodName)) ∈ lw_g := lw_in (mT8 (List.mem_of_getElem? (i := 15) rfl)) rfl
theorem w8_150 : (Jvm.Cond.instanceMethod ({ cls := "DotPressModel", name := "putBack", desc := "()V" } : Jvm.MethodName)) ∈ lw_g := lw_in (mT8 (List.mem_of_getElem? (i := 150) rfl)) rfl
theorem w8_151 : (Jvm.Cond.code ({ cls := "DotPressModel", name := "putBack", desc := "()V" } : Jvm.MethodName) prog_14_method_95_code (2 : Nat) (Option.none : Option Jvm.ClassFile.FieldType)) ∈ lw_g := lw_in (mT8 (List.mem_of_getElem? (i := 151) rfl)) rfl
theorem w8_152 : (Jvm.Cond.methodLink "DotPressModel" (425 : Nat) ({ cls := "DotPressModel", name := "isUnreadable", desc := "(I)Z" } : Jvm.MethodName)) ∈ lw_g := lw_in (mT8 (List.mem_of_getElem? (i := 152) rfl)) rfl
theorem w8_154 : (Jvm.Cond.instanceMethod ({ cls := "DotPressModel", name := "isUnreadable", desc := "(I)Z" } : Jvm.MethodName)) ∈ lw_g := lw_in (mT8 (List.mem_of_getElem? (i := 154) rfl)) rfl
theorem w8_155 : (Jvm.Cond.code ({ cls := "DotPressModel", name := "isUnreadable", desc := "(I)Z" } : Jvm.MethodName) prog_14_method_93_code (3 : Nat) (Option.some Jvm.ClassFile.FieldType.boolean)) ∈ lw_g := lw_in (mT8 (List.mem_of_getElem? (i := 155) rfl)) rfl
theorem w8_156 : (Jvm.Cond.methodLink "DotPressLaw" (162 : Nat) ({ cls := "DotPressModel", name := "place", desc := "()I" } : Jvm.MethodName)) ∈ lw_g := lw_in (mT8 (List.mem_of_getElem? (i := 156) rfl)) rfl
theorem w8_157 : (Jvm.Cond.instanceMethod ({ cls := "DotPressModel", name := "place", desc := "()I" } : Jvm.MethodName)) ∈ lw_g := lw_in (mT8 (List.mem_of_getElem? (i := 157) rfl)) rfl
theorem w8_158 : (Jvm.Cond.selects "DotPressModel" ({ cls := "DotPressModel", name := "place", desc := "()I" } : Jvm.MethodName) ({ cls := "DotPressModel", name := "place", desc := "()I" } : Jvm.MethodName)) ∈ lw_g := lw_in (mT8 (List.mem_of_getElem? (i := 158) rfl)) rfl
theorem w8_159 : (Jvm.Cond.code ({ cls := "DotPressModel", name := "place", desc := "()I" } : Jvm.MethodName) prog_14_method_96_code (1 : Nat) (Option.some Jvm.ClassFile.FieldType.int)) ∈ lw_g := lw_in (mT8 (List.mem_of_getElem? (i := 159) rfl)) rfl
theorem w8_16 : (Jvm.Cond.code ({ cls := "DotPressModel", name := "saved", desc := "(II)I" } : Jvm.MethodName) prog_14_method_60_code (8 : Nat) (Option.some Jvm.ClassFile.FieldType.int)) ∈ lw_g := lw_in (mT8 (List.mem_of_getElem? (i := 16) rfl)) rfl
theorem w8_160 : (Jvm.Cond.methodLink "DotPressLaw" (170 : Nat) ({ cls := "DotPressModel", name := "status", desc := "()I" } : Jvm.MethodName)) ∈ lw_g := lw_in (mT8 (List.mem_of_getElem? (i := 160) rfl)) rfl
theorem w8_161 : (Jvm.Cond.instanceMethod ({ cls := "DotPressModel", name := "status", desc := "()I" } : Jvm.MethodName)) ∈ lw_g := lw_in (mT8 (List.mem_of_getElem? (i := 161) rfl)) rfl
theorem w8_162 : (Jvm.Cond.selects "DotPressModel" ({ cls := "DotPressModel", name := "status", desc := "()I" } : Jvm.MethodName) ({ cls := "DotPressModel", name := "status", desc := "()I" } : Jvm.MethodName)) ∈ lw_g := lw_in (mT8 (List.mem_of_getElem? (i := 162) rfl)) rfl
theorem w8_163 : (Jvm.Cond.code ({ cls := "DotPressModel", name := "status", desc := "()I" } : Jvm.MethodName) prog_14_method_97_code (1 : Nat) (Option.some Jvm.ClassFile.FieldType.int)) ∈ lw_g := lw_in (mT8 (List.mem_of_getElem? (i := 163) rfl)) rfl
theorem w8_164 : (Jvm.Cond.methodLink "DotPressLaw" (174 : Nat) ({ cls := "DotPressModel", name := "digest", desc := "()I" } : Jvm.MethodName)) ∈ lw_g := lw_in (mT8 (List.mem_of_getElem? (i := 164) rfl)) rfl
theorem w8_165 : (Jvm.Cond.instanceMethod ({ cls := "DotPressModel", name := "digest", desc := "()I" } : Jvm.MethodName)) ∈ lw_g := lw_in (mT8 (List.mem_of_getElem? (i := 165) rfl)) rfl
theorem w8_166 : (Jvm.Cond.selects "DotPressModel" ({ cls := "DotPressModel", name := "digest", desc := "()I" } : Jvm.MethodName) ({ cls := "DotPressModel", name := "digest", desc := "()I" } : Jvm.MethodName)) ∈ lw_g := lw_in (mT8 (List.mem_of_getElem? (i := 166) rfl)) rfl
theorem w8_167 : (Jvm.Cond.code ({ cls := "DotPressModel", name := "digest", desc := "()I" } : Jvm.MethodName) prog_14_method_98_code (4 : Nat) (Option.some Jvm.ClassFile.FieldType.int)) ∈ lw_g := lw_in (mT8 (List.mem_of_getElem? (i := 167) rfl)) rfl
theorem w8_168t : (Jvm.Cond.castable "DotPress$Table" "DotPress$Table") ∈ lw_tbl := mT8 (List.mem_of_getElem? (i := 168) rfl)
theorem w8_169t : (Jvm.Cond.castable "DotPress$Row" "DotPress$Row") ∈ lw_tbl := mT8 (List.mem_of_getElem? (i := 169) rfl)
theorem w8_17 : (Jvm.Cond.methodLink "DotPressLaw" (121 : Nat) ({ cls := "DotPressModel", name := "read", desc := "(III)I" } : Jvm.MethodName)) ∈ lw_g := lw_in (mT8 (List.mem_of_getElem? (i := 17) rfl)) rfl
theorem w8_170t : (Jvm.Cond.castable "DotPress$Change" "DotPress$Change") ∈ lw_tbl := mT8 (List.mem_of_getElem? (i := 170) rfl)
theorem w8_172 : (Jvm.Cond.selects "[Ljava/lang/Object;" ({ cls := "java/lang/Object", name := "getClass", desc := "()Ljava/lang/Class;" } : Jvm.MethodName) ({ cls := "java/lang/Object", name := "getClass", desc := "()Ljava/lang/Class;" } : Jvm.MethodName)) ∈ lw_g := lw_in (mT8 (List.mem_of_getElem? (i := 172) rfl)) rfl
theorem w8_173t : (Jvm.Cond.declares ({ cls := "java/lang/Object", name := "getClass", desc := "()Ljava/lang/Class;" } : Jvm.MethodName)) ∈ lw_tbl := mT8 (List.mem_of_getElem? (i := 173) rfl)
theorem w8_18 : (Jvm.Cond.instanceMethod ({ cls := "DotPressModel", name := "read", desc := "(III)I" } : Jvm.MethodName)) ∈ lw_g := lw_in (mT8 (List.mem_of_getElem? (i := 18) rfl)) rfl
theorem w8_183t : (Jvm.Cond.castable "DotPress$Table" "java/lang/Object") ∈ lw_tbl := mT8 (List.mem_of_getElem? (i := 183) rfl)
theorem w8_184t : (Jvm.Cond.castable "DotPress$Change" "java/lang/Object") ∈ lw_tbl := mT8 (List.mem_of_getElem? (i := 184) rfl)
theorem w8_185t : (Jvm.Cond.castable "DotPress$Row" "java/lang/Object") ∈ lw_tbl := mT8 (List.mem_of_getElem? (i := 185) rfl)
theorem w8_19 : (Jvm.Cond.selects "DotPressModel" ({ cls := "DotPressModel", name := "read", desc := "(III)I" } : Jvm.MethodName) ({ cls := "DotPressModel", name := "read", desc := "(III)I" } : Jvm.MethodName)) ∈ lw_g := lw_in (mT8 (List.mem_of_getElem? (i := 19) rfl)) rfl
theorem w8_2 : (Jvm.Cond.selects "DotPressModel" ({ cls := "DotPressModel", name := "copied", desc := "()I" } : Jvm.MethodName) ({ cls := "DotPressModel", name := "copied", desc := "()I" } : Jvm.MethodName)) ∈ lw_g := lw_in (mT8 (List.mem_of_getElem? (i := 2) rfl)) rfl
theorem w8_20 : (Jvm.Cond.code ({ cls := "DotPressModel", name := "read", desc := "(III)I" } : Jvm.MethodName) prog_14_method_72_code (11 : Nat) (Option.some Jvm.ClassFile.FieldType.int)) ∈ lw_g := lw_in (mT8 (List.mem_of_getElem? (i := 20) rfl)) rfl
theorem w8_21 : (Jvm.Cond.methodLink "DotPressModel" (351 : Nat) ({ cls := "DotPressModel", name := "putRow", desc := "(II)V" } : Jvm.MethodName)) ∈ lw_g := lw_in (mT8 (List.mem_of_getElem? (i := 21) rfl)) rfl
theorem w8_23 : (Jvm.Cond.instanceMethod ({ cls := "DotPressModel", name := "putRow", desc := "(II)V" } : Jvm.MethodName)) ∈ lw_g := lw_in (mT8 (List.mem_of_getElem? (i := 23) rfl)) rfl
theorem w8_24 : (Jvm.Cond.code ({ cls := "DotPressModel", name := "putRow", desc := "(II)V" } : Jvm.MethodName) prog_14_method_73_code (3 : Nat) (Option.none : Option Jvm.ClassFile.FieldType)) ∈ lw_g := lw_in (mT8 (List.mem_of_getElem? (i := 24) rfl)) rfl
theorem w8_25 : (Jvm.Cond.methodLink "DotPressModel" (354 : Nat) ({ cls := "DotPressModel", name := "gather", desc := "(I)V" } : Jvm.MethodName)) ∈ lw_g := lw_in (mT8 (List.mem_of_getElem? (i := 25) rfl)) rfl
theorem w8_27 : (Jvm.Cond.instanceMethod ({ cls := "DotPressModel", name := "gather", desc := "(I)V" } : Jvm.MethodName)) ∈ lw_g := lw_in (mT8 (List.mem_of_getElem? (i := 27) rfl)) rfl
theorem w8_28 : (Jvm.Cond.code ({ cls := "DotPressModel", name := "gather", desc := "(I)V" } : Jvm.MethodName) prog_14_method_64_code (2 : Nat) (Option.none : Option Jvm.ClassFile.FieldType)) ∈ lw_g := lw_in (mT8 (List.mem_of_getElem? (i := 28) rfl)) rfl
theorem w8_29 : (Jvm.Cond.methodLink "DotPressModel" (321 : Nat) ({ cls := "DotPressModel", name := "addRows", desc := "(II)V" } : Jvm.MethodName)) ∈ lw_g := lw_in (mT8 (List.mem_of_getElem? (i := 29) rfl)) rfl
theorem w8_3 : (Jvm.Cond.code ({ cls := "DotPressModel", name := "copied", desc := "()I" } : Jvm.MethodName) prog_14_method_57_code (1 : Nat) (Option.some Jvm.ClassFile.FieldType.int)) ∈ lw_g := lw_in (mT8 (List.mem_of_getElem? (i := 3) rfl)) rfl
theorem w8_31 : (Jvm.Cond.instanceMethod ({ cls := "DotPressModel", name := "addRows", desc := "(II)V" } : Jvm.MethodName)) ∈ lw_g := lw_in (mT8 (List.mem_of_getElem? (i := 31) rfl)) rfl
theorem w8_32 : (Jvm.Cond.code ({ cls := "DotPressModel", name := "addRows", desc := "(II)V" } : Jvm.MethodName) prog_14_method_63_code (5 : Nat) (Option.none : Option Jvm.ClassFile.FieldType)) ∈ lw_g := lw_in (mT8 (List.mem_of_getElem? (i := 32) rfl)) rfl
theorem w8_33 : (Jvm.Cond.methodLink "DotPressModel" (314 : Nat) ({ cls := "DotPressModel", name := "addRow", desc := "(IIII)V" } : Jvm.MethodName)) ∈ lw_g := lw_in (mT8 (List.mem_of_getElem? (i := 33) rfl)) rfl
theorem w8_35 : (Jvm.Cond.instanceMethod ({ cls := "DotPressModel", name := "addRow", desc := "(IIII)V" } : Jvm.MethodName)) ∈ lw_g := lw_in (mT8 (List.mem_of_getElem? (i := 35) rfl)) rfl
theorem w8_36 : (Jvm.Cond.code ({ cls := "DotPressModel", name := "addRow", desc := "(IIII)V" } : Jvm.MethodName) prog_14_method_61_code (6 : Nat) (Option.none : Option Jvm.ClassFile.FieldType)) ∈ lw_g := lw_in (mT8 (List.mem_of_getElem? (i := 36) rfl)) rfl
theorem w8_37 : (Jvm.Cond.methodLink "DotPressModel" (317 : Nat) ({ cls := "DotPressModel", name := "addIndicator", desc := "(III)V" } : Jvm.MethodName)) ∈ lw_g := lw_in (mT8 (List.mem_of_getElem? (i := 37) rfl)) rfl
theorem w8_39 : (Jvm.Cond.instanceMethod ({ cls := "DotPressModel", name := "addIndicator", desc := "(III)V" } : Jvm.MethodName)) ∈ lw_g := lw_in (mT8 (List.mem_of_getElem? (i := 39) rfl)) rfl
theorem w8_4 : (Jvm.Cond.methodLink "DotPressLaw" (113 : Nat) ({ cls := "DotPressModel", name := "emboss", desc := "(II)I" } : Jvm.MethodName)) ∈ lw_g := lw_in (mT8 (List.mem_of_getElem? (i := 4) rfl)) rfl
theorem w8_40 : (Jvm.Cond.code ({ cls := "DotPressModel", name := "addIndicator", desc := "(III)V" } : Jvm.MethodName) prog_14_method_62_code (5 : Nat) (Option.none : Option Jvm.ClassFile.FieldType)) ∈ lw_g := lw_in (mT8 (List.mem_of_getElem? (i := 40) rfl)) rfl
theorem w8_41 : (Jvm.Cond.methodLink "DotPressModel" (357 : Nat) ({ cls := "DotPressModel", name := "readAll", desc := "()I" } : Jvm.MethodName)) ∈ lw_g := lw_in (mT8 (List.mem_of_getElem? (i := 41) rfl)) rfl
theorem w8_43 : (Jvm.Cond.instanceMethod ({ cls := "DotPressModel", name := "readAll", desc := "()I" } : Jvm.MethodName)) ∈ lw_g := lw_in (mT8 (List.mem_of_getElem? (i := 43) rfl)) rfl
theorem w8_44 : (Jvm.Cond.code ({ cls := "DotPressModel", name := "readAll", desc := "()I" } : Jvm.MethodName) prog_14_method_70_code (5 : Nat) (Option.some Jvm.ClassFile.FieldType.int)) ∈ lw_g := lw_in (mT8 (List.mem_of_getElem? (i := 44) rfl)) rfl
theorem w8_45 : (Jvm.Cond.methodLink "DotPressModel" (336 : Nat) ({ cls := "DotPressModel", name := "tell", desc := "(I)Z" } : Jvm.MethodName)) ∈ lw_g := lw_in (mT8 (List.mem_of_getElem? (i := 45) rfl)) rfl
theorem w8_47 : (Jvm.Cond.instanceMethod ({ cls := "DotPressModel", name := "tell", desc := "(I)Z" } : Jvm.MethodName)) ∈ lw_g := lw_in (mT8 (List.mem_of_getElem? (i := 47) rfl)) rfl
theorem w8_48 : (Jvm.Cond.code ({ cls := "DotPressModel", name := "tell", desc := "(I)Z" } : Jvm.MethodName) prog_14_method_69_code (2 : Nat) (Option.some Jvm.ClassFile.FieldType.boolean)) ∈ lw_g := lw_in (mT8 (List.mem_of_getElem? (i := 48) rfl)) rfl
theorem w8_49 : (Jvm.Cond.methodLink "DotPressModel" (339 : Nat) ({ cls := "DotPressModel", name := "readWord", desc := "(II)I" } : Jvm.MethodName)) ∈ lw_g := lw_in (mT8 (List.mem_of_getElem? (i := 49) rfl)) rfl
theorem w8_5 : (Jvm.Cond.instanceMethod ({ cls := "DotPressModel", name := "emboss", desc := "(II)I" } : Jvm.MethodName)) ∈ lw_g := lw_in (mT8 (List.mem_of_getElem? (i := 5) rfl)) rfl
theorem w8_51 : (Jvm.Cond.instanceMethod ({ cls := "DotPressModel", name := "readWord", desc := "(II)I" } : Jvm.MethodName)) ∈ lw_g := lw_in (mT8 (List.mem_of_getElem? (i := 51) rfl)) rfl
theorem w8_52 : (Jvm.Cond.code ({ cls := "DotPressModel", name := "readWord", desc := "(II)I" } : Jvm.MethodName) prog_14_method_71_code (9 : Nat) (Option.some Jvm.ClassFile.FieldType.int)) ∈ lw_g := lw_in (mT8 (List.mem_of_getElem? (i := 52) rfl)) rfl
theorem w8_53 : (Jvm.Cond.methodLink "DotPressModel" (342 : Nat) ({ cls := "DotPressModel", name := "longest", desc := "(III)I" } : Jvm.MethodName)) ∈ lw_g := lw_in (mT8 (List.mem_of_getElem? (i := 53) rfl)) rfl
theorem w8_55 : (Jvm.Cond.instanceMethod ({ cls := "DotPressModel", name := "longest", desc := "(III)I" } : Jvm.MethodName)) ∈ lw_g := lw_in (mT8 (List.mem_of_getElem? (i := 55) rfl)) rfl
theorem w8_56 : (Jvm.Cond.code ({ cls := "DotPressModel", name := "longest", desc := "(III)I" } : Jvm.MethodName) prog_14_method_68_code (6 : Nat) (Option.some Jvm.ClassFile.FieldType.int)) ∈ lw_g := lw_in (mT8 (List.mem_of_getElem? (i := 56) rfl)) rfl
theorem w8_57 : (Jvm.Cond.methodLink "DotPressModel" (327 : Nat) ({ cls := "DotPressModel", name := "stands", desc := "(III)Z" } : Jvm.MethodName)) ∈ lw_g := lw_in (mT8 (List.mem_of_getElem? (i := 57) rfl)) rfl
theorem w8_59 : (Jvm.Cond.instanceMethod ({ cls := "DotPressModel", name := "stands", desc := "(III)Z" } : Jvm.MethodName)) ∈ lw_g := lw_in (mT8 (List.mem_of_getElem? (i := 59) rfl)) rfl
theorem w8_6 : (Jvm.Cond.selects "DotPressModel" ({ cls := "DotPressModel", name := "emboss", desc := "(II)I" } : Jvm.MethodName) ({ cls := "DotPressModel", name := "emboss", desc := "(II)I" } : Jvm.MethodName)) ∈ lw_g := lw_in (mT8 (List.mem_of_getElem? (i := 6) rfl)) rfl
theorem w8_60 : (Jvm.Cond.code ({ cls := "DotPressModel", name := "stands", desc := "(III)Z" } : Jvm.MethodName) prog_14_method_67_code (6 : Nat) (Option.some Jvm.ClassFile.FieldType.boolean)) ∈ lw_g := lw_in (mT8 (List.mem_of_getElem? (i := 60) rfl)) rfl
theorem w8_61 : (Jvm.Cond.methodLink "DotPressModel" (324 : Nat) ({ cls := "DotPressModel", name := "rowCell", desc := "(II)I" } : Jvm.MethodName)) ∈ lw_g := lw_in (mT8 (List.mem_of_getElem? (i := 61) rfl)) rfl
theorem w8_63 : (Jvm.Cond.instanceMethod ({ cls := "DotPressModel", name := "rowCell", desc := "(II)I" } : Jvm.MethodName)) ∈ lw_g := lw_in (mT8 (List.mem_of_getElem? (i := 63) rfl)) rfl
theorem w8_64 : (Jvm.Cond.code ({ cls := "DotPressModel", name := "rowCell", desc := "(II)I" } : Jvm.MethodName) prog_14_method_65_code (3 : Nat) (Option.some Jvm.ClassFile.FieldType.int)) ∈ lw_g := lw_in (mT8 (List.mem_of_getElem? (i := 64) rfl)) rfl
theorem w8_65 : (Jvm.Cond.methodLink "DotPressModel" (348 : Nat) ({ cls := "DotPressModel", name := "isSmallRule", desc := "(I)Z" } : Jvm.MethodName)) ∈ lw_g := lw_in (mT8 (List.mem_of_getElem? (i := 65) rfl)) rfl
theorem w8_67 : (Jvm.Cond.instanceMethod ({ cls := "DotPressModel", name := "isSmallRule", desc := "(I)Z" } : Jvm.MethodName)) ∈ lw_g := lw_in (mT8 (List.mem_of_getElem? (i := 67) rfl)) rfl
theorem w8_68 : (Jvm.Cond.code ({ cls := "DotPressModel", name := "isSmallRule", desc := "(I)Z" } : Jvm.MethodName) prog_14_method_66_code (2 : Nat) (Option.some Jvm.ClassFile.FieldType.boolean)) ∈ lw_g := lw_in (mT8 (List.mem_of_getElem? (i := 68) rfl)) rfl
theorem w8_69 : (Jvm.Cond.methodLink "DotPressLaw" (125 : Nat) ({ cls := "DotPressModel", name := "letter", desc := "(I)I" } : Jvm.MethodName)) ∈ lw_g := lw_in (mT8 (List.mem_of_getElem? (i := 69) rfl)) rfl
theorem w8_7 : (Jvm.Cond.code ({ cls := "DotPressModel", name := "emboss", desc := "(II)I" } : Jvm.MethodName) prog_14_method_58_code (9 : Nat) (Option.some Jvm.ClassFile.FieldType.int)) ∈ lw_g := lw_in (mT8 (List.mem_of_getElem? (i := 7) rfl)) rfl
theorem w8_70 : (Jvm.Cond.instanceMethod ({ cls := "DotPressModel", name := "letter", desc := "(I)I" } : Jvm.MethodName)) ∈ lw_g := lw_in (mT8 (List.mem_of_getElem? (i := 70) rfl)) rfl
theorem w8_71 : (Jvm.Cond.selects "DotPressModel" ({ cls := "DotPressModel", name := "letter", desc := "(I)I" } : Jvm.MethodName) ({ cls := "DotPressModel", name := "letter", desc := "(I)I" } : Jvm.MethodName)) ∈ lw_g := lw_in (mT8 (List.mem_of_getElem? (i := 71) rfl)) rfl
theorem w8_72 : (Jvm.Cond.code ({ cls := "DotPressModel", name := "letter", desc := "(I)I" } : Jvm.MethodName) prog_14_method_74_code (2 : Nat) (Option.some Jvm.ClassFile.FieldType.int)) ∈ lw_g := lw_in (mT8 (List.mem_of_getElem? (i := 72) rfl)) rfl
theorem w8_73 : (Jvm.Cond.methodLink "DotPressLaw" (130 : Nat) ({ cls := "DotPressModel", name := "failed", desc := "(IZ)I" } : Jvm.MethodName)) ∈ lw_g := lw_in (mT8 (List.mem_of_getElem? (i := 73) rfl)) rfl
theorem w8_74 : (Jvm.Cond.instanceMethod ({ cls := "DotPressModel", name := "failed", desc := "(IZ)I" } : Jvm.MethodName)) ∈ lw_g := lw_in (mT8 (List.mem_of_getElem? (i := 74) rfl)) rfl
theorem w8_75 : (Jvm.Cond.selects "DotPressModel" ({ cls := "DotPressModel", name := "failed", desc := "(IZ)I" } : Jvm.MethodName) ({ cls := "DotPressModel", name := "failed", desc := "(IZ)I" } : Jvm.MethodName)) ∈ lw_g := lw_in (mT8 (List.mem_of_getElem? (i := 75) rfl)) rfl
theorem w8_76 : (Jvm.Cond.code ({ cls := "DotPressModel", name := "failed", desc := "(IZ)I" } : Jvm.MethodName) prog_14_method_75_code (3 : Nat) (Option.some Jvm.ClassFile.FieldType.int)) ∈ lw_g := lw_in (mT8 (List.mem_of_getElem? (i := 76) rfl)) rfl
theorem w8_77 : (Jvm.Cond.methodLink "DotPressLaw" (134 : Nat) ({ cls := "DotPressModel", name := "readings", desc := "(III)I" } : Jvm.MethodName)) ∈ lw_g := lw_in (mT8 (List.mem_of_getElem? (i := 77) rfl)) rfl
theorem w8_78 : (Jvm.Cond.instanceMethod ({ cls := "DotPressModel", name := "readings", desc := "(III)I" } : Jvm.MethodName)) ∈ lw_g := lw_in (mT8 (List.mem_of_getElem? (i := 78) rfl)) rfl
theorem w8_79 : (Jvm.Cond.selects "DotPressModel" ({ cls := "DotPressModel", name := "readings", desc := "(III)I" } : Jvm.MethodName) ({ cls := "DotPressModel", name := "readings", desc := "(III)I" } : Jvm.MethodName)) ∈ lw_g := lw_in (mT8 (List.mem_of_getElem? (i := 79) rfl)) rfl
theorem w8_8 : (Jvm.Cond.methodLink "DotPressModel" (309 : Nat) ({ cls := "java/lang/Integer", name := "bitCount", desc := "(I)I" } : Jvm.MethodName)) ∈ lw_g := lw_in (mT8 (List.mem_of_getElem? (i := 8) rfl)) rfl
theorem w8_80 : (Jvm.Cond.code ({ cls := "DotPressModel", name := "readings", desc := "(III)I" } : Jvm.MethodName) prog_14_method_84_code (5 : Nat) (Option.some Jvm.ClassFile.FieldType.int)) ∈ lw_g := lw_in (mT8 (List.mem_of_getElem? (i := 80) rfl)) rfl
theorem w8_81 : (Jvm.Cond.methodLink "DotPressModel" (401 : Nat) ({ cls := "DotPressModel", name := "findCan", desc := "()V" } : Jvm.MethodName)) ∈ lw_g := lw_in (mT8 (List.mem_of_getElem? (i := 81) rfl)) rfl
theorem w8_83 : (Jvm.Cond.instanceMethod ({ cls := "DotPressModel", name := "findCan", desc := "()V" } : Jvm.MethodName)) ∈ lw_g := lw_in (mT8 (List.mem_of_getElem? (i := 83) rfl)) rfl
theorem w8_84 : (Jvm.Cond.code ({ cls := "DotPressModel", name := "findCan", desc := "()V" } : Jvm.MethodName) prog_14_method_81_code (7 : Nat) (Option.none : Option Jvm.ClassFile.FieldType)) ∈ lw_g := lw_in (mT8 (List.mem_of_getElem? (i := 84) rfl)) rfl
theorem w8_85 : (Jvm.Cond.methodLink "DotPressModel" (374 : Nat) ({ cls := "DotPressModel", name := "mayBlank", desc := "(IZ)Z" } : Jvm.MethodName)) ∈ lw_g := lw_in (mT8 (List.mem_of_getElem? (i := 85) rfl)) rfl
theorem w8_87 : (Jvm.Cond.instanceMethod ({ cls := "DotPressModel", name := "mayBlank", desc := "(IZ)Z" } : Jvm.MethodName)) ∈ lw_g := lw_in (mT8 (List.mem_of_getElem? (i := 87) rfl)) rfl
theorem w8_88 : (Jvm.Cond.code ({ cls := "DotPressModel", name := "mayBlank", desc := "(IZ)Z" } : Jvm.MethodName) prog_14_method_80_code (3 : Nat) (Option.some Jvm.ClassFile.FieldType.boolean)) ∈ lw_g := lw_in (mT8 (List.mem_of_getElem? (i := 88) rfl)) rfl
theorem w8_89 : (Jvm.Cond.methodLink "DotPressModel" (363 : Nat) ({ cls := "DotPressModel", name := "looksLike", desc := "(II)Z" } : Jvm.MethodName)) ∈ lw_g := lw_in (mT8 (List.mem_of_getElem? (i := 89) rfl)) rfl
theorem w8_9 : (Jvm.Cond.methodLink "DotPressLaw" (117 : Nat) ({ cls := "DotPressModel", name := "closed", desc := "()I" } : Jvm.MethodName)) ∈ lw_g := lw_in (mT8 (List.mem_of_getElem? (i := 9) rfl)) rfl
theorem w8_91 : (Jvm.Cond.instanceMethod ({ cls := "DotPressModel", name := "looksLike", desc := "(II)Z" } : Jvm.MethodName)) ∈ lw_g := lw_in (mT8 (List.mem_of_getElem? (i := 91) rfl)) rfl
theorem w8_92 : (Jvm.Cond.code ({ cls := "DotPressModel", name := "looksLike", desc := "(II)Z" } : Jvm.MethodName) prog_14_method_76_code (3 : Nat) (Option.some Jvm.ClassFile.FieldType.boolean)) ∈ lw_g := lw_in (mT8 (List.mem_of_getElem? (i := 92) rfl)) rfl
theorem w8_93 : (Jvm.Cond.methodLink "DotPressModel" (370 : Nat) ({ cls := "DotPressModel", name := "state", desc := "(IIZ)I" } : Jvm.MethodName)) ∈ lw_g := lw_in (mT8 (List.mem_of_getElem? (i := 93) rfl)) rfl
theorem w8_94 : (Jvm.Cond.static ({ cls := "DotPressModel", name := "state", desc := "(IIZ)I" } : Jvm.MethodName)) ∈ lw_g := lw_in (mT8 (List.mem_of_getElem? (i := 94) rfl)) rfl
theorem w8_95 : (Jvm.Cond.code ({ cls := "DotPressModel", name := "state", desc := "(IIZ)I" } : Jvm.MethodName) prog_14_method_78_code (3 : Nat) (Option.some Jvm.ClassFile.FieldType.int)) ∈ lw_g := lw_in (mT8 (List.mem_of_getElem? (i := 95) rfl)) rfl
theorem w8_96 : (Jvm.Cond.methodLink "DotPressModel" (378 : Nat) ({ cls := "DotPressModel", name := "may", desc := "(IIIZ)Z" } : Jvm.MethodName)) ∈ lw_g := lw_in (mT8 (List.mem_of_getElem? (i := 96) rfl)) rfl
theorem w8_98 : (Jvm.Cond.instanceMethod ({ cls := "DotPressModel", name := "may", desc := "(IIIZ)Z" } : Jvm.MethodName)) ∈ lw_g := lw_in (mT8 (List.mem_of_getElem? (i := 98) rfl)) rfl
theorem w8_99 : (Jvm.Cond.code ({ cls := "DotPressModel", name := "may", desc := "(IIIZ)Z" } : Jvm.MethodName) prog_14_method_79_code (6 : Nat) (Option.some Jvm.ClassFile.FieldType.boolean)) ∈ lw_g := lw_in (mT8 (List.mem_of_getElem? (i := 99) rfl)) rfl
theorem wp_0 : Cond.selects "DotPress" ⟨"DotPress", "refuse", "(I)I"⟩ ⟨"DotPress", "refuse", "(I)I"⟩ ∈ lw_g := lw_in (List.mem_append_left _ (List.mem_map.mpr ⟨(⟨"DotPress", "refuse", "(I)I"⟩, _), List.mem_of_getElem? (i := 0) rfl, rfl⟩)) rfl
theorem wp_1 : Cond.selects "DotPress" ⟨"DotPress", "feedFour", "(I)V"⟩ ⟨"DotPress", "feedFour", "(I)V"⟩ ∈ lw_g := lw_in (List.mem_append_left _ (List.mem_map.mpr ⟨(⟨"DotPress", "feedFour", "(I)V"⟩, _), List.mem_of_getElem? (i := 1) rfl, rfl⟩)) rfl
theorem wp_10 : Cond.selects "DotPress" ⟨"DotPress", "addText", "()I"⟩ ⟨"DotPress", "addText", "()I"⟩ ∈ lw_g := lw_in (List.mem_append_left _ (List.mem_map.mpr ⟨(⟨"DotPress", "addText", "()I"⟩, _), List.mem_of_getElem? (i := 10) rfl, rfl⟩)) rfl
theorem wp_11 : Cond.selects "DotPress$Source" ⟨"DotPress$Source", "enterLine", "(LDotPress$Ints;)I"⟩ ⟨"DotPress$Source", "enterLine", "(LDotPress$Ints;)I"⟩ ∈ lw_g := lw_in (List.mem_append_left _ (List.mem_map.mpr ⟨(⟨"DotPress$Source", "enterLine", "(LDotPress$Ints;)I"⟩, _), List.mem_of_getElem? (i := 11) rfl, rfl⟩)) rfl
theorem wp_12 : Cond.selects "DotPress$Setting" ⟨"DotPress$Setting", "setPart", "(LDotPress$Table;II)I"⟩ ⟨"DotPress$Setting", "setPart", "(LDotPress$Table;II)I"⟩ ∈ lw_g := lw_in (List.mem_append_left _ (List.mem_map.mpr ⟨(⟨"DotPress$Setting", "setPart", "(LDotPress$Table;II)I"⟩, _), List.mem_of_getElem? (i := 12) rfl, rfl⟩)) rfl
theorem wp_13 : Cond.selects "DotPress$Setting" ⟨"DotPress$Setting", "numberAhead", "(LDotPress$Table;I)LDotPress$Row;"⟩ ⟨"DotPress$Setting", "numberAhead", "(LDotPress$Table;I)LDotPress$Row;"⟩ ∈ lw_g := lw_in (List.mem_append_left _ (List.mem_map.mpr ⟨(⟨"DotPress$Setting", "numberAhead", "(LDotPress$Table;I)LDotPress$Row;"⟩, _), List.mem_of_getElem? (i := 13) rfl, rfl⟩)) rfl
theorem wp_14 : Cond.selects "DotPress$Setting" ⟨"DotPress$Setting", "find", "(LDotPress$Table;II)LDotPress$Row;"⟩ ⟨"DotPress$Setting", "find", "(LDotPress$Table;II)LDotPress$Row;"⟩ ∈ lw_g := lw_in (List.mem_append_left _ (List.mem_map.mpr ⟨(⟨"DotPress$Setting", "find", "(LDotPress$Table;II)LDotPress$Row;"⟩, _), List.mem_of_getElem? (i := 14) rfl, rfl⟩)) rfl
theorem wp_15 : Cond.selects "DotPress$Setting" ⟨"DotPress$Setting", "countFind", "(I)V"⟩ ⟨"DotPress$Setting", "countFind", "(I)V"⟩ ∈ lw_g := lw_in (List.mem_append_left _ (List.mem_map.mpr ⟨(⟨"DotPress$Setting", "countFind", "(I)V"⟩, _), List.mem_of_getElem? (i := 15) rfl, rfl⟩)) rfl
theorem wp_16 : Cond.selects "DotPress$Setting" ⟨"DotPress$Setting", "findOwn", "(LDotPress$Table;IILDotPress$Row;)LDotPress$Row;"⟩ ⟨"DotPress$Setting", "findOwn", "(LDotPress$Table;IILDotPress$Row;)LDotPress$Row;"⟩ ∈ lw_g := lw_in (List.mem_append_left _ (List.mem_map.mpr ⟨(⟨"DotPress$Setting", "findOwn", "(LDotPress$Table;IILDotPress$Row;)LDotPress$Row;"⟩, _), List.mem_of_getElem? (i := 16) rfl, rfl⟩)) rfl
theorem wp_17 : Cond.selects "DotPress$Setting" ⟨"DotPress$Setting", "fits", "(LDotPress$Row;I)Z"⟩ ⟨"DotPress$Setting", "fits", "(LDotPress$Row;I)Z"⟩ ∈ lw_g := lw_in (List.mem_append_left _ (List.mem_map.mpr ⟨(⟨"DotPress$Setting", "fits", "(LDotPress$Row;I)Z"⟩, _), List.mem_of_getElem? (i := 17) rfl, rfl⟩)) rfl
theorem wp_18 : Cond.selects "DotPress$Setting" ⟨"DotPress$Setting", "markStart", "(II)V"⟩ ⟨"DotPress$Setting", "markStart", "(II)V"⟩ ∈ lw_g := lw_in (List.mem_append_left _ (List.mem_map.mpr ⟨(⟨"DotPress$Setting", "markStart", "(II)V"⟩, _), List.mem_of_getElem? (i := 18) rfl, rfl⟩)) rfl
theorem wp_19 : Cond.selects "DotPress$Setting" ⟨"DotPress$Setting", "push", "(LDotPress$Row;)V"⟩ ⟨"DotPress$Setting", "push", "(LDotPress$Row;)V"⟩ ∈ lw_g := lw_in (List.mem_append_left _ (List.mem_map.mpr ⟨(⟨"DotPress$Setting", "push", "(LDotPress$Row;)V"⟩, _), List.mem_of_getElem? (i := 19) rfl, rfl⟩)) rfl
theorem wp_2 : Cond.selects "DotPress" ⟨"DotPress", "done", "(I)I"⟩ ⟨"DotPress", "done", "(I)I"⟩ ∈ lw_g := lw_in (List.mem_append_left _ (List.mem_map.mpr ⟨(⟨"DotPress", "done", "(I)I"⟩, _), List.mem_of_getElem? (i := 2) rfl, rfl⟩)) rfl
theorem wp_20 : Cond.selects "DotPress$Setting" ⟨"DotPress$Setting", "setTurn", "(LDotPress$Row;I)I"⟩ ⟨"DotPress$Setting", "setTurn", "(LDotPress$Row;I)I"⟩ ∈ lw_g := lw_in (List.mem_append_left _ (List.mem_map.mpr ⟨(⟨"DotPress$Setting", "setTurn", "(LDotPress$Row;I)I"⟩, _), List.mem_of_getElem? (i := 20) rfl, rfl⟩)) rfl
theorem wp_21 : Cond.selects "DotPress" ⟨"DotPress", "publish", "()I"⟩ ⟨"DotPress", "publish", "()I"⟩ ∈ lw_g := lw_in (List.mem_append_left _ (List.mem_map.mpr ⟨(⟨"DotPress", "publish", "()I"⟩, _), List.mem_of_getElem? (i := 21) rfl, rfl⟩)) rfl
theorem wp_22 : Cond.selects "DotPress" ⟨"DotPress", "refuseAt", "(II)I"⟩ ⟨"DotPress", "refuseAt", "(II)I"⟩ ∈ lw_g := lw_in (List.mem_append_left _ (List.mem_map.mpr ⟨(⟨"DotPress", "refuseAt", "(II)I"⟩, _), List.mem_of_getElem? (i := 22) rfl, rfl⟩)) rfl
theorem wp_23 : Cond.selects "DotPress" ⟨"DotPress", "linesOfPage", "()I"⟩ ⟨"DotPress", "linesOfPage", "()I"⟩ ∈ lw_g := lw_in (List.mem_append_left _ (List.mem_map.mpr ⟨(⟨"DotPress", "linesOfPage", "()I"⟩, _), List.mem_of_getElem? (i := 23) rfl, rfl⟩)) rfl
theorem wp_24 : Cond.selects "DotPress" ⟨"DotPress", "pagesHaveHeader", "()Z"⟩ ⟨"DotPress", "pagesHaveHeader", "()Z"⟩ ∈ lw_g := lw_in (List.mem_append_left _ (List.mem_map.mpr ⟨(⟨"DotPress", "pagesHaveHeader", "()Z"⟩, _), List.mem_of_getElem? (i := 24) rfl, rfl⟩)) rfl
theorem wp_25 : Cond.selects "DotPress" ⟨"DotPress", "cellOfLine", "(II)I"⟩ ⟨"DotPress", "cellOfLine", "(II)I"⟩ ∈ lw_g := lw_in (List.mem_append_left _ (List.mem_map.mpr ⟨(⟨"DotPress", "cellOfLine", "(II)I"⟩, _), List.mem_of_getElem? (i := 25) rfl, rfl⟩)) rfl
theorem wp_26 : Cond.selects "DotPress" ⟨"DotPress", "chainLines", "(II)V"⟩ ⟨"DotPress", "chainLines", "(II)V"⟩ ∈ lw_g := lw_in (List.mem_append_left _ (List.mem_map.mpr ⟨(⟨"DotPress", "chainLines", "(II)V"⟩, _), List.mem_of_getElem? (i := 26) rfl, rfl⟩)) rfl
theorem wp_27 : Cond.selects "DotPress$Reader" ⟨"DotPress$Reader", "decodeWord", "(I)I"⟩ ⟨"DotPress$Reader", "decodeWord", "(I)I"⟩ ∈ lw_g := lw_in (List.mem_append_left _ (List.mem_map.mpr ⟨(⟨"DotPress$Reader", "decodeWord", "(I)I"⟩, _), List.mem_of_getElem? (i := 27) rfl, rfl⟩)) rfl
theorem wp_28 : Cond.selects "DotPress$Reader" ⟨"DotPress$Reader", "longestAt", "(ZI)LDotPress$Row;"⟩ ⟨"DotPress$Reader", "longestAt", "(ZI)LDotPress$Row;"⟩ ∈ lw_g := lw_in (List.mem_append_left _ (List.mem_map.mpr ⟨(⟨"DotPress$Reader", "longestAt", "(ZI)LDotPress$Row;"⟩, _), List.mem_of_getElem? (i := 28) rfl, rfl⟩)) rfl
theorem wp_29 : Cond.selects "DotPress$Readings" ⟨"DotPress$Readings", "markEnds", "()V"⟩ ⟨"DotPress$Readings", "markEnds", "()V"⟩ ∈ lw_g := lw_in (List.mem_append_left _ (List.mem_map.mpr ⟨(⟨"DotPress$Readings", "markEnds", "()V"⟩, _), List.mem_of_getElem? (i := 29) rfl, rfl⟩)) rfl
theorem wp_3 : Cond.selects "java/util/ArrayList" ⟨"java/util/ArrayList", "add", "(Ljava/lang/Object;[Ljava/lang/Object;I)V"⟩ ⟨"java/util/ArrayList", "add", "(Ljava/lang/Object;[Ljava/lang/Object;I)V"⟩ ∈ lw_g := lw_in (List.mem_append_left _ (List.mem_map.mpr ⟨(⟨"java/util/ArrayList", "add", "(Ljava/lang/Object;[Ljava/lang/Object;I)V"⟩, _), List.mem_of_getElem? (i := 3) rfl, rfl⟩)) rfl
theorem wp_30 : Cond.selects "DotPress$Readings" ⟨"DotPress$Readings", "nextChoice", "(II)I"⟩ ⟨"DotPress$Readings", "nextChoice", "(II)I"⟩ ∈ lw_g := lw_in (List.mem_append_left _ (List.mem_map.mpr ⟨(⟨"DotPress$Readings", "nextChoice", "(II)I"⟩, _), List.mem_of_getElem? (i := 30) rfl, rfl⟩)) rfl
theorem wp_31 : Cond.selects "DotPress$Readings" ⟨"DotPress$Readings", "nodeBehind", "(II)I"⟩ ⟨"DotPress$Readings", "nodeBehind", "(II)I"⟩ ∈ lw_g := lw_in (List.mem_append_left _ (List.mem_map.mpr ⟨(⟨"DotPress$Readings", "nodeBehind", "(II)I"⟩, _), List.mem_of_getElem? (i := 31) rfl, rfl⟩)) rfl
theorem wp_32 : Cond.selects "DotPress$Readings" ⟨"DotPress$Readings", "looksLike", "(II)Z"⟩ ⟨"DotPress$Readings", "looksLike", "(II)Z"⟩ ∈ lw_g := lw_in (List.mem_append_left _ (List.mem_map.mpr ⟨(⟨"DotPress$Readings", "looksLike", "(II)Z"⟩, _), List.mem_of_getElem? (i := 32) rfl, rfl⟩)) rfl
theorem wp_33 : Cond.selects "DotPress$Readings" ⟨"DotPress$Readings", "looksLikeRow", "(LDotPress$Row;I)Z"⟩ ⟨"DotPress$Readings", "looksLikeRow", "(LDotPress$Row;I)Z"⟩ ∈ lw_g := lw_in (List.mem_append_left _ (List.mem_map.mpr ⟨(⟨"DotPress$Readings", "looksLikeRow", "(LDotPress$Row;I)Z"⟩, _), List.mem_of_getElem? (i := 33) rfl, rfl⟩)) rfl
theorem wp_34 : Cond.selects "DotPress$Readings" ⟨"DotPress$Readings", "walk", "(I)V"⟩ ⟨"DotPress$Readings", "walk", "(I)V"⟩ ∈ lw_g := lw_in (List.mem_append_left _ (List.mem_map.mpr ⟨(⟨"DotPress$Readings", "walk", "(I)V"⟩, _), List.mem_of_getElem? (i := 34) rfl, rfl⟩)) rfl
theorem wp_35 : Cond.selects "DotPress$Readings" ⟨"DotPress$Readings", "write", "(I)V"⟩ ⟨"DotPress$Readings", "write", "(I)V"⟩ ∈ lw_g := lw_in (List.mem_append_left _ (List.mem_map.mpr ⟨(⟨"DotPress$Readings", "write", "(I)V"⟩, _), List.mem_of_getElem? (i := 35) rfl, rfl⟩)) rfl
theorem wp_36 : Cond.selects "DotPress$Source" ⟨"DotPress$Source", "markLetters", "(Ljava/util/ArrayList;)V"⟩ ⟨"DotPress$Source", "markLetters", "(Ljava/util/ArrayList;)V"⟩ ∈ lw_g := lw_in (List.mem_append_left _ (List.mem_map.mpr ⟨(⟨"DotPress$Source", "markLetters", "(Ljava/util/ArrayList;)V"⟩, _), List.mem_of_getElem? (i := 36) rfl, rfl⟩)) rfl
theorem wp_37 : Cond.selects "DotPress$Source" ⟨"DotPress$Source", "lengthen", "(I)Z"⟩ ⟨"DotPress$Source", "lengthen", "(I)Z"⟩ ∈ lw_g := lw_in (List.mem_append_left _ (List.mem_map.mpr ⟨(⟨"DotPress$Source", "lengthen", "(I)Z"⟩, _), List.mem_of_getElem? (i := 37) rfl, rfl⟩)) rfl
theorem wp_38 : Cond.selects "DotPress" ⟨"DotPress", "isReadBack", "()Z"⟩ ⟨"DotPress", "isReadBack", "()Z"⟩ ∈ lw_g := lw_in (List.mem_append_left _ (List.mem_map.mpr ⟨(⟨"DotPress", "isReadBack", "()Z"⟩, _), List.mem_of_getElem? (i := 38) rfl, rfl⟩)) rfl
theorem wp_39 : Cond.selects "DotPressModel" ⟨"DotPressModel", "bad", "(I)I"⟩ ⟨"DotPressModel", "bad", "(I)I"⟩ ∈ lw_g := lw_in (List.mem_append_left _ (List.mem_map.mpr ⟨(⟨"DotPressModel", "bad", "(I)I"⟩, _), List.mem_of_getElem? (i := 39) rfl, rfl⟩)) rfl
theorem wp_4 : Cond.selects "java/util/ArrayList" ⟨"java/util/ArrayList", "grow", "()[Ljava/lang/Object;"⟩ ⟨"java/util/ArrayList", "grow", "()[Ljava/lang/Object;"⟩ ∈ lw_g := lw_in (List.mem_append_left _ (List.mem_map.mpr ⟨(⟨"java/util/ArrayList", "grow", "()[Ljava/lang/Object;"⟩, _), List.mem_of_getElem? (i := 4) rfl, rfl⟩)) rfl
theorem wp_40 : Cond.selects "DotPressModel" ⟨"DotPressModel", "fine", "(I)I"⟩ ⟨"DotPressModel", "fine", "(I)I"⟩ ∈ lw_g := lw_in (List.mem_append_left _ (List.mem_map.mpr ⟨(⟨"DotPressModel", "fine", "(I)I"⟩, _), List.mem_of_getElem? (i := 40) rfl, rfl⟩)) rfl
theorem wp_41 : Cond.selects "DotPressModel" ⟨"DotPressModel", "isTable", "(I)Z"⟩ ⟨"DotPressModel", "isTable", "(I)Z"⟩ ∈ lw_g := lw_in (List.mem_append_left _ (List.mem_map.mpr ⟨(⟨"DotPressModel", "isTable", "(I)Z"⟩, _), List.mem_of_getElem? (i := 41) rfl, rfl⟩)) rfl
theorem wp_42 : Cond.selects "DotPressModel" ⟨"DotPressModel", "newTable", "(IIII)I"⟩ ⟨"DotPressModel", "newTable", "(IIII)I"⟩ ∈ lw_g := lw_in (List.mem_append_left _ (List.mem_map.mpr ⟨(⟨"DotPressModel", "newTable", "(IIII)I"⟩, _), List.mem_of_getElem? (i := 42) rfl, rfl⟩)) rfl
theorem wp_43 : Cond.selects "DotPressModel" ⟨"DotPressModel", "step", "(IIII)V"⟩ ⟨"DotPressModel", "step", "(IIII)V"⟩ ∈ lw_g := lw_in (List.mem_append_left _ (List.mem_map.mpr ⟨(⟨"DotPressModel", "step", "(IIII)V"⟩, _), List.mem_of_getElem? (i := 43) rfl, rfl⟩)) rfl
theorem wp_44 : Cond.selects "DotPressModel" ⟨"DotPressModel", "taken", "()I"⟩ ⟨"DotPressModel", "taken", "()I"⟩ ∈ lw_g := lw_in (List.mem_append_left _ (List.mem_map.mpr ⟨(⟨"DotPressModel", "taken", "()I"⟩, _), List.mem_of_getElem? (i := 44) rfl, rfl⟩)) rfl
theorem wp_45 : Cond.selects "DotPressModel" ⟨"DotPressModel", "areCells", "(III)Z"⟩ ⟨"DotPressModel", "areCells", "(III)Z"⟩ ∈ lw_g := lw_in (List.mem_append_left _ (List.mem_map.mpr ⟨(⟨"DotPressModel", "areCells", "(III)Z"⟩, _), List.mem_of_getElem? (i := 45) rfl, rfl⟩)) rfl
theorem wp_46 : Cond.selects "DotPressModel" ⟨"DotPressModel", "isWhole", "(I)Z"⟩ ⟨"DotPressModel", "isWhole", "(I)Z"⟩ ∈ lw_g := lw_in (List.mem_append_left _ (List.mem_map.mpr ⟨(⟨"DotPressModel", "isWhole", "(I)Z"⟩, _), List.mem_of_getElem? (i := 46) rfl, rfl⟩)) rfl
theorem wp_47 : Cond.selects "DotPressModel" ⟨"DotPressModel", "lineEnd", "(I)I"⟩ ⟨"DotPressModel", "lineEnd", "(I)I"⟩ ∈ lw_g := lw_in (List.mem_append_left _ (List.mem_map.mpr ⟨(⟨"DotPressModel", "lineEnd", "(I)I"⟩, _), List.mem_of_getElem? (i := 47) rfl, rfl⟩)) rfl
theorem wp_48 : Cond.selects "DotPressModel" ⟨"DotPressModel", "newLine", "()Z"⟩ ⟨"DotPressModel", "newLine", "()Z"⟩ ∈ lw_g := lw_in (List.mem_append_left _ (List.mem_map.mpr ⟨(⟨"DotPressModel", "newLine", "()Z"⟩, _), List.mem_of_getElem? (i := 48) rfl, rfl⟩)) rfl
theorem wp_49 : Cond.selects "DotPressModel" ⟨"DotPressModel", "takeWord", "(II)I"⟩ ⟨"DotPressModel", "takeWord", "(II)I"⟩ ∈ lw_g := lw_in (List.mem_append_left _ (List.mem_map.mpr ⟨(⟨"DotPressModel", "takeWord", "(II)I"⟩, _), List.mem_of_getElem? (i := 49) rfl, rfl⟩)) rfl
theorem wp_5 : Cond.selects "java/util/ArrayList" ⟨"java/util/ArrayList", "grow", "(I)[Ljava/lang/Object;"⟩ ⟨"java/util/ArrayList", "grow", "(I)[Ljava/lang/Object;"⟩ ∈ lw_g := lw_in (List.mem_append_left _ (List.mem_map.mpr ⟨(⟨"java/util/ArrayList", "grow", "(I)[Ljava/lang/Object;"⟩, _), List.mem_of_getElem? (i := 5) rfl, rfl⟩)) rfl
theorem wp_50 : Cond.selects "DotPressModel" ⟨"DotPressModel", "setWord", "(I)Z"⟩ ⟨"DotPressModel", "setWord", "(I)Z"⟩ ∈ lw_g := lw_in (List.mem_append_left _ (List.mem_map.mpr ⟨(⟨"DotPressModel", "setWord", "(I)Z"⟩, _), List.mem_of_getElem? (i := 50) rfl, rfl⟩)) rfl
theorem wp_51 : Cond.selects "DotPressModel" ⟨"DotPressModel", "setPart", "(III)Z"⟩ ⟨"DotPressModel", "setPart", "(III)Z"⟩ ∈ lw_g := lw_in (List.mem_append_left _ (List.mem_map.mpr ⟨(⟨"DotPressModel", "setPart", "(III)Z"⟩, _), List.mem_of_getElem? (i := 51) rfl, rfl⟩)) rfl
theorem wp_52 : Cond.selects "DotPressModel" ⟨"DotPressModel", "putIndicator", "(II)V"⟩ ⟨"DotPressModel", "putIndicator", "(II)V"⟩ ∈ lw_g := lw_in (List.mem_append_left _ (List.mem_map.mpr ⟨(⟨"DotPressModel", "putIndicator", "(II)V"⟩, _), List.mem_of_getElem? (i := 52) rfl, rfl⟩)) rfl
theorem wp_53 : Cond.selects "DotPressModel" ⟨"DotPressModel", "find", "(IIII)I"⟩ ⟨"DotPressModel", "find", "(IIII)I"⟩ ∈ lw_g := lw_in (List.mem_append_left _ (List.mem_map.mpr ⟨(⟨"DotPressModel", "find", "(IIII)I"⟩, _), List.mem_of_getElem? (i := 53) rfl, rfl⟩)) rfl
theorem wp_54 : Cond.selects "DotPressModel" ⟨"DotPressModel", "contracted", "(IIII)I"⟩ ⟨"DotPressModel", "contracted", "(IIII)I"⟩ ∈ lw_g := lw_in (List.mem_append_left _ (List.mem_map.mpr ⟨(⟨"DotPressModel", "contracted", "(IIII)I"⟩, _), List.mem_of_getElem? (i := 54) rfl, rfl⟩)) rfl
theorem wp_55 : Cond.selects "DotPressModel" ⟨"DotPressModel", "own", "(IIII)I"⟩ ⟨"DotPressModel", "own", "(IIII)I"⟩ ∈ lw_g := lw_in (List.mem_append_left _ (List.mem_map.mpr ⟨(⟨"DotPressModel", "own", "(IIII)I"⟩, _), List.mem_of_getElem? (i := 55) rfl, rfl⟩)) rfl
theorem wp_56 : Cond.selects "DotPressModel" ⟨"DotPressModel", "fits", "(IIII)Z"⟩ ⟨"DotPressModel", "fits", "(IIII)Z"⟩ ∈ lw_g := lw_in (List.mem_append_left _ (List.mem_map.mpr ⟨(⟨"DotPressModel", "fits", "(IIII)Z"⟩, _), List.mem_of_getElem? (i := 56) rfl, rfl⟩)) rfl
theorem wp_57 : Cond.selects "DotPressModel" ⟨"DotPressModel", "notSet", "()I"⟩ ⟨"DotPressModel", "notSet", "()I"⟩ ∈ lw_g := lw_in (List.mem_append_left _ (List.mem_map.mpr ⟨(⟨"DotPressModel", "notSet", "()I"⟩, _), List.mem_of_getElem? (i := 57) rfl, rfl⟩)) rfl
theorem wp_58 : Cond.selects "DotPressModel" ⟨"DotPressModel", "badAt", "(II)I"⟩ ⟨"DotPressModel", "badAt", "(II)I"⟩ ∈ lw_g := lw_in (List.mem_append_left _ (List.mem_map.mpr ⟨(⟨"DotPressModel", "badAt", "(II)I"⟩, _), List.mem_of_getElem? (i := 58) rfl, rfl⟩)) rfl
theorem wp_59 : Cond.selects "DotPressModel" ⟨"DotPressModel", "flow", "(I)Z"⟩ ⟨"DotPressModel", "flow", "(I)Z"⟩ ∈ lw_g := lw_in (List.mem_append_left _ (List.mem_map.mpr ⟨(⟨"DotPressModel", "flow", "(I)Z"⟩, _), List.mem_of_getElem? (i := 59) rfl, rfl⟩)) rfl
theorem wp_6 : Cond.selects "java/util/ArrayList" ⟨"java/util/ArrayList", "fastRemove", "([Ljava/lang/Object;I)V"⟩ ⟨"java/util/ArrayList", "fastRemove", "([Ljava/lang/Object;I)V"⟩ ∈ lw_g := lw_in (List.mem_append_left _ (List.mem_map.mpr ⟨(⟨"java/util/ArrayList", "fastRemove", "([Ljava/lang/Object;I)V"⟩, _), List.mem_of_getElem? (i := 6) rfl, rfl⟩)) rfl
theorem wp_60 : Cond.selects "DotPressModel" ⟨"DotPressModel", "breakOf", "(III)I"⟩ ⟨"DotPressModel", "breakOf", "(III)I"⟩ ∈ lw_g := lw_in (List.mem_append_left _ (List.mem_map.mpr ⟨(⟨"DotPressModel", "breakOf", "(III)I"⟩, _), List.mem_of_getElem? (i := 60) rfl, rfl⟩)) rfl
theorem wp_61 : Cond.selects "DotPressModel" ⟨"DotPressModel", "putCell", "(I)V"⟩ ⟨"DotPressModel", "putCell", "(I)V"⟩ ∈ lw_g := lw_in (List.mem_append_left _ (List.mem_map.mpr ⟨(⟨"DotPressModel", "putCell", "(I)V"⟩, _), List.mem_of_getElem? (i := 61) rfl, rfl⟩)) rfl
theorem wp_62 : Cond.selects "DotPressModel" ⟨"DotPressModel", "centre", "(I)V"⟩ ⟨"DotPressModel", "centre", "(I)V"⟩ ∈ lw_g := lw_in (List.mem_append_left _ (List.mem_map.mpr ⟨(⟨"DotPressModel", "centre", "(I)V"⟩, _), List.mem_of_getElem? (i := 62) rfl, rfl⟩)) rfl
theorem wp_63 : Cond.selects "DotPressModel" ⟨"DotPressModel", "onPage", "()I"⟩ ⟨"DotPressModel", "onPage", "()I"⟩ ∈ lw_g := lw_in (List.mem_append_left _ (List.mem_map.mpr ⟨(⟨"DotPressModel", "onPage", "()I"⟩, _), List.mem_of_getElem? (i := 63) rfl, rfl⟩)) rfl
theorem wp_64 : Cond.selects "DotPressModel" ⟨"DotPressModel", "hasHead", "()Z"⟩ ⟨"DotPressModel", "hasHead", "()Z"⟩ ∈ lw_g := lw_in (List.mem_append_left _ (List.mem_map.mpr ⟨(⟨"DotPressModel", "hasHead", "()Z"⟩, _), List.mem_of_getElem? (i := 64) rfl, rfl⟩)) rfl
theorem wp_65 : Cond.selects "DotPressModel" ⟨"DotPressModel", "lineFault", "(I)I"⟩ ⟨"DotPressModel", "lineFault", "(I)I"⟩ ∈ lw_g := lw_in (List.mem_append_left _ (List.mem_map.mpr ⟨(⟨"DotPressModel", "lineFault", "(I)I"⟩, _), List.mem_of_getElem? (i := 65) rfl, rfl⟩)) rfl
theorem wp_66 : Cond.selects "DotPressModel" ⟨"DotPressModel", "putRow", "(II)V"⟩ ⟨"DotPressModel", "putRow", "(II)V"⟩ ∈ lw_g := lw_in (List.mem_append_left _ (List.mem_map.mpr ⟨(⟨"DotPressModel", "putRow", "(II)V"⟩, _), List.mem_of_getElem? (i := 66) rfl, rfl⟩)) rfl
theorem wp_67 : Cond.selects "DotPressModel" ⟨"DotPressModel", "gather", "(I)V"⟩ ⟨"DotPressModel", "gather", "(I)V"⟩ ∈ lw_g := lw_in (List.mem_append_left _ (List.mem_map.mpr ⟨(⟨"DotPressModel", "gather", "(I)V"⟩, _), List.mem_of_getElem? (i := 67) rfl, rfl⟩)) rfl
theorem wp_68 : Cond.selects "DotPressModel" ⟨"DotPressModel", "addRows", "(II)V"⟩ ⟨"DotPressModel", "addRows", "(II)V"⟩ ∈ lw_g := lw_in (List.mem_append_left _ (List.mem_map.mpr ⟨(⟨"DotPressModel", "addRows", "(II)V"⟩, _), List.mem_of_getElem? (i := 68) rfl, rfl⟩)) rfl
theorem wp_69 : Cond.selects "DotPressModel" ⟨"DotPressModel", "addRow", "(IIII)V"⟩ ⟨"DotPressModel", "addRow", "(IIII)V"⟩ ∈ lw_g := lw_in (List.mem_append_left _ (List.mem_map.mpr ⟨(⟨"DotPressModel", "addRow", "(IIII)V"⟩, _), List.mem_of_getElem? (i := 69) rfl, rfl⟩)) rfl
theorem wp_7 : Cond.selects "DotPress" ⟨"DotPress", "addRule", "(III)I"⟩ ⟨"DotPress", "addRule", "(III)I"⟩ ∈ lw_g := lw_in (List.mem_append_left _ (List.mem_map.mpr ⟨(⟨"DotPress", "addRule", "(III)I"⟩, _), List.mem_of_getElem? (i := 7) rfl, rfl⟩)) rfl
theorem wp_70 : Cond.selects "DotPressModel" ⟨"DotPressModel", "addIndicator", "(III)V"⟩ ⟨"DotPressModel", "addIndicator", "(III)V"⟩ ∈ lw_g := lw_in (List.mem_append_left _ (List.mem_map.mpr ⟨(⟨"DotPressModel", "addIndicator", "(III)V"⟩, _), List.mem_of_getElem? (i := 70) rfl, rfl⟩)) rfl
theorem wp_71 : Cond.selects "DotPressModel" ⟨"DotPressModel", "readAll", "()I"⟩ ⟨"DotPressModel", "readAll", "()I"⟩ ∈ lw_g := lw_in (List.mem_append_left _ (List.mem_map.mpr ⟨(⟨"DotPressModel", "readAll", "()I"⟩, _), List.mem_of_getElem? (i := 71) rfl, rfl⟩)) rfl
theorem wp_72 : Cond.selects "DotPressModel" ⟨"DotPressModel", "tell", "(I)Z"⟩ ⟨"DotPressModel", "tell", "(I)Z"⟩ ∈ lw_g := lw_in (List.mem_append_left _ (List.mem_map.mpr ⟨(⟨"DotPressModel", "tell", "(I)Z"⟩, _), List.mem_of_getElem? (i := 72) rfl, rfl⟩)) rfl
theorem wp_73 : Cond.selects "DotPressModel" ⟨"DotPressModel", "readWord", "(II)I"⟩ ⟨"DotPressModel", "readWord", "(II)I"⟩ ∈ lw_g := lw_in (List.mem_append_left _ (List.mem_map.mpr ⟨(⟨"DotPressModel", "readWord", "(II)I"⟩, _), List.mem_of_getElem? (i := 73) rfl, rfl⟩)) rfl
theorem wp_74 : Cond.selects "DotPressModel" ⟨"DotPressModel", "longest", "(III)I"⟩ ⟨"DotPressModel", "longest", "(III)I"⟩ ∈ lw_g := lw_in (List.mem_append_left _ (List.mem_map.mpr ⟨(⟨"DotPressModel", "longest", "(III)I"⟩, _), List.mem_of_getElem? (i := 74) rfl, rfl⟩)) rfl
theorem wp_75 : Cond.selects "DotPressModel" ⟨"DotPressModel", "stands", "(III)Z"⟩ ⟨"DotPressModel", "stands", "(III)Z"⟩ ∈ lw_g := lw_in (List.mem_append_left _ (List.mem_map.mpr ⟨(⟨"DotPressModel", "stands", "(III)Z"⟩, _), List.mem_of_getElem? (i := 75) rfl, rfl⟩)) rfl
theorem wp_76 : Cond.selects "DotPressModel" ⟨"DotPressModel", "rowCell", "(II)I"⟩ ⟨"DotPressModel", "rowCell", "(II)I"⟩ ∈ lw_g := lw_in (List.mem_append_left _ (List.mem_map.mpr ⟨(⟨"DotPressModel", "rowCell", "(II)I"⟩, _), List.mem_of_getElem? (i := 76) rfl, rfl⟩)) rfl
theorem wp_77 : Cond.selects "DotPressModel" ⟨"DotPressModel", "isSmallRule", "(I)Z"⟩ ⟨"DotPressModel", "isSmallRule", "(I)Z"⟩ ∈ lw_g := lw_in (List.mem_append_left _ (List.mem_map.mpr ⟨(⟨"DotPressModel", "isSmallRule", "(I)Z"⟩, _), List.mem_of_getElem? (i := 77) rfl, rfl⟩)) rfl
theorem wp_78 : Cond.selects "DotPressModel" ⟨"DotPressModel", "findCan", "()V"⟩ ⟨"DotPressModel", "findCan", "()V"⟩ ∈ lw_g := lw_in (List.mem_append_left _ (List.mem_map.mpr ⟨(⟨"DotPressModel", "findCan", "()V"⟩, _), List.mem_of_getElem? (i := 78) rfl, rfl⟩)) rfl
theorem wp_79 : Cond.selects "DotPressModel" ⟨"DotPressModel", "mayBlank", "(IZ)Z"⟩ ⟨"DotPressModel", "mayBlank", "(IZ)Z"⟩ ∈ lw_g := lw_in (List.mem_append_left _ (List.mem_map.mpr ⟨(⟨"DotPressModel", "mayBlank", "(IZ)Z"⟩, _), List.mem_of_getElem? (i := 79) rfl, rfl⟩)) rfl
theorem wp_8 : Cond.selects "DotPress" ⟨"DotPress", "isRowOfCells", "(II)Z"⟩ ⟨"DotPress", "isRowOfCells", "(II)Z"⟩ ∈ lw_g := lw_in (List.mem_append_left _ (List.mem_map.mpr ⟨(⟨"DotPress", "isRowOfCells", "(II)Z"⟩, _), List.mem_of_getElem? (i := 8) rfl, rfl⟩)) rfl
theorem wp_80 : Cond.selects "DotPressModel" ⟨"DotPressModel", "looksLike", "(II)Z"⟩ ⟨"DotPressModel", "looksLike", "(II)Z"⟩ ∈ lw_g := lw_in (List.mem_append_left _ (List.mem_map.mpr ⟨(⟨"DotPressModel", "looksLike", "(II)Z"⟩, _), List.mem_of_getElem? (i := 80) rfl, rfl⟩)) rfl
theorem wp_81 : Cond.selects "DotPressModel" ⟨"DotPressModel", "may", "(IIIZ)Z"⟩ ⟨"DotPressModel", "may", "(IIIZ)Z"⟩ ∈ lw_g := lw_in (List.mem_append_left _ (List.mem_map.mpr ⟨(⟨"DotPressModel", "may", "(IIIZ)Z"⟩, _), List.mem_of_getElem? (i := 81) rfl, rfl⟩)) rfl
theorem wp_82 : Cond.selects "DotPressModel" ⟨"DotPressModel", "next", "(II)I"⟩ ⟨"DotPressModel", "next", "(II)I"⟩ ∈ lw_g := lw_in (List.mem_append_left _ (List.mem_map.mpr ⟨(⟨"DotPressModel", "next", "(II)I"⟩, _), List.mem_of_getElem? (i := 82) rfl, rfl⟩)) rfl
theorem wp_83 : Cond.selects "DotPressModel" ⟨"DotPressModel", "go", "(IIZ)V"⟩ ⟨"DotPressModel", "go", "(IIZ)V"⟩ ∈ lw_g := lw_in (List.mem_append_left _ (List.mem_map.mpr ⟨(⟨"DotPressModel", "go", "(IIZ)V"⟩, _), List.mem_of_getElem? (i := 83) rfl, rfl⟩)) rfl
theorem wp_84 : Cond.selects "DotPressModel" ⟨"DotPressModel", "keep", "()V"⟩ ⟨"DotPressModel", "keep", "()V"⟩ ∈ lw_g := lw_in (List.mem_append_left _ (List.mem_map.mpr ⟨(⟨"DotPressModel", "keep", "()V"⟩, _), List.mem_of_getElem? (i := 84) rfl, rfl⟩)) rfl
theorem wp_85 : Cond.selects "DotPressModel" ⟨"DotPressModel", "isShort", "(I)Z"⟩ ⟨"DotPressModel", "isShort", "(I)Z"⟩ ∈ lw_g := lw_in (List.mem_append_left _ (List.mem_map.mpr ⟨(⟨"DotPressModel", "isShort", "(I)Z"⟩, _), List.mem_of_getElem? (i := 85) rfl, rfl⟩)) rfl
theorem wp_86 : Cond.selects "DotPressModel" ⟨"DotPressModel", "isReadable", "(I)Z"⟩ ⟨"DotPressModel", "isReadable", "(I)Z"⟩ ∈ lw_g := lw_in (List.mem_append_left _ (List.mem_map.mpr ⟨(⟨"DotPressModel", "isReadable", "(I)Z"⟩, _), List.mem_of_getElem? (i := 86) rfl, rfl⟩)) rfl
theorem wp_87 : Cond.selects "DotPressModel" ⟨"DotPressModel", "alike", "(II)I"⟩ ⟨"DotPressModel", "alike", "(II)I"⟩ ∈ lw_g := lw_in (List.mem_append_left _ (List.mem_map.mpr ⟨(⟨"DotPressModel", "alike", "(II)I"⟩, _), List.mem_of_getElem? (i := 87) rfl, rfl⟩)) rfl
theorem wp_88 : Cond.selects "DotPressModel" ⟨"DotPressModel", "gatherSigns", "(I)V"⟩ ⟨"DotPressModel", "gatherSigns", "(I)V"⟩ ∈ lw_g := lw_in (List.mem_append_left _ (List.mem_map.mpr ⟨(⟨"DotPressModel", "gatherSigns", "(I)V"⟩, _), List.mem_of_getElem? (i := 88) rfl, rfl⟩)) rfl
theorem wp_89 : Cond.selects "DotPressModel" ⟨"DotPressModel", "putBack", "()V"⟩ ⟨"DotPressModel", "putBack", "()V"⟩ ∈ lw_g := lw_in (List.mem_append_left _ (List.mem_map.mpr ⟨(⟨"DotPressModel", "putBack", "()V"⟩, _), List.mem_of_getElem? (i := 89) rfl, rfl⟩)) rfl
theorem wp_9 : Cond.selects "DotPress" ⟨"DotPress", "changeIndicator", "(II)I"⟩ ⟨"DotPress", "changeIndicator", "(II)I"⟩ ∈ lw_g := lw_in (List.mem_append_left _ (List.mem_map.mpr ⟨(⟨"DotPress", "changeIndicator", "(II)I"⟩, _), List.mem_of_getElem? (i := 9) rfl, rfl⟩)) rfl
theorem wp_90 : Cond.selects "DotPressModel" ⟨"DotPressModel", "isUnreadable", "(I)Z"⟩ ⟨"DotPressModel", "isUnreadable", "(I)Z"⟩ ∈ lw_g := lw_in (List.mem_append_left _ (List.mem_map.mpr ⟨(⟨"DotPressModel", "isUnreadable", "(I)Z"⟩, _), List.mem_of_getElem? (i := 90) rfl, rfl⟩)) rfl
theorem ckw_0 : ∀ k, k < 3 → u_lay RJx4a65c TJx4a65c k ∈ lw_g := fun k hk => match k, hk with
  | 0, _ => w1_87
  | 1, _ => w1_83
  | 2, _ => w1_85
  | n + 3, h => absurd h (by omega)
theorem ck_0 : Ck 0 RJx4a65c TJx4a65c 3 tyJx4a65c := ⟨rfl, fun w hw => by obtain ⟨k, hk, e⟩ := List.mem_map.mp hw; rw [← e]; exact ckw_0 k (List.mem_range.mp hk), tyJx4a65c_ok, nmJx4a65c⟩
theorem ckw_1 : ∀ k, k < 4 → u_lay RX0 TX0 k ∈ lw_g := fun k hk => match k, hk with
  | 0, _ => w3_48
  | 1, _ => w3_50
  | 2, _ => w3_52
  | 3, _ => w3_54
  | n + 4, h => absurd h (by omega)
theorem ck_1 : Ck 1 RX0 TX0 4 tyX0 := ⟨rfl, fun w hw => by obtain ⟨k, hk, e⟩ := List.mem_map.mp hw; rw [← e]; exact ckw_1 k (List.mem_range.mp hk), tyX0_ok, nmX0⟩
theorem ckw_2 : ∀ k, k < 3 → u_lay RX1 TX1 k ∈ lw_g := fun k hk => match k, hk with
  | 0, _ => w1_50
  | 1, _ => w1_52
  | 2, _ => w1_54
  | n + 3, h => absurd h (by omega)
theorem ck_2 : Ck 2 RX1 TX1 3 tyX1 := ⟨rfl, fun w hw => by obtain ⟨k, hk, e⟩ := List.mem_map.mp hw; rw [← e]; exact ckw_2 k (List.mem_range.mp hk), tyX1_ok, nmX1⟩
theorem ckw_3 : ∀ k, k < 3 → u_lay RX2 TX2 k ∈ lw_g := fun k hk => match k, hk with
  | 0, _ => w4_57
  | 1, _ => w4_59
  | 2, _ => w4_61
  | n + 3, h => absurd h (by omega)
theorem ck_3 : Ck 3 RX2 TX2 3 tyX2 := ⟨rfl, fun w hw => by obtain ⟨k, hk, e⟩ := List.mem_map.mp hw; rw [← e]; exact ckw_3 k (List.mem_range.mp hk), tyX2_ok, nmX2⟩
theorem ckw_4 : ∀ k, k < 8 → u_lay RX3 TX3 k ∈ lw_g := fun k hk => match k, hk with
  | 0, _ => w1_203
  | 1, _ => w1_205
  | 2, _ => w1_207
  | 3, _ => w1_209
  | 4, _ => w1_211
  | 5, _ => w1_213
  | 6, _ => w1_215
  | 7, _ => w1_217
  | n + 8, h => absurd h (by omega)
theorem ck_4 : Ck 4 RX3 TX3 8 tyX3 := ⟨rfl, fun w hw => by obtain ⟨k, hk, e⟩ := List.mem_map.mp hw; rw [← e]; exact ckw_4 k (List.mem_range.mp hk), tyX3_ok, nmX3⟩
theorem ckw_5 : ∀ k, k < 11 → u_lay RX4 TX4 k ∈ lw_g := fun k hk => match k, hk with
  | 0, _ => w2_2
  | 1, _ => w2_4
  | 2, _ => w2_6
  | 3, _ => w2_8
  | 4, _ => w2_10
  | 5, _ => w2_12
  | 6, _ => w2_14
  | 7, _ => w2_16
  | 8, _ => w2_18
  | 9, _ => w2_20
  | 10, _ => w2_22
  | n + 11, h => absurd h (by omega)
theorem ck_5 : Ck 5 RX4 TX4 11 tyX4 := ⟨rfl, fun w hw => by obtain ⟨k, hk, e⟩ := List.mem_map.mp hw; rw [← e]; exact ckw_5 k (List.mem_range.mp hk), tyX4_ok, nmX4⟩
theorem ckw_6 : ∀ k, k < 4 → u_lay RX5 TX5 k ∈ lw_g := fun k hk => match k, hk with
  | 0, _ => w3_151
  | 1, _ => w3_153
  | 2, _ => w3_155
  | 3, _ => w3_157
  | n + 4, h => absurd h (by omega)
theorem ck_6 : Ck 6 RX5 TX5 4 tyX5 := ⟨rfl, fun w hw => by obtain ⟨k, hk, e⟩ := List.mem_map.mp hw; rw [← e]; exact ckw_6 k (List.mem_range.mp hk), tyX5_ok, nmX5⟩
theorem ckw_7 : ∀ k, k < 12 → u_lay RX6 TX6 k ∈ lw_g := fun k hk => match k, hk with
  | 0, _ => w1_154
  | 1, _ => w1_156
  | 2, _ => w1_158
  | 3, _ => w1_160
  | 4, _ => w1_162
  | 5, _ => w1_164
  | 6, _ => w1_166
  | 7, _ => w1_168
  | 8, _ => w1_170
  | 9, _ => w1_172
  | 10, _ => w1_174
  | 11, _ => w1_176
  | n + 12, h => absurd h (by omega)
theorem ck_7 : Ck 7 RX6 TX6 12 tyX6 := ⟨rfl, fun w hw => by obtain ⟨k, hk, e⟩ := List.mem_map.mp hw; rw [← e]; exact ckw_7 k (List.mem_range.mp hk), tyX6_ok, nmX6⟩
theorem ckw_8 : ∀ k, k < 3 → u_lay RX7 TX7 k ∈ lw_g := fun k hk => match k, hk with
  | 0, _ => w2_37
  | 1, _ => w2_39
  | 2, _ => w2_41
  | n + 3, h => absurd h (by omega)
theorem ck_8 : Ck 8 RX7 TX7 3 tyX7 := ⟨rfl, fun w hw => by obtain ⟨k, hk, e⟩ := List.mem_map.mp hw; rw [← e]; exact ckw_8 k (List.mem_range.mp hk), tyX7_ok, nmX7⟩
theorem ckw_9 : ∀ k, k < 8 → u_lay RX8 TX8 k ∈ lw_g := fun k hk => match k, hk with
  | 0, _ => w1_112
  | 1, _ => w1_114
  | 2, _ => w1_116
  | 3, _ => w1_118
  | 4, _ => w1_120
  | 5, _ => w1_122
  | 6, _ => w1_124
  | 7, _ => w1_126
  | n + 8, h => absurd h (by omega)
theorem ck_9 : Ck 9 RX8 TX8 8 tyX8 := ⟨rfl, fun w hw => by obtain ⟨k, hk, e⟩ := List.mem_map.mp hw; rw [← e]; exact ckw_9 k (List.mem_range.mp hk), tyX8_ok, nmX8⟩
theorem ckw_10 : ∀ k, k < 8 → u_lay RX9 TX9 k ∈ lw_g := fun k hk => match k, hk with
  | 0, _ => w2_200
  | 1, _ => w2_202
  | 2, _ => w2_204
  | 3, _ => w2_206
  | 4, _ => w2_208
  | 5, _ => w2_210
  | 6, _ => w2_212
  | 7, _ => w2_214
  | n + 8, h => absurd h (by omega)
theorem ck_10 : Ck 10 RX9 TX9 8 tyX9 := ⟨rfl, fun w hw => by obtain ⟨k, hk, e⟩ := List.mem_map.mp hw; rw [← e]; exact ckw_10 k (List.mem_range.mp hk), tyX9_ok, nmX9⟩
theorem ckw_11 : ∀ k, k < 2 → u_lay RX10 TX10 k ∈ lw_g := fun k hk => match k, hk with
  | 0, _ => w1_92
  | 1, _ => w1_94
  | n + 2, h => absurd h (by omega)
theorem ck_11 : Ck 11 RX10 TX10 2 tyX10 := ⟨rfl, fun w hw => by obtain ⟨k, hk, e⟩ := List.mem_map.mp hw; rw [← e]; exact ckw_11 k (List.mem_range.mp hk), tyX10_ok, nmX10⟩
theorem ckw_12 : ∀ k, k < 19 → u_lay RX11 TX11 k ∈ lw_g := fun k hk => match k, hk with
  | 0, _ => w2_63
  | 1, _ => w2_65
  | 2, _ => w2_67
  | 3, _ => w2_69
  | 4, _ => w2_71
  | 5, _ => w2_73
  | 6, _ => w2_75
  | 7, _ => w2_77
  | 8, _ => w2_79
  | 9, _ => w2_81
  | 10, _ => w2_83
  | 11, _ => w2_85
  | 12, _ => w2_87
  | 13, _ => w2_89
  | 14, _ => w2_91
  | 15, _ => w2_93
  | 16, _ => w2_95
  | 17, _ => w2_97
  | 18, _ => w2_99
  | n + 19, h => absurd h (by omega)
theorem ck_12 : Ck 12 RX11 TX11 19 tyX11 := ⟨rfl, fun w hw => by obtain ⟨k, hk, e⟩ := List.mem_map.mp hw; rw [← e]; exact ckw_12 k (List.mem_range.mp hk), tyX11_ok, nmX11⟩
theorem ckw_13 : ∀ k, k < 67 → u_lay RX12 TX12 k ∈ lw_g := fun k hk => match k, hk with
  | 0, _ => w6_126
  | 1, _ => w6_128
  | 2, _ => w6_130
  | 3, _ => w6_132
  | 4, _ => w6_134
  | 5, _ => w6_136
  | 6, _ => w6_138
  | 7, _ => w6_140
  | 8, _ => w6_142
  | 9, _ => w6_144
  | 10, _ => w6_146
  | 11, _ => w6_148
  | 12, _ => w6_150
  | 13, _ => w6_152
  | 14, _ => w6_154
  | 15, _ => w6_156
  | 16, _ => w6_158
  | 17, _ => w6_160
  | 18, _ => w6_162
  | 19, _ => w6_164
  | 20, _ => w6_166
  | 21, _ => w6_168
  | 22, _ => w6_170
  | 23, _ => w6_172
  | 24, _ => w6_174
  | 25, _ => w6_176
  | 26, _ => w6_178
  | 27, _ => w6_180
  | 28, _ => w6_182
  | 29, _ => w6_184
  | 30, _ => w6_186
  | 31, _ => w6_188
  | 32, _ => w6_190
  | 33, _ => w6_192
  | 34, _ => w6_194
  | 35, _ => w6_196
  | 36, _ => w6_198
  | 37, _ => w6_200
  | 38, _ => w6_202
  | 39, _ => w6_204
  | 40, _ => w6_206
  | 41, _ => w6_208
  | 42, _ => w6_210
  | 43, _ => w6_212
  | 44, _ => w6_214
  | 45, _ => w6_216
  | 46, _ => w6_218
  | 47, _ => w6_220
  | 48, _ => w6_222
  | 49, _ => w6_224
  | 50, _ => w6_226
  | 51, _ => w6_228
  | 52, _ => w6_230
  | 53, _ => w6_232
  | 54, _ => w6_234
  | 55, _ => w6_236
  | 56, _ => w6_238
  | 57, _ => w7_0
  | 58, _ => w7_2
  | 59, _ => w7_4
  | 60, _ => w7_6
  | 61, _ => w7_8
  | 62, _ => w7_10
  | 63, _ => w7_12
  | 64, _ => w7_14
  | 65, _ => w7_16
  | 66, _ => w7_18
  | n + 67, h => absurd h (by omega)
theorem ck_13 : Ck 13 RX12 TX12 67 tyX12 := ⟨rfl, fun w hw => by obtain ⟨k, hk, e⟩ := List.mem_map.mp hw; rw [← e]; exact ckw_13 k (List.mem_range.mp hk), tyX12_ok, nmX12⟩
