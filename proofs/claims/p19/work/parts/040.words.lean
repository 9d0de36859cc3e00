section
theorem mT1 {w : Cond} (h : w ∈ tables_1_1) : w ∈ lw_tbl := List.mem_append_right _ (show w ∈ tables_1 from List.mem_append_left _ h)
theorem mT2 {w : Cond} (h : w ∈ tables_1_2) : w ∈ lw_tbl := List.mem_append_right _ (show w ∈ tables_1 from List.mem_append_right _ (List.mem_append_left _ h))
theorem mT3 {w : Cond} (h : w ∈ tables_1_3) : w ∈ lw_tbl := List.mem_append_right _ (show w ∈ tables_1 from List.mem_append_right _ (List.mem_append_right _ (List.mem_append_left _ h)))
theorem mT4 {w : Cond} (h : w ∈ tables_1_4) : w ∈ lw_tbl := List.mem_append_right _ (show w ∈ tables_1 from List.mem_append_right _ (List.mem_append_right _ (List.mem_append_right _ (List.mem_append_left _ h))))
theorem mT5 {w : Cond} (h : w ∈ tables_1_5) : w ∈ lw_tbl := List.mem_append_right _ (show w ∈ tables_1 from List.mem_append_right _ (List.mem_append_right _ (List.mem_append_right _ (List.mem_append_right _ (List.mem_append_left _ h)))))
theorem mT6 {w : Cond} (h : w ∈ tables_1_6) : w ∈ lw_tbl := List.mem_append_right _ (show w ∈ tables_1 from List.mem_append_right _ (List.mem_append_right _ (List.mem_append_right _ (List.mem_append_right _ (List.mem_append_right _ (List.mem_append_left _ h))))))
theorem mT7 {w : Cond} (h : w ∈ tables_1_7) : w ∈ lw_tbl := List.mem_append_right _ (show w ∈ tables_1 from List.mem_append_right _ (List.mem_append_right _ (List.mem_append_right _ (List.mem_append_right _ (List.mem_append_right _ (List.mem_append_right _ (List.mem_append_left _ h)))))))
theorem mT8 {w : Cond} (h : w ∈ tables_1_8) : w ∈ lw_tbl := List.mem_append_right _ (show w ∈ tables_1 from List.mem_append_right _ (List.mem_append_right _ (List.mem_append_right _ (List.mem_append_right _ (List.mem_append_right _ (List.mem_append_right _ (List.mem_append_right _ (h))))))))
theorem w1_101 : (Jvm.Cond.code ({ cls := "DotPress$Source", name := "<init>", desc := "()V" } : Jvm.MethodName) prog_10_method_1_code (1 : Nat) (Option.none : Option Jvm.ClassFile.FieldType)) ∈ lw_g := lw_in (mT1 (List.mem_of_getElem? (i := 101) rfl)) rfl
theorem w1_134 : (Jvm.Cond.code ({ cls := "DotPress$Setting", name := "<init>", desc := "()V" } : Jvm.MethodName) prog_8_method_1_code (1 : Nat) (Option.none : Option Jvm.ClassFile.FieldType)) ∈ lw_g := lw_in (mT1 (List.mem_of_getElem? (i := 134) rfl)) rfl
theorem w1_183 : (Jvm.Cond.code ({ cls := "DotPress$Reader", name := "<init>", desc := "()V" } : Jvm.MethodName) prog_5_method_1_code (1 : Nat) (Option.none : Option Jvm.ClassFile.FieldType)) ∈ lw_g := lw_in (mT1 (List.mem_of_getElem? (i := 183) rfl)) rfl
theorem w1_224 : (Jvm.Cond.code ({ cls := "DotPress$Readings", name := "<init>", desc := "(LDotPress$Reader;)V" } : Jvm.MethodName) prog_6_method_1_code (2 : Nat) (Option.none : Option Jvm.ClassFile.FieldType)) ∈ lw_g := lw_in (mT1 (List.mem_of_getElem? (i := 224) rfl)) rfl
theorem w1_28 : (Jvm.Cond.code ({ cls := "DotPress", name := "<init>", desc := "()V" } : Jvm.MethodName) prog_1_method_1_code (1 : Nat) (Option.none : Option Jvm.ClassFile.FieldType)) ∈ lw_g := lw_in (mT1 (List.mem_of_getElem? (i := 28) rfl)) rfl
theorem w1_31 : (Jvm.Cond.code ({ cls := "java/lang/Object", name := "<init>", desc := "()V" } : Jvm.MethodName) object_method_1_code (1 : Nat) (Option.none : Option Jvm.ClassFile.FieldType)) ∈ lw_g := lw_in (mT1 (List.mem_of_getElem? (i := 31) rfl)) rfl
theorem w1_36 : (Jvm.Cond.code ({ cls := "DotPress$Ints", name := "<init>", desc := "(I)V" } : Jvm.MethodName) prog_3_method_1_code (2 : Nat) (Option.none : Option Jvm.ClassFile.FieldType)) ∈ lw_g := lw_in (mT1 (List.mem_of_getElem? (i := 36) rfl)) rfl
theorem w1_62 : (Jvm.Cond.code ({ cls := "DotPress$Tables", name := "<init>", desc := "()V" } : Jvm.MethodName) prog_12_method_1_code (1 : Nat) (Option.none : Option Jvm.ClassFile.FieldType)) ∈ lw_g := lw_in (mT1 (List.mem_of_getElem? (i := 62) rfl)) rfl
theorem w1_68 : (Jvm.Cond.code ({ cls := "java/util/ArrayList", name := "<init>", desc := "()V" } : Jvm.MethodName) prog_23_method_2_code (1 : Nat) (Option.none : Option Jvm.ClassFile.FieldType)) ∈ lw_g := lw_in (mT1 (List.mem_of_getElem? (i := 68) rfl)) rfl
theorem w1_71 : (Jvm.Cond.code ({ cls := "java/util/AbstractList", name := "<init>", desc := "()V" } : Jvm.MethodName) prog_22_method_1_code (1 : Nat) (Option.none : Option Jvm.ClassFile.FieldType)) ∈ lw_g := lw_in (mT1 (List.mem_of_getElem? (i := 71) rfl)) rfl
theorem w1_74 : (Jvm.Cond.code ({ cls := "java/util/AbstractCollection", name := "<init>", desc := "()V" } : Jvm.MethodName) prog_21_method_1_code (1 : Nat) (Option.none : Option Jvm.ClassFile.FieldType)) ∈ lw_g := lw_in (mT1 (List.mem_of_getElem? (i := 74) rfl)) rfl
theorem w2_105 : (Jvm.Cond.code ({ cls := "DotPress", name := "feed", desc := "(IIIII)I" } : Jvm.MethodName) prog_1_method_2_code (6 : Nat) (Option.some Jvm.ClassFile.FieldType.int)) ∈ lw_g := lw_in (mT2 (List.mem_of_getElem? (i := 105) rfl)) rfl
theorem w2_109 : (Jvm.Cond.code ({ cls := "DotPress", name := "refuse", desc := "(I)I" } : Jvm.MethodName) prog_1_method_54_code (2 : Nat) (Option.some Jvm.ClassFile.FieldType.int)) ∈ lw_g := lw_in (mT2 (List.mem_of_getElem? (i := 109) rfl)) rfl
theorem w2_113 : (Jvm.Cond.code ({ cls := "DotPress", name := "feedFour", desc := "(I)V" } : Jvm.MethodName) prog_1_method_3_code (3 : Nat) (Option.none : Option Jvm.ClassFile.FieldType)) ∈ lw_g := lw_in (mT2 (List.mem_of_getElem? (i := 113) rfl)) rfl
theorem w2_117 : (Jvm.Cond.code ({ cls := "DotPress$Ints", name := "add", desc := "(I)V" } : Jvm.MethodName) prog_3_method_2_code (2 : Nat) (Option.none : Option Jvm.ClassFile.FieldType)) ∈ lw_g := lw_in (mT2 (List.mem_of_getElem? (i := 117) rfl)) rfl
theorem w2_120 : (Jvm.Cond.code ({ cls := "java/util/Arrays", name := "copyOf", desc := "([II)[I" } : Jvm.MethodName) prog_24_method_123_code (3 : Nat) (Option.some (Jvm.ClassFile.FieldType.array Jvm.ClassFile.FieldType.int))) ∈ lw_g := lw_in (mT2 (List.mem_of_getElem? (i := 120) rfl)) rfl
theorem w2_130 : (Jvm.Cond.code ({ cls := "java/lang/Math", name := "min", desc := "(II)I" } : Jvm.MethodName) prog_19_method_69_code (2 : Nat) (Option.some Jvm.ClassFile.FieldType.int)) ∈ lw_g := lw_in (mT2 (List.mem_of_getElem? (i := 130) rfl)) rfl
theorem w2_137 : (Jvm.Cond.code ({ cls := "DotPress", name := "done", desc := "(I)I" } : Jvm.MethodName) prog_1_method_53_code (2 : Nat) (Option.some Jvm.ClassFile.FieldType.int)) ∈ lw_g := lw_in (mT2 (List.mem_of_getElem? (i := 137) rfl)) rfl
theorem w2_141 : (Jvm.Cond.code ({ cls := "DotPress", name := "end", desc := "(I)I" } : Jvm.MethodName) prog_1_method_4_code (2 : Nat) (Option.some Jvm.ClassFile.FieldType.int)) ∈ lw_g := lw_in (mT2 (List.mem_of_getElem? (i := 141) rfl)) rfl
theorem w2_145 : (Jvm.Cond.code ({ cls := "DotPress$Ints", name := "keep", desc := "(I)V" } : Jvm.MethodName) prog_3_method_6_code (2 : Nat) (Option.none : Option Jvm.ClassFile.FieldType)) ∈ lw_g := lw_in (mT2 (List.mem_of_getElem? (i := 145) rfl)) rfl
theorem w2_149 : (Jvm.Cond.code ({ cls := "java/lang/Math", name := "max", desc := "(II)I" } : Jvm.MethodName) prog_19_method_65_code (2 : Nat) (Option.some Jvm.ClassFile.FieldType.int)) ∈ lw_g := lw_in (mT2 (List.mem_of_getElem? (i := 149) rfl)) rfl
theorem w2_153 : (Jvm.Cond.code ({ cls := "DotPress", name := "table", desc := "(III)I" } : Jvm.MethodName) prog_1_method_5_code (5 : Nat) (Option.some Jvm.ClassFile.FieldType.int)) ∈ lw_g := lw_in (mT2 (List.mem_of_getElem? (i := 153) rfl)) rfl
theorem w2_157 : (Jvm.Cond.code ({ cls := "DotPress$Tables", name := "isFull", desc := "()Z" } : Jvm.MethodName) prog_12_method_2_code (1 : Nat) (Option.some Jvm.ClassFile.FieldType.boolean)) ∈ lw_g := lw_in (mT2 (List.mem_of_getElem? (i := 157) rfl)) rfl
theorem w2_161 : (Jvm.Cond.code ({ cls := "java/util/ArrayList", name := "size", desc := "()I" } : Jvm.MethodName) prog_23_method_8_code (1 : Nat) (Option.some Jvm.ClassFile.FieldType.int)) ∈ lw_g := lw_in (mT2 (List.mem_of_getElem? (i := 161) rfl)) rfl
theorem w2_166 : (Jvm.Cond.code ({ cls := "DotPress$Table", name := "<init>", desc := "(IILDotPress$Table;LDotPress$Table;)V" } : Jvm.MethodName) prog_11_method_1_code (5 : Nat) (Option.none : Option Jvm.ClassFile.FieldType)) ∈ lw_g := lw_in (mT2 (List.mem_of_getElem? (i := 166) rfl)) rfl
theorem w2_220 : (Jvm.Cond.code ({ cls := "DotPress$Tables", name := "make", desc := "(LDotPress$Table;)I" } : Jvm.MethodName) prog_12_method_5_code (2 : Nat) (Option.some Jvm.ClassFile.FieldType.int)) ∈ lw_g := lw_in (mT2 (List.mem_of_getElem? (i := 220) rfl)) rfl
theorem w2_224 : (Jvm.Cond.code ({ cls := "java/util/ArrayList", name := "add", desc := "(Ljava/lang/Object;)Z" } : Jvm.MethodName) prog_23_method_25_code (2 : Nat) (Option.some Jvm.ClassFile.FieldType.boolean)) ∈ lw_g := lw_in (mT2 (List.mem_of_getElem? (i := 224) rfl)) rfl
theorem w2_228 : (Jvm.Cond.code ({ cls := "java/util/ArrayList", name := "add", desc := "(Ljava/lang/Object;[Ljava/lang/Object;I)V" } : Jvm.MethodName) prog_23_method_24_code (4 : Nat) (Option.none : Option Jvm.ClassFile.FieldType)) ∈ lw_g := lw_in (mT2 (List.mem_of_getElem? (i := 228) rfl)) rfl
theorem w2_232 : (Jvm.Cond.code ({ cls := "java/util/ArrayList", name := "grow", desc := "()[Ljava/lang/Object;" } : Jvm.MethodName) prog_23_method_7_code (1 : Nat) (Option.some (Jvm.ClassFile.FieldType.array (Jvm.ClassFile.FieldType.object "java/lang/Object")))) ∈ lw_g := lw_in (mT2 (List.mem_of_getElem? (i := 232) rfl)) rfl
theorem w2_236 : (Jvm.Cond.code ({ cls := "java/util/ArrayList", name := "grow", desc := "(I)[Ljava/lang/Object;" } : Jvm.MethodName) prog_23_method_6_code (4 : Nat) (Option.some (Jvm.ClassFile.FieldType.array (Jvm.ClassFile.FieldType.object "java/lang/Object")))) ∈ lw_g := lw_in (mT2 (List.mem_of_getElem? (i := 236) rfl)) rfl
theorem w2_239 : (Jvm.Cond.code ({ cls := "jdk/internal/util/ArraysSupport", name := "newLength", desc := "(III)I" } : Jvm.MethodName) prog_30_method_27_code (4 : Nat) (Option.some Jvm.ClassFile.FieldType.int)) ∈ lw_g := lw_in (mT2 (List.mem_of_getElem? (i := 239) rfl)) rfl
theorem w2_29 : (Jvm.Cond.code ({ cls := "DotPress$Sheet", name := "<init>", desc := "()V" } : Jvm.MethodName) prog_9_method_1_code (1 : Nat) (Option.none : Option Jvm.ClassFile.FieldType)) ∈ lw_g := lw_in (mT2 (List.mem_of_getElem? (i := 29) rfl)) rfl
theorem w3_104 : (Jvm.Cond.code ({ cls := "DotPress", name := "rule", desc := "(III)I" } : Jvm.MethodName) prog_1_method_8_code (5 : Nat) (Option.some Jvm.ClassFile.FieldType.int)) ∈ lw_g := lw_in (mT3 (List.mem_of_getElem? (i := 104) rfl)) rfl
theorem w3_108 : (Jvm.Cond.code ({ cls := "DotPress", name := "addRule", desc := "(III)I" } : Jvm.MethodName) prog_1_method_9_code (6 : Nat) (Option.some Jvm.ClassFile.FieldType.int)) ∈ lw_g := lw_in (mT3 (List.mem_of_getElem? (i := 108) rfl)) rfl
theorem w3_111 : (Jvm.Cond.code ({ cls := "DotPress", name := "isCondition", desc := "(I)Z" } : Jvm.MethodName) prog_1_method_10_code (1 : Nat) (Option.some Jvm.ClassFile.FieldType.boolean)) ∈ lw_g := lw_in (mT3 (List.mem_of_getElem? (i := 111) rfl)) rfl
theorem w3_115 : (Jvm.Cond.code ({ cls := "DotPress$Ints", name := "isWithin", desc := "(IIII)Z" } : Jvm.MethodName) prog_3_method_7_code (6 : Nat) (Option.some Jvm.ClassFile.FieldType.boolean)) ∈ lw_g := lw_in (mT3 (List.mem_of_getElem? (i := 115) rfl)) rfl
theorem w3_119 : (Jvm.Cond.code ({ cls := "DotPress$Ints", name := "at", desc := "(I)I" } : Jvm.MethodName) prog_3_method_4_code (2 : Nat) (Option.some Jvm.ClassFile.FieldType.int)) ∈ lw_g := lw_in (mT3 (List.mem_of_getElem? (i := 119) rfl)) rfl
theorem w3_123 : (Jvm.Cond.code ({ cls := "DotPress", name := "isRowOfCells", desc := "(II)Z" } : Jvm.MethodName) prog_1_method_11_code (3 : Nat) (Option.some Jvm.ClassFile.FieldType.boolean)) ∈ lw_g := lw_in (mT3 (List.mem_of_getElem? (i := 123) rfl)) rfl
theorem w3_130 : (Jvm.Cond.code ({ cls := "DotPress$Ints", name := "slice", desc := "(II)[I" } : Jvm.MethodName) prog_3_method_8_code (5 : Nat) (Option.some (Jvm.ClassFile.FieldType.array Jvm.ClassFile.FieldType.int))) ∈ lw_g := lw_in (mT3 (List.mem_of_getElem? (i := 130) rfl)) rfl
theorem w3_133 : (Jvm.Cond.code ({ cls := "DotPress$Row", name := "<init>", desc := "(I[I[I)V" } : Jvm.MethodName) prog_7_method_1_code (4 : Nat) (Option.none : Option Jvm.ClassFile.FieldType)) ∈ lw_g := lw_in (mT3 (List.mem_of_getElem? (i := 133) rfl)) rfl
theorem w3_163 : (Jvm.Cond.code ({ cls := "DotPress$Table", name := "append", desc := "(LDotPress$Row;)V" } : Jvm.MethodName) prog_11_method_2_code (2 : Nat) (Option.none : Option Jvm.ClassFile.FieldType)) ∈ lw_g := lw_in (mT3 (List.mem_of_getElem? (i := 163) rfl)) rfl
theorem w3_169 : (Jvm.Cond.code ({ cls := "DotPress$Ints", name := "clear", desc := "()V" } : Jvm.MethodName) prog_3_method_5_code (1 : Nat) (Option.none : Option Jvm.ClassFile.FieldType)) ∈ lw_g := lw_in (mT3 (List.mem_of_getElem? (i := 169) rfl)) rfl
theorem w3_173 : (Jvm.Cond.code ({ cls := "DotPress", name := "condition", desc := "(III)I" } : Jvm.MethodName) prog_1_method_12_code (7 : Nat) (Option.some Jvm.ClassFile.FieldType.int)) ∈ lw_g := lw_in (mT3 (List.mem_of_getElem? (i := 173) rfl)) rfl
theorem w3_178 : (Jvm.Cond.code ({ cls := "DotPress", name := "indicator", desc := "(II)I" } : Jvm.MethodName) prog_1_method_13_code (4 : Nat) (Option.some Jvm.ClassFile.FieldType.int)) ∈ lw_g := lw_in (mT3 (List.mem_of_getElem? (i := 178) rfl)) rfl
theorem w3_182 : (Jvm.Cond.code ({ cls := "DotPress", name := "changeIndicator", desc := "(II)I" } : Jvm.MethodName) prog_1_method_14_code (4 : Nat) (Option.some Jvm.ClassFile.FieldType.int)) ∈ lw_g := lw_in (mT3 (List.mem_of_getElem? (i := 182) rfl)) rfl
theorem w3_186 : (Jvm.Cond.code ({ cls := "DotPress$Table", name := "mayHave", desc := "(I)Z" } : Jvm.MethodName) prog_11_method_4_code (2 : Nat) (Option.some Jvm.ClassFile.FieldType.boolean)) ∈ lw_g := lw_in (mT3 (List.mem_of_getElem? (i := 186) rfl)) rfl
theorem w3_190 : (Jvm.Cond.code ({ cls := "DotPress", name := "undo", desc := "()I" } : Jvm.MethodName) prog_1_method_15_code (1 : Nat) (Option.some Jvm.ClassFile.FieldType.int)) ∈ lw_g := lw_in (mT3 (List.mem_of_getElem? (i := 190) rfl)) rfl
theorem w3_194 : (Jvm.Cond.code ({ cls := "DotPress$Tables", name := "takeBack", desc := "()Z" } : Jvm.MethodName) prog_12_method_7_code (2 : Nat) (Option.some Jvm.ClassFile.FieldType.boolean)) ∈ lw_g := lw_in (mT3 (List.mem_of_getElem? (i := 194) rfl)) rfl
theorem w3_198 : (Jvm.Cond.code ({ cls := "java/util/ArrayList", name := "isEmpty", desc := "()Z" } : Jvm.MethodName) prog_23_method_9_code (1 : Nat) (Option.some Jvm.ClassFile.FieldType.boolean)) ∈ lw_g := lw_in (mT3 (List.mem_of_getElem? (i := 198) rfl)) rfl
theorem w3_202 : (Jvm.Cond.code ({ cls := "DotPress$Table", name := "removeLast", desc := "()V" } : Jvm.MethodName) prog_11_method_3_code (1 : Nat) (Option.none : Option Jvm.ClassFile.FieldType)) ∈ lw_g := lw_in (mT3 (List.mem_of_getElem? (i := 202) rfl)) rfl
theorem w3_210 : (Jvm.Cond.code ({ cls := "DotPress", name := "text", desc := "()I" } : Jvm.MethodName) prog_1_method_16_code (2 : Nat) (Option.some Jvm.ClassFile.FieldType.int)) ∈ lw_g := lw_in (mT3 (List.mem_of_getElem? (i := 210) rfl)) rfl
theorem w3_214 : (Jvm.Cond.code ({ cls := "DotPress", name := "addText", desc := "()I" } : Jvm.MethodName) prog_1_method_17_code (3 : Nat) (Option.some Jvm.ClassFile.FieldType.int)) ∈ lw_g := lw_in (mT3 (List.mem_of_getElem? (i := 214) rfl)) rfl
theorem w3_219 : (Jvm.Cond.code ({ cls := "DotPress$Ints", name := "addAll", desc := "(LDotPress$Ints;)V" } : Jvm.MethodName) prog_3_method_3_code (3 : Nat) (Option.none : Option Jvm.ClassFile.FieldType)) ∈ lw_g := lw_in (mT3 (List.mem_of_getElem? (i := 219) rfl)) rfl
theorem w3_224 : (Jvm.Cond.code ({ cls := "DotPress", name := "measure", desc := "(III)I" } : Jvm.MethodName) prog_1_method_18_code (4 : Nat) (Option.some Jvm.ClassFile.FieldType.int)) ∈ lw_g := lw_in (mT3 (List.mem_of_getElem? (i := 224) rfl)) rfl
theorem w3_228 : (Jvm.Cond.code ({ cls := "DotPress", name := "set", desc := "(I)I" } : Jvm.MethodName) prog_1_method_19_code (7 : Nat) (Option.some Jvm.ClassFile.FieldType.int)) ∈ lw_g := lw_in (mT3 (List.mem_of_getElem? (i := 228) rfl)) rfl
theorem w3_232 : (Jvm.Cond.code ({ cls := "DotPress$Tables", name := "whole", desc := "(I)LDotPress$Table;" } : Jvm.MethodName) prog_12_method_4_code (3 : Nat) (Option.some (Jvm.ClassFile.FieldType.object "DotPress$Table"))) ∈ lw_g := lw_in (mT3 (List.mem_of_getElem? (i := 232) rfl)) rfl
theorem w3_237 : (Jvm.Cond.code ({ cls := "DotPress$Table", name := "isWhole", desc := "()Z" } : Jvm.MethodName) prog_11_method_5_code (1 : Nat) (Option.some Jvm.ClassFile.FieldType.boolean)) ∈ lw_g := lw_in (mT3 (List.mem_of_getElem? (i := 237) rfl)) rfl
theorem w3_28 : (Jvm.Cond.code ({ cls := "java/util/Arrays", name := "copyOf", desc := "([Ljava/lang/Object;ILjava/lang/Class;)[Ljava/lang/Object;" } : Jvm.MethodName) prog_24_method_120_code (4 : Nat) (Option.some (Jvm.ClassFile.FieldType.array (Jvm.ClassFile.FieldType.object "java/lang/Object")))) ∈ lw_g := lw_in (mT3 (List.mem_of_getElem? (i := 28) rfl)) rfl
theorem w3_38 : (Jvm.Cond.code ({ cls := "DotPress$Change", name := "<init>", desc := "(ILDotPress$Table;LDotPress$Row;I)V" } : Jvm.MethodName) prog_2_method_1_code (5 : Nat) (Option.none : Option Jvm.ClassFile.FieldType)) ∈ lw_g := lw_in (mT3 (List.mem_of_getElem? (i := 38) rfl)) rfl
theorem w3_60 : (Jvm.Cond.code ({ cls := "DotPress$Tables", name := "remember", desc := "(LDotPress$Change;)V" } : Jvm.MethodName) prog_12_method_6_code (2 : Nat) (Option.none : Option Jvm.ClassFile.FieldType)) ∈ lw_g := lw_in (mT3 (List.mem_of_getElem? (i := 60) rfl)) rfl
theorem w3_64 : (Jvm.Cond.code ({ cls := "java/util/ArrayList", name := "remove", desc := "(I)Ljava/lang/Object;" } : Jvm.MethodName) prog_23_method_29_code (4 : Nat) (Option.some (Jvm.ClassFile.FieldType.object "java/lang/Object"))) ∈ lw_g := lw_in (mT3 (List.mem_of_getElem? (i := 64) rfl)) rfl
theorem w3_67 : (Jvm.Cond.code ({ cls := "java/util/Objects", name := "checkIndex", desc := "(II)I" } : Jvm.MethodName) prog_27_method_17_code (2 : Nat) (Option.some Jvm.ClassFile.FieldType.int)) ∈ lw_g := lw_in (mT3 (List.mem_of_getElem? (i := 67) rfl)) rfl
theorem w3_7 : (Jvm.Cond.code ({ cls := "java/util/Arrays", name := "copyOf", desc := "([Ljava/lang/Object;I)[Ljava/lang/Object;" } : Jvm.MethodName) prog_24_method_119_code (2 : Nat) (Option.some (Jvm.ClassFile.FieldType.array (Jvm.ClassFile.FieldType.object "java/lang/Object")))) ∈ lw_g := lw_in (mT3 (List.mem_of_getElem? (i := 7) rfl)) rfl
theorem w3_70 : (Jvm.Cond.code ({ cls := "jdk/internal/util/Preconditions", name := "checkIndex", desc := "(IILjava/util/function/BiFunction;)I" } : Jvm.MethodName) prog_31_method_11_code (3 : Nat) (Option.some Jvm.ClassFile.FieldType.int)) ∈ lw_g := lw_in (mT3 (List.mem_of_getElem? (i := 70) rfl)) rfl
theorem w3_74 : (Jvm.Cond.code ({ cls := "java/util/ArrayList", name := "fastRemove", desc := "([Ljava/lang/Object;I)V" } : Jvm.MethodName) prog_23_method_39_code (4 : Nat) (Option.none : Option Jvm.ClassFile.FieldType)) ∈ lw_g := lw_in (mT3 (List.mem_of_getElem? (i := 74) rfl)) rfl
theorem w3_79 : (Jvm.Cond.code ({ cls := "DotPress$Tables", name := "alive", desc := "(I)LDotPress$Table;" } : Jvm.MethodName) prog_12_method_3_code (3 : Nat) (Option.some (Jvm.ClassFile.FieldType.object "DotPress$Table"))) ∈ lw_g := lw_in (mT3 (List.mem_of_getElem? (i := 79) rfl)) rfl
theorem w3_83 : (Jvm.Cond.code ({ cls := "java/util/ArrayList", name := "get", desc := "(I)Ljava/lang/Object;" } : Jvm.MethodName) prog_23_method_20_code (2 : Nat) (Option.some (Jvm.ClassFile.FieldType.object "java/lang/Object"))) ∈ lw_g := lw_in (mT3 (List.mem_of_getElem? (i := 83) rfl)) rfl
theorem w3_87 : (Jvm.Cond.code ({ cls := "java/util/ArrayList", name := "elementData", desc := "(I)Ljava/lang/Object;" } : Jvm.MethodName) prog_23_method_18_code (2 : Nat) (Option.some (Jvm.ClassFile.FieldType.object "java/lang/Object"))) ∈ lw_g := lw_in (mT3 (List.mem_of_getElem? (i := 87) rfl)) rfl
theorem w3_92 : (Jvm.Cond.code ({ cls := "DotPress", name := "join", desc := "(II)I" } : Jvm.MethodName) prog_1_method_6_code (5 : Nat) (Option.some Jvm.ClassFile.FieldType.int)) ∈ lw_g := lw_in (mT3 (List.mem_of_getElem? (i := 92) rfl)) rfl
theorem w3_97 : (Jvm.Cond.code ({ cls := "DotPress", name := "drop", desc := "(I)I" } : Jvm.MethodName) prog_1_method_7_code (3 : Nat) (Option.some Jvm.ClassFile.FieldType.int)) ∈ lw_g := lw_in (mT3 (List.mem_of_getElem? (i := 97) rfl)) rfl
theorem w4_0 : (Jvm.Cond.code ({ cls := "DotPress$Table", name := "isUpright", desc := "(LDotPress$Table;)Z" } : Jvm.MethodName) prog_11_method_6_code (2 : Nat) (Option.some Jvm.ClassFile.FieldType.boolean)) ∈ lw_g := lw_in (mT4 (List.mem_of_getElem? (i := 0) rfl)) rfl
theorem w4_103 : (Jvm.Cond.code ({ cls := "DotPress$Setting", name := "countFind", desc := "(I)V" } : Jvm.MethodName) prog_8_method_16_code (2 : Nat) (Option.none : Option Jvm.ClassFile.FieldType)) ∈ lw_g := lw_in (mT4 (List.mem_of_getElem? (i := 103) rfl)) rfl
theorem w4_107 : (Jvm.Cond.code ({ cls := "DotPress$Setting", name := "findOwn", desc := "(LDotPress$Table;IILDotPress$Row;)LDotPress$Row;" } : Jvm.MethodName) prog_8_method_17_code (11 : Nat) (Option.some (Jvm.ClassFile.FieldType.object "DotPress$Row"))) ∈ lw_g := lw_in (mT4 (List.mem_of_getElem? (i := 107) rfl)) rfl
theorem w4_115 : (Jvm.Cond.code ({ cls := "DotPress$Setting", name := "fits", desc := "(LDotPress$Row;I)Z" } : Jvm.MethodName) prog_8_method_18_code (6 : Nat) (Option.some Jvm.ClassFile.FieldType.boolean)) ∈ lw_g := lw_in (mT4 (List.mem_of_getElem? (i := 115) rfl)) rfl
theorem w4_118 : (Jvm.Cond.code ({ cls := "DotPress$Setting", name := "isSign", desc := "(I)Z" } : Jvm.MethodName) prog_8_method_19_code (1 : Nat) (Option.some Jvm.ClassFile.FieldType.boolean)) ∈ lw_g := lw_in (mT4 (List.mem_of_getElem? (i := 118) rfl)) rfl
theorem w4_12 : (Jvm.Cond.code ({ cls := "DotPress$Source", name := "step", desc := "(LDotPress$Ints;LDotPress$Setting;)I" } : Jvm.MethodName) prog_10_method_3_code (4 : Nat) (Option.some Jvm.ClassFile.FieldType.int)) ∈ lw_g := lw_in (mT4 (List.mem_of_getElem? (i := 12) rfl)) rfl
theorem w4_121 : (Jvm.Cond.code ({ cls := "DotPress", name := "isGreat", desc := "(I)Z" } : Jvm.MethodName) prog_1_method_57_code (1 : Nat) (Option.some Jvm.ClassFile.FieldType.boolean)) ∈ lw_g := lw_in (mT4 (List.mem_of_getElem? (i := 121) rfl)) rfl
theorem w4_125 : (Jvm.Cond.code ({ cls := "DotPress$Setting", name := "markStart", desc := "(II)V" } : Jvm.MethodName) prog_8_method_12_code (4 : Nat) (Option.none : Option Jvm.ClassFile.FieldType)) ∈ lw_g := lw_in (mT4 (List.mem_of_getElem? (i := 125) rfl)) rfl
theorem w4_129 : (Jvm.Cond.code ({ cls := "DotPress$Setting", name := "push", desc := "(LDotPress$Row;)V" } : Jvm.MethodName) prog_8_method_14_code (3 : Nat) (Option.none : Option Jvm.ClassFile.FieldType)) ∈ lw_g := lw_in (mT4 (List.mem_of_getElem? (i := 129) rfl)) rfl
theorem w4_134 : (Jvm.Cond.code ({ cls := "DotPress$Setting", name := "setTurn", desc := "(LDotPress$Row;I)I" } : Jvm.MethodName) prog_8_method_10_code (3 : Nat) (Option.some Jvm.ClassFile.FieldType.int)) ∈ lw_g := lw_in (mT4 (List.mem_of_getElem? (i := 134) rfl)) rfl
theorem w4_138 : (Jvm.Cond.code ({ cls := "DotPress$Sheet", name := "take", desc := "(LDotPress$Setting;III)Z" } : Jvm.MethodName) prog_9_method_7_code (10 : Nat) (Option.some Jvm.ClassFile.FieldType.boolean)) ∈ lw_g := lw_in (mT4 (List.mem_of_getElem? (i := 138) rfl)) rfl
theorem w4_142 : (Jvm.Cond.code ({ cls := "DotPress$Line", name := "addPart", desc := "(LDotPress$Setting;II)V" } : Jvm.MethodName) prog_4_method_4_code (5 : Nat) (Option.none : Option Jvm.ClassFile.FieldType)) ∈ lw_g := lw_in (mT4 (List.mem_of_getElem? (i := 142) rfl)) rfl
theorem w4_146 : (Jvm.Cond.code ({ cls := "DotPress$Line", name := "add", desc := "(I)V" } : Jvm.MethodName) prog_4_method_3_code (2 : Nat) (Option.none : Option Jvm.ClassFile.FieldType)) ∈ lw_g := lw_in (mT4 (List.mem_of_getElem? (i := 146) rfl)) rfl
theorem w4_150 : (Jvm.Cond.code ({ cls := "DotPress$Setting", name := "lastBreak", desc := "(III)I" } : Jvm.MethodName) prog_8_method_20_code (7 : Nat) (Option.some Jvm.ClassFile.FieldType.int)) ∈ lw_g := lw_in (mT4 (List.mem_of_getElem? (i := 150) rfl)) rfl
theorem w4_155 : (Jvm.Cond.code ({ cls := "DotPress", name := "publish", desc := "()I" } : Jvm.MethodName) prog_1_method_20_code (2 : Nat) (Option.some Jvm.ClassFile.FieldType.int)) ∈ lw_g := lw_in (mT4 (List.mem_of_getElem? (i := 155) rfl)) rfl
theorem w4_159 : (Jvm.Cond.code ({ cls := "DotPress$Setting", name := "placeOfUnknown", desc := "()I" } : Jvm.MethodName) prog_8_method_5_code (1 : Nat) (Option.some Jvm.ClassFile.FieldType.int)) ∈ lw_g := lw_in (mT4 (List.mem_of_getElem? (i := 159) rfl)) rfl
theorem w4_16 : (Jvm.Cond.code ({ cls := "DotPress$Source", name := "enterLine", desc := "(LDotPress$Ints;)I" } : Jvm.MethodName) prog_10_method_4_code (2 : Nat) (Option.some Jvm.ClassFile.FieldType.int)) ∈ lw_g := lw_in (mT4 (List.mem_of_getElem? (i := 16) rfl)) rfl
theorem w4_163 : (Jvm.Cond.code ({ cls := "DotPress", name := "refuseAt", desc := "(II)I" } : Jvm.MethodName) prog_1_method_55_code (3 : Nat) (Option.some Jvm.ClassFile.FieldType.int)) ∈ lw_g := lw_in (mT4 (List.mem_of_getElem? (i := 163) rfl)) rfl
theorem w4_167 : (Jvm.Cond.code ({ cls := "DotPress", name := "head", desc := "(I)I" } : Jvm.MethodName) prog_1_method_21_code (6 : Nat) (Option.some Jvm.ClassFile.FieldType.int)) ∈ lw_g := lw_in (mT4 (List.mem_of_getElem? (i := 167) rfl)) rfl
theorem w4_173 : (Jvm.Cond.code ({ cls := "DotPress", name := "lines", desc := "()I" } : Jvm.MethodName) prog_1_method_22_code (1 : Nat) (Option.some Jvm.ClassFile.FieldType.int)) ∈ lw_g := lw_in (mT4 (List.mem_of_getElem? (i := 173) rfl)) rfl
theorem w4_177 : (Jvm.Cond.code ({ cls := "DotPress", name := "pages", desc := "()I" } : Jvm.MethodName) prog_1_method_23_code (2 : Nat) (Option.some Jvm.ClassFile.FieldType.int)) ∈ lw_g := lw_in (mT4 (List.mem_of_getElem? (i := 177) rfl)) rfl
theorem w4_181 : (Jvm.Cond.code ({ cls := "DotPress", name := "linesOfPage", desc := "()I" } : Jvm.MethodName) prog_1_method_25_code (1 : Nat) (Option.some Jvm.ClassFile.FieldType.int)) ∈ lw_g := lw_in (mT4 (List.mem_of_getElem? (i := 181) rfl)) rfl
theorem w4_185 : (Jvm.Cond.code ({ cls := "DotPress", name := "pagesHaveHeader", desc := "()Z" } : Jvm.MethodName) prog_1_method_24_code (1 : Nat) (Option.some Jvm.ClassFile.FieldType.boolean)) ∈ lw_g := lw_in (mT4 (List.mem_of_getElem? (i := 185) rfl)) rfl
theorem w4_189 : (Jvm.Cond.code ({ cls := "DotPress", name := "length", desc := "(I)I" } : Jvm.MethodName) prog_1_method_26_code (3 : Nat) (Option.some Jvm.ClassFile.FieldType.int)) ∈ lw_g := lw_in (mT4 (List.mem_of_getElem? (i := 189) rfl)) rfl
theorem w4_193 : (Jvm.Cond.code ({ cls := "DotPress$Sheet", name := "present", desc := "(I)LDotPress$Line;" } : Jvm.MethodName) prog_9_method_4_code (3 : Nat) (Option.some (Jvm.ClassFile.FieldType.object "DotPress$Line"))) ∈ lw_g := lw_in (mT4 (List.mem_of_getElem? (i := 193) rfl)) rfl
theorem w4_197 : (Jvm.Cond.code ({ cls := "DotPress$Sheet", name := "whyNone", desc := "(I)I" } : Jvm.MethodName) prog_9_method_5_code (2 : Nat) (Option.some Jvm.ClassFile.FieldType.int)) ∈ lw_g := lw_in (mT4 (List.mem_of_getElem? (i := 197) rfl)) rfl
theorem w4_201 : (Jvm.Cond.code ({ cls := "DotPress", name := "cell", desc := "(II)I" } : Jvm.MethodName) prog_1_method_27_code (3 : Nat) (Option.some Jvm.ClassFile.FieldType.int)) ∈ lw_g := lw_in (mT4 (List.mem_of_getElem? (i := 201) rfl)) rfl
theorem w4_205 : (Jvm.Cond.code ({ cls := "DotPress", name := "cellOfLine", desc := "(II)I" } : Jvm.MethodName) prog_1_method_28_code (4 : Nat) (Option.some Jvm.ClassFile.FieldType.int)) ∈ lw_g := lw_in (mT4 (List.mem_of_getElem? (i := 205) rfl)) rfl
theorem w4_209 : (Jvm.Cond.code ({ cls := "DotPress", name := "page", desc := "(III)I" } : Jvm.MethodName) prog_1_method_29_code (5 : Nat) (Option.some Jvm.ClassFile.FieldType.int)) ∈ lw_g := lw_in (mT4 (List.mem_of_getElem? (i := 209) rfl)) rfl
theorem w4_21 : (Jvm.Cond.code ({ cls := "DotPress$Setting", name := "clear", desc := "()V" } : Jvm.MethodName) prog_8_method_2_code (1 : Nat) (Option.none : Option Jvm.ClassFile.FieldType)) ∈ lw_g := lw_in (mT4 (List.mem_of_getElem? (i := 21) rfl)) rfl
theorem w4_214 : (Jvm.Cond.code ({ cls := "DotPress", name := "cut", desc := "(II)I" } : Jvm.MethodName) prog_1_method_30_code (4 : Nat) (Option.some Jvm.ClassFile.FieldType.int)) ∈ lw_g := lw_in (mT4 (List.mem_of_getElem? (i := 214) rfl)) rfl
theorem w4_218 : (Jvm.Cond.code ({ cls := "DotPress$Line", name := "resize", desc := "(I)V" } : Jvm.MethodName) prog_4_method_5_code (3 : Nat) (Option.none : Option Jvm.ClassFile.FieldType)) ∈ lw_g := lw_in (mT4 (List.mem_of_getElem? (i := 218) rfl)) rfl
theorem w4_223 : (Jvm.Cond.code ({ cls := "DotPress", name := "lose", desc := "(I)I" } : Jvm.MethodName) prog_1_method_31_code (3 : Nat) (Option.some Jvm.ClassFile.FieldType.int)) ∈ lw_g := lw_in (mT4 (List.mem_of_getElem? (i := 223) rfl)) rfl
theorem w4_228 : (Jvm.Cond.code ({ cls := "DotPress", name := "copyRow", desc := "(IIIII)I" } : Jvm.MethodName) prog_1_method_32_code (8 : Nat) (Option.some Jvm.ClassFile.FieldType.int)) ∈ lw_g := lw_in (mT4 (List.mem_of_getElem? (i := 228) rfl)) rfl
theorem w4_232 : (Jvm.Cond.code ({ cls := "DotPress$Line", name := "hasCells", desc := "(II)Z" } : Jvm.MethodName) prog_4_method_8_code (3 : Nat) (Option.some Jvm.ClassFile.FieldType.boolean)) ∈ lw_g := lw_in (mT4 (List.mem_of_getElem? (i := 232) rfl)) rfl
theorem w4_237 : (Jvm.Cond.code ({ cls := "DotPress", name := "copyLines", desc := "(III)I" } : Jvm.MethodName) prog_1_method_33_code (7 : Nat) (Option.some Jvm.ClassFile.FieldType.int)) ∈ lw_g := lw_in (mT4 (List.mem_of_getElem? (i := 237) rfl)) rfl
theorem w4_25 : (Jvm.Cond.code ({ cls := "DotPress$Setting", name := "putBreak", desc := "()V" } : Jvm.MethodName) prog_8_method_4_code (1 : Nat) (Option.none : Option Jvm.ClassFile.FieldType)) ∈ lw_g := lw_in (mT4 (List.mem_of_getElem? (i := 25) rfl)) rfl
theorem w4_29 : (Jvm.Cond.code ({ cls := "DotPress$Setting", name := "put", desc := "(II)V" } : Jvm.MethodName) prog_8_method_3_code (3 : Nat) (Option.none : Option Jvm.ClassFile.FieldType)) ∈ lw_g := lw_in (mT4 (List.mem_of_getElem? (i := 29) rfl)) rfl
theorem w4_34 : (Jvm.Cond.code ({ cls := "DotPress$Sheet", name := "beginText", desc := "()Z" } : Jvm.MethodName) prog_9_method_8_code (1 : Nat) (Option.some Jvm.ClassFile.FieldType.boolean)) ∈ lw_g := lw_in (mT4 (List.mem_of_getElem? (i := 34) rfl)) rfl
theorem w4_38 : (Jvm.Cond.code ({ cls := "DotPress$Sheet", name := "begin", desc := "()Z" } : Jvm.MethodName) prog_9_method_6_code (1 : Nat) (Option.some Jvm.ClassFile.FieldType.boolean)) ∈ lw_g := lw_in (mT4 (List.mem_of_getElem? (i := 38) rfl)) rfl
theorem w4_4 : (Jvm.Cond.code ({ cls := "DotPress$Sheet", name := "clear", desc := "()V" } : Jvm.MethodName) prog_9_method_2_code (1 : Nat) (Option.none : Option Jvm.ClassFile.FieldType)) ∈ lw_g := lw_in (mT4 (List.mem_of_getElem? (i := 4) rfl)) rfl
theorem w4_42 : (Jvm.Cond.code ({ cls := "DotPress$Line", name := "<init>", desc := "()V" } : Jvm.MethodName) prog_4_method_1_code (1 : Nat) (Option.none : Option Jvm.ClassFile.FieldType)) ∈ lw_g := lw_in (mT4 (List.mem_of_getElem? (i := 42) rfl)) rfl
theorem w4_67 : (Jvm.Cond.code ({ cls := "DotPress$Line", name := "clear", desc := "()V" } : Jvm.MethodName) prog_4_method_2_code (1 : Nat) (Option.none : Option Jvm.ClassFile.FieldType)) ∈ lw_g := lw_in (mT4 (List.mem_of_getElem? (i := 67) rfl)) rfl
theorem w4_71 : (Jvm.Cond.code ({ cls := "DotPress$Sheet", name := "endText", desc := "(ZI)V" } : Jvm.MethodName) prog_9_method_9_code (5 : Nat) (Option.none : Option Jvm.ClassFile.FieldType)) ∈ lw_g := lw_in (mT4 (List.mem_of_getElem? (i := 71) rfl)) rfl
theorem w4_75 : (Jvm.Cond.code ({ cls := "DotPress$Sheet", name := "at", desc := "(I)LDotPress$Line;" } : Jvm.MethodName) prog_9_method_3_code (2 : Nat) (Option.some (Jvm.ClassFile.FieldType.object "DotPress$Line"))) ∈ lw_g := lw_in (mT4 (List.mem_of_getElem? (i := 75) rfl)) rfl
theorem w4_79 : (Jvm.Cond.code ({ cls := "DotPress$Line", name := "indent", desc := "(I)V" } : Jvm.MethodName) prog_4_method_6_code (3 : Nat) (Option.none : Option Jvm.ClassFile.FieldType)) ∈ lw_g := lw_in (mT4 (List.mem_of_getElem? (i := 79) rfl)) rfl
theorem w4_8 : (Jvm.Cond.code ({ cls := "DotPress$Source", name := "restart", desc := "()V" } : Jvm.MethodName) prog_10_method_2_code (1 : Nat) (Option.none : Option Jvm.ClassFile.FieldType)) ∈ lw_g := lw_in (mT4 (List.mem_of_getElem? (i := 8) rfl)) rfl
theorem w4_84 : (Jvm.Cond.code ({ cls := "DotPress$Setting", name := "setBy", desc := "(LDotPress$Table;)I" } : Jvm.MethodName) prog_8_method_9_code (9 : Nat) (Option.some Jvm.ClassFile.FieldType.int)) ∈ lw_g := lw_in (mT4 (List.mem_of_getElem? (i := 84) rfl)) rfl
theorem w4_88 : (Jvm.Cond.code ({ cls := "DotPress$Setting", name := "setPart", desc := "(LDotPress$Table;II)I" } : Jvm.MethodName) prog_8_method_11_code (9 : Nat) (Option.some Jvm.ClassFile.FieldType.int)) ∈ lw_g := lw_in (mT4 (List.mem_of_getElem? (i := 88) rfl)) rfl
theorem w4_92 : (Jvm.Cond.code ({ cls := "DotPress$Setting", name := "numberAhead", desc := "(LDotPress$Table;I)LDotPress$Row;" } : Jvm.MethodName) prog_8_method_13_code (4 : Nat) (Option.some (Jvm.ClassFile.FieldType.object "DotPress$Row"))) ∈ lw_g := lw_in (mT4 (List.mem_of_getElem? (i := 92) rfl)) rfl
theorem w4_95 : (Jvm.Cond.code ({ cls := "DotPress", name := "isDigit", desc := "(I)Z" } : Jvm.MethodName) prog_1_method_56_code (1 : Nat) (Option.some Jvm.ClassFile.FieldType.boolean)) ∈ lw_g := lw_in (mT4 (List.mem_of_getElem? (i := 95) rfl)) rfl
theorem w4_99 : (Jvm.Cond.code ({ cls := "DotPress$Setting", name := "find", desc := "(LDotPress$Table;II)LDotPress$Row;" } : Jvm.MethodName) prog_8_method_15_code (7 : Nat) (Option.some (Jvm.ClassFile.FieldType.object "DotPress$Row"))) ∈ lw_g := lw_in (mT4 (List.mem_of_getElem? (i := 99) rfl)) rfl
theorem w5_1 : (Jvm.Cond.code ({ cls := "DotPress$Line", name := "become", desc := "(LDotPress$Line;)V" } : Jvm.MethodName) prog_4_method_7_code (2 : Nat) (Option.none : Option Jvm.ClassFile.FieldType)) ∈ lw_g := lw_in (mT5 (List.mem_of_getElem? (i := 1) rfl)) rfl
theorem w5_103 : (Jvm.Cond.code ({ cls := "DotPress$Row", name := "writeLetters", desc := "(LDotPress$Ints;Z)V" } : Jvm.MethodName) prog_7_method_7_code (4 : Nat) (Option.none : Option Jvm.ClassFile.FieldType)) ∈ lw_g := lw_in (mT5 (List.mem_of_getElem? (i := 103) rfl)) rfl
theorem w5_109 : (Jvm.Cond.code ({ cls := "DotPress$Reader", name := "placeOfWrong", desc := "()I" } : Jvm.MethodName) prog_5_method_14_code (1 : Nat) (Option.some Jvm.ClassFile.FieldType.int)) ∈ lw_g := lw_in (mT5 (List.mem_of_getElem? (i := 109) rfl)) rfl
theorem w5_113 : (Jvm.Cond.code ({ cls := "DotPress", name := "letter", desc := "(I)I" } : Jvm.MethodName) prog_1_method_39_code (2 : Nat) (Option.some Jvm.ClassFile.FieldType.int)) ∈ lw_g := lw_in (mT5 (List.mem_of_getElem? (i := 113) rfl)) rfl
theorem w5_117 : (Jvm.Cond.code ({ cls := "DotPress", name := "failed", desc := "(IZ)I" } : Jvm.MethodName) prog_1_method_40_code (4 : Nat) (Option.some Jvm.ClassFile.FieldType.int)) ∈ lw_g := lw_in (mT5 (List.mem_of_getElem? (i := 117) rfl)) rfl
theorem w5_122 : (Jvm.Cond.code ({ cls := "DotPress", name := "readings", desc := "(III)I" } : Jvm.MethodName) prog_1_method_41_code (6 : Nat) (Option.some Jvm.ClassFile.FieldType.int)) ∈ lw_g := lw_in (mT5 (List.mem_of_getElem? (i := 122) rfl)) rfl
theorem w5_126 : (Jvm.Cond.code ({ cls := "DotPress$Readings", name := "collect", desc := "(LDotPress$Line;II)V" } : Jvm.MethodName) prog_6_method_3_code (4 : Nat) (Option.none : Option Jvm.ClassFile.FieldType)) ∈ lw_g := lw_in (mT5 (List.mem_of_getElem? (i := 126) rfl)) rfl
theorem w5_13 : (Jvm.Cond.code ({ cls := "DotPress$Line", name := "dots", desc := "()I" } : Jvm.MethodName) prog_4_method_10_code (3 : Nat) (Option.some Jvm.ClassFile.FieldType.int)) ∈ lw_g := lw_in (mT5 (List.mem_of_getElem? (i := 13) rfl)) rfl
theorem w5_133 : (Jvm.Cond.code ({ cls := "DotPress$Readings", name := "markEnds", desc := "()V" } : Jvm.MethodName) prog_6_method_4_code (2 : Nat) (Option.none : Option Jvm.ClassFile.FieldType)) ∈ lw_g := lw_in (mT5 (List.mem_of_getElem? (i := 133) rfl)) rfl
theorem w5_137 : (Jvm.Cond.code ({ cls := "DotPress$Readings", name := "nextChoice", desc := "(II)I" } : Jvm.MethodName) prog_6_method_6_code (6 : Nat) (Option.some Jvm.ClassFile.FieldType.int)) ∈ lw_g := lw_in (mT5 (List.mem_of_getElem? (i := 137) rfl)) rfl
theorem w5_143 : (Jvm.Cond.code ({ cls := "DotPress$Readings", name := "nodeBehind", desc := "(II)I" } : Jvm.MethodName) prog_6_method_7_code (7 : Nat) (Option.some Jvm.ClassFile.FieldType.int)) ∈ lw_g := lw_in (mT5 (List.mem_of_getElem? (i := 143) rfl)) rfl
theorem w5_147 : (Jvm.Cond.code ({ cls := "DotPress$Readings", name := "looksLike", desc := "(II)Z" } : Jvm.MethodName) prog_6_method_8_code (3 : Nat) (Option.some Jvm.ClassFile.FieldType.boolean)) ∈ lw_g := lw_in (mT5 (List.mem_of_getElem? (i := 147) rfl)) rfl
theorem w5_153 : (Jvm.Cond.code ({ cls := "DotPress$Readings", name := "looksLikeRow", desc := "(LDotPress$Row;I)Z" } : Jvm.MethodName) prog_6_method_9_code (4 : Nat) (Option.some Jvm.ClassFile.FieldType.boolean)) ∈ lw_g := lw_in (mT5 (List.mem_of_getElem? (i := 153) rfl)) rfl
theorem w5_158 : (Jvm.Cond.code ({ cls := "DotPress$Readings", name := "walk", desc := "(I)V" } : Jvm.MethodName) prog_6_method_5_code (6 : Nat) (Option.none : Option Jvm.ClassFile.FieldType)) ∈ lw_g := lw_in (mT5 (List.mem_of_getElem? (i := 158) rfl)) rfl
theorem w5_16 : (Jvm.Cond.code ({ cls := "java/lang/Integer", name := "bitCount", desc := "(I)I" } : Jvm.MethodName) prog_17_method_49_code (1 : Nat) (Option.some Jvm.ClassFile.FieldType.int)) ∈ lw_g := lw_in (mT5 (List.mem_of_getElem? (i := 16) rfl)) rfl
theorem w5_163 : (Jvm.Cond.code ({ cls := "DotPress$Readings", name := "write", desc := "(I)V" } : Jvm.MethodName) prog_6_method_10_code (5 : Nat) (Option.none : Option Jvm.ClassFile.FieldType)) ∈ lw_g := lw_in (mT5 (List.mem_of_getElem? (i := 163) rfl)) rfl
theorem w5_169 : (Jvm.Cond.code ({ cls := "DotPress", name := "more", desc := "()I" } : Jvm.MethodName) prog_1_method_42_code (1 : Nat) (Option.some Jvm.ClassFile.FieldType.int)) ∈ lw_g := lw_in (mT5 (List.mem_of_getElem? (i := 169) rfl)) rfl
theorem w5_173 : (Jvm.Cond.code ({ cls := "DotPress", name := "reading", desc := "(II)I" } : Jvm.MethodName) prog_1_method_43_code (4 : Nat) (Option.some Jvm.ClassFile.FieldType.int)) ∈ lw_g := lw_in (mT5 (List.mem_of_getElem? (i := 173) rfl)) rfl
theorem w5_177 : (Jvm.Cond.code ({ cls := "DotPress$Readings", name := "byteOf", desc := "(II)I" } : Jvm.MethodName) prog_6_method_2_code (4 : Nat) (Option.some Jvm.ClassFile.FieldType.int)) ∈ lw_g := lw_in (mT5 (List.mem_of_getElem? (i := 177) rfl)) rfl
theorem w5_182 : (Jvm.Cond.code ({ cls := "DotPress", name := "judge", desc := "(I)I" } : Jvm.MethodName) prog_1_method_44_code (4 : Nat) (Option.some Jvm.ClassFile.FieldType.int)) ∈ lw_g := lw_in (mT5 (List.mem_of_getElem? (i := 182) rfl)) rfl
theorem w5_186 : (Jvm.Cond.code ({ cls := "DotPress$Table", name := "hasShort", desc := "()Z" } : Jvm.MethodName) prog_11_method_7_code (1 : Nat) (Option.some Jvm.ClassFile.FieldType.boolean)) ∈ lw_g := lw_in (mT5 (List.mem_of_getElem? (i := 186) rfl)) rfl
theorem w5_189 : (Jvm.Cond.code ({ cls := "DotPress$Table", name := "isOverShort", desc := "(LDotPress$Table;)Z" } : Jvm.MethodName) prog_11_method_8_code (2 : Nat) (Option.some Jvm.ClassFile.FieldType.boolean)) ∈ lw_g := lw_in (mT5 (List.mem_of_getElem? (i := 189) rfl)) rfl
theorem w5_192 : (Jvm.Cond.code ({ cls := "DotPress$Reader", name := "isReadable", desc := "(Ljava/util/ArrayList;I)Z" } : Jvm.MethodName) prog_5_method_7_code (6 : Nat) (Option.some Jvm.ClassFile.FieldType.boolean)) ∈ lw_g := lw_in (mT5 (List.mem_of_getElem? (i := 192) rfl)) rfl
theorem w5_196 : (Jvm.Cond.code ({ cls := "DotPress$Row", name := "endsWith", desc := "(I)Z" } : Jvm.MethodName) prog_7_method_5_code (2 : Nat) (Option.some Jvm.ClassFile.FieldType.boolean)) ∈ lw_g := lw_in (mT5 (List.mem_of_getElem? (i := 196) rfl)) rfl
theorem w5_200 : (Jvm.Cond.code ({ cls := "DotPress$Row", name := "isAtBeginOf", desc := "(LDotPress$Row;)Z" } : Jvm.MethodName) prog_7_method_4_code (2 : Nat) (Option.some Jvm.ClassFile.FieldType.boolean)) ∈ lw_g := lw_in (mT5 (List.mem_of_getElem? (i := 200) rfl)) rfl
theorem w5_204 : (Jvm.Cond.code ({ cls := "DotPress$Row", name := "alike", desc := "(LDotPress$Row;)I" } : Jvm.MethodName) prog_7_method_3_code (4 : Nat) (Option.some Jvm.ClassFile.FieldType.int)) ∈ lw_g := lw_in (mT5 (List.mem_of_getElem? (i := 204) rfl)) rfl
theorem w5_209 : (Jvm.Cond.code ({ cls := "DotPress", name := "parts", desc := "(III)I" } : Jvm.MethodName) prog_1_method_45_code (10 : Nat) (Option.some Jvm.ClassFile.FieldType.int)) ∈ lw_g := lw_in (mT5 (List.mem_of_getElem? (i := 209) rfl)) rfl
theorem w5_214 : (Jvm.Cond.code ({ cls := "DotPress", name := "unreadable", desc := "(III)I" } : Jvm.MethodName) prog_1_method_46_code (7 : Nat) (Option.some Jvm.ClassFile.FieldType.int)) ∈ lw_g := lw_in (mT5 (List.mem_of_getElem? (i := 214) rfl)) rfl
theorem w5_218 : (Jvm.Cond.code ({ cls := "DotPress$Source", name := "gatherAlphabet", desc := "(LDotPress$Reader;Z)V" } : Jvm.MethodName) prog_10_method_5_code (4 : Nat) (Option.none : Option Jvm.ClassFile.FieldType)) ∈ lw_g := lw_in (mT5 (List.mem_of_getElem? (i := 218) rfl)) rfl
theorem w5_222 : (Jvm.Cond.code ({ cls := "DotPress$Source", name := "markLetters", desc := "(Ljava/util/ArrayList;)V" } : Jvm.MethodName) prog_10_method_6_code (5 : Nat) (Option.none : Option Jvm.ClassFile.FieldType)) ∈ lw_g := lw_in (mT5 (List.mem_of_getElem? (i := 222) rfl)) rfl
theorem w5_229 : (Jvm.Cond.code ({ cls := "DotPress$Source", name := "startSpelling", desc := "(I)Z" } : Jvm.MethodName) prog_10_method_7_code (2 : Nat) (Option.some Jvm.ClassFile.FieldType.boolean)) ∈ lw_g := lw_in (mT5 (List.mem_of_getElem? (i := 229) rfl)) rfl
theorem w5_23 : (Jvm.Cond.code ({ cls := "DotPress", name := "closed", desc := "()I" } : Jvm.MethodName) prog_1_method_36_code (1 : Nat) (Option.some Jvm.ClassFile.FieldType.int)) ∈ lw_g := lw_in (mT5 (List.mem_of_getElem? (i := 23) rfl)) rfl
theorem w5_233 : (Jvm.Cond.code ({ cls := "DotPress$Source", name := "lengthen", desc := "(I)Z" } : Jvm.MethodName) prog_10_method_8_code (2 : Nat) (Option.some Jvm.ClassFile.FieldType.boolean)) ∈ lw_g := lw_in (mT5 (List.mem_of_getElem? (i := 233) rfl)) rfl
theorem w5_236 : (Jvm.Cond.code ({ cls := "java/util/Arrays", name := "fill", desc := "([II)V" } : Jvm.MethodName) prog_24_method_103_code (4 : Nat) (Option.none : Option Jvm.ClassFile.FieldType)) ∈ lw_g := lw_in (mT5 (List.mem_of_getElem? (i := 236) rfl)) rfl
theorem w5_27 : (Jvm.Cond.code ({ cls := "DotPress", name := "read", desc := "(III)I" } : Jvm.MethodName) prog_1_method_37_code (6 : Nat) (Option.some Jvm.ClassFile.FieldType.int)) ∈ lw_g := lw_in (mT5 (List.mem_of_getElem? (i := 27) rfl)) rfl
theorem w5_31 : (Jvm.Cond.code ({ cls := "DotPress", name := "chainLines", desc := "(II)V" } : Jvm.MethodName) prog_1_method_38_code (5 : Nat) (Option.none : Option Jvm.ClassFile.FieldType)) ∈ lw_g := lw_in (mT5 (List.mem_of_getElem? (i := 31) rfl)) rfl
theorem w5_35 : (Jvm.Cond.code ({ cls := "DotPress$Reader", name := "clearCells", desc := "()V" } : Jvm.MethodName) prog_5_method_8_code (1 : Nat) (Option.none : Option Jvm.ClassFile.FieldType)) ∈ lw_g := lw_in (mT5 (List.mem_of_getElem? (i := 35) rfl)) rfl
theorem w5_40 : (Jvm.Cond.code ({ cls := "DotPress$Reader", name := "chain", desc := "(LDotPress$Line;IIZ)V" } : Jvm.MethodName) prog_5_method_10_code (8 : Nat) (Option.none : Option Jvm.ClassFile.FieldType)) ∈ lw_g := lw_in (mT5 (List.mem_of_getElem? (i := 40) rfl)) rfl
theorem w5_44 : (Jvm.Cond.code ({ cls := "DotPress$Line", name := "endsWith", desc := "(I)Z" } : Jvm.MethodName) prog_4_method_9_code (2 : Nat) (Option.some Jvm.ClassFile.FieldType.boolean)) ∈ lw_g := lw_in (mT5 (List.mem_of_getElem? (i := 44) rfl)) rfl
theorem w5_48 : (Jvm.Cond.code ({ cls := "DotPress$Reader", name := "addCell", desc := "(II)V" } : Jvm.MethodName) prog_5_method_9_code (3 : Nat) (Option.none : Option Jvm.ClassFile.FieldType)) ∈ lw_g := lw_in (mT5 (List.mem_of_getElem? (i := 48) rfl)) rfl
theorem w5_5 : (Jvm.Cond.code ({ cls := "DotPress", name := "copied", desc := "()I" } : Jvm.MethodName) prog_1_method_34_code (1 : Nat) (Option.some Jvm.ClassFile.FieldType.int)) ∈ lw_g := lw_in (mT5 (List.mem_of_getElem? (i := 5) rfl)) rfl
theorem w5_53 : (Jvm.Cond.code ({ cls := "DotPress$Reader", name := "gather", desc := "(LDotPress$Table;)V" } : Jvm.MethodName) prog_5_method_2_code (2 : Nat) (Option.none : Option Jvm.ClassFile.FieldType)) ∈ lw_g := lw_in (mT5 (List.mem_of_getElem? (i := 53) rfl)) rfl
theorem w5_57 : (Jvm.Cond.code ({ cls := "java/util/ArrayList", name := "clear", desc := "()V" } : Jvm.MethodName) prog_23_method_40_code (4 : Nat) (Option.none : Option Jvm.ClassFile.FieldType)) ∈ lw_g := lw_in (mT5 (List.mem_of_getElem? (i := 57) rfl)) rfl
theorem w5_60 : (Jvm.Cond.code ({ cls := "DotPress$Reader", name := "gatherPart", desc := "(Ljava/util/ArrayList;LDotPress$Table;)V" } : Jvm.MethodName) prog_5_method_4_code (4 : Nat) (Option.none : Option Jvm.ClassFile.FieldType)) ∈ lw_g := lw_in (mT5 (List.mem_of_getElem? (i := 60) rfl)) rfl
theorem w5_67 : (Jvm.Cond.code ({ cls := "DotPress$Reader", name := "addIndicator", desc := "(Ljava/util/ArrayList;LDotPress$Row;)V" } : Jvm.MethodName) prog_5_method_5_code (2 : Nat) (Option.none : Option Jvm.ClassFile.FieldType)) ∈ lw_g := lw_in (mT5 (List.mem_of_getElem? (i := 67) rfl)) rfl
theorem w5_70 : (Jvm.Cond.code ({ cls := "DotPress$Reader", name := "markBegins", desc := "(Ljava/util/ArrayList;LDotPress$Ints;)V" } : Jvm.MethodName) prog_5_method_3_code (5 : Nat) (Option.none : Option Jvm.ClassFile.FieldType)) ∈ lw_g := lw_in (mT5 (List.mem_of_getElem? (i := 70) rfl)) rfl
theorem w5_74 : (Jvm.Cond.code ({ cls := "DotPress$Reader", name := "decode", desc := "()Z" } : Jvm.MethodName) prog_5_method_11_code (4 : Nat) (Option.some Jvm.ClassFile.FieldType.boolean)) ∈ lw_g := lw_in (mT5 (List.mem_of_getElem? (i := 74) rfl)) rfl
theorem w5_79 : (Jvm.Cond.code ({ cls := "DotPress$Reader", name := "decodeWord", desc := "(I)I" } : Jvm.MethodName) prog_5_method_12_code (6 : Nat) (Option.some Jvm.ClassFile.FieldType.int)) ∈ lw_g := lw_in (mT5 (List.mem_of_getElem? (i := 79) rfl)) rfl
theorem w5_83 : (Jvm.Cond.code ({ cls := "DotPress$Reader", name := "longestAt", desc := "(ZI)LDotPress$Row;" } : Jvm.MethodName) prog_5_method_13_code (11 : Nat) (Option.some (Jvm.ClassFile.FieldType.object "DotPress$Row"))) ∈ lw_g := lw_in (mT5 (List.mem_of_getElem? (i := 83) rfl)) rfl
theorem w5_87 : (Jvm.Cond.code ({ cls := "DotPress$Reader", name := "rowsOf", desc := "(Z)Ljava/util/ArrayList;" } : Jvm.MethodName) prog_5_method_6_code (2 : Nat) (Option.some (Jvm.ClassFile.FieldType.object "java/util/ArrayList"))) ∈ lw_g := lw_in (mT5 (List.mem_of_getElem? (i := 87) rfl)) rfl
theorem w5_9 : (Jvm.Cond.code ({ cls := "DotPress", name := "emboss", desc := "(II)I" } : Jvm.MethodName) prog_1_method_35_code (6 : Nat) (Option.some Jvm.ClassFile.FieldType.int)) ∈ lw_g := lw_in (mT5 (List.mem_of_getElem? (i := 9) rfl)) rfl
theorem w5_92 : (Jvm.Cond.code ({ cls := "DotPress$Row", name := "standsAt", desc := "(LDotPress$Ints;I)Z" } : Jvm.MethodName) prog_7_method_6_code (4 : Nat) (Option.some Jvm.ClassFile.FieldType.boolean)) ∈ lw_g := lw_in (mT5 (List.mem_of_getElem? (i := 92) rfl)) rfl
theorem w5_96 : (Jvm.Cond.code ({ cls := "DotPress$Row", name := "beginsSmall", desc := "()Z" } : Jvm.MethodName) prog_7_method_2_code (1 : Nat) (Option.some Jvm.ClassFile.FieldType.boolean)) ∈ lw_g := lw_in (mT5 (List.mem_of_getElem? (i := 96) rfl)) rfl
theorem w5_99 : (Jvm.Cond.code ({ cls := "DotPress", name := "isSmall", desc := "(I)Z" } : Jvm.MethodName) prog_1_method_58_code (1 : Nat) (Option.some Jvm.ClassFile.FieldType.boolean)) ∈ lw_g := lw_in (mT5 (List.mem_of_getElem? (i := 99) rfl)) rfl
theorem w6_0 : (Jvm.Cond.code ({ cls := "DotPress$Source", name := "spell", desc := "(LDotPress$Setting;)V" } : Jvm.MethodName) prog_10_method_9_code (3 : Nat) (Option.none : Option Jvm.ClassFile.FieldType)) ∈ lw_g := lw_in (mT6 (List.mem_of_getElem? (i := 0) rfl)) rfl
theorem w6_14 : (Jvm.Cond.code ({ cls := "DotPress$Setting", name := "writeLetters", desc := "(LDotPress$Ints;)V" } : Jvm.MethodName) prog_8_method_8_code (3 : Nat) (Option.none : Option Jvm.ClassFile.FieldType)) ∈ lw_g := lw_in (mT6 (List.mem_of_getElem? (i := 14) rfl)) rfl
theorem w6_19 : (Jvm.Cond.code ({ cls := "DotPress$Source", name := "spellNext", desc := "(I)Z" } : Jvm.MethodName) prog_10_method_10_code (3 : Nat) (Option.some Jvm.ClassFile.FieldType.boolean)) ∈ lw_g := lw_in (mT6 (List.mem_of_getElem? (i := 19) rfl)) rfl
theorem w6_23 : (Jvm.Cond.code ({ cls := "DotPress", name := "saved", desc := "(II)I" } : Jvm.MethodName) prog_1_method_48_code (10 : Nat) (Option.some Jvm.ClassFile.FieldType.int)) ∈ lw_g := lw_in (mT6 (List.mem_of_getElem? (i := 23) rfl)) rfl
theorem w6_27 : (Jvm.Cond.code ({ cls := "DotPress", name := "place", desc := "()I" } : Jvm.MethodName) prog_1_method_49_code (1 : Nat) (Option.some Jvm.ClassFile.FieldType.int)) ∈ lw_g := lw_in (mT6 (List.mem_of_getElem? (i := 27) rfl)) rfl
theorem w6_31 : (Jvm.Cond.code ({ cls := "DotPress", name := "finds", desc := "(I)I" } : Jvm.MethodName) prog_1_method_50_code (2 : Nat) (Option.some Jvm.ClassFile.FieldType.int)) ∈ lw_g := lw_in (mT6 (List.mem_of_getElem? (i := 31) rfl)) rfl
theorem w6_35 : (Jvm.Cond.code ({ cls := "DotPress$Setting", name := "findsOf", desc := "(I)I" } : Jvm.MethodName) prog_8_method_6_code (2 : Nat) (Option.some Jvm.ClassFile.FieldType.int)) ∈ lw_g := lw_in (mT6 (List.mem_of_getElem? (i := 35) rfl)) rfl
theorem w6_39 : (Jvm.Cond.code ({ cls := "DotPress", name := "status", desc := "()I" } : Jvm.MethodName) prog_1_method_51_code (1 : Nat) (Option.some Jvm.ClassFile.FieldType.int)) ∈ lw_g := lw_in (mT6 (List.mem_of_getElem? (i := 39) rfl)) rfl
theorem w6_4 : (Jvm.Cond.code ({ cls := "DotPress", name := "isReadBack", desc := "()Z" } : Jvm.MethodName) prog_1_method_47_code (2 : Nat) (Option.some Jvm.ClassFile.FieldType.boolean)) ∈ lw_g := lw_in (mT6 (List.mem_of_getElem? (i := 4) rfl)) rfl
theorem w6_43 : (Jvm.Cond.code ({ cls := "DotPress", name := "digest", desc := "()I" } : Jvm.MethodName) prog_1_method_52_code (3 : Nat) (Option.some Jvm.ClassFile.FieldType.int)) ∈ lw_g := lw_in (mT6 (List.mem_of_getElem? (i := 43) rfl)) rfl
theorem w6_47 : (Jvm.Cond.code ({ cls := "DotPress$Sheet", name := "goOver", desc := "(I)I" } : Jvm.MethodName) prog_9_method_10_code (6 : Nat) (Option.some Jvm.ClassFile.FieldType.int)) ∈ lw_g := lw_in (mT6 (List.mem_of_getElem? (i := 47) rfl)) rfl
theorem w6_53 : (Jvm.Cond.code ({ cls := "DotPressModel", name := "<init>", desc := "()V" } : Jvm.MethodName) prog_14_method_1_code (1 : Nat) (Option.none : Option Jvm.ClassFile.FieldType)) ∈ lw_g := lw_in (mT6 (List.mem_of_getElem? (i := 53) rfl)) rfl
theorem w6_9 : (Jvm.Cond.code ({ cls := "DotPress$Setting", name := "hasLetters", desc := "(LDotPress$Ints;)Z" } : Jvm.MethodName) prog_8_method_7_code (3 : Nat) (Option.some Jvm.ClassFile.FieldType.boolean)) ∈ lw_g := lw_in (mT6 (List.mem_of_getElem? (i := 9) rfl)) rfl
theorem w7_103 : (Jvm.Cond.code ({ cls := "DotPressModel", name := "measure", desc := "(III)I" } : Jvm.MethodName) prog_14_method_35_code (4 : Nat) (Option.some Jvm.ClassFile.FieldType.int)) ∈ lw_g := lw_in (mT7 (List.mem_of_getElem? (i := 103) rfl)) rfl
theorem w7_107 : (Jvm.Cond.code ({ cls := "DotPressModel", name := "set", desc := "(I)I" } : Jvm.MethodName) prog_14_method_43_code (7 : Nat) (Option.some Jvm.ClassFile.FieldType.int)) ∈ lw_g := lw_in (mT7 (List.mem_of_getElem? (i := 107) rfl)) rfl
theorem w7_111 : (Jvm.Cond.code ({ cls := "DotPressModel", name := "isWhole", desc := "(I)Z" } : Jvm.MethodName) prog_14_method_10_code (2 : Nat) (Option.some Jvm.ClassFile.FieldType.boolean)) ∈ lw_g := lw_in (mT7 (List.mem_of_getElem? (i := 111) rfl)) rfl
theorem w7_115 : (Jvm.Cond.code ({ cls := "DotPressModel", name := "lineEnd", desc := "(I)I" } : Jvm.MethodName) prog_14_method_37_code (3 : Nat) (Option.some Jvm.ClassFile.FieldType.int)) ∈ lw_g := lw_in (mT7 (List.mem_of_getElem? (i := 115) rfl)) rfl
theorem w7_119 : (Jvm.Cond.code ({ cls := "DotPressModel", name := "newLine", desc := "()Z" } : Jvm.MethodName) prog_14_method_38_code (1 : Nat) (Option.some Jvm.ClassFile.FieldType.boolean)) ∈ lw_g := lw_in (mT7 (List.mem_of_getElem? (i := 119) rfl)) rfl
theorem w7_123 : (Jvm.Cond.code ({ cls := "DotPressModel", name := "takeWord", desc := "(II)I" } : Jvm.MethodName) prog_14_method_36_code (4 : Nat) (Option.some Jvm.ClassFile.FieldType.int)) ∈ lw_g := lw_in (mT7 (List.mem_of_getElem? (i := 123) rfl)) rfl
theorem w7_127 : (Jvm.Cond.code ({ cls := "DotPressModel", name := "setWord", desc := "(I)Z" } : Jvm.MethodName) prog_14_method_32_code (7 : Nat) (Option.some Jvm.ClassFile.FieldType.boolean)) ∈ lw_g := lw_in (mT7 (List.mem_of_getElem? (i := 127) rfl)) rfl
theorem w7_131 : (Jvm.Cond.code ({ cls := "DotPressModel", name := "setPart", desc := "(III)Z" } : Jvm.MethodName) prog_14_method_31_code (8 : Nat) (Option.some Jvm.ClassFile.FieldType.boolean)) ∈ lw_g := lw_in (mT7 (List.mem_of_getElem? (i := 131) rfl)) rfl
theorem w7_134 : (Jvm.Cond.code ({ cls := "DotPressModel", name := "isDigit", desc := "(I)Z" } : Jvm.MethodName) prog_14_method_23_code (1 : Nat) (Option.some Jvm.ClassFile.FieldType.boolean)) ∈ lw_g := lw_in (mT7 (List.mem_of_getElem? (i := 134) rfl)) rfl
theorem w7_138 : (Jvm.Cond.code ({ cls := "DotPressModel", name := "putIndicator", desc := "(II)V" } : Jvm.MethodName) prog_14_method_30_code (5 : Nat) (Option.none : Option Jvm.ClassFile.FieldType)) ∈ lw_g := lw_in (mT7 (List.mem_of_getElem? (i := 138) rfl)) rfl
theorem w7_142 : (Jvm.Cond.code ({ cls := "DotPressModel", name := "find", desc := "(IIII)I" } : Jvm.MethodName) prog_14_method_28_code (7 : Nat) (Option.some Jvm.ClassFile.FieldType.int)) ∈ lw_g := lw_in (mT7 (List.mem_of_getElem? (i := 142) rfl)) rfl
theorem w7_146 : (Jvm.Cond.code ({ cls := "DotPressModel", name := "contracted", desc := "(IIII)I" } : Jvm.MethodName) prog_14_method_29_code (7 : Nat) (Option.some Jvm.ClassFile.FieldType.int)) ∈ lw_g := lw_in (mT7 (List.mem_of_getElem? (i := 146) rfl)) rfl
theorem w7_150 : (Jvm.Cond.code ({ cls := "DotPressModel", name := "own", desc := "(IIII)I" } : Jvm.MethodName) prog_14_method_27_code (7 : Nat) (Option.some Jvm.ClassFile.FieldType.int)) ∈ lw_g := lw_in (mT7 (List.mem_of_getElem? (i := 150) rfl)) rfl
theorem w7_154 : (Jvm.Cond.code ({ cls := "DotPressModel", name := "fits", desc := "(IIII)Z" } : Jvm.MethodName) prog_14_method_26_code (9 : Nat) (Option.some Jvm.ClassFile.FieldType.boolean)) ∈ lw_g := lw_in (mT7 (List.mem_of_getElem? (i := 154) rfl)) rfl
theorem w7_157 : (Jvm.Cond.code ({ cls := "DotPressModel", name := "isGreat", desc := "(I)Z" } : Jvm.MethodName) prog_14_method_24_code (1 : Nat) (Option.some Jvm.ClassFile.FieldType.boolean)) ∈ lw_g := lw_in (mT7 (List.mem_of_getElem? (i := 157) rfl)) rfl
theorem w7_160 : (Jvm.Cond.code ({ cls := "DotPressModel", name := "isSmall", desc := "(I)Z" } : Jvm.MethodName) prog_14_method_25_code (1 : Nat) (Option.some Jvm.ClassFile.FieldType.boolean)) ∈ lw_g := lw_in (mT7 (List.mem_of_getElem? (i := 160) rfl)) rfl
theorem w7_164 : (Jvm.Cond.code ({ cls := "DotPressModel", name := "notSet", desc := "()I" } : Jvm.MethodName) prog_14_method_33_code (1 : Nat) (Option.some Jvm.ClassFile.FieldType.int)) ∈ lw_g := lw_in (mT7 (List.mem_of_getElem? (i := 164) rfl)) rfl
theorem w7_168 : (Jvm.Cond.code ({ cls := "DotPressModel", name := "badAt", desc := "(II)I" } : Jvm.MethodName) prog_14_method_4_code (3 : Nat) (Option.some Jvm.ClassFile.FieldType.int)) ∈ lw_g := lw_in (mT7 (List.mem_of_getElem? (i := 168) rfl)) rfl
theorem w7_172 : (Jvm.Cond.code ({ cls := "DotPressModel", name := "flow", desc := "(I)Z" } : Jvm.MethodName) prog_14_method_41_code (7 : Nat) (Option.some Jvm.ClassFile.FieldType.boolean)) ∈ lw_g := lw_in (mT7 (List.mem_of_getElem? (i := 172) rfl)) rfl
theorem w7_176 : (Jvm.Cond.code ({ cls := "DotPressModel", name := "breakOf", desc := "(III)I" } : Jvm.MethodName) prog_14_method_40_code (7 : Nat) (Option.some Jvm.ClassFile.FieldType.int)) ∈ lw_g := lw_in (mT7 (List.mem_of_getElem? (i := 176) rfl)) rfl
theorem w7_180 : (Jvm.Cond.code ({ cls := "DotPressModel", name := "putCell", desc := "(I)V" } : Jvm.MethodName) prog_14_method_39_code (3 : Nat) (Option.none : Option Jvm.ClassFile.FieldType)) ∈ lw_g := lw_in (mT7 (List.mem_of_getElem? (i := 180) rfl)) rfl
theorem w7_184 : (Jvm.Cond.code ({ cls := "DotPressModel", name := "centre", desc := "(I)V" } : Jvm.MethodName) prog_14_method_42_code (5 : Nat) (Option.none : Option Jvm.ClassFile.FieldType)) ∈ lw_g := lw_in (mT7 (List.mem_of_getElem? (i := 184) rfl)) rfl
theorem w7_188 : (Jvm.Cond.code ({ cls := "DotPressModel", name := "head", desc := "(I)I" } : Jvm.MethodName) prog_14_method_44_code (5 : Nat) (Option.some Jvm.ClassFile.FieldType.int)) ∈ lw_g := lw_in (mT7 (List.mem_of_getElem? (i := 188) rfl)) rfl
theorem w7_193 : (Jvm.Cond.code ({ cls := "DotPressModel", name := "lines", desc := "()I" } : Jvm.MethodName) prog_14_method_45_code (1 : Nat) (Option.some Jvm.ClassFile.FieldType.int)) ∈ lw_g := lw_in (mT7 (List.mem_of_getElem? (i := 193) rfl)) rfl
theorem w7_197 : (Jvm.Cond.code ({ cls := "DotPressModel", name := "pages", desc := "()I" } : Jvm.MethodName) prog_14_method_48_code (1 : Nat) (Option.some Jvm.ClassFile.FieldType.int)) ∈ lw_g := lw_in (mT7 (List.mem_of_getElem? (i := 197) rfl)) rfl
theorem w7_201 : (Jvm.Cond.code ({ cls := "DotPressModel", name := "onPage", desc := "()I" } : Jvm.MethodName) prog_14_method_47_code (1 : Nat) (Option.some Jvm.ClassFile.FieldType.int)) ∈ lw_g := lw_in (mT7 (List.mem_of_getElem? (i := 201) rfl)) rfl
theorem w7_205 : (Jvm.Cond.code ({ cls := "DotPressModel", name := "hasHead", desc := "()Z" } : Jvm.MethodName) prog_14_method_46_code (1 : Nat) (Option.some Jvm.ClassFile.FieldType.boolean)) ∈ lw_g := lw_in (mT7 (List.mem_of_getElem? (i := 205) rfl)) rfl
theorem w7_209 : (Jvm.Cond.code ({ cls := "DotPressModel", name := "length", desc := "(I)I" } : Jvm.MethodName) prog_14_method_50_code (2 : Nat) (Option.some Jvm.ClassFile.FieldType.int)) ∈ lw_g := lw_in (mT7 (List.mem_of_getElem? (i := 209) rfl)) rfl
theorem w7_213 : (Jvm.Cond.code ({ cls := "DotPressModel", name := "lineFault", desc := "(I)I" } : Jvm.MethodName) prog_14_method_49_code (2 : Nat) (Option.some Jvm.ClassFile.FieldType.int)) ∈ lw_g := lw_in (mT7 (List.mem_of_getElem? (i := 213) rfl)) rfl
theorem w7_217 : (Jvm.Cond.code ({ cls := "DotPressModel", name := "cell", desc := "(II)I" } : Jvm.MethodName) prog_14_method_51_code (3 : Nat) (Option.some Jvm.ClassFile.FieldType.int)) ∈ lw_g := lw_in (mT7 (List.mem_of_getElem? (i := 217) rfl)) rfl
theorem w7_221 : (Jvm.Cond.code ({ cls := "DotPressModel", name := "page", desc := "(III)I" } : Jvm.MethodName) prog_14_method_52_code (5 : Nat) (Option.some Jvm.ClassFile.FieldType.int)) ∈ lw_g := lw_in (mT7 (List.mem_of_getElem? (i := 221) rfl)) rfl
theorem w7_227 : (Jvm.Cond.code ({ cls := "DotPressModel", name := "cut", desc := "(II)I" } : Jvm.MethodName) prog_14_method_53_code (4 : Nat) (Option.some Jvm.ClassFile.FieldType.int)) ∈ lw_g := lw_in (mT7 (List.mem_of_getElem? (i := 227) rfl)) rfl
theorem w7_231 : (Jvm.Cond.code ({ cls := "DotPressModel", name := "lose", desc := "(I)I" } : Jvm.MethodName) prog_14_method_54_code (2 : Nat) (Option.some Jvm.ClassFile.FieldType.int)) ∈ lw_g := lw_in (mT7 (List.mem_of_getElem? (i := 231) rfl)) rfl
theorem w7_235 : (Jvm.Cond.code ({ cls := "DotPressModel", name := "copyRow", desc := "(IIIII)I" } : Jvm.MethodName) prog_14_method_55_code (11 : Nat) (Option.some Jvm.ClassFile.FieldType.int)) ∈ lw_g := lw_in (mT7 (List.mem_of_getElem? (i := 235) rfl)) rfl
theorem w7_239 : (Jvm.Cond.code ({ cls := "DotPressModel", name := "copyLines", desc := "(III)I" } : Jvm.MethodName) prog_14_method_56_code (10 : Nat) (Option.some Jvm.ClassFile.FieldType.int)) ∈ lw_g := lw_in (mT7 (List.mem_of_getElem? (i := 239) rfl)) rfl
theorem w7_24 : (Jvm.Cond.code ({ cls := "DotPressModel", name := "feed", desc := "(IIIII)I" } : Jvm.MethodName) prog_14_method_5_code (8 : Nat) (Option.some Jvm.ClassFile.FieldType.int)) ∈ lw_g := lw_in (mT7 (List.mem_of_getElem? (i := 24) rfl)) rfl
theorem w7_28 : (Jvm.Cond.code ({ cls := "DotPressModel", name := "bad", desc := "(I)I" } : Jvm.MethodName) prog_14_method_3_code (2 : Nat) (Option.some Jvm.ClassFile.FieldType.int)) ∈ lw_g := lw_in (mT7 (List.mem_of_getElem? (i := 28) rfl)) rfl
theorem w7_32 : (Jvm.Cond.code ({ cls := "DotPressModel", name := "fine", desc := "(I)I" } : Jvm.MethodName) prog_14_method_2_code (2 : Nat) (Option.some Jvm.ClassFile.FieldType.int)) ∈ lw_g := lw_in (mT7 (List.mem_of_getElem? (i := 32) rfl)) rfl
theorem w7_36 : (Jvm.Cond.code ({ cls := "DotPressModel", name := "end", desc := "(I)I" } : Jvm.MethodName) prog_14_method_6_code (2 : Nat) (Option.some Jvm.ClassFile.FieldType.int)) ∈ lw_g := lw_in (mT7 (List.mem_of_getElem? (i := 36) rfl)) rfl
theorem w7_40 : (Jvm.Cond.code ({ cls := "DotPressModel", name := "table", desc := "(III)I" } : Jvm.MethodName) prog_14_method_12_code (5 : Nat) (Option.some Jvm.ClassFile.FieldType.int)) ∈ lw_g := lw_in (mT7 (List.mem_of_getElem? (i := 40) rfl)) rfl
theorem w7_43 : (Jvm.Cond.code ({ cls := "DotPressModel", name := "isIn", desc := "(III)Z" } : Jvm.MethodName) prog_14_method_11_code (3 : Nat) (Option.some Jvm.ClassFile.FieldType.boolean)) ∈ lw_g := lw_in (mT7 (List.mem_of_getElem? (i := 43) rfl)) rfl
theorem w7_47 : (Jvm.Cond.code ({ cls := "DotPressModel", name := "isTable", desc := "(I)Z" } : Jvm.MethodName) prog_14_method_9_code (2 : Nat) (Option.some Jvm.ClassFile.FieldType.boolean)) ∈ lw_g := lw_in (mT7 (List.mem_of_getElem? (i := 47) rfl)) rfl
theorem w7_51 : (Jvm.Cond.code ({ cls := "DotPressModel", name := "newTable", desc := "(IIII)I" } : Jvm.MethodName) prog_14_method_13_code (7 : Nat) (Option.some Jvm.ClassFile.FieldType.int)) ∈ lw_g := lw_in (mT7 (List.mem_of_getElem? (i := 51) rfl)) rfl
theorem w7_55 : (Jvm.Cond.code ({ cls := "DotPressModel", name := "step", desc := "(IIII)V" } : Jvm.MethodName) prog_14_method_8_code (7 : Nat) (Option.none : Option Jvm.ClassFile.FieldType)) ∈ lw_g := lw_in (mT7 (List.mem_of_getElem? (i := 55) rfl)) rfl
theorem w7_59 : (Jvm.Cond.code ({ cls := "DotPressModel", name := "join", desc := "(II)I" } : Jvm.MethodName) prog_14_method_14_code (3 : Nat) (Option.some Jvm.ClassFile.FieldType.int)) ∈ lw_g := lw_in (mT7 (List.mem_of_getElem? (i := 59) rfl)) rfl
theorem w7_64 : (Jvm.Cond.code ({ cls := "DotPressModel", name := "drop", desc := "(I)I" } : Jvm.MethodName) prog_14_method_15_code (2 : Nat) (Option.some Jvm.ClassFile.FieldType.int)) ∈ lw_g := lw_in (mT7 (List.mem_of_getElem? (i := 64) rfl)) rfl
theorem w7_68 : (Jvm.Cond.code ({ cls := "DotPressModel", name := "rule", desc := "(III)I" } : Jvm.MethodName) prog_14_method_18_code (8 : Nat) (Option.some Jvm.ClassFile.FieldType.int)) ∈ lw_g := lw_in (mT7 (List.mem_of_getElem? (i := 68) rfl)) rfl
theorem w7_72 : (Jvm.Cond.code ({ cls := "DotPressModel", name := "taken", desc := "()I" } : Jvm.MethodName) prog_14_method_7_code (2 : Nat) (Option.some Jvm.ClassFile.FieldType.int)) ∈ lw_g := lw_in (mT7 (List.mem_of_getElem? (i := 72) rfl)) rfl
theorem w7_76 : (Jvm.Cond.code ({ cls := "DotPressModel", name := "areCells", desc := "(III)Z" } : Jvm.MethodName) prog_14_method_17_code (6 : Nat) (Option.some Jvm.ClassFile.FieldType.boolean)) ∈ lw_g := lw_in (mT7 (List.mem_of_getElem? (i := 76) rfl)) rfl
theorem w7_79 : (Jvm.Cond.code ({ cls := "DotPressModel", name := "isLetter", desc := "(I)Z" } : Jvm.MethodName) prog_14_method_16_code (1 : Nat) (Option.some Jvm.ClassFile.FieldType.boolean)) ∈ lw_g := lw_in (mT7 (List.mem_of_getElem? (i := 79) rfl)) rfl
theorem w7_83 : (Jvm.Cond.code ({ cls := "DotPressModel", name := "condition", desc := "(III)I" } : Jvm.MethodName) prog_14_method_19_code (5 : Nat) (Option.some Jvm.ClassFile.FieldType.int)) ∈ lw_g := lw_in (mT7 (List.mem_of_getElem? (i := 83) rfl)) rfl
theorem w7_87 : (Jvm.Cond.code ({ cls := "DotPressModel", name := "indicator", desc := "(II)I" } : Jvm.MethodName) prog_14_method_20_code (8 : Nat) (Option.some Jvm.ClassFile.FieldType.int)) ∈ lw_g := lw_in (mT7 (List.mem_of_getElem? (i := 87) rfl)) rfl
theorem w7_91 : (Jvm.Cond.code ({ cls := "DotPressModel", name := "undo", desc := "()I" } : Jvm.MethodName) prog_14_method_21_code (5 : Nat) (Option.some Jvm.ClassFile.FieldType.int)) ∈ lw_g := lw_in (mT7 (List.mem_of_getElem? (i := 91) rfl)) rfl
theorem w7_95 : (Jvm.Cond.code ({ cls := "DotPressModel", name := "finds", desc := "(I)I" } : Jvm.MethodName) prog_14_method_22_code (2 : Nat) (Option.some Jvm.ClassFile.FieldType.int)) ∈ lw_g := lw_in (mT7 (List.mem_of_getElem? (i := 95) rfl)) rfl
theorem w7_99 : (Jvm.Cond.code ({ cls := "DotPressModel", name := "text", desc := "()I" } : Jvm.MethodName) prog_14_method_34_code (4 : Nat) (Option.some Jvm.ClassFile.FieldType.int)) ∈ lw_g := lw_in (mT7 (List.mem_of_getElem? (i := 99) rfl)) rfl
theorem w8_103 : (Jvm.Cond.code ({ cls := "DotPressModel", name := "next", desc := "(II)I" } : Jvm.MethodName) prog_14_method_77_code (3 : Nat) (Option.some Jvm.ClassFile.FieldType.int)) ∈ lw_g := lw_in (mT8 (List.mem_of_getElem? (i := 103) rfl)) rfl
theorem w8_107 : (Jvm.Cond.code ({ cls := "DotPressModel", name := "go", desc := "(IIZ)V" } : Jvm.MethodName) prog_14_method_82_code (8 : Nat) (Option.none : Option Jvm.ClassFile.FieldType)) ∈ lw_g := lw_in (mT8 (List.mem_of_getElem? (i := 107) rfl)) rfl
theorem w8_111 : (Jvm.Cond.code ({ cls := "DotPressModel", name := "keep", desc := "()V" } : Jvm.MethodName) prog_14_method_83_code (2 : Nat) (Option.none : Option Jvm.ClassFile.FieldType)) ∈ lw_g := lw_in (mT8 (List.mem_of_getElem? (i := 111) rfl)) rfl
theorem w8_115 : (Jvm.Cond.code ({ cls := "DotPressModel", name := "more", desc := "()I" } : Jvm.MethodName) prog_14_method_85_code (1 : Nat) (Option.some Jvm.ClassFile.FieldType.int)) ∈ lw_g := lw_in (mT8 (List.mem_of_getElem? (i := 115) rfl)) rfl
theorem w8_119 : (Jvm.Cond.code ({ cls := "DotPressModel", name := "reading", desc := "(II)I" } : Jvm.MethodName) prog_14_method_86_code (3 : Nat) (Option.some Jvm.ClassFile.FieldType.int)) ∈ lw_g := lw_in (mT8 (List.mem_of_getElem? (i := 119) rfl)) rfl
theorem w8_12 : (Jvm.Cond.code ({ cls := "DotPressModel", name := "closed", desc := "()I" } : Jvm.MethodName) prog_14_method_59_code (1 : Nat) (Option.some Jvm.ClassFile.FieldType.int)) ∈ lw_g := lw_in (mT8 (List.mem_of_getElem? (i := 12) rfl)) rfl
theorem w8_123 : (Jvm.Cond.code ({ cls := "DotPressModel", name := "judge", desc := "(I)I" } : Jvm.MethodName) prog_14_method_90_code (3 : Nat) (Option.some Jvm.ClassFile.FieldType.int)) ∈ lw_g := lw_in (mT8 (List.mem_of_getElem? (i := 123) rfl)) rfl
theorem w8_127 : (Jvm.Cond.code ({ cls := "DotPressModel", name := "isShort", desc := "(I)Z" } : Jvm.MethodName) prog_14_method_87_code (4 : Nat) (Option.some Jvm.ClassFile.FieldType.boolean)) ∈ lw_g := lw_in (mT8 (List.mem_of_getElem? (i := 127) rfl)) rfl
theorem w8_131 : (Jvm.Cond.code ({ cls := "DotPressModel", name := "isReadable", desc := "(I)Z" } : Jvm.MethodName) prog_14_method_89_code (6 : Nat) (Option.some Jvm.ClassFile.FieldType.boolean)) ∈ lw_g := lw_in (mT8 (List.mem_of_getElem? (i := 131) rfl)) rfl
theorem w8_135 : (Jvm.Cond.code ({ cls := "DotPressModel", name := "alike", desc := "(II)I" } : Jvm.MethodName) prog_14_method_88_code (4 : Nat) (Option.some Jvm.ClassFile.FieldType.int)) ∈ lw_g := lw_in (mT8 (List.mem_of_getElem? (i := 135) rfl)) rfl
theorem w8_139 : (Jvm.Cond.code ({ cls := "DotPressModel", name := "parts", desc := "(III)I" } : Jvm.MethodName) prog_14_method_91_code (5 : Nat) (Option.some Jvm.ClassFile.FieldType.int)) ∈ lw_g := lw_in (mT8 (List.mem_of_getElem? (i := 139) rfl)) rfl
theorem w8_143 : (Jvm.Cond.code ({ cls := "DotPressModel", name := "unreadable", desc := "(III)I" } : Jvm.MethodName) prog_14_method_94_code (9 : Nat) (Option.some Jvm.ClassFile.FieldType.int)) ∈ lw_g := lw_in (mT8 (List.mem_of_getElem? (i := 143) rfl)) rfl
theorem w8_147 : (Jvm.Cond.code ({ cls := "DotPressModel", name := "gatherSigns", desc := "(I)V" } : Jvm.MethodName) prog_14_method_92_code (8 : Nat) (Option.none : Option Jvm.ClassFile.FieldType)) ∈ lw_g := lw_in (mT8 (List.mem_of_getElem? (i := 147) rfl)) rfl
theorem w8_151 : (Jvm.Cond.code ({ cls := "DotPressModel", name := "putBack", desc := "()V" } : Jvm.MethodName) prog_14_method_95_code (2 : Nat) (Option.none : Option Jvm.ClassFile.FieldType)) ∈ lw_g := lw_in (mT8 (List.mem_of_getElem? (i := 151) rfl)) rfl
theorem w8_155 : (Jvm.Cond.code ({ cls := "DotPressModel", name := "isUnreadable", desc := "(I)Z" } : Jvm.MethodName) prog_14_method_93_code (3 : Nat) (Option.some Jvm.ClassFile.FieldType.boolean)) ∈ lw_g := lw_in (mT8 (List.mem_of_getElem? (i := 155) rfl)) rfl
theorem w8_159 : (Jvm.Cond.code ({ cls := "DotPressModel", name := "place", desc := "()I" } : Jvm.MethodName) prog_14_method_96_code (1 : Nat) (Option.some Jvm.ClassFile.FieldType.int)) ∈ lw_g := lw_in (mT8 (List.mem_of_getElem? (i := 159) rfl)) rfl
theorem w8_16 : (Jvm.Cond.code ({ cls := "DotPressModel", name := "saved", desc := "(II)I" } : Jvm.MethodName) prog_14_method_60_code (8 : Nat) (Option.some Jvm.ClassFile.FieldType.int)) ∈ lw_g := lw_in (mT8 (List.mem_of_getElem? (i := 16) rfl)) rfl
theorem w8_163 : (Jvm.Cond.code ({ cls := "DotPressModel", name := "status", desc := "()I" } : Jvm.MethodName) prog_14_method_97_code (1 : Nat) (Option.some Jvm.ClassFile.FieldType.int)) ∈ lw_g := lw_in (mT8 (List.mem_of_getElem? (i := 163) rfl)) rfl
theorem w8_167 : (Jvm.Cond.code ({ cls := "DotPressModel", name := "digest", desc := "()I" } : Jvm.MethodName) prog_14_method_98_code (4 : Nat) (Option.some Jvm.ClassFile.FieldType.int)) ∈ lw_g := lw_in (mT8 (List.mem_of_getElem? (i := 167) rfl)) rfl
theorem w8_20 : (Jvm.Cond.code ({ cls := "DotPressModel", name := "read", desc := "(III)I" } : Jvm.MethodName) prog_14_method_72_code (11 : Nat) (Option.some Jvm.ClassFile.FieldType.int)) ∈ lw_g := lw_in (mT8 (List.mem_of_getElem? (i := 20) rfl)) rfl
theorem w8_24 : (Jvm.Cond.code ({ cls := "DotPressModel", name := "putRow", desc := "(II)V" } : Jvm.MethodName) prog_14_method_73_code (3 : Nat) (Option.none : Option Jvm.ClassFile.FieldType)) ∈ lw_g := lw_in (mT8 (List.mem_of_getElem? (i := 24) rfl)) rfl
theorem w8_28 : (Jvm.Cond.code ({ cls := "DotPressModel", name := "gather", desc := "(I)V" } : Jvm.MethodName) prog_14_method_64_code (2 : Nat) (Option.none : Option Jvm.ClassFile.FieldType)) ∈ lw_g := lw_in (mT8 (List.mem_of_getElem? (i := 28) rfl)) rfl
theorem w8_3 : (Jvm.Cond.code ({ cls := "DotPressModel", name := "copied", desc := "()I" } : Jvm.MethodName) prog_14_method_57_code (1 : Nat) (Option.some Jvm.ClassFile.FieldType.int)) ∈ lw_g := lw_in (mT8 (List.mem_of_getElem? (i := 3) rfl)) rfl
theorem w8_32 : (Jvm.Cond.code ({ cls := "DotPressModel", name := "addRows", desc := "(II)V" } : Jvm.MethodName) prog_14_method_63_code (5 : Nat) (Option.none : Option Jvm.ClassFile.FieldType)) ∈ lw_g := lw_in (mT8 (List.mem_of_getElem? (i := 32) rfl)) rfl
theorem w8_36 : (Jvm.Cond.code ({ cls := "DotPressModel", name := "addRow", desc := "(IIII)V" } : Jvm.MethodName) prog_14_method_61_code (6 : Nat) (Option.none : Option Jvm.ClassFile.FieldType)) ∈ lw_g := lw_in (mT8 (List.mem_of_getElem? (i := 36) rfl)) rfl
theorem w8_40 : (Jvm.Cond.code ({ cls := "DotPressModel", name := "addIndicator", desc := "(III)V" } : Jvm.MethodName) prog_14_method_62_code (5 : Nat) (Option.none : Option Jvm.ClassFile.FieldType)) ∈ lw_g := lw_in (mT8 (List.mem_of_getElem? (i := 40) rfl)) rfl
theorem w8_44 : (Jvm.Cond.code ({ cls := "DotPressModel", name := "readAll", desc := "()I" } : Jvm.MethodName) prog_14_method_70_code (5 : Nat) (Option.some Jvm.ClassFile.FieldType.int)) ∈ lw_g := lw_in (mT8 (List.mem_of_getElem? (i := 44) rfl)) rfl
theorem w8_48 : (Jvm.Cond.code ({ cls := "DotPressModel", name := "tell", desc := "(I)Z" } : Jvm.MethodName) prog_14_method_69_code (2 : Nat) (Option.some Jvm.ClassFile.FieldType.boolean)) ∈ lw_g := lw_in (mT8 (List.mem_of_getElem? (i := 48) rfl)) rfl
theorem w8_52 : (Jvm.Cond.code ({ cls := "DotPressModel", name := "readWord", desc := "(II)I" } : Jvm.MethodName) prog_14_method_71_code (9 : Nat) (Option.some Jvm.ClassFile.FieldType.int)) ∈ lw_g := lw_in (mT8 (List.mem_of_getElem? (i := 52) rfl)) rfl
theorem w8_56 : (Jvm.Cond.code ({ cls := "DotPressModel", name := "longest", desc := "(III)I" } : Jvm.MethodName) prog_14_method_68_code (6 : Nat) (Option.some Jvm.ClassFile.FieldType.int)) ∈ lw_g := lw_in (mT8 (List.mem_of_getElem? (i := 56) rfl)) rfl
theorem w8_60 : (Jvm.Cond.code ({ cls := "DotPressModel", name := "stands", desc := "(III)Z" } : Jvm.MethodName) prog_14_method_67_code (6 : Nat) (Option.some Jvm.ClassFile.FieldType.boolean)) ∈ lw_g := lw_in (mT8 (List.mem_of_getElem? (i := 60) rfl)) rfl
theorem w8_64 : (Jvm.Cond.code ({ cls := "DotPressModel", name := "rowCell", desc := "(II)I" } : Jvm.MethodName) prog_14_method_65_code (3 : Nat) (Option.some Jvm.ClassFile.FieldType.int)) ∈ lw_g := lw_in (mT8 (List.mem_of_getElem? (i := 64) rfl)) rfl
theorem w8_68 : (Jvm.Cond.code ({ cls := "DotPressModel", name := "isSmallRule", desc := "(I)Z" } : Jvm.MethodName) prog_14_method_66_code (2 : Nat) (Option.some Jvm.ClassFile.FieldType.boolean)) ∈ lw_g := lw_in (mT8 (List.mem_of_getElem? (i := 68) rfl)) rfl
theorem w8_7 : (Jvm.Cond.code ({ cls := "DotPressModel", name := "emboss", desc := "(II)I" } : Jvm.MethodName) prog_14_method_58_code (9 : Nat) (Option.some Jvm.ClassFile.FieldType.int)) ∈ lw_g := lw_in (mT8 (List.mem_of_getElem? (i := 7) rfl)) rfl
theorem w8_72 : (Jvm.Cond.code ({ cls := "DotPressModel", name := "letter", desc := "(I)I" } : Jvm.MethodName) prog_14_method_74_code (2 : Nat) (Option.some Jvm.ClassFile.FieldType.int)) ∈ lw_g := lw_in (mT8 (List.mem_of_getElem? (i := 72) rfl)) rfl
theorem w8_76 : (Jvm.Cond.code ({ cls := "DotPressModel", name := "failed", desc := "(IZ)I" } : Jvm.MethodName) prog_14_method_75_code (3 : Nat) (Option.some Jvm.ClassFile.FieldType.int)) ∈ lw_g := lw_in (mT8 (List.mem_of_getElem? (i := 76) rfl)) rfl
theorem w8_80 : (Jvm.Cond.code ({ cls := "DotPressModel", name := "readings", desc := "(III)I" } : Jvm.MethodName) prog_14_method_84_code (5 : Nat) (Option.some Jvm.ClassFile.FieldType.int)) ∈ lw_g := lw_in (mT8 (List.mem_of_getElem? (i := 80) rfl)) rfl
theorem w8_84 : (Jvm.Cond.code ({ cls := "DotPressModel", name := "findCan", desc := "()V" } : Jvm.MethodName) prog_14_method_81_code (7 : Nat) (Option.none : Option Jvm.ClassFile.FieldType)) ∈ lw_g := lw_in (mT8 (List.mem_of_getElem? (i := 84) rfl)) rfl
theorem w8_88 : (Jvm.Cond.code ({ cls := "DotPressModel", name := "mayBlank", desc := "(IZ)Z" } : Jvm.MethodName) prog_14_method_80_code (3 : Nat) (Option.some Jvm.ClassFile.FieldType.boolean)) ∈ lw_g := lw_in (mT8 (List.mem_of_getElem? (i := 88) rfl)) rfl
theorem w8_92 : (Jvm.Cond.code ({ cls := "DotPressModel", name := "looksLike", desc := "(II)Z" } : Jvm.MethodName) prog_14_method_76_code (3 : Nat) (Option.some Jvm.ClassFile.FieldType.boolean)) ∈ lw_g := lw_in (mT8 (List.mem_of_getElem? (i := 92) rfl)) rfl
theorem w8_95 : (Jvm.Cond.code ({ cls := "DotPressModel", name := "state", desc := "(IIZ)I" } : Jvm.MethodName) prog_14_method_78_code (3 : Nat) (Option.some Jvm.ClassFile.FieldType.int)) ∈ lw_g := lw_in (mT8 (List.mem_of_getElem? (i := 95) rfl)) rfl
theorem w8_99 : (Jvm.Cond.code ({ cls := "DotPressModel", name := "may", desc := "(IIIZ)Z" } : Jvm.MethodName) prog_14_method_79_code (6 : Nat) (Option.some Jvm.ClassFile.FieldType.boolean)) ∈ lw_g := lw_in (mT8 (List.mem_of_getElem? (i := 99) rfl)) rfl
theorem wgr1_0 : lwcdp tables_1_1 [(0, (Jvm.Cond.initialized "DotPressLaw")), (1, (Jvm.Cond.initialized "DotPress")), (2, (Jvm.Cond.initialized "DotPress$Ints")), (3, (Jvm.Cond.initialized "DotPress$Tables")), (4, (Jvm.Cond.initialized "java/util/AbstractCollection")), (5, (Jvm.Cond.initialized "java/util/AbstractList")), (6, (Jvm.Cond.initialized "java/util/ArrayList")), (7, (Jvm.Cond.initialized "DotPress$Source")), (8, (Jvm.Cond.initialized "DotPress$Setting")), (9, (Jvm.Cond.initialized "DotPress$Reader"))] := lwcdf (by decide +kernel)
def w1_1 := lw_in (mT1 wgr1_0.2.1) rfl
def w1_2 := lw_in (mT1 wgr1_0.2.2.1) rfl
def w1_3 := lw_in (mT1 wgr1_0.2.2.2.1) rfl
def w1_4 := lw_in (mT1 wgr1_0.2.2.2.2.1) rfl
def w1_5 := lw_in (mT1 wgr1_0.2.2.2.2.2.1) rfl
def w1_6t := mT1 wgr1_0.2.2.2.2.2.2.1
def w1_6 := lw_in (mT1 wgr1_0.2.2.2.2.2.2.1) rfl
def w1_7 := lw_in (mT1 wgr1_0.2.2.2.2.2.2.2.1) rfl
def w1_8 := lw_in (mT1 wgr1_0.2.2.2.2.2.2.2.2.1) rfl
def w1_9 := lw_in (mT1 wgr1_0.2.2.2.2.2.2.2.2.2.1) rfl
theorem wgr1_1 : lwcdp tables_1_1 [(10, (Jvm.Cond.initialized "DotPress$Readings")), (11, (Jvm.Cond.initialized "DotPress$Sheet")), (12, (Jvm.Cond.initialized "DotPressModel")), (13, (Jvm.Cond.initialized "java/util/Arrays")), (14, (Jvm.Cond.initialized "java/lang/Math")), (15, (Jvm.Cond.initialized "java/lang/System")), (16, (Jvm.Cond.initialized "DotPress$Table")), (17, (Jvm.Cond.initialized "jdk/internal/util/ArraysSupport")), (18, (Jvm.Cond.initialized "DotPress$Change")), (19, (Jvm.Cond.initialized "java/util/Objects"))] := lwcdf (by decide +kernel)
def w1_10 := lw_in (mT1 wgr1_1.1) rfl
def w1_11 := lw_in (mT1 wgr1_1.2.1) rfl
def w1_12 := lw_in (mT1 wgr1_1.2.2.1) rfl
def w1_13 := lw_in (mT1 wgr1_1.2.2.2.1) rfl
def w1_14 := lw_in (mT1 wgr1_1.2.2.2.2.1) rfl
def w1_15 := lw_in (mT1 wgr1_1.2.2.2.2.2.1) rfl
def w1_16 := lw_in (mT1 wgr1_1.2.2.2.2.2.2.1) rfl
def w1_17 := lw_in (mT1 wgr1_1.2.2.2.2.2.2.2.1) rfl
def w1_18 := lw_in (mT1 wgr1_1.2.2.2.2.2.2.2.2.1) rfl
def w1_19 := lw_in (mT1 wgr1_1.2.2.2.2.2.2.2.2.2.1) rfl
theorem wgr1_2 : lwcdp tables_1_1 [(20, (Jvm.Cond.initialized "jdk/internal/util/Preconditions")), (21, (Jvm.Cond.initialized "DotPress$Row")), (22, (Jvm.Cond.initialized "DotPress$Line")), (23, (Jvm.Cond.initialized "java/lang/Integer")), (24, (Jvm.Cond.classLink "DotPressLaw" (7 : Nat) "DotPress")), (25, (Jvm.Cond.instantiable "DotPress" (19 : Nat))), (26, (Jvm.Cond.methodLink "DotPressLaw" (9 : Nat) ({ cls := "DotPress", name := "<init>", desc := "()V" } : Jvm.MethodName))), (27, (Jvm.Cond.instanceMethod ({ cls := "DotPress", name := "<init>", desc := "()V" } : Jvm.MethodName))), (29, (Jvm.Cond.methodLink "DotPress" (1 : Nat) ({ cls := "java/lang/Object", name := "<init>", desc := "()V" } : Jvm.MethodName))), (30, (Jvm.Cond.instanceMethod ({ cls := "java/lang/Object", name := "<init>", desc := "()V" } : Jvm.MethodName)))] := lwcdf (by decide +kernel)
def w1_20 := lw_in (mT1 wgr1_2.1) rfl
def w1_21 := lw_in (mT1 wgr1_2.2.1) rfl
def w1_22 := lw_in (mT1 wgr1_2.2.2.1) rfl
def w1_23 := lw_in (mT1 wgr1_2.2.2.2.1) rfl
def w1_24 := lw_in (mT1 wgr1_2.2.2.2.2.1) rfl
def w1_25 := lw_in (mT1 wgr1_2.2.2.2.2.2.1) rfl
def w1_26 := lw_in (mT1 wgr1_2.2.2.2.2.2.2.1) rfl
def w1_27 := lw_in (mT1 wgr1_2.2.2.2.2.2.2.2.1) rfl
def w1_29 := lw_in (mT1 wgr1_2.2.2.2.2.2.2.2.2.1) rfl
def w1_30 := lw_in (mT1 wgr1_2.2.2.2.2.2.2.2.2.2.1) rfl
theorem wgr1_3 : lwcdp tables_1_1 [(32, (Jvm.Cond.classLink "DotPress" (7 : Nat) "DotPress$Ints")), (33, (Jvm.Cond.instantiable "DotPress$Ints" (3 : Nat))), (34, (Jvm.Cond.methodLink "DotPress" (11 : Nat) ({ cls := "DotPress$Ints", name := "<init>", desc := "(I)V" } : Jvm.MethodName))), (35, (Jvm.Cond.instanceMethod ({ cls := "DotPress$Ints", name := "<init>", desc := "(I)V" } : Jvm.MethodName))), (37, (Jvm.Cond.methodLink "DotPress$Ints" (1 : Nat) ({ cls := "java/lang/Object", name := "<init>", desc := "()V" } : Jvm.MethodName))), (38, (Jvm.Cond.fieldLink "DotPress$Ints" (13 : Nat) "DotPress$Ints" "limit" "I")), (39, (Jvm.Cond.fieldLink "DotPress$Ints" (16 : Nat) "DotPress$Ints" "items" "[I")), (40, (Jvm.Cond.fieldLink "DotPress$Row" (44 : Nat) "DotPress$Ints" "items" "[I")), (41, (Jvm.Cond.fieldLink "DotPress$Reader" (154 : Nat) "DotPress$Ints" "items" "[I")), (42, (Jvm.Cond.fieldLink "DotPress$Setting" (142 : Nat) "DotPress$Ints" "items" "[I"))] := lwcdf (by decide +kernel)
def w1_32 := lw_in (mT1 wgr1_3.1) rfl
def w1_33 := lw_in (mT1 wgr1_3.2.1) rfl
def w1_34 := lw_in (mT1 wgr1_3.2.2.1) rfl
def w1_35 := lw_in (mT1 wgr1_3.2.2.2.1) rfl
def w1_37 := lw_in (mT1 wgr1_3.2.2.2.2.1) rfl
def w1_38 := lw_in (mT1 wgr1_3.2.2.2.2.2.1) rfl
def w1_39 := lw_in (mT1 wgr1_3.2.2.2.2.2.2.1) rfl
def w1_40 := lw_in (mT1 wgr1_3.2.2.2.2.2.2.2.1) rfl
def w1_41 := lw_in (mT1 wgr1_3.2.2.2.2.2.2.2.2.1) rfl
def w1_42 := lw_in (mT1 wgr1_3.2.2.2.2.2.2.2.2.2.1) rfl
theorem wgr1_4 : lwcdp tables_1_1 [(43, (Jvm.Cond.fieldLink "DotPress$Ints" (7 : Nat) "DotPress$Ints" "size" "I")), (44, (Jvm.Cond.fieldLink "DotPress" (99 : Nat) "DotPress$Ints" "size" "I")), (45, (Jvm.Cond.fieldLink "DotPress$Source" (48 : Nat) "DotPress$Ints" "size" "I")), (46, (Jvm.Cond.fieldLink "DotPress$Row" (39 : Nat) "DotPress$Ints" "size" "I")), (47, (Jvm.Cond.fieldLink "DotPress$Setting" (51 : Nat) "DotPress$Ints" "size" "I")), (48, (Jvm.Cond.fieldLink "DotPress$Readings" (135 : Nat) "DotPress$Ints" "size" "I")), (49, (Jvm.Cond.fieldLink "DotPress$Reader" (118 : Nat) "DotPress$Ints" "size" "I")), (50, (Jvm.Cond.laysFinal "DotPress$Ints" "DotPress$Ints" "limit" "I")), (51, (Jvm.Cond.soleField "DotPress$Ints" "limit")), (52, (Jvm.Cond.lays "DotPress$Ints" "DotPress$Ints" "items" "[I"))] := lwcdf (by decide +kernel)
def w1_43 := lw_in (mT1 wgr1_4.1) rfl
def w1_44 := lw_in (mT1 wgr1_4.2.1) rfl
def w1_45 := lw_in (mT1 wgr1_4.2.2.1) rfl
def w1_46 := lw_in (mT1 wgr1_4.2.2.2.1) rfl
def w1_47 := lw_in (mT1 wgr1_4.2.2.2.2.1) rfl
def w1_48 := lw_in (mT1 wgr1_4.2.2.2.2.2.1) rfl
def w1_49 := lw_in (mT1 wgr1_4.2.2.2.2.2.2.1) rfl
def w1_50 := lw_in (mT1 wgr1_4.2.2.2.2.2.2.2.1) rfl
def w1_52 := lw_in (mT1 wgr1_4.2.2.2.2.2.2.2.2.2.1) rfl
theorem wgr1_5 : lwcdp tables_1_1 [(53, (Jvm.Cond.soleField "DotPress$Ints" "items")), (54, (Jvm.Cond.lays "DotPress$Ints" "DotPress$Ints" "size" "I")), (55, (Jvm.Cond.soleField "DotPress$Ints" "size")), (56, (Jvm.Cond.superclass "DotPress$Ints" "java/lang/Object")), (57, (Jvm.Cond.arrayClass Jvm.ClassFile.FieldType.int)), (58, (Jvm.Cond.classLink "DotPress" (27 : Nat) "DotPress$Tables")), (59, (Jvm.Cond.instantiable "DotPress$Tables" (2 : Nat))), (60, (Jvm.Cond.methodLinkNest "DotPress" (29 : Nat) ({ cls := "DotPress$Tables", name := "<init>", desc := "()V" } : Jvm.MethodName) "DotPress")), (61, (Jvm.Cond.instanceMethod ({ cls := "DotPress$Tables", name := "<init>", desc := "()V" } : Jvm.MethodName))), (63, (Jvm.Cond.methodLink "DotPress$Tables" (3 : Nat) ({ cls := "java/lang/Object", name := "<init>", desc := "()V" } : Jvm.MethodName)))] := lwcdf (by decide +kernel)
def w1_54 := lw_in (mT1 wgr1_5.2.1) rfl
def w1_57t := mT1 wgr1_5.2.2.2.2.1
def w1_57 := lw_in (mT1 wgr1_5.2.2.2.2.1) rfl
def w1_58 := lw_in (mT1 wgr1_5.2.2.2.2.2.1) rfl
def w1_59 := lw_in (mT1 wgr1_5.2.2.2.2.2.2.1) rfl
def w1_60t := mT1 wgr1_5.2.2.2.2.2.2.2.1
def w1_61 := lw_in (mT1 wgr1_5.2.2.2.2.2.2.2.2.1) rfl
def w1_63 := lw_in (mT1 wgr1_5.2.2.2.2.2.2.2.2.2.1) rfl
theorem wgr1_6 : lwcdp tables_1_1 [(64, (Jvm.Cond.classLink "DotPress$Tables" (9 : Nat) "java/util/ArrayList")), (65, (Jvm.Cond.instantiable "java/util/ArrayList" (3 : Nat))), (66, (Jvm.Cond.methodLink "DotPress$Tables" (11 : Nat) ({ cls := "java/util/ArrayList", name := "<init>", desc := "()V" } : Jvm.MethodName))), (67, (Jvm.Cond.instanceMethod ({ cls := "java/util/ArrayList", name := "<init>", desc := "()V" } : Jvm.MethodName))), (69, (Jvm.Cond.methodLink "java/util/ArrayList" (1 : Nat) ({ cls := "java/util/AbstractList", name := "<init>", desc := "()V" } : Jvm.MethodName))), (70, (Jvm.Cond.instanceMethod ({ cls := "java/util/AbstractList", name := "<init>", desc := "()V" } : Jvm.MethodName))), (72, (Jvm.Cond.methodLink "java/util/AbstractList" (1 : Nat) ({ cls := "java/util/AbstractCollection", name := "<init>", desc := "()V" } : Jvm.MethodName))), (73, (Jvm.Cond.instanceMethod ({ cls := "java/util/AbstractCollection", name := "<init>", desc := "()V" } : Jvm.MethodName))), (75, (Jvm.Cond.methodLink "java/util/AbstractCollection" (1 : Nat) ({ cls := "java/lang/Object", name := "<init>", desc := "()V" } : Jvm.MethodName))), (76, (Jvm.Cond.fieldLink "java/util/ArrayList" (39 : Nat) "java/util/ArrayList" "DEFAULTCAPACITY_EMPTY_ELEMENTDATA" "[Ljava/lang/Object;"))] := lwcdf (by decide +kernel)
def w1_64 := lw_in (mT1 wgr1_6.1) rfl
def w1_65 := lw_in (mT1 wgr1_6.2.1) rfl
def w1_66 := lw_in (mT1 wgr1_6.2.2.1) rfl
def w1_67 := lw_in (mT1 wgr1_6.2.2.2.1) rfl
def w1_69 := lw_in (mT1 wgr1_6.2.2.2.2.1) rfl
def w1_70 := lw_in (mT1 wgr1_6.2.2.2.2.2.1) rfl
def w1_72 := lw_in (mT1 wgr1_6.2.2.2.2.2.2.1) rfl
def w1_73 := lw_in (mT1 wgr1_6.2.2.2.2.2.2.2.1) rfl
def w1_75 := lw_in (mT1 wgr1_6.2.2.2.2.2.2.2.2.1) rfl
def w1_76 := lw_in (mT1 wgr1_6.2.2.2.2.2.2.2.2.2.1) rfl
theorem wgr1_7 : lwcdp tables_1_1 [(77, (Jvm.Cond.laysStatic "java/util/ArrayList" "DEFAULTCAPACITY_EMPTY_ELEMENTDATA" "[Ljava/lang/Object;")), (78, (Jvm.Cond.fieldLink "java/util/ArrayList" (9 : Nat) "java/util/ArrayList" "elementData" "[Ljava/lang/Object;")), (79, (Jvm.Cond.fieldLink "java/util/ArrayList" (48 : Nat) "java/util/ArrayList" "size" "I")), (80, (Jvm.Cond.fieldLink "java/util/AbstractList" (7 : Nat) "java/util/AbstractList" "modCount" "I")), (81, (Jvm.Cond.fieldLink "java/util/ArrayList" (63 : Nat) "java/util/ArrayList" "modCount" "I")), (82, (Jvm.Cond.sameField "java/util/ArrayList" "java/util/AbstractList" "modCount" "I")), (83, (Jvm.Cond.lays "java/util/ArrayList" "java/util/ArrayList" "elementData" "[Ljava/lang/Object;")), (84, (Jvm.Cond.soleField "java/util/ArrayList" "elementData")), (85, (Jvm.Cond.lays "java/util/ArrayList" "java/util/ArrayList" "size" "I")), (86, (Jvm.Cond.soleField "java/util/ArrayList" "size"))] := lwcdf (by decide +kernel)
def w1_77t := mT1 wgr1_7.1
def w1_78 := lw_in (mT1 wgr1_7.2.1) rfl
def w1_79 := lw_in (mT1 wgr1_7.2.2.1) rfl
def w1_80 := lw_in (mT1 wgr1_7.2.2.2.1) rfl
def w1_81 := lw_in (mT1 wgr1_7.2.2.2.2.1) rfl
def w1_82 := lw_in (mT1 wgr1_7.2.2.2.2.2.1) rfl
def w1_83 := lw_in (mT1 wgr1_7.2.2.2.2.2.2.1) rfl
def w1_85 := lw_in (mT1 wgr1_7.2.2.2.2.2.2.2.2.1) rfl
theorem wgr1_8 : lwcdp tables_1_1 [(87, (Jvm.Cond.lays "java/util/ArrayList" "java/util/AbstractList" "modCount" "I")), (88, (Jvm.Cond.soleField "java/util/AbstractList" "modCount")), (89, (Jvm.Cond.superclass "java/util/ArrayList" "java/util/AbstractList")), (90, (Jvm.Cond.fieldLink "DotPress$Tables" (12 : Nat) "DotPress$Tables" "made" "Ljava/util/ArrayList;")), (91, (Jvm.Cond.fieldLink "DotPress$Tables" (18 : Nat) "DotPress$Tables" "changes" "Ljava/util/ArrayList;")), (92, (Jvm.Cond.laysFinal "DotPress$Tables" "DotPress$Tables" "made" "Ljava/util/ArrayList;")), (93, (Jvm.Cond.soleField "DotPress$Tables" "made")), (94, (Jvm.Cond.laysFinal "DotPress$Tables" "DotPress$Tables" "changes" "Ljava/util/ArrayList;")), (95, (Jvm.Cond.soleField "DotPress$Tables" "changes")), (96, (Jvm.Cond.superclass "DotPress$Tables" "java/lang/Object"))] := lwcdf (by decide +kernel)
def w1_87 := lw_in (mT1 wgr1_8.1) rfl
def w1_90 := lw_in (mT1 wgr1_8.2.2.2.1) rfl
def w1_91 := lw_in (mT1 wgr1_8.2.2.2.2.1) rfl
def w1_92 := lw_in (mT1 wgr1_8.2.2.2.2.2.1) rfl
def w1_94 := lw_in (mT1 wgr1_8.2.2.2.2.2.2.2.1) rfl
theorem wgr1_9 : lwcdp tables_1_1 [(97, (Jvm.Cond.classLink "DotPress" (34 : Nat) "DotPress$Source")), (98, (Jvm.Cond.instantiable "DotPress$Source" (8 : Nat))), (99, (Jvm.Cond.methodLinkNest "DotPress" (36 : Nat) ({ cls := "DotPress$Source", name := "<init>", desc := "()V" } : Jvm.MethodName) "DotPress")), (100, (Jvm.Cond.instanceMethod ({ cls := "DotPress$Source", name := "<init>", desc := "()V" } : Jvm.MethodName))), (102, (Jvm.Cond.methodLink "DotPress$Source" (3 : Nat) ({ cls := "java/lang/Object", name := "<init>", desc := "()V" } : Jvm.MethodName))), (103, (Jvm.Cond.fieldLink "DotPress$Source" (9 : Nat) "DotPress$Source" "at" "I")), (104, (Jvm.Cond.fieldLink "DotPress$Source" (15 : Nat) "DotPress$Source" "inLine" "Z")), (105, (Jvm.Cond.fieldLink "DotPress$Source" (19 : Nat) "DotPress$Source" "centred" "Z")), (106, (Jvm.Cond.fieldLink "DotPress" (246 : Nat) "DotPress$Source" "centred" "Z")), (107, (Jvm.Cond.fieldLink "DotPress$Source" (22 : Nat) "DotPress$Source" "isSpelt" "[Z"))] := lwcdf (by decide +kernel)
def w1_97 := lw_in (mT1 wgr1_9.1) rfl
def w1_98 := lw_in (mT1 wgr1_9.2.1) rfl
def w1_99t := mT1 wgr1_9.2.2.1
def w1_100 := lw_in (mT1 wgr1_9.2.2.2.1) rfl
def w1_102 := lw_in (mT1 wgr1_9.2.2.2.2.1) rfl
def w1_103 := lw_in (mT1 wgr1_9.2.2.2.2.2.1) rfl
def w1_104 := lw_in (mT1 wgr1_9.2.2.2.2.2.2.1) rfl
def w1_105 := lw_in (mT1 wgr1_9.2.2.2.2.2.2.2.1) rfl
def w1_106 := lw_in (mT1 wgr1_9.2.2.2.2.2.2.2.2.1) rfl
def w1_107 := lw_in (mT1 wgr1_9.2.2.2.2.2.2.2.2.2.1) rfl
theorem wgr1_10 : lwcdp tables_1_1 [(108, (Jvm.Cond.fieldLink "DotPress$Source" (26 : Nat) "DotPress$Source" "alphabet" "[I")), (109, (Jvm.Cond.fieldLink "DotPress$Source" (30 : Nat) "DotPress$Source" "alphabetSize" "I")), (110, (Jvm.Cond.fieldLink "DotPress$Source" (33 : Nat) "DotPress$Source" "turns" "[I")), (111, (Jvm.Cond.fieldLink "DotPress$Source" (36 : Nat) "DotPress$Source" "spelling" "I")), (112, (Jvm.Cond.lays "DotPress$Source" "DotPress$Source" "at" "I")), (113, (Jvm.Cond.soleField "DotPress$Source" "at")), (114, (Jvm.Cond.lays "DotPress$Source" "DotPress$Source" "inLine" "Z")), (115, (Jvm.Cond.soleField "DotPress$Source" "inLine")), (116, (Jvm.Cond.lays "DotPress$Source" "DotPress$Source" "centred" "Z")), (117, (Jvm.Cond.soleField "DotPress$Source" "centred"))] := lwcdf (by decide +kernel)
def w1_108 := lw_in (mT1 wgr1_10.1) rfl
def w1_109 := lw_in (mT1 wgr1_10.2.1) rfl
def w1_110 := lw_in (mT1 wgr1_10.2.2.1) rfl
def w1_111 := lw_in (mT1 wgr1_10.2.2.2.1) rfl
def w1_112 := lw_in (mT1 wgr1_10.2.2.2.2.1) rfl
def w1_114 := lw_in (mT1 wgr1_10.2.2.2.2.2.2.1) rfl
def w1_116 := lw_in (mT1 wgr1_10.2.2.2.2.2.2.2.2.1) rfl
theorem wgr1_11 : lwcdp tables_1_1 [(118, (Jvm.Cond.laysFinal "DotPress$Source" "DotPress$Source" "isSpelt" "[Z")), (119, (Jvm.Cond.soleField "DotPress$Source" "isSpelt")), (120, (Jvm.Cond.laysFinal "DotPress$Source" "DotPress$Source" "alphabet" "[I")), (121, (Jvm.Cond.soleField "DotPress$Source" "alphabet")), (122, (Jvm.Cond.lays "DotPress$Source" "DotPress$Source" "alphabetSize" "I")), (123, (Jvm.Cond.soleField "DotPress$Source" "alphabetSize")), (124, (Jvm.Cond.laysFinal "DotPress$Source" "DotPress$Source" "turns" "[I")), (125, (Jvm.Cond.soleField "DotPress$Source" "turns")), (126, (Jvm.Cond.lays "DotPress$Source" "DotPress$Source" "spelling" "I")), (127, (Jvm.Cond.soleField "DotPress$Source" "spelling"))] := lwcdf (by decide +kernel)
def w1_118 := lw_in (mT1 wgr1_11.1) rfl
def w1_120 := lw_in (mT1 wgr1_11.2.2.1) rfl
def w1_122 := lw_in (mT1 wgr1_11.2.2.2.2.1) rfl
def w1_124 := lw_in (mT1 wgr1_11.2.2.2.2.2.2.1) rfl
def w1_126 := lw_in (mT1 wgr1_11.2.2.2.2.2.2.2.2.1) rfl
theorem wgr1_12 : lwcdp tables_1_1 [(128, (Jvm.Cond.superclass "DotPress$Source" "java/lang/Object")), (129, (Jvm.Cond.arrayClass Jvm.ClassFile.FieldType.boolean)), (130, (Jvm.Cond.classLink "DotPress" (41 : Nat) "DotPress$Setting")), (131, (Jvm.Cond.instantiable "DotPress$Setting" (12 : Nat))), (132, (Jvm.Cond.methodLinkNest "DotPress" (43 : Nat) ({ cls := "DotPress$Setting", name := "<init>", desc := "()V" } : Jvm.MethodName) "DotPress")), (133, (Jvm.Cond.instanceMethod ({ cls := "DotPress$Setting", name := "<init>", desc := "()V" } : Jvm.MethodName))), (135, (Jvm.Cond.methodLink "DotPress$Setting" (3 : Nat) ({ cls := "java/lang/Object", name := "<init>", desc := "()V" } : Jvm.MethodName))), (136, (Jvm.Cond.fieldLink "DotPress$Setting" (9 : Nat) "DotPress$Setting" "letters" "[I")), (137, (Jvm.Cond.fieldLink "DotPress$Setting" (15 : Nat) "DotPress$Setting" "places" "[I")), (138, (Jvm.Cond.fieldLink "DotPress$Setting" (18 : Nat) "DotPress$Setting" "breaks" "[Z"))] := lwcdf (by decide +kernel)
def w1_129t := mT1 wgr1_12.2.1
def w1_129 := lw_in (mT1 wgr1_12.2.1) rfl
def w1_130 := lw_in (mT1 wgr1_12.2.2.1) rfl
def w1_131 := lw_in (mT1 wgr1_12.2.2.2.1) rfl
def w1_132t := mT1 wgr1_12.2.2.2.2.1
def w1_133 := lw_in (mT1 wgr1_12.2.2.2.2.2.1) rfl
def w1_135 := lw_in (mT1 wgr1_12.2.2.2.2.2.2.1) rfl
def w1_136 := lw_in (mT1 wgr1_12.2.2.2.2.2.2.2.1) rfl
def w1_137 := lw_in (mT1 wgr1_12.2.2.2.2.2.2.2.2.1) rfl
def w1_138 := lw_in (mT1 wgr1_12.2.2.2.2.2.2.2.2.2.1) rfl
theorem wgr1_13 : lwcdp tables_1_1 [(139, (Jvm.Cond.fieldLink "DotPress$Setting" (22 : Nat) "DotPress$Setting" "starts" "[I")), (140, (Jvm.Cond.fieldLink "DotPress$Setting" (25 : Nat) "DotPress$Setting" "size" "I")), (141, (Jvm.Cond.fieldLink "DotPress$Source" (56 : Nat) "DotPress$Setting" "size" "I")), (142, (Jvm.Cond.fieldLink "DotPress" (402 : Nat) "DotPress$Setting" "size" "I")), (143, (Jvm.Cond.fieldLink "DotPress$Setting" (29 : Nat) "DotPress$Setting" "breakComes" "Z")), (144, (Jvm.Cond.fieldLink "DotPress$Setting" (33 : Nat) "DotPress$Setting" "cells" "[I")), (145, (Jvm.Cond.fieldLink "DotPress$Line" (27 : Nat) "DotPress$Setting" "cells" "[I")), (146, (Jvm.Cond.fieldLink "DotPress" (278 : Nat) "DotPress$Setting" "cells" "[I")), (147, (Jvm.Cond.fieldLink "DotPress$Setting" (36 : Nat) "DotPress$Setting" "count" "I")), (148, (Jvm.Cond.fieldLink "DotPress$Sheet" (39 : Nat) "DotPress$Setting" "count" "I"))] := lwcdf (by decide +kernel)
def w1_139 := lw_in (mT1 wgr1_13.1) rfl
def w1_140 := lw_in (mT1 wgr1_13.2.1) rfl
def w1_141 := lw_in (mT1 wgr1_13.2.2.1) rfl
def w1_142 := lw_in (mT1 wgr1_13.2.2.2.1) rfl
def w1_143 := lw_in (mT1 wgr1_13.2.2.2.2.1) rfl
def w1_144 := lw_in (mT1 wgr1_13.2.2.2.2.2.1) rfl
def w1_145 := lw_in (mT1 wgr1_13.2.2.2.2.2.2.1) rfl
def w1_146 := lw_in (mT1 wgr1_13.2.2.2.2.2.2.2.1) rfl
def w1_147 := lw_in (mT1 wgr1_13.2.2.2.2.2.2.2.2.1) rfl
def w1_148 := lw_in (mT1 wgr1_13.2.2.2.2.2.2.2.2.2.1) rfl
theorem wgr1_14 : lwcdp tables_1_1 [(149, (Jvm.Cond.fieldLink "DotPress" (277 : Nat) "DotPress$Setting" "count" "I")), (150, (Jvm.Cond.fieldLink "DotPress$Setting" (39 : Nat) "DotPress$Setting" "finds" "[I")), (151, (Jvm.Cond.fieldLink "DotPress$Setting" (42 : Nat) "DotPress$Setting" "unknown" "I")), (152, (Jvm.Cond.fieldLink "DotPress$Setting" (45 : Nat) "DotPress$Setting" "partBegin" "I")), (153, (Jvm.Cond.fieldLink "DotPress$Setting" (48 : Nat) "DotPress$Setting" "partEnd" "I")), (154, (Jvm.Cond.laysFinal "DotPress$Setting" "DotPress$Setting" "letters" "[I")), (155, (Jvm.Cond.soleField "DotPress$Setting" "letters")), (156, (Jvm.Cond.laysFinal "DotPress$Setting" "DotPress$Setting" "places" "[I")), (157, (Jvm.Cond.soleField "DotPress$Setting" "places")), (158, (Jvm.Cond.laysFinal "DotPress$Setting" "DotPress$Setting" "breaks" "[Z"))] := lwcdf (by decide +kernel)
def w1_149 := lw_in (mT1 wgr1_14.1) rfl
def w1_150 := lw_in (mT1 wgr1_14.2.1) rfl
def w1_151 := lw_in (mT1 wgr1_14.2.2.1) rfl
def w1_152 := lw_in (mT1 wgr1_14.2.2.2.1) rfl
def w1_153 := lw_in (mT1 wgr1_14.2.2.2.2.1) rfl
def w1_154 := lw_in (mT1 wgr1_14.2.2.2.2.2.1) rfl
def w1_156 := lw_in (mT1 wgr1_14.2.2.2.2.2.2.2.1) rfl
def w1_158 := lw_in (mT1 wgr1_14.2.2.2.2.2.2.2.2.2.1) rfl
theorem wgr1_15 : lwcdp tables_1_1 [(159, (Jvm.Cond.soleField "DotPress$Setting" "breaks")), (160, (Jvm.Cond.laysFinal "DotPress$Setting" "DotPress$Setting" "starts" "[I")), (161, (Jvm.Cond.soleField "DotPress$Setting" "starts")), (162, (Jvm.Cond.lays "DotPress$Setting" "DotPress$Setting" "size" "I")), (163, (Jvm.Cond.soleField "DotPress$Setting" "size")), (164, (Jvm.Cond.lays "DotPress$Setting" "DotPress$Setting" "breakComes" "Z")), (165, (Jvm.Cond.soleField "DotPress$Setting" "breakComes")), (166, (Jvm.Cond.laysFinal "DotPress$Setting" "DotPress$Setting" "cells" "[I")), (167, (Jvm.Cond.soleField "DotPress$Setting" "cells")), (168, (Jvm.Cond.lays "DotPress$Setting" "DotPress$Setting" "count" "I"))] := lwcdf (by decide +kernel)
def w1_160 := lw_in (mT1 wgr1_15.2.1) rfl
def w1_162 := lw_in (mT1 wgr1_15.2.2.2.1) rfl
def w1_164 := lw_in (mT1 wgr1_15.2.2.2.2.2.1) rfl
def w1_166 := lw_in (mT1 wgr1_15.2.2.2.2.2.2.2.1) rfl
def w1_168 := lw_in (mT1 wgr1_15.2.2.2.2.2.2.2.2.2.1) rfl
theorem wgr1_16 : lwcdp tables_1_1 [(169, (Jvm.Cond.soleField "DotPress$Setting" "count")), (170, (Jvm.Cond.laysFinal "DotPress$Setting" "DotPress$Setting" "finds" "[I")), (171, (Jvm.Cond.soleField "DotPress$Setting" "finds")), (172, (Jvm.Cond.lays "DotPress$Setting" "DotPress$Setting" "unknown" "I")), (173, (Jvm.Cond.soleField "DotPress$Setting" "unknown")), (174, (Jvm.Cond.lays "DotPress$Setting" "DotPress$Setting" "partBegin" "I")), (175, (Jvm.Cond.soleField "DotPress$Setting" "partBegin")), (176, (Jvm.Cond.lays "DotPress$Setting" "DotPress$Setting" "partEnd" "I")), (177, (Jvm.Cond.soleField "DotPress$Setting" "partEnd")), (178, (Jvm.Cond.superclass "DotPress$Setting" "java/lang/Object"))] := lwcdf (by decide +kernel)
def w1_170 := lw_in (mT1 wgr1_16.2.1) rfl
def w1_172 := lw_in (mT1 wgr1_16.2.2.2.1) rfl
def w1_174 := lw_in (mT1 wgr1_16.2.2.2.2.2.1) rfl
def w1_176 := lw_in (mT1 wgr1_16.2.2.2.2.2.2.2.1) rfl
theorem wgr1_17 : lwcdp tables_1_1 [(179, (Jvm.Cond.classLink "DotPress" (48 : Nat) "DotPress$Reader")), (180, (Jvm.Cond.instantiable "DotPress$Reader" (8 : Nat))), (181, (Jvm.Cond.methodLinkNest "DotPress" (50 : Nat) ({ cls := "DotPress$Reader", name := "<init>", desc := "()V" } : Jvm.MethodName) "DotPress")), (182, (Jvm.Cond.instanceMethod ({ cls := "DotPress$Reader", name := "<init>", desc := "()V" } : Jvm.MethodName))), (184, (Jvm.Cond.methodLink "DotPress$Reader" (3 : Nat) ({ cls := "java/lang/Object", name := "<init>", desc := "()V" } : Jvm.MethodName))), (185, (Jvm.Cond.classLink "DotPress$Reader" (9 : Nat) "java/util/ArrayList")), (186, (Jvm.Cond.methodLink "DotPress$Reader" (11 : Nat) ({ cls := "java/util/ArrayList", name := "<init>", desc := "()V" } : Jvm.MethodName))), (187, (Jvm.Cond.classLink "DotPress$Reader" (21 : Nat) "DotPress$Ints")), (188, (Jvm.Cond.methodLink "DotPress$Reader" (23 : Nat) ({ cls := "DotPress$Ints", name := "<init>", desc := "(I)V" } : Jvm.MethodName))), (189, (Jvm.Cond.constant "DotPress$Reader" (33 : Nat) (40200 : Int32)))] := lwcdf (by decide +kernel)
def w1_179 := lw_in (mT1 wgr1_17.1) rfl
def w1_180 := lw_in (mT1 wgr1_17.2.1) rfl
def w1_181t := mT1 wgr1_17.2.2.1
def w1_182 := lw_in (mT1 wgr1_17.2.2.2.1) rfl
def w1_184 := lw_in (mT1 wgr1_17.2.2.2.2.1) rfl
def w1_185 := lw_in (mT1 wgr1_17.2.2.2.2.2.1) rfl
def w1_186 := lw_in (mT1 wgr1_17.2.2.2.2.2.2.1) rfl
def w1_187 := lw_in (mT1 wgr1_17.2.2.2.2.2.2.2.1) rfl
def w1_188 := lw_in (mT1 wgr1_17.2.2.2.2.2.2.2.2.1) rfl
def w1_189 := lw_in (mT1 wgr1_17.2.2.2.2.2.2.2.2.2.1) rfl
theorem wgr1_18 : lwcdp tables_1_1 [(190, (Jvm.Cond.fieldLink "DotPress$Reader" (12 : Nat) "DotPress$Reader" "first" "Ljava/util/ArrayList;")), (191, (Jvm.Cond.fieldLink "DotPress$Source" (64 : Nat) "DotPress$Reader" "first" "Ljava/util/ArrayList;")), (192, (Jvm.Cond.fieldLink "DotPress" (370 : Nat) "DotPress$Reader" "first" "Ljava/util/ArrayList;")), (193, (Jvm.Cond.fieldLink "DotPress$Reader" (18 : Nat) "DotPress$Reader" "second" "Ljava/util/ArrayList;")), (194, (Jvm.Cond.fieldLink "DotPress$Source" (74 : Nat) "DotPress$Reader" "second" "Ljava/util/ArrayList;")), (195, (Jvm.Cond.fieldLink "DotPress" (377 : Nat) "DotPress$Reader" "second" "Ljava/util/ArrayList;")), (196, (Jvm.Cond.fieldLink "DotPress$Reader" (26 : Nat) "DotPress$Reader" "firstBegins" "LDotPress$Ints;")), (197, (Jvm.Cond.fieldLink "DotPress$Reader" (30 : Nat) "DotPress$Reader" "secondBegins" "LDotPress$Ints;")), (198, (Jvm.Cond.fieldLink "DotPress$Reader" (34 : Nat) "DotPress$Reader" "cells" "LDotPress$Ints;")), (199, (Jvm.Cond.fieldLink "DotPress$Reader" (37 : Nat) "DotPress$Reader" "places" "LDotPress$Ints;"))] := lwcdf (by decide +kernel)
def w1_190 := lw_in (mT1 wgr1_18.1) rfl
def w1_191 := lw_in (mT1 wgr1_18.2.1) rfl
def w1_192 := lw_in (mT1 wgr1_18.2.2.1) rfl
def w1_193 := lw_in (mT1 wgr1_18.2.2.2.1) rfl
def w1_194 := lw_in (mT1 wgr1_18.2.2.2.2.1) rfl
def w1_195 := lw_in (mT1 wgr1_18.2.2.2.2.2.1) rfl
def w1_196 := lw_in (mT1 wgr1_18.2.2.2.2.2.2.1) rfl
def w1_197 := lw_in (mT1 wgr1_18.2.2.2.2.2.2.2.1) rfl
def w1_198 := lw_in (mT1 wgr1_18.2.2.2.2.2.2.2.2.1) rfl
def w1_199 := lw_in (mT1 wgr1_18.2.2.2.2.2.2.2.2.2.1) rfl
theorem wgr1_19 : lwcdp tables_1_1 [(200, (Jvm.Cond.fieldLink "DotPress$Reader" (40 : Nat) "DotPress$Reader" "bytes" "LDotPress$Ints;")), (201, (Jvm.Cond.fieldLink "DotPress" (341 : Nat) "DotPress$Reader" "bytes" "LDotPress$Ints;")), (202, (Jvm.Cond.fieldLink "DotPress$Reader" (43 : Nat) "DotPress$Reader" "wrong" "I")), (203, (Jvm.Cond.laysFinal "DotPress$Reader" "DotPress$Reader" "first" "Ljava/util/ArrayList;")), (204, (Jvm.Cond.soleField "DotPress$Reader" "first")), (205, (Jvm.Cond.laysFinal "DotPress$Reader" "DotPress$Reader" "second" "Ljava/util/ArrayList;")), (206, (Jvm.Cond.soleField "DotPress$Reader" "second")), (207, (Jvm.Cond.laysFinal "DotPress$Reader" "DotPress$Reader" "firstBegins" "LDotPress$Ints;")), (208, (Jvm.Cond.soleField "DotPress$Reader" "firstBegins")), (209, (Jvm.Cond.laysFinal "DotPress$Reader" "DotPress$Reader" "secondBegins" "LDotPress$Ints;"))] := lwcdf (by decide +kernel)
def w1_200 := lw_in (mT1 wgr1_19.1) rfl
def w1_201 := lw_in (mT1 wgr1_19.2.1) rfl
def w1_202 := lw_in (mT1 wgr1_19.2.2.1) rfl
def w1_203 := lw_in (mT1 wgr1_19.2.2.2.1) rfl
def w1_205 := lw_in (mT1 wgr1_19.2.2.2.2.2.1) rfl
def w1_207 := lw_in (mT1 wgr1_19.2.2.2.2.2.2.2.1) rfl
def w1_209 := lw_in (mT1 wgr1_19.2.2.2.2.2.2.2.2.2.1) rfl
theorem wgr1_20 : lwcdp tables_1_1 [(210, (Jvm.Cond.soleField "DotPress$Reader" "secondBegins")), (211, (Jvm.Cond.laysFinal "DotPress$Reader" "DotPress$Reader" "cells" "LDotPress$Ints;")), (212, (Jvm.Cond.soleField "DotPress$Reader" "cells")), (213, (Jvm.Cond.laysFinal "DotPress$Reader" "DotPress$Reader" "places" "LDotPress$Ints;")), (214, (Jvm.Cond.soleField "DotPress$Reader" "places")), (215, (Jvm.Cond.laysFinal "DotPress$Reader" "DotPress$Reader" "bytes" "LDotPress$Ints;")), (216, (Jvm.Cond.soleField "DotPress$Reader" "bytes")), (217, (Jvm.Cond.lays "DotPress$Reader" "DotPress$Reader" "wrong" "I")), (218, (Jvm.Cond.soleField "DotPress$Reader" "wrong")), (219, (Jvm.Cond.superclass "DotPress$Reader" "java/lang/Object"))] := lwcdf (by decide +kernel)
def w1_211 := lw_in (mT1 wgr1_20.2.1) rfl
def w1_213 := lw_in (mT1 wgr1_20.2.2.2.1) rfl
def w1_215 := lw_in (mT1 wgr1_20.2.2.2.2.2.1) rfl
def w1_217 := lw_in (mT1 wgr1_20.2.2.2.2.2.2.2.1) rfl
theorem wgr1_21 : lwcdp tables_1_1 [(220, (Jvm.Cond.classLink "DotPress" (55 : Nat) "DotPress$Readings")), (221, (Jvm.Cond.instantiable "DotPress$Readings" (11 : Nat))), (222, (Jvm.Cond.methodLink "DotPress" (57 : Nat) ({ cls := "DotPress$Readings", name := "<init>", desc := "(LDotPress$Reader;)V" } : Jvm.MethodName))), (223, (Jvm.Cond.instanceMethod ({ cls := "DotPress$Readings", name := "<init>", desc := "(LDotPress$Reader;)V" } : Jvm.MethodName))), (225, (Jvm.Cond.methodLink "DotPress$Readings" (3 : Nat) ({ cls := "java/lang/Object", name := "<init>", desc := "()V" } : Jvm.MethodName))), (226, (Jvm.Cond.classLink "DotPress$Readings" (25 : Nat) "DotPress$Ints")), (227, (Jvm.Cond.constant "DotPress$Readings" (27 : Nat) (40000 : Int32))), (228, (Jvm.Cond.methodLink "DotPress$Readings" (28 : Nat) ({ cls := "DotPress$Ints", name := "<init>", desc := "(I)V" } : Jvm.MethodName))), (229, (Jvm.Cond.fieldLink "DotPress$Readings" (9 : Nat) "DotPress$Readings" "canEnd" "[Z")), (230, (Jvm.Cond.fieldLink "DotPress$Readings" (15 : Nat) "DotPress$Readings" "nodes" "[I"))] := lwcdf (by decide +kernel)
def w1_220 := lw_in (mT1 wgr1_21.1) rfl
def w1_221 := lw_in (mT1 wgr1_21.2.1) rfl
def w1_222 := lw_in (mT1 wgr1_21.2.2.1) rfl
def w1_223 := lw_in (mT1 wgr1_21.2.2.2.1) rfl
def w1_225 := lw_in (mT1 wgr1_21.2.2.2.2.1) rfl
def w1_226 := lw_in (mT1 wgr1_21.2.2.2.2.2.1) rfl
def w1_227 := lw_in (mT1 wgr1_21.2.2.2.2.2.2.1) rfl
def w1_228 := lw_in (mT1 wgr1_21.2.2.2.2.2.2.2.1) rfl
def w1_229 := lw_in (mT1 wgr1_21.2.2.2.2.2.2.2.2.1) rfl
def w1_230 := lw_in (mT1 wgr1_21.2.2.2.2.2.2.2.2.2.1) rfl
theorem wgr1_22 : lwcdp tables_1_1 [(231, (Jvm.Cond.fieldLink "DotPress$Readings" (19 : Nat) "DotPress$Readings" "choices" "[I")), (232, (Jvm.Cond.fieldLink "DotPress$Readings" (22 : Nat) "DotPress$Readings" "ends" "[I")), (233, (Jvm.Cond.fieldLink "DotPress$Readings" (31 : Nat) "DotPress$Readings" "bytes" "LDotPress$Ints;")), (234, (Jvm.Cond.fieldLink "DotPress$Readings" (35 : Nat) "DotPress$Readings" "count" "I")), (235, (Jvm.Cond.fieldLink "DotPress" (360 : Nat) "DotPress$Readings" "count" "I")), (236, (Jvm.Cond.fieldLink "DotPress$Readings" (39 : Nat) "DotPress$Readings" "leftSome" "Z")), (237, (Jvm.Cond.fieldLink "DotPress" (361 : Nat) "DotPress$Readings" "leftSome" "Z")), (238, (Jvm.Cond.fieldLink "DotPress$Readings" (52 : Nat) "DotPress$Readings" "rows" "LDotPress$Reader;")), (239, (Jvm.Cond.fieldLink "DotPress$Readings" (43 : Nat) "DotPress$Readings" "cells" "[I"))] := lwcdf (by decide +kernel)
def w1_231 := lw_in (mT1 wgr1_22.1) rfl
def w1_232 := lw_in (mT1 wgr1_22.2.1) rfl
def w1_233 := lw_in (mT1 wgr1_22.2.2.1) rfl
def w1_234 := lw_in (mT1 wgr1_22.2.2.2.1) rfl
def w1_235 := lw_in (mT1 wgr1_22.2.2.2.2.1) rfl
def w1_236 := lw_in (mT1 wgr1_22.2.2.2.2.2.1) rfl
def w1_237 := lw_in (mT1 wgr1_22.2.2.2.2.2.2.1) rfl
def w1_238 := lw_in (mT1 wgr1_22.2.2.2.2.2.2.2.1) rfl
def w1_239 := lw_in (mT1 wgr1_22.2.2.2.2.2.2.2.2.1) rfl
theorem wgr2_0 : lwcdp tables_1_2 [(0, (Jvm.Cond.fieldLink "DotPress$Readings" (46 : Nat) "DotPress$Readings" "size" "I")), (1, (Jvm.Cond.fieldLink "DotPress$Readings" (49 : Nat) "DotPress$Readings" "seen" "I")), (2, (Jvm.Cond.laysFinal "DotPress$Readings" "DotPress$Readings" "canEnd" "[Z")), (3, (Jvm.Cond.soleField "DotPress$Readings" "canEnd")), (4, (Jvm.Cond.laysFinal "DotPress$Readings" "DotPress$Readings" "nodes" "[I")), (5, (Jvm.Cond.soleField "DotPress$Readings" "nodes")), (6, (Jvm.Cond.laysFinal "DotPress$Readings" "DotPress$Readings" "choices" "[I")), (7, (Jvm.Cond.soleField "DotPress$Readings" "choices")), (8, (Jvm.Cond.laysFinal "DotPress$Readings" "DotPress$Readings" "ends" "[I")), (9, (Jvm.Cond.soleField "DotPress$Readings" "ends"))] := lwcdf (by decide +kernel)
def w2_0 := lw_in (mT2 wgr2_0.1) rfl
def w2_1 := lw_in (mT2 wgr2_0.2.1) rfl
def w2_2 := lw_in (mT2 wgr2_0.2.2.1) rfl
def w2_4 := lw_in (mT2 wgr2_0.2.2.2.2.1) rfl
def w2_6 := lw_in (mT2 wgr2_0.2.2.2.2.2.2.1) rfl
def w2_8 := lw_in (mT2 wgr2_0.2.2.2.2.2.2.2.2.1) rfl
theorem wgr2_1 : lwcdp tables_1_2 [(10, (Jvm.Cond.laysFinal "DotPress$Readings" "DotPress$Readings" "bytes" "LDotPress$Ints;")), (11, (Jvm.Cond.soleField "DotPress$Readings" "bytes")), (12, (Jvm.Cond.lays "DotPress$Readings" "DotPress$Readings" "count" "I")), (13, (Jvm.Cond.soleField "DotPress$Readings" "count")), (14, (Jvm.Cond.lays "DotPress$Readings" "DotPress$Readings" "leftSome" "Z")), (15, (Jvm.Cond.soleField "DotPress$Readings" "leftSome")), (16, (Jvm.Cond.laysFinal "DotPress$Readings" "DotPress$Readings" "rows" "LDotPress$Reader;")), (17, (Jvm.Cond.soleField "DotPress$Readings" "rows")), (18, (Jvm.Cond.laysFinal "DotPress$Readings" "DotPress$Readings" "cells" "[I")), (19, (Jvm.Cond.soleField "DotPress$Readings" "cells"))] := lwcdf (by decide +kernel)
def w2_10 := lw_in (mT2 wgr2_1.1) rfl
def w2_12 := lw_in (mT2 wgr2_1.2.2.1) rfl
def w2_14 := lw_in (mT2 wgr2_1.2.2.2.2.1) rfl
def w2_16 := lw_in (mT2 wgr2_1.2.2.2.2.2.2.1) rfl
def w2_18 := lw_in (mT2 wgr2_1.2.2.2.2.2.2.2.2.1) rfl
theorem wgr2_2 : lwcdp tables_1_2 [(20, (Jvm.Cond.lays "DotPress$Readings" "DotPress$Readings" "size" "I")), (21, (Jvm.Cond.soleField "DotPress$Readings" "size")), (22, (Jvm.Cond.lays "DotPress$Readings" "DotPress$Readings" "seen" "I")), (23, (Jvm.Cond.soleField "DotPress$Readings" "seen")), (24, (Jvm.Cond.superclass "DotPress$Readings" "java/lang/Object")), (25, (Jvm.Cond.classLink "DotPress" (64 : Nat) "DotPress$Sheet")), (26, (Jvm.Cond.instantiable "DotPress$Sheet" (3 : Nat))), (27, (Jvm.Cond.methodLinkNest "DotPress" (66 : Nat) ({ cls := "DotPress$Sheet", name := "<init>", desc := "()V" } : Jvm.MethodName) "DotPress")), (28, (Jvm.Cond.instanceMethod ({ cls := "DotPress$Sheet", name := "<init>", desc := "()V" } : Jvm.MethodName))), (30, (Jvm.Cond.methodLink "DotPress$Sheet" (3 : Nat) ({ cls := "java/lang/Object", name := "<init>", desc := "()V" } : Jvm.MethodName)))] := lwcdf (by decide +kernel)
def w2_20 := lw_in (mT2 wgr2_2.1) rfl
def w2_22 := lw_in (mT2 wgr2_2.2.2.1) rfl
def w2_25 := lw_in (mT2 wgr2_2.2.2.2.2.2.1) rfl
def w2_26 := lw_in (mT2 wgr2_2.2.2.2.2.2.2.1) rfl
def w2_27t := mT2 wgr2_2.2.2.2.2.2.2.2.1
def w2_28 := lw_in (mT2 wgr2_2.2.2.2.2.2.2.2.2.1) rfl
def w2_30 := lw_in (mT2 wgr2_2.2.2.2.2.2.2.2.2.2.1) rfl
theorem wgr2_3 : lwcdp tables_1_2 [(31, (Jvm.Cond.classLink "DotPress$Sheet" (9 : Nat) "DotPress$Line")), (32, (Jvm.Cond.arrayOver (Jvm.ClassFile.FieldType.object "DotPress$Line"))), (33, (Jvm.Cond.fieldLink "DotPress$Sheet" (11 : Nat) "DotPress$Sheet" "rows" "[LDotPress$Line;")), (34, (Jvm.Cond.fieldLink "DotPress$Sheet" (17 : Nat) "DotPress$Sheet" "count" "I")), (35, (Jvm.Cond.fieldLink "DotPress" (269 : Nat) "DotPress$Sheet" "count" "I")), (36, (Jvm.Cond.fieldLink "DotPress$Sheet" (21 : Nat) "DotPress$Sheet" "textBegin" "I")), (37, (Jvm.Cond.laysFinal "DotPress$Sheet" "DotPress$Sheet" "rows" "[LDotPress$Line;")), (38, (Jvm.Cond.soleField "DotPress$Sheet" "rows")), (39, (Jvm.Cond.lays "DotPress$Sheet" "DotPress$Sheet" "count" "I")), (40, (Jvm.Cond.soleField "DotPress$Sheet" "count"))] := lwcdf (by decide +kernel)
def w2_31 := lw_in (mT2 wgr2_3.1) rfl
def w2_32t := mT2 wgr2_3.2.1
def w2_33 := lw_in (mT2 wgr2_3.2.2.1) rfl
def w2_34 := lw_in (mT2 wgr2_3.2.2.2.1) rfl
def w2_35 := lw_in (mT2 wgr2_3.2.2.2.2.1) rfl
def w2_36 := lw_in (mT2 wgr2_3.2.2.2.2.2.1) rfl
def w2_37 := lw_in (mT2 wgr2_3.2.2.2.2.2.2.1) rfl
def w2_39 := lw_in (mT2 wgr2_3.2.2.2.2.2.2.2.2.1) rfl
theorem wgr2_4 : lwcdp tables_1_2 [(41, (Jvm.Cond.lays "DotPress$Sheet" "DotPress$Sheet" "textBegin" "I")), (42, (Jvm.Cond.soleField "DotPress$Sheet" "textBegin")), (43, (Jvm.Cond.superclass "DotPress$Sheet" "java/lang/Object")), (44, (Jvm.Cond.fieldLink "DotPress" (14 : Nat) "DotPress" "tape" "LDotPress$Ints;")), (45, (Jvm.Cond.fieldLink "DotPress" (18 : Nat) "DotPress" "written" "LDotPress$Ints;")), (46, (Jvm.Cond.fieldLink "DotPress" (21 : Nat) "DotPress" "bytesRead" "LDotPress$Ints;")), (47, (Jvm.Cond.fieldLink "DotPress" (24 : Nat) "DotPress" "header" "LDotPress$Ints;")), (48, (Jvm.Cond.fieldLink "DotPress" (30 : Nat) "DotPress" "tables" "LDotPress$Tables;")), (49, (Jvm.Cond.fieldLink "DotPress" (37 : Nat) "DotPress" "source" "LDotPress$Source;")), (50, (Jvm.Cond.fieldLink "DotPress" (44 : Nat) "DotPress" "word" "LDotPress$Setting;"))] := lwcdf (by decide +kernel)
def w2_41 := lw_in (mT2 wgr2_4.1) rfl
def w2_44 := lw_in (mT2 wgr2_4.2.2.2.1) rfl
def w2_45 := lw_in (mT2 wgr2_4.2.2.2.2.1) rfl
def w2_46 := lw_in (mT2 wgr2_4.2.2.2.2.2.1) rfl
def w2_47 := lw_in (mT2 wgr2_4.2.2.2.2.2.2.1) rfl
def w2_48 := lw_in (mT2 wgr2_4.2.2.2.2.2.2.2.1) rfl
def w2_49 := lw_in (mT2 wgr2_4.2.2.2.2.2.2.2.2.1) rfl
def w2_50 := lw_in (mT2 wgr2_4.2.2.2.2.2.2.2.2.2.1) rfl
theorem wgr2_5 : lwcdp tables_1_2 [(51, (Jvm.Cond.fieldLink "DotPress" (51 : Nat) "DotPress" "reader" "LDotPress$Reader;")), (52, (Jvm.Cond.fieldLink "DotPress" (60 : Nat) "DotPress" "found" "LDotPress$Readings;")), (53, (Jvm.Cond.fieldLink "DotPress" (67 : Nat) "DotPress" "sheet" "LDotPress$Sheet;")), (54, (Jvm.Cond.fieldLink "DotPress" (71 : Nat) "DotPress" "draft" "LDotPress$Sheet;")), (55, (Jvm.Cond.fieldLink "DotPress" (74 : Nat) "DotPress" "width" "I")), (56, (Jvm.Cond.fieldLink "DotPress" (78 : Nat) "DotPress" "height" "I")), (57, (Jvm.Cond.fieldLink "DotPress" (81 : Nat) "DotPress" "hyphen" "I")), (58, (Jvm.Cond.fieldLink "DotPress" (84 : Nat) "DotPress" "failedDots" "I")), (59, (Jvm.Cond.fieldLink "DotPress" (87 : Nat) "DotPress" "linesCopied" "I")), (60, (Jvm.Cond.fieldLink "DotPress" (90 : Nat) "DotPress" "linesClosed" "I"))] := lwcdf (by decide +kernel)
def w2_51 := lw_in (mT2 wgr2_5.1) rfl
def w2_52 := lw_in (mT2 wgr2_5.2.1) rfl
def w2_53 := lw_in (mT2 wgr2_5.2.2.1) rfl
def w2_54 := lw_in (mT2 wgr2_5.2.2.2.1) rfl
def w2_55 := lw_in (mT2 wgr2_5.2.2.2.2.1) rfl
def w2_56 := lw_in (mT2 wgr2_5.2.2.2.2.2.1) rfl
def w2_57 := lw_in (mT2 wgr2_5.2.2.2.2.2.2.1) rfl
def w2_58 := lw_in (mT2 wgr2_5.2.2.2.2.2.2.2.1) rfl
def w2_59 := lw_in (mT2 wgr2_5.2.2.2.2.2.2.2.2.1) rfl
def w2_60 := lw_in (mT2 wgr2_5.2.2.2.2.2.2.2.2.2.1) rfl
theorem wgr2_6 : lwcdp tables_1_2 [(61, (Jvm.Cond.fieldLink "DotPress" (93 : Nat) "DotPress" "latestStatus" "I")), (62, (Jvm.Cond.fieldLink "DotPress" (96 : Nat) "DotPress" "latestPlace" "I")), (63, (Jvm.Cond.laysFinal "DotPress" "DotPress" "tape" "LDotPress$Ints;")), (64, (Jvm.Cond.soleField "DotPress" "tape")), (65, (Jvm.Cond.laysFinal "DotPress" "DotPress" "written" "LDotPress$Ints;")), (66, (Jvm.Cond.soleField "DotPress" "written")), (67, (Jvm.Cond.laysFinal "DotPress" "DotPress" "bytesRead" "LDotPress$Ints;")), (68, (Jvm.Cond.soleField "DotPress" "bytesRead")), (69, (Jvm.Cond.laysFinal "DotPress" "DotPress" "header" "LDotPress$Ints;")), (70, (Jvm.Cond.soleField "DotPress" "header"))] := lwcdf (by decide +kernel)
def w2_61 := lw_in (mT2 wgr2_6.1) rfl
def w2_62 := lw_in (mT2 wgr2_6.2.1) rfl
def w2_63 := lw_in (mT2 wgr2_6.2.2.1) rfl
def w2_65 := lw_in (mT2 wgr2_6.2.2.2.2.1) rfl
def w2_67 := lw_in (mT2 wgr2_6.2.2.2.2.2.2.1) rfl
def w2_69 := lw_in (mT2 wgr2_6.2.2.2.2.2.2.2.2.1) rfl
theorem wgr2_7 : lwcdp tables_1_2 [(71, (Jvm.Cond.laysFinal "DotPress" "DotPress" "tables" "LDotPress$Tables;")), (72, (Jvm.Cond.soleField "DotPress" "tables")), (73, (Jvm.Cond.laysFinal "DotPress" "DotPress" "source" "LDotPress$Source;")), (74, (Jvm.Cond.soleField "DotPress" "source")), (75, (Jvm.Cond.laysFinal "DotPress" "DotPress" "word" "LDotPress$Setting;")), (76, (Jvm.Cond.soleField "DotPress" "word")), (77, (Jvm.Cond.laysFinal "DotPress" "DotPress" "reader" "LDotPress$Reader;")), (78, (Jvm.Cond.soleField "DotPress" "reader")), (79, (Jvm.Cond.laysFinal "DotPress" "DotPress" "found" "LDotPress$Readings;")), (80, (Jvm.Cond.soleField "DotPress" "found"))] := lwcdf (by decide +kernel)
def w2_71 := lw_in (mT2 wgr2_7.1) rfl
def w2_73 := lw_in (mT2 wgr2_7.2.2.1) rfl
def w2_75 := lw_in (mT2 wgr2_7.2.2.2.2.1) rfl
def w2_77 := lw_in (mT2 wgr2_7.2.2.2.2.2.2.1) rfl
def w2_79 := lw_in (mT2 wgr2_7.2.2.2.2.2.2.2.2.1) rfl
theorem wgr2_8 : lwcdp tables_1_2 [(81, (Jvm.Cond.lays "DotPress" "DotPress" "sheet" "LDotPress$Sheet;")), (82, (Jvm.Cond.soleField "DotPress" "sheet")), (83, (Jvm.Cond.lays "DotPress" "DotPress" "draft" "LDotPress$Sheet;")), (84, (Jvm.Cond.soleField "DotPress" "draft")), (85, (Jvm.Cond.lays "DotPress" "DotPress" "width" "I")), (86, (Jvm.Cond.soleField "DotPress" "width")), (87, (Jvm.Cond.lays "DotPress" "DotPress" "height" "I")), (88, (Jvm.Cond.soleField "DotPress" "height")), (89, (Jvm.Cond.lays "DotPress" "DotPress" "hyphen" "I")), (90, (Jvm.Cond.soleField "DotPress" "hyphen"))] := lwcdf (by decide +kernel)
def w2_81 := lw_in (mT2 wgr2_8.1) rfl
def w2_83 := lw_in (mT2 wgr2_8.2.2.1) rfl
def w2_85 := lw_in (mT2 wgr2_8.2.2.2.2.1) rfl
def w2_87 := lw_in (mT2 wgr2_8.2.2.2.2.2.2.1) rfl
def w2_89 := lw_in (mT2 wgr2_8.2.2.2.2.2.2.2.2.1) rfl
theorem wgr2_9 : lwcdp tables_1_2 [(91, (Jvm.Cond.lays "DotPress" "DotPress" "failedDots" "I")), (92, (Jvm.Cond.soleField "DotPress" "failedDots")), (93, (Jvm.Cond.lays "DotPress" "DotPress" "linesCopied" "I")), (94, (Jvm.Cond.soleField "DotPress" "linesCopied")), (95, (Jvm.Cond.lays "DotPress" "DotPress" "linesClosed" "I")), (96, (Jvm.Cond.soleField "DotPress" "linesClosed")), (97, (Jvm.Cond.lays "DotPress" "DotPress" "latestStatus" "I")), (98, (Jvm.Cond.soleField "DotPress" "latestStatus")), (99, (Jvm.Cond.lays "DotPress" "DotPress" "latestPlace" "I")), (100, (Jvm.Cond.soleField "DotPress" "latestPlace"))] := lwcdf (by decide +kernel)
def w2_91 := lw_in (mT2 wgr2_9.1) rfl
def w2_93 := lw_in (mT2 wgr2_9.2.2.1) rfl
def w2_95 := lw_in (mT2 wgr2_9.2.2.2.2.1) rfl
def w2_97 := lw_in (mT2 wgr2_9.2.2.2.2.2.2.1) rfl
def w2_99 := lw_in (mT2 wgr2_9.2.2.2.2.2.2.2.2.1) rfl
theorem wgr2_10 : lwcdp tables_1_2 [(101, (Jvm.Cond.superclass "DotPress" "java/lang/Object")), (102, (Jvm.Cond.methodLink "DotPressLaw" (13 : Nat) ({ cls := "DotPress", name := "feed", desc := "(IIIII)I" } : Jvm.MethodName))), (103, (Jvm.Cond.instanceMethod ({ cls := "DotPress", name := "feed", desc := "(IIIII)I" } : Jvm.MethodName))), (104, (Jvm.Cond.selects "DotPress" ({ cls := "DotPress", name := "feed", desc := "(IIIII)I" } : Jvm.MethodName) ({ cls := "DotPress", name := "feed", desc := "(IIIII)I" } : Jvm.MethodName))), (106, (Jvm.Cond.methodLink "DotPress" (102 : Nat) ({ cls := "DotPress", name := "refuse", desc := "(I)I" } : Jvm.MethodName))), (107, (Jvm.Cond.privateMethod ({ cls := "DotPress", name := "refuse", desc := "(I)I" } : Jvm.MethodName))), (108, (Jvm.Cond.instanceMethod ({ cls := "DotPress", name := "refuse", desc := "(I)I" } : Jvm.MethodName))), (110, (Jvm.Cond.methodLink "DotPress" (106 : Nat) ({ cls := "DotPress", name := "feedFour", desc := "(I)V" } : Jvm.MethodName))), (111, (Jvm.Cond.privateMethod ({ cls := "DotPress", name := "feedFour", desc := "(I)V" } : Jvm.MethodName))), (112, (Jvm.Cond.instanceMethod ({ cls := "DotPress", name := "feedFour", desc := "(I)V" } : Jvm.MethodName)))] := lwcdf (by decide +kernel)
def w2_102 := lw_in (mT2 wgr2_10.2.1) rfl
def w2_103 := lw_in (mT2 wgr2_10.2.2.1) rfl
def w2_104 := lw_in (mT2 wgr2_10.2.2.2.1) rfl
def w2_106 := lw_in (mT2 wgr2_10.2.2.2.2.1) rfl
def w2_108 := lw_in (mT2 wgr2_10.2.2.2.2.2.2.1) rfl
def w2_110 := lw_in (mT2 wgr2_10.2.2.2.2.2.2.2.1) rfl
def w2_112 := lw_in (mT2 wgr2_10.2.2.2.2.2.2.2.2.2.1) rfl
theorem wgr2_11 : lwcdp tables_1_2 [(114, (Jvm.Cond.methodLink "DotPress" (112 : Nat) ({ cls := "DotPress$Ints", name := "add", desc := "(I)V" } : Jvm.MethodName))), (115, (Jvm.Cond.instanceMethod ({ cls := "DotPress$Ints", name := "add", desc := "(I)V" } : Jvm.MethodName))), (116, (Jvm.Cond.selects "DotPress$Ints" ({ cls := "DotPress$Ints", name := "add", desc := "(I)V" } : Jvm.MethodName) ({ cls := "DotPress$Ints", name := "add", desc := "(I)V" } : Jvm.MethodName))), (118, (Jvm.Cond.methodLink "DotPress$Ints" (20 : Nat) ({ cls := "java/util/Arrays", name := "copyOf", desc := "([II)[I" } : Jvm.MethodName))), (119, (Jvm.Cond.static ({ cls := "java/util/Arrays", name := "copyOf", desc := "([II)[I" } : Jvm.MethodName))), (121, (Jvm.Cond.methodLink "java/util/Arrays" (316 : Nat) ({ cls := "[I", name := "clone", desc := "()Ljava/lang/Object;" } : Jvm.MethodName))), (122, (Jvm.Cond.sameMethod "[I" "java/lang/Object" "clone" "()Ljava/lang/Object;")), (123, (Jvm.Cond.native ({ cls := "java/lang/Object", name := "clone", desc := "()Ljava/lang/Object;" } : Jvm.MethodName))), (124, (Jvm.Cond.instanceMethod ({ cls := "java/lang/Object", name := "clone", desc := "()Ljava/lang/Object;" } : Jvm.MethodName))), (125, (Jvm.Cond.selects "[I" ({ cls := "[I", name := "clone", desc := "()Ljava/lang/Object;" } : Jvm.MethodName) ({ cls := "java/lang/Object", name := "clone", desc := "()Ljava/lang/Object;" } : Jvm.MethodName)))] := lwcdf (by decide +kernel)
def w2_114 := lw_in (mT2 wgr2_11.1) rfl
def w2_115 := lw_in (mT2 wgr2_11.2.1) rfl
def w2_116 := lw_in (mT2 wgr2_11.2.2.1) rfl
def w2_118 := lw_in (mT2 wgr2_11.2.2.2.1) rfl
def w2_119 := lw_in (mT2 wgr2_11.2.2.2.2.1) rfl
theorem wgr2_12 : lwcdp tables_1_2 [(126, (Jvm.Cond.castable "[I" "java/lang/Cloneable")), (127, (Jvm.Cond.classLink "java/util/Arrays" (317 : Nat) "[I")), (128, (Jvm.Cond.methodLink "java/util/Arrays" (304 : Nat) ({ cls := "java/lang/Math", name := "min", desc := "(II)I" } : Jvm.MethodName))), (129, (Jvm.Cond.static ({ cls := "java/lang/Math", name := "min", desc := "(II)I" } : Jvm.MethodName))), (131, (Jvm.Cond.methodLink "java/util/Arrays" (150 : Nat) ({ cls := "java/lang/System", name := "arraycopy", desc := "(Ljava/lang/Object;ILjava/lang/Object;II)V" } : Jvm.MethodName))), (132, (Jvm.Cond.static ({ cls := "java/lang/System", name := "arraycopy", desc := "(Ljava/lang/Object;ILjava/lang/Object;II)V" } : Jvm.MethodName))), (133, (Jvm.Cond.native ({ cls := "java/lang/System", name := "arraycopy", desc := "(Ljava/lang/Object;ILjava/lang/Object;II)V" } : Jvm.MethodName))), (134, (Jvm.Cond.methodLink "DotPress" (109 : Nat) ({ cls := "DotPress", name := "done", desc := "(I)I" } : Jvm.MethodName))), (135, (Jvm.Cond.privateMethod ({ cls := "DotPress", name := "done", desc := "(I)I" } : Jvm.MethodName))), (136, (Jvm.Cond.instanceMethod ({ cls := "DotPress", name := "done", desc := "(I)I" } : Jvm.MethodName)))] := lwcdf (by decide +kernel)
def w2_128 := lw_in (mT2 wgr2_12.2.2.1) rfl
def w2_129 := lw_in (mT2 wgr2_12.2.2.2.1) rfl
def w2_131 := lw_in (mT2 wgr2_12.2.2.2.2.1) rfl
def w2_132 := lw_in (mT2 wgr2_12.2.2.2.2.2.1) rfl
def w2_133 := lw_in (mT2 wgr2_12.2.2.2.2.2.2.1) rfl
def w2_134 := lw_in (mT2 wgr2_12.2.2.2.2.2.2.2.1) rfl
def w2_136 := lw_in (mT2 wgr2_12.2.2.2.2.2.2.2.2.2.1) rfl
theorem wgr2_13 : lwcdp tables_1_2 [(138, (Jvm.Cond.methodLink "DotPressLaw" (18 : Nat) ({ cls := "DotPress", name := "end", desc := "(I)I" } : Jvm.MethodName))), (139, (Jvm.Cond.instanceMethod ({ cls := "DotPress", name := "end", desc := "(I)I" } : Jvm.MethodName))), (140, (Jvm.Cond.selects "DotPress" ({ cls := "DotPress", name := "end", desc := "(I)I" } : Jvm.MethodName) ({ cls := "DotPress", name := "end", desc := "(I)I" } : Jvm.MethodName))), (142, (Jvm.Cond.methodLink "DotPress" (115 : Nat) ({ cls := "DotPress$Ints", name := "keep", desc := "(I)V" } : Jvm.MethodName))), (143, (Jvm.Cond.instanceMethod ({ cls := "DotPress$Ints", name := "keep", desc := "(I)V" } : Jvm.MethodName))), (144, (Jvm.Cond.selects "DotPress$Ints" ({ cls := "DotPress$Ints", name := "keep", desc := "(I)V" } : Jvm.MethodName) ({ cls := "DotPress$Ints", name := "keep", desc := "(I)V" } : Jvm.MethodName))), (146, (Jvm.Cond.methodLink "DotPress$Ints" (30 : Nat) ({ cls := "java/lang/Math", name := "min", desc := "(II)I" } : Jvm.MethodName))), (147, (Jvm.Cond.methodLink "DotPress$Ints" (36 : Nat) ({ cls := "java/lang/Math", name := "max", desc := "(II)I" } : Jvm.MethodName))), (148, (Jvm.Cond.static ({ cls := "java/lang/Math", name := "max", desc := "(II)I" } : Jvm.MethodName))), (150, (Jvm.Cond.methodLink "DotPressLaw" (23 : Nat) ({ cls := "DotPress", name := "table", desc := "(III)I" } : Jvm.MethodName)))] := lwcdf (by decide +kernel)
def w2_138 := lw_in (mT2 wgr2_13.1) rfl
def w2_139 := lw_in (mT2 wgr2_13.2.1) rfl
def w2_140 := lw_in (mT2 wgr2_13.2.2.1) rfl
def w2_142 := lw_in (mT2 wgr2_13.2.2.2.1) rfl
def w2_143 := lw_in (mT2 wgr2_13.2.2.2.2.1) rfl
def w2_144 := lw_in (mT2 wgr2_13.2.2.2.2.2.1) rfl
def w2_146 := lw_in (mT2 wgr2_13.2.2.2.2.2.2.1) rfl
def w2_147 := lw_in (mT2 wgr2_13.2.2.2.2.2.2.2.1) rfl
def w2_148 := lw_in (mT2 wgr2_13.2.2.2.2.2.2.2.2.1) rfl
def w2_150 := lw_in (mT2 wgr2_13.2.2.2.2.2.2.2.2.2.1) rfl
theorem wgr2_14 : lwcdp tables_1_2 [(151, (Jvm.Cond.instanceMethod ({ cls := "DotPress", name := "table", desc := "(III)I" } : Jvm.MethodName))), (152, (Jvm.Cond.selects "DotPress" ({ cls := "DotPress", name := "table", desc := "(III)I" } : Jvm.MethodName) ({ cls := "DotPress", name := "table", desc := "(III)I" } : Jvm.MethodName))), (154, (Jvm.Cond.methodLink "DotPress" (118 : Nat) ({ cls := "DotPress$Tables", name := "isFull", desc := "()Z" } : Jvm.MethodName))), (155, (Jvm.Cond.instanceMethod ({ cls := "DotPress$Tables", name := "isFull", desc := "()Z" } : Jvm.MethodName))), (156, (Jvm.Cond.selects "DotPress$Tables" ({ cls := "DotPress$Tables", name := "isFull", desc := "()Z" } : Jvm.MethodName) ({ cls := "DotPress$Tables", name := "isFull", desc := "()Z" } : Jvm.MethodName))), (158, (Jvm.Cond.methodLink "DotPress$Tables" (21 : Nat) ({ cls := "java/util/ArrayList", name := "size", desc := "()I" } : Jvm.MethodName))), (159, (Jvm.Cond.instanceMethod ({ cls := "java/util/ArrayList", name := "size", desc := "()I" } : Jvm.MethodName))), (160, (Jvm.Cond.selects "java/util/ArrayList" ({ cls := "java/util/ArrayList", name := "size", desc := "()I" } : Jvm.MethodName) ({ cls := "java/util/ArrayList", name := "size", desc := "()I" } : Jvm.MethodName))), (162, (Jvm.Cond.classLink "DotPress" (122 : Nat) "DotPress$Table")), (163, (Jvm.Cond.instantiable "DotPress$Table" (8 : Nat)))] := lwcdf (by decide +kernel)
def w2_151 := lw_in (mT2 wgr2_14.1) rfl
def w2_152 := lw_in (mT2 wgr2_14.2.1) rfl
def w2_154 := lw_in (mT2 wgr2_14.2.2.1) rfl
def w2_155 := lw_in (mT2 wgr2_14.2.2.2.1) rfl
def w2_156 := lw_in (mT2 wgr2_14.2.2.2.2.1) rfl
def w2_158 := lw_in (mT2 wgr2_14.2.2.2.2.2.1) rfl
def w2_159 := lw_in (mT2 wgr2_14.2.2.2.2.2.2.1) rfl
def w2_160 := lw_in (mT2 wgr2_14.2.2.2.2.2.2.2.1) rfl
def w2_162 := lw_in (mT2 wgr2_14.2.2.2.2.2.2.2.2.1) rfl
def w2_163 := lw_in (mT2 wgr2_14.2.2.2.2.2.2.2.2.2.1) rfl
theorem wgr2_15 : lwcdp tables_1_2 [(164, (Jvm.Cond.methodLink "DotPress" (124 : Nat) ({ cls := "DotPress$Table", name := "<init>", desc := "(IILDotPress$Table;LDotPress$Table;)V" } : Jvm.MethodName))), (165, (Jvm.Cond.instanceMethod ({ cls := "DotPress$Table", name := "<init>", desc := "(IILDotPress$Table;LDotPress$Table;)V" } : Jvm.MethodName))), (167, (Jvm.Cond.methodLink "DotPress$Table" (3 : Nat) ({ cls := "java/lang/Object", name := "<init>", desc := "()V" } : Jvm.MethodName))), (168, (Jvm.Cond.classLink "DotPress$Table" (9 : Nat) "java/util/ArrayList")), (169, (Jvm.Cond.methodLink "DotPress$Table" (11 : Nat) ({ cls := "java/util/ArrayList", name := "<init>", desc := "()V" } : Jvm.MethodName))), (170, (Jvm.Cond.classLink "DotPress$Table" (18 : Nat) "DotPress$Ints")), (171, (Jvm.Cond.methodLink "DotPress$Table" (20 : Nat) ({ cls := "DotPress$Ints", name := "<init>", desc := "(I)V" } : Jvm.MethodName))), (172, (Jvm.Cond.classLink "DotPress$Table" (27 : Nat) "DotPress$Row")), (173, (Jvm.Cond.arrayOver (Jvm.ClassFile.FieldType.object "DotPress$Row"))), (174, (Jvm.Cond.fieldLink "DotPress$Table" (37 : Nat) "DotPress$Table" "kind" "I"))] := lwcdf (by decide +kernel)
def w2_164 := lw_in (mT2 wgr2_15.1) rfl
def w2_165 := lw_in (mT2 wgr2_15.2.1) rfl
def w2_167 := lw_in (mT2 wgr2_15.2.2.1) rfl
def w2_168 := lw_in (mT2 wgr2_15.2.2.2.1) rfl
def w2_169 := lw_in (mT2 wgr2_15.2.2.2.2.1) rfl
def w2_170 := lw_in (mT2 wgr2_15.2.2.2.2.2.1) rfl
def w2_171 := lw_in (mT2 wgr2_15.2.2.2.2.2.2.1) rfl
def w2_172 := lw_in (mT2 wgr2_15.2.2.2.2.2.2.2.1) rfl
def w2_173t := mT2 wgr2_15.2.2.2.2.2.2.2.2.1
def w2_174 := lw_in (mT2 wgr2_15.2.2.2.2.2.2.2.2.2.1) rfl
theorem wgr2_16 : lwcdp tables_1_2 [(175, (Jvm.Cond.fieldLink "DotPress$Reader" (50 : Nat) "DotPress$Table" "kind" "I")), (176, (Jvm.Cond.fieldLink "DotPress" (135 : Nat) "DotPress$Table" "kind" "I")), (177, (Jvm.Cond.fieldLink "DotPress$Setting" (62 : Nat) "DotPress$Table" "kind" "I")), (178, (Jvm.Cond.fieldLink "DotPress$Table" (41 : Nat) "DotPress$Table" "dots" "I")), (179, (Jvm.Cond.fieldLink "DotPress" (138 : Nat) "DotPress$Table" "dots" "I")), (180, (Jvm.Cond.fieldLink "DotPress$Table" (44 : Nat) "DotPress$Table" "base" "LDotPress$Table;")), (181, (Jvm.Cond.fieldLink "DotPress$Reader" (55 : Nat) "DotPress$Table" "base" "LDotPress$Table;")), (182, (Jvm.Cond.fieldLink "DotPress$Setting" (67 : Nat) "DotPress$Table" "base" "LDotPress$Table;")), (183, (Jvm.Cond.fieldLink "DotPress$Table" (48 : Nat) "DotPress$Table" "second" "LDotPress$Table;")), (184, (Jvm.Cond.fieldLink "DotPress$Reader" (71 : Nat) "DotPress$Table" "second" "LDotPress$Table;"))] := lwcdf (by decide +kernel)
def w2_175 := lw_in (mT2 wgr2_16.1) rfl
def w2_176 := lw_in (mT2 wgr2_16.2.1) rfl
def w2_177 := lw_in (mT2 wgr2_16.2.2.1) rfl
def w2_178 := lw_in (mT2 wgr2_16.2.2.2.1) rfl
def w2_179 := lw_in (mT2 wgr2_16.2.2.2.2.1) rfl
def w2_180 := lw_in (mT2 wgr2_16.2.2.2.2.2.1) rfl
def w2_181 := lw_in (mT2 wgr2_16.2.2.2.2.2.2.1) rfl
def w2_182 := lw_in (mT2 wgr2_16.2.2.2.2.2.2.2.1) rfl
def w2_183 := lw_in (mT2 wgr2_16.2.2.2.2.2.2.2.2.1) rfl
def w2_184 := lw_in (mT2 wgr2_16.2.2.2.2.2.2.2.2.2.1) rfl
theorem wgr2_17 : lwcdp tables_1_2 [(185, (Jvm.Cond.fieldLink "DotPress$Setting" (71 : Nat) "DotPress$Table" "second" "LDotPress$Table;")), (186, (Jvm.Cond.fieldLink "DotPress$Table" (12 : Nat) "DotPress$Table" "rules" "Ljava/util/ArrayList;")), (187, (Jvm.Cond.fieldLink "DotPress$Reader" (94 : Nat) "DotPress$Table" "rules" "Ljava/util/ArrayList;")), (188, (Jvm.Cond.fieldLink "DotPress" (179 : Nat) "DotPress$Table" "rules" "Ljava/util/ArrayList;")), (189, (Jvm.Cond.fieldLink "DotPress$Setting" (130 : Nat) "DotPress$Table" "rules" "Ljava/util/ArrayList;")), (190, (Jvm.Cond.fieldLink "DotPress$Table" (23 : Nat) "DotPress$Table" "initials" "LDotPress$Ints;")), (191, (Jvm.Cond.fieldLink "DotPress$Setting" (126 : Nat) "DotPress$Table" "initials" "LDotPress$Ints;")), (192, (Jvm.Cond.fieldLink "DotPress$Table" (29 : Nat) "DotPress$Table" "indicators" "[LDotPress$Row;")), (193, (Jvm.Cond.fieldLink "DotPress$Reader" (63 : Nat) "DotPress$Table" "indicators" "[LDotPress$Row;")), (194, (Jvm.Cond.fieldLink "DotPress$Tables" (85 : Nat) "DotPress$Table" "indicators" "[LDotPress$Row;"))] := lwcdf (by decide +kernel)
def w2_185 := lw_in (mT2 wgr2_17.1) rfl
def w2_186 := lw_in (mT2 wgr2_17.2.1) rfl
def w2_187 := lw_in (mT2 wgr2_17.2.2.1) rfl
def w2_188 := lw_in (mT2 wgr2_17.2.2.2.1) rfl
def w2_189 := lw_in (mT2 wgr2_17.2.2.2.2.1) rfl
def w2_190 := lw_in (mT2 wgr2_17.2.2.2.2.2.1) rfl
def w2_191 := lw_in (mT2 wgr2_17.2.2.2.2.2.2.1) rfl
def w2_192 := lw_in (mT2 wgr2_17.2.2.2.2.2.2.2.1) rfl
def w2_193 := lw_in (mT2 wgr2_17.2.2.2.2.2.2.2.2.1) rfl
def w2_194 := lw_in (mT2 wgr2_17.2.2.2.2.2.2.2.2.2.1) rfl
theorem wgr2_18 : lwcdp tables_1_2 [(195, (Jvm.Cond.fieldLink "DotPress$Setting" (78 : Nat) "DotPress$Table" "indicators" "[LDotPress$Row;")), (196, (Jvm.Cond.fieldLink "DotPress" (214 : Nat) "DotPress$Table" "indicators" "[LDotPress$Row;")), (197, (Jvm.Cond.fieldLink "DotPress$Table" (33 : Nat) "DotPress$Table" "dropped" "Z")), (198, (Jvm.Cond.fieldLink "DotPress$Tables" (31 : Nat) "DotPress$Table" "dropped" "Z")), (199, (Jvm.Cond.fieldLink "DotPress" (156 : Nat) "DotPress$Table" "dropped" "Z")), (200, (Jvm.Cond.laysFinal "DotPress$Table" "DotPress$Table" "kind" "I")), (201, (Jvm.Cond.soleField "DotPress$Table" "kind")), (202, (Jvm.Cond.laysFinal "DotPress$Table" "DotPress$Table" "dots" "I")), (203, (Jvm.Cond.soleField "DotPress$Table" "dots")), (204, (Jvm.Cond.laysFinal "DotPress$Table" "DotPress$Table" "base" "LDotPress$Table;"))] := lwcdf (by decide +kernel)
def w2_195 := lw_in (mT2 wgr2_18.1) rfl
def w2_196 := lw_in (mT2 wgr2_18.2.1) rfl
def w2_197 := lw_in (mT2 wgr2_18.2.2.1) rfl
def w2_198 := lw_in (mT2 wgr2_18.2.2.2.1) rfl
def w2_199 := lw_in (mT2 wgr2_18.2.2.2.2.1) rfl
def w2_200 := lw_in (mT2 wgr2_18.2.2.2.2.2.1) rfl
def w2_202 := lw_in (mT2 wgr2_18.2.2.2.2.2.2.2.1) rfl
def w2_204 := lw_in (mT2 wgr2_18.2.2.2.2.2.2.2.2.2.1) rfl
theorem wgr2_19 : lwcdp tables_1_2 [(205, (Jvm.Cond.soleField "DotPress$Table" "base")), (206, (Jvm.Cond.laysFinal "DotPress$Table" "DotPress$Table" "second" "LDotPress$Table;")), (207, (Jvm.Cond.soleField "DotPress$Table" "second")), (208, (Jvm.Cond.laysFinal "DotPress$Table" "DotPress$Table" "rules" "Ljava/util/ArrayList;")), (209, (Jvm.Cond.soleField "DotPress$Table" "rules")), (210, (Jvm.Cond.laysFinal "DotPress$Table" "DotPress$Table" "initials" "LDotPress$Ints;")), (211, (Jvm.Cond.soleField "DotPress$Table" "initials")), (212, (Jvm.Cond.laysFinal "DotPress$Table" "DotPress$Table" "indicators" "[LDotPress$Row;")), (213, (Jvm.Cond.soleField "DotPress$Table" "indicators")), (214, (Jvm.Cond.lays "DotPress$Table" "DotPress$Table" "dropped" "Z"))] := lwcdf (by decide +kernel)
def w2_206 := lw_in (mT2 wgr2_19.2.1) rfl
def w2_208 := lw_in (mT2 wgr2_19.2.2.2.1) rfl
def w2_210 := lw_in (mT2 wgr2_19.2.2.2.2.2.1) rfl
def w2_212 := lw_in (mT2 wgr2_19.2.2.2.2.2.2.2.1) rfl
def w2_214 := lw_in (mT2 wgr2_19.2.2.2.2.2.2.2.2.2.1) rfl
theorem wgr2_20 : lwcdp tables_1_2 [(215, (Jvm.Cond.soleField "DotPress$Table" "dropped")), (216, (Jvm.Cond.superclass "DotPress$Table" "java/lang/Object")), (217, (Jvm.Cond.methodLink "DotPress" (127 : Nat) ({ cls := "DotPress$Tables", name := "make", desc := "(LDotPress$Table;)I" } : Jvm.MethodName))), (218, (Jvm.Cond.instanceMethod ({ cls := "DotPress$Tables", name := "make", desc := "(LDotPress$Table;)I" } : Jvm.MethodName))), (219, (Jvm.Cond.selects "DotPress$Tables" ({ cls := "DotPress$Tables", name := "make", desc := "(LDotPress$Table;)I" } : Jvm.MethodName) ({ cls := "DotPress$Tables", name := "make", desc := "(LDotPress$Table;)I" } : Jvm.MethodName))), (221, (Jvm.Cond.methodLink "DotPress$Tables" (43 : Nat) ({ cls := "java/util/ArrayList", name := "add", desc := "(Ljava/lang/Object;)Z" } : Jvm.MethodName))), (222, (Jvm.Cond.instanceMethod ({ cls := "java/util/ArrayList", name := "add", desc := "(Ljava/lang/Object;)Z" } : Jvm.MethodName))), (223, (Jvm.Cond.selects "java/util/ArrayList" ({ cls := "java/util/ArrayList", name := "add", desc := "(Ljava/lang/Object;)Z" } : Jvm.MethodName) ({ cls := "java/util/ArrayList", name := "add", desc := "(Ljava/lang/Object;)Z" } : Jvm.MethodName))), (225, (Jvm.Cond.methodLink "java/util/ArrayList" (131 : Nat) ({ cls := "java/util/ArrayList", name := "add", desc := "(Ljava/lang/Object;[Ljava/lang/Object;I)V" } : Jvm.MethodName))), (226, (Jvm.Cond.privateMethod ({ cls := "java/util/ArrayList", name := "add", desc := "(Ljava/lang/Object;[Ljava/lang/Object;I)V" } : Jvm.MethodName)))] := lwcdf (by decide +kernel)
def w2_217 := lw_in (mT2 wgr2_20.2.2.1) rfl
def w2_218 := lw_in (mT2 wgr2_20.2.2.2.1) rfl
def w2_219 := lw_in (mT2 wgr2_20.2.2.2.2.1) rfl
def w2_221 := lw_in (mT2 wgr2_20.2.2.2.2.2.1) rfl
def w2_222 := lw_in (mT2 wgr2_20.2.2.2.2.2.2.1) rfl
def w2_223 := lw_in (mT2 wgr2_20.2.2.2.2.2.2.2.1) rfl
def w2_225 := lw_in (mT2 wgr2_20.2.2.2.2.2.2.2.2.1) rfl
theorem wgr2_21 : lwcdp tables_1_2 [(227, (Jvm.Cond.instanceMethod ({ cls := "java/util/ArrayList", name := "add", desc := "(Ljava/lang/Object;[Ljava/lang/Object;I)V" } : Jvm.MethodName))), (229, (Jvm.Cond.methodLink "java/util/ArrayList" (129 : Nat) ({ cls := "java/util/ArrayList", name := "grow", desc := "()[Ljava/lang/Object;" } : Jvm.MethodName))), (230, (Jvm.Cond.privateMethod ({ cls := "java/util/ArrayList", name := "grow", desc := "()[Ljava/lang/Object;" } : Jvm.MethodName))), (231, (Jvm.Cond.instanceMethod ({ cls := "java/util/ArrayList", name := "grow", desc := "()[Ljava/lang/Object;" } : Jvm.MethodName))), (233, (Jvm.Cond.methodLink "java/util/ArrayList" (69 : Nat) ({ cls := "java/util/ArrayList", name := "grow", desc := "(I)[Ljava/lang/Object;" } : Jvm.MethodName))), (234, (Jvm.Cond.privateMethod ({ cls := "java/util/ArrayList", name := "grow", desc := "(I)[Ljava/lang/Object;" } : Jvm.MethodName))), (235, (Jvm.Cond.instanceMethod ({ cls := "java/util/ArrayList", name := "grow", desc := "(I)[Ljava/lang/Object;" } : Jvm.MethodName))), (237, (Jvm.Cond.methodLink "java/util/ArrayList" (73 : Nat) ({ cls := "jdk/internal/util/ArraysSupport", name := "newLength", desc := "(III)I" } : Jvm.MethodName))), (238, (Jvm.Cond.static ({ cls := "jdk/internal/util/ArraysSupport", name := "newLength", desc := "(III)I" } : Jvm.MethodName)))] := lwcdf (by decide +kernel)
def w2_227 := lw_in (mT2 wgr2_21.1) rfl
def w2_229 := lw_in (mT2 wgr2_21.2.1) rfl
def w2_231 := lw_in (mT2 wgr2_21.2.2.2.1) rfl
def w2_233 := lw_in (mT2 wgr2_21.2.2.2.2.1) rfl
def w2_235 := lw_in (mT2 wgr2_21.2.2.2.2.2.2.1) rfl
def w2_237 := lw_in (mT2 wgr2_21.2.2.2.2.2.2.2.1) rfl
def w2_238 := lw_in (mT2 wgr2_21.2.2.2.2.2.2.2.2.1) rfl
theorem wgr3_0 : lwcdp tables_1_3 [(0, (Jvm.Cond.methodLink "jdk/internal/util/ArraysSupport" (194 : Nat) ({ cls := "java/lang/Math", name := "max", desc := "(II)I" } : Jvm.MethodName))), (1, (Jvm.Cond.constant "jdk/internal/util/ArraysSupport" (200 : Nat) (2147483639 : Int32))), (2, (Jvm.Cond.methodLink "jdk/internal/util/ArraysSupport" (201 : Nat) ({ cls := "jdk/internal/util/ArraysSupport", name := "hugeLength", desc := "(II)I" } : Jvm.MethodName))), (3, (Jvm.Cond.static ({ cls := "jdk/internal/util/ArraysSupport", name := "hugeLength", desc := "(II)I" } : Jvm.MethodName))), (5, (Jvm.Cond.methodLink "java/util/ArrayList" (66 : Nat) ({ cls := "java/util/Arrays", name := "copyOf", desc := "([Ljava/lang/Object;I)[Ljava/lang/Object;" } : Jvm.MethodName))), (6, (Jvm.Cond.static ({ cls := "java/util/Arrays", name := "copyOf", desc := "([Ljava/lang/Object;I)[Ljava/lang/Object;" } : Jvm.MethodName))), (8, (Jvm.Cond.methodLink "java/util/Arrays" (86 : Nat) ({ cls := "java/lang/Object", name := "getClass", desc := "()Ljava/lang/Class;" } : Jvm.MethodName))), (9, (Jvm.Cond.instanceMethod ({ cls := "java/lang/Object", name := "getClass", desc := "()Ljava/lang/Class;" } : Jvm.MethodName))), (10, (Jvm.Cond.sameMethod "java/lang/Object" "java/lang/Object" "getClass" "()Ljava/lang/Class;")), (11, (Jvm.Cond.selects "DotPress" ({ cls := "java/lang/Object", name := "getClass", desc := "()Ljava/lang/Class;" } : Jvm.MethodName) ({ cls := "java/lang/Object", name := "getClass", desc := "()Ljava/lang/Class;" } : Jvm.MethodName)))] := lwcdf (by decide +kernel)
def w3_0 := lw_in (mT3 wgr3_0.1) rfl
def w3_1 := lw_in (mT3 wgr3_0.2.1) rfl
def w3_5 := lw_in (mT3 wgr3_0.2.2.2.2.1) rfl
def w3_6 := lw_in (mT3 wgr3_0.2.2.2.2.2.1) rfl
def w3_8 := lw_in (mT3 wgr3_0.2.2.2.2.2.2.1) rfl
def w3_9 := lw_in (mT3 wgr3_0.2.2.2.2.2.2.2.1) rfl
theorem wgr3_2 : lwcdp tables_1_3 [(22, (Jvm.Cond.selects "DotPress$Tables" ({ cls := "java/lang/Object", name := "getClass", desc := "()Ljava/lang/Class;" } : Jvm.MethodName) ({ cls := "java/lang/Object", name := "getClass", desc := "()Ljava/lang/Class;" } : Jvm.MethodName))), (23, (Jvm.Cond.selects "DotPressModel" ({ cls := "java/lang/Object", name := "getClass", desc := "()Ljava/lang/Class;" } : Jvm.MethodName) ({ cls := "java/lang/Object", name := "getClass", desc := "()Ljava/lang/Class;" } : Jvm.MethodName))), (24, (Jvm.Cond.selects "java/util/ArrayList" ({ cls := "java/lang/Object", name := "getClass", desc := "()Ljava/lang/Class;" } : Jvm.MethodName) ({ cls := "java/lang/Object", name := "getClass", desc := "()Ljava/lang/Class;" } : Jvm.MethodName))), (25, (Jvm.Cond.native ({ cls := "java/lang/Object", name := "getClass", desc := "()Ljava/lang/Class;" } : Jvm.MethodName))), (26, (Jvm.Cond.methodLink "java/util/Arrays" (300 : Nat) ({ cls := "java/util/Arrays", name := "copyOf", desc := "([Ljava/lang/Object;ILjava/lang/Class;)[Ljava/lang/Object;" } : Jvm.MethodName))), (27, (Jvm.Cond.static ({ cls := "java/util/Arrays", name := "copyOf", desc := "([Ljava/lang/Object;ILjava/lang/Class;)[Ljava/lang/Object;" } : Jvm.MethodName))), (29, (Jvm.Cond.classLink "java/util/Arrays" (110 : Nat) "[Ljava/lang/Object;")), (30, (Jvm.Cond.arrayOver (Jvm.ClassFile.FieldType.object "java/lang/Object"))), (31, (Jvm.Cond.classLink "java/util/Arrays" (2 : Nat) "java/lang/Object")), (32, (Jvm.Cond.methodLink "java/util/ArrayList" (79 : Nat) ({ cls := "java/lang/Math", name := "max", desc := "(II)I" } : Jvm.MethodName)))] := lwcdf (by decide +kernel)
def w3_25 := lw_in (mT3 wgr3_2.2.2.2.1) rfl
def w3_26 := lw_in (mT3 wgr3_2.2.2.2.2.1) rfl
def w3_27 := lw_in (mT3 wgr3_2.2.2.2.2.2.1) rfl
def w3_29 := lw_in (mT3 wgr3_2.2.2.2.2.2.2.1) rfl
def w3_30t := mT3 wgr3_2.2.2.2.2.2.2.2.1
def w3_31 := lw_in (mT3 wgr3_2.2.2.2.2.2.2.2.2.1) rfl
def w3_32 := lw_in (mT3 wgr3_2.2.2.2.2.2.2.2.2.2.1) rfl
theorem wgr3_3 : lwcdp tables_1_3 [(33, (Jvm.Cond.classLink "java/util/ArrayList" (7 : Nat) "java/lang/Object")), (34, (Jvm.Cond.classLink "DotPress$Tables" (47 : Nat) "DotPress$Change")), (35, (Jvm.Cond.instantiable "DotPress$Change" (4 : Nat))), (36, (Jvm.Cond.methodLink "DotPress$Tables" (49 : Nat) ({ cls := "DotPress$Change", name := "<init>", desc := "(ILDotPress$Table;LDotPress$Row;I)V" } : Jvm.MethodName))), (37, (Jvm.Cond.instanceMethod ({ cls := "DotPress$Change", name := "<init>", desc := "(ILDotPress$Table;LDotPress$Row;I)V" } : Jvm.MethodName))), (39, (Jvm.Cond.methodLink "DotPress$Change" (1 : Nat) ({ cls := "java/lang/Object", name := "<init>", desc := "()V" } : Jvm.MethodName))), (40, (Jvm.Cond.fieldLink "DotPress$Change" (7 : Nat) "DotPress$Change" "what" "I")), (41, (Jvm.Cond.fieldLink "DotPress$Tables" (62 : Nat) "DotPress$Change" "what" "I")), (42, (Jvm.Cond.fieldLink "DotPress$Change" (13 : Nat) "DotPress$Change" "table" "LDotPress$Table;")), (43, (Jvm.Cond.fieldLink "DotPress$Tables" (66 : Nat) "DotPress$Change" "table" "LDotPress$Table;"))] := lwcdf (by decide +kernel)
def w3_33 := lw_in (mT3 wgr3_3.1) rfl
def w3_34 := lw_in (mT3 wgr3_3.2.1) rfl
def w3_35 := lw_in (mT3 wgr3_3.2.2.1) rfl
def w3_36 := lw_in (mT3 wgr3_3.2.2.2.1) rfl
def w3_37 := lw_in (mT3 wgr3_3.2.2.2.2.1) rfl
def w3_39 := lw_in (mT3 wgr3_3.2.2.2.2.2.1) rfl
def w3_40 := lw_in (mT3 wgr3_3.2.2.2.2.2.2.1) rfl
def w3_41 := lw_in (mT3 wgr3_3.2.2.2.2.2.2.2.1) rfl
def w3_42 := lw_in (mT3 wgr3_3.2.2.2.2.2.2.2.2.1) rfl
def w3_43 := lw_in (mT3 wgr3_3.2.2.2.2.2.2.2.2.2.1) rfl
theorem wgr3_4 : lwcdp tables_1_3 [(44, (Jvm.Cond.fieldLink "DotPress$Change" (17 : Nat) "DotPress$Change" "row" "LDotPress$Row;")), (45, (Jvm.Cond.fieldLink "DotPress$Tables" (73 : Nat) "DotPress$Change" "row" "LDotPress$Row;")), (46, (Jvm.Cond.fieldLink "DotPress$Change" (21 : Nat) "DotPress$Change" "number" "I")), (47, (Jvm.Cond.fieldLink "DotPress$Tables" (77 : Nat) "DotPress$Change" "number" "I")), (48, (Jvm.Cond.laysFinal "DotPress$Change" "DotPress$Change" "what" "I")), (49, (Jvm.Cond.soleField "DotPress$Change" "what")), (50, (Jvm.Cond.laysFinal "DotPress$Change" "DotPress$Change" "table" "LDotPress$Table;")), (51, (Jvm.Cond.soleField "DotPress$Change" "table")), (52, (Jvm.Cond.laysFinal "DotPress$Change" "DotPress$Change" "row" "LDotPress$Row;")), (53, (Jvm.Cond.soleField "DotPress$Change" "row"))] := lwcdf (by decide +kernel)
def w3_44 := lw_in (mT3 wgr3_4.1) rfl
def w3_45 := lw_in (mT3 wgr3_4.2.1) rfl
def w3_46 := lw_in (mT3 wgr3_4.2.2.1) rfl
def w3_47 := lw_in (mT3 wgr3_4.2.2.2.1) rfl
def w3_48 := lw_in (mT3 wgr3_4.2.2.2.2.1) rfl
def w3_50 := lw_in (mT3 wgr3_4.2.2.2.2.2.2.1) rfl
def w3_52 := lw_in (mT3 wgr3_4.2.2.2.2.2.2.2.2.1) rfl
theorem wgr3_5 : lwcdp tables_1_3 [(54, (Jvm.Cond.laysFinal "DotPress$Change" "DotPress$Change" "number" "I")), (55, (Jvm.Cond.soleField "DotPress$Change" "number")), (56, (Jvm.Cond.superclass "DotPress$Change" "java/lang/Object")), (57, (Jvm.Cond.methodLink "DotPress$Tables" (52 : Nat) ({ cls := "DotPress$Tables", name := "remember", desc := "(LDotPress$Change;)V" } : Jvm.MethodName))), (58, (Jvm.Cond.instanceMethod ({ cls := "DotPress$Tables", name := "remember", desc := "(LDotPress$Change;)V" } : Jvm.MethodName))), (59, (Jvm.Cond.selects "DotPress$Tables" ({ cls := "DotPress$Tables", name := "remember", desc := "(LDotPress$Change;)V" } : Jvm.MethodName) ({ cls := "DotPress$Tables", name := "remember", desc := "(LDotPress$Change;)V" } : Jvm.MethodName))), (61, (Jvm.Cond.methodLink "DotPress$Tables" (56 : Nat) ({ cls := "java/util/ArrayList", name := "remove", desc := "(I)Ljava/lang/Object;" } : Jvm.MethodName))), (62, (Jvm.Cond.instanceMethod ({ cls := "java/util/ArrayList", name := "remove", desc := "(I)Ljava/lang/Object;" } : Jvm.MethodName))), (63, (Jvm.Cond.selects "java/util/ArrayList" ({ cls := "java/util/ArrayList", name := "remove", desc := "(I)Ljava/lang/Object;" } : Jvm.MethodName) ({ cls := "java/util/ArrayList", name := "remove", desc := "(I)Ljava/lang/Object;" } : Jvm.MethodName))), (65, (Jvm.Cond.methodLink "java/util/ArrayList" (118 : Nat) ({ cls := "java/util/Objects", name := "checkIndex", desc := "(II)I" } : Jvm.MethodName)))] := lwcdf (by decide +kernel)
def w3_54 := lw_in (mT3 wgr3_5.1) rfl
def w3_57 := lw_in (mT3 wgr3_5.2.2.2.1) rfl
def w3_58 := lw_in (mT3 wgr3_5.2.2.2.2.1) rfl
def w3_59 := lw_in (mT3 wgr3_5.2.2.2.2.2.1) rfl
def w3_61 := lw_in (mT3 wgr3_5.2.2.2.2.2.2.1) rfl
def w3_62 := lw_in (mT3 wgr3_5.2.2.2.2.2.2.2.1) rfl
def w3_63 := lw_in (mT3 wgr3_5.2.2.2.2.2.2.2.2.1) rfl
def w3_65 := lw_in (mT3 wgr3_5.2.2.2.2.2.2.2.2.2.1) rfl
theorem wgr3_6 : lwcdp tables_1_3 [(66, (Jvm.Cond.static ({ cls := "java/util/Objects", name := "checkIndex", desc := "(II)I" } : Jvm.MethodName))), (68, (Jvm.Cond.methodLink "java/util/Objects" (105 : Nat) ({ cls := "jdk/internal/util/Preconditions", name := "checkIndex", desc := "(IILjava/util/function/BiFunction;)I" } : Jvm.MethodName))), (69, (Jvm.Cond.static ({ cls := "jdk/internal/util/Preconditions", name := "checkIndex", desc := "(IILjava/util/function/BiFunction;)I" } : Jvm.MethodName))), (71, (Jvm.Cond.methodLink "java/util/ArrayList" (144 : Nat) ({ cls := "java/util/ArrayList", name := "fastRemove", desc := "([Ljava/lang/Object;I)V" } : Jvm.MethodName))), (72, (Jvm.Cond.privateMethod ({ cls := "java/util/ArrayList", name := "fastRemove", desc := "([Ljava/lang/Object;I)V" } : Jvm.MethodName))), (73, (Jvm.Cond.instanceMethod ({ cls := "java/util/ArrayList", name := "fastRemove", desc := "([Ljava/lang/Object;I)V" } : Jvm.MethodName))), (75, (Jvm.Cond.methodLink "java/util/ArrayList" (112 : Nat) ({ cls := "java/lang/System", name := "arraycopy", desc := "(Ljava/lang/Object;ILjava/lang/Object;II)V" } : Jvm.MethodName))), (76, (Jvm.Cond.methodLink "DotPress" (131 : Nat) ({ cls := "DotPress$Tables", name := "alive", desc := "(I)LDotPress$Table;" } : Jvm.MethodName))), (77, (Jvm.Cond.instanceMethod ({ cls := "DotPress$Tables", name := "alive", desc := "(I)LDotPress$Table;" } : Jvm.MethodName))), (78, (Jvm.Cond.selects "DotPress$Tables" ({ cls := "DotPress$Tables", name := "alive", desc := "(I)LDotPress$Table;" } : Jvm.MethodName) ({ cls := "DotPress$Tables", name := "alive", desc := "(I)LDotPress$Table;" } : Jvm.MethodName)))] := lwcdf (by decide +kernel)
def w3_66 := lw_in (mT3 wgr3_6.1) rfl
def w3_68 := lw_in (mT3 wgr3_6.2.1) rfl
def w3_69 := lw_in (mT3 wgr3_6.2.2.1) rfl
def w3_71 := lw_in (mT3 wgr3_6.2.2.2.1) rfl
def w3_73 := lw_in (mT3 wgr3_6.2.2.2.2.2.1) rfl
def w3_76 := lw_in (mT3 wgr3_6.2.2.2.2.2.2.2.1) rfl
def w3_77 := lw_in (mT3 wgr3_6.2.2.2.2.2.2.2.2.1) rfl
def w3_78 := lw_in (mT3 wgr3_6.2.2.2.2.2.2.2.2.2.1) rfl
theorem wgr3_7 : lwcdp tables_1_3 [(80, (Jvm.Cond.methodLink "DotPress$Tables" (25 : Nat) ({ cls := "java/util/ArrayList", name := "get", desc := "(I)Ljava/lang/Object;" } : Jvm.MethodName))), (81, (Jvm.Cond.instanceMethod ({ cls := "java/util/ArrayList", name := "get", desc := "(I)Ljava/lang/Object;" } : Jvm.MethodName))), (82, (Jvm.Cond.selects "java/util/ArrayList" ({ cls := "java/util/ArrayList", name := "get", desc := "(I)Ljava/lang/Object;" } : Jvm.MethodName) ({ cls := "java/util/ArrayList", name := "get", desc := "(I)Ljava/lang/Object;" } : Jvm.MethodName))), (84, (Jvm.Cond.methodLink "java/util/ArrayList" (123 : Nat) ({ cls := "java/util/ArrayList", name := "elementData", desc := "(I)Ljava/lang/Object;" } : Jvm.MethodName))), (85, (Jvm.Cond.instanceMethod ({ cls := "java/util/ArrayList", name := "elementData", desc := "(I)Ljava/lang/Object;" } : Jvm.MethodName))), (86, (Jvm.Cond.selects "java/util/ArrayList" ({ cls := "java/util/ArrayList", name := "elementData", desc := "(I)Ljava/lang/Object;" } : Jvm.MethodName) ({ cls := "java/util/ArrayList", name := "elementData", desc := "(I)Ljava/lang/Object;" } : Jvm.MethodName))), (88, (Jvm.Cond.classLink "DotPress$Tables" (29 : Nat) "DotPress$Table")), (89, (Jvm.Cond.methodLink "DotPressLaw" (28 : Nat) ({ cls := "DotPress", name := "join", desc := "(II)I" } : Jvm.MethodName))), (90, (Jvm.Cond.instanceMethod ({ cls := "DotPress", name := "join", desc := "(II)I" } : Jvm.MethodName))), (91, (Jvm.Cond.selects "DotPress" ({ cls := "DotPress", name := "join", desc := "(II)I" } : Jvm.MethodName) ({ cls := "DotPress", name := "join", desc := "(II)I" } : Jvm.MethodName)))] := lwcdf (by decide +kernel)
def w3_80 := lw_in (mT3 wgr3_7.1) rfl
def w3_81 := lw_in (mT3 wgr3_7.2.1) rfl
def w3_82 := lw_in (mT3 wgr3_7.2.2.1) rfl
def w3_84 := lw_in (mT3 wgr3_7.2.2.2.1) rfl
def w3_85 := lw_in (mT3 wgr3_7.2.2.2.2.1) rfl
def w3_86 := lw_in (mT3 wgr3_7.2.2.2.2.2.1) rfl
def w3_88 := lw_in (mT3 wgr3_7.2.2.2.2.2.2.1) rfl
def w3_89 := lw_in (mT3 wgr3_7.2.2.2.2.2.2.2.1) rfl
def w3_90 := lw_in (mT3 wgr3_7.2.2.2.2.2.2.2.2.1) rfl
def w3_91 := lw_in (mT3 wgr3_7.2.2.2.2.2.2.2.2.2.1) rfl
theorem wgr3_8 : lwcdp tables_1_3 [(93, (Jvm.Cond.methodLink "DotPress" (141 : Nat) ({ cls := "java/lang/Math", name := "max", desc := "(II)I" } : Jvm.MethodName))), (94, (Jvm.Cond.methodLink "DotPressLaw" (33 : Nat) ({ cls := "DotPress", name := "drop", desc := "(I)I" } : Jvm.MethodName))), (95, (Jvm.Cond.instanceMethod ({ cls := "DotPress", name := "drop", desc := "(I)I" } : Jvm.MethodName))), (96, (Jvm.Cond.selects "DotPress" ({ cls := "DotPress", name := "drop", desc := "(I)I" } : Jvm.MethodName) ({ cls := "DotPress", name := "drop", desc := "(I)I" } : Jvm.MethodName))), (98, (Jvm.Cond.classLink "DotPress" (147 : Nat) "DotPress$Change")), (99, (Jvm.Cond.methodLink "DotPress" (149 : Nat) ({ cls := "DotPress$Change", name := "<init>", desc := "(ILDotPress$Table;LDotPress$Row;I)V" } : Jvm.MethodName))), (100, (Jvm.Cond.methodLink "DotPress" (152 : Nat) ({ cls := "DotPress$Tables", name := "remember", desc := "(LDotPress$Change;)V" } : Jvm.MethodName))), (101, (Jvm.Cond.methodLink "DotPressLaw" (37 : Nat) ({ cls := "DotPress", name := "rule", desc := "(III)I" } : Jvm.MethodName))), (102, (Jvm.Cond.instanceMethod ({ cls := "DotPress", name := "rule", desc := "(III)I" } : Jvm.MethodName))), (103, (Jvm.Cond.selects "DotPress" ({ cls := "DotPress", name := "rule", desc := "(III)I" } : Jvm.MethodName) ({ cls := "DotPress", name := "rule", desc := "(III)I" } : Jvm.MethodName)))] := lwcdf (by decide +kernel)
def w3_93 := lw_in (mT3 wgr3_8.1) rfl
def w3_94 := lw_in (mT3 wgr3_8.2.1) rfl
def w3_95 := lw_in (mT3 wgr3_8.2.2.1) rfl
def w3_96 := lw_in (mT3 wgr3_8.2.2.2.1) rfl
def w3_98 := lw_in (mT3 wgr3_8.2.2.2.2.1) rfl
def w3_99 := lw_in (mT3 wgr3_8.2.2.2.2.2.1) rfl
def w3_100 := lw_in (mT3 wgr3_8.2.2.2.2.2.2.1) rfl
def w3_101 := lw_in (mT3 wgr3_8.2.2.2.2.2.2.2.1) rfl
def w3_102 := lw_in (mT3 wgr3_8.2.2.2.2.2.2.2.2.1) rfl
def w3_103 := lw_in (mT3 wgr3_8.2.2.2.2.2.2.2.2.2.1) rfl
theorem wgr3_9 : lwcdp tables_1_3 [(105, (Jvm.Cond.methodLink "DotPress" (160 : Nat) ({ cls := "DotPress", name := "addRule", desc := "(III)I" } : Jvm.MethodName))), (106, (Jvm.Cond.privateMethod ({ cls := "DotPress", name := "addRule", desc := "(III)I" } : Jvm.MethodName))), (107, (Jvm.Cond.instanceMethod ({ cls := "DotPress", name := "addRule", desc := "(III)I" } : Jvm.MethodName))), (109, (Jvm.Cond.methodLink "DotPress" (167 : Nat) ({ cls := "DotPress", name := "isCondition", desc := "(I)Z" } : Jvm.MethodName))), (110, (Jvm.Cond.static ({ cls := "DotPress", name := "isCondition", desc := "(I)Z" } : Jvm.MethodName))), (112, (Jvm.Cond.methodLink "DotPress" (171 : Nat) ({ cls := "DotPress$Ints", name := "isWithin", desc := "(IIII)Z" } : Jvm.MethodName))), (113, (Jvm.Cond.instanceMethod ({ cls := "DotPress$Ints", name := "isWithin", desc := "(IIII)Z" } : Jvm.MethodName))), (114, (Jvm.Cond.selects "DotPress$Ints" ({ cls := "DotPress$Ints", name := "isWithin", desc := "(IIII)Z" } : Jvm.MethodName) ({ cls := "DotPress$Ints", name := "isWithin", desc := "(IIII)Z" } : Jvm.MethodName))), (116, (Jvm.Cond.methodLink "DotPress$Ints" (39 : Nat) ({ cls := "DotPress$Ints", name := "at", desc := "(I)I" } : Jvm.MethodName))), (117, (Jvm.Cond.instanceMethod ({ cls := "DotPress$Ints", name := "at", desc := "(I)I" } : Jvm.MethodName)))] := lwcdf (by decide +kernel)
def w3_105 := lw_in (mT3 wgr3_9.1) rfl
def w3_107 := lw_in (mT3 wgr3_9.2.2.1) rfl
def w3_109 := lw_in (mT3 wgr3_9.2.2.2.1) rfl
def w3_110 := lw_in (mT3 wgr3_9.2.2.2.2.1) rfl
def w3_112 := lw_in (mT3 wgr3_9.2.2.2.2.2.1) rfl
def w3_113 := lw_in (mT3 wgr3_9.2.2.2.2.2.2.1) rfl
def w3_114 := lw_in (mT3 wgr3_9.2.2.2.2.2.2.2.1) rfl
def w3_116 := lw_in (mT3 wgr3_9.2.2.2.2.2.2.2.2.1) rfl
def w3_117 := lw_in (mT3 wgr3_9.2.2.2.2.2.2.2.2.2.1) rfl
theorem wgr3_10 : lwcdp tables_1_3 [(118, (Jvm.Cond.selects "DotPress$Ints" ({ cls := "DotPress$Ints", name := "at", desc := "(I)I" } : Jvm.MethodName) ({ cls := "DotPress$Ints", name := "at", desc := "(I)I" } : Jvm.MethodName))), (120, (Jvm.Cond.methodLink "DotPress" (175 : Nat) ({ cls := "DotPress", name := "isRowOfCells", desc := "(II)Z" } : Jvm.MethodName))), (121, (Jvm.Cond.privateMethod ({ cls := "DotPress", name := "isRowOfCells", desc := "(II)Z" } : Jvm.MethodName))), (122, (Jvm.Cond.instanceMethod ({ cls := "DotPress", name := "isRowOfCells", desc := "(II)Z" } : Jvm.MethodName))), (124, (Jvm.Cond.methodLink "DotPress" (183 : Nat) ({ cls := "java/util/ArrayList", name := "size", desc := "()I" } : Jvm.MethodName))), (125, (Jvm.Cond.classLink "DotPress" (188 : Nat) "DotPress$Row")), (126, (Jvm.Cond.instantiable "DotPress$Row" (4 : Nat))), (127, (Jvm.Cond.methodLink "DotPress" (190 : Nat) ({ cls := "DotPress$Ints", name := "slice", desc := "(II)[I" } : Jvm.MethodName))), (128, (Jvm.Cond.instanceMethod ({ cls := "DotPress$Ints", name := "slice", desc := "(II)[I" } : Jvm.MethodName))), (129, (Jvm.Cond.selects "DotPress$Ints" ({ cls := "DotPress$Ints", name := "slice", desc := "(II)[I" } : Jvm.MethodName) ({ cls := "DotPress$Ints", name := "slice", desc := "(II)[I" } : Jvm.MethodName)))] := lwcdf (by decide +kernel)
def w3_118 := lw_in (mT3 wgr3_10.1) rfl
def w3_120 := lw_in (mT3 wgr3_10.2.1) rfl
def w3_122 := lw_in (mT3 wgr3_10.2.2.2.1) rfl
def w3_124 := lw_in (mT3 wgr3_10.2.2.2.2.1) rfl
def w3_125 := lw_in (mT3 wgr3_10.2.2.2.2.2.1) rfl
def w3_126 := lw_in (mT3 wgr3_10.2.2.2.2.2.2.1) rfl
def w3_127 := lw_in (mT3 wgr3_10.2.2.2.2.2.2.2.1) rfl
def w3_128 := lw_in (mT3 wgr3_10.2.2.2.2.2.2.2.2.1) rfl
def w3_129 := lw_in (mT3 wgr3_10.2.2.2.2.2.2.2.2.2.1) rfl
theorem wgr3_11 : lwcdp tables_1_3 [(131, (Jvm.Cond.methodLink "DotPress" (194 : Nat) ({ cls := "DotPress$Row", name := "<init>", desc := "(I[I[I)V" } : Jvm.MethodName))), (132, (Jvm.Cond.instanceMethod ({ cls := "DotPress$Row", name := "<init>", desc := "(I[I[I)V" } : Jvm.MethodName))), (134, (Jvm.Cond.methodLink "DotPress$Row" (3 : Nat) ({ cls := "java/lang/Object", name := "<init>", desc := "()V" } : Jvm.MethodName))), (135, (Jvm.Cond.fieldLink "DotPress$Row" (15 : Nat) "DotPress$Row" "role" "I")), (136, (Jvm.Cond.fieldLink "DotPress$Readings" (124 : Nat) "DotPress$Row" "role" "I")), (137, (Jvm.Cond.fieldLink "DotPress$Reader" (134 : Nat) "DotPress$Row" "role" "I")), (138, (Jvm.Cond.fieldLink "DotPress$Row" (18 : Nat) "DotPress$Row" "letters" "[I")), (139, (Jvm.Cond.fieldLink "DotPress$Table" (55 : Nat) "DotPress$Row" "letters" "[I")), (140, (Jvm.Cond.fieldLink "DotPress$Source" (88 : Nat) "DotPress$Row" "letters" "[I")), (141, (Jvm.Cond.fieldLink "DotPress$Setting" (102 : Nat) "DotPress$Row" "letters" "[I"))] := lwcdf (by decide +kernel)
def w3_131 := lw_in (mT3 wgr3_11.1) rfl
def w3_132 := lw_in (mT3 wgr3_11.2.1) rfl
def w3_134 := lw_in (mT3 wgr3_11.2.2.1) rfl
def w3_135 := lw_in (mT3 wgr3_11.2.2.2.1) rfl
def w3_136 := lw_in (mT3 wgr3_11.2.2.2.2.1) rfl
def w3_137 := lw_in (mT3 wgr3_11.2.2.2.2.2.1) rfl
def w3_138 := lw_in (mT3 wgr3_11.2.2.2.2.2.2.1) rfl
def w3_139 := lw_in (mT3 wgr3_11.2.2.2.2.2.2.2.1) rfl
def w3_140 := lw_in (mT3 wgr3_11.2.2.2.2.2.2.2.2.1) rfl
def w3_141 := lw_in (mT3 wgr3_11.2.2.2.2.2.2.2.2.2.1) rfl
theorem wgr3_12 : lwcdp tables_1_3 [(142, (Jvm.Cond.fieldLink "DotPress$Row" (22 : Nat) "DotPress$Row" "cells" "[I")), (143, (Jvm.Cond.fieldLink "DotPress$Reader" (88 : Nat) "DotPress$Row" "cells" "[I")), (144, (Jvm.Cond.fieldLink "DotPress$Readings" (127 : Nat) "DotPress$Row" "cells" "[I")), (145, (Jvm.Cond.fieldLink "DotPress$Setting" (118 : Nat) "DotPress$Row" "cells" "[I")), (146, (Jvm.Cond.fieldLink "DotPress" (384 : Nat) "DotPress$Row" "cells" "[I")), (147, (Jvm.Cond.fieldLink "DotPress$Row" (9 : Nat) "DotPress$Row" "condition" "I")), (148, (Jvm.Cond.fieldLink "DotPress$Tables" (80 : Nat) "DotPress$Row" "condition" "I")), (149, (Jvm.Cond.fieldLink "DotPress" (197 : Nat) "DotPress$Row" "condition" "I")), (150, (Jvm.Cond.fieldLink "DotPress$Setting" (153 : Nat) "DotPress$Row" "condition" "I")), (151, (Jvm.Cond.laysFinal "DotPress$Row" "DotPress$Row" "role" "I"))] := lwcdf (by decide +kernel)
def w3_142 := lw_in (mT3 wgr3_12.1) rfl
def w3_143 := lw_in (mT3 wgr3_12.2.1) rfl
def w3_144 := lw_in (mT3 wgr3_12.2.2.1) rfl
def w3_145 := lw_in (mT3 wgr3_12.2.2.2.1) rfl
def w3_146 := lw_in (mT3 wgr3_12.2.2.2.2.1) rfl
def w3_147 := lw_in (mT3 wgr3_12.2.2.2.2.2.1) rfl
def w3_148 := lw_in (mT3 wgr3_12.2.2.2.2.2.2.1) rfl
def w3_149 := lw_in (mT3 wgr3_12.2.2.2.2.2.2.2.1) rfl
def w3_150 := lw_in (mT3 wgr3_12.2.2.2.2.2.2.2.2.1) rfl
def w3_151 := lw_in (mT3 wgr3_12.2.2.2.2.2.2.2.2.2.1) rfl
theorem wgr3_13 : lwcdp tables_1_3 [(152, (Jvm.Cond.soleField "DotPress$Row" "role")), (153, (Jvm.Cond.laysFinal "DotPress$Row" "DotPress$Row" "letters" "[I")), (154, (Jvm.Cond.soleField "DotPress$Row" "letters")), (155, (Jvm.Cond.laysFinal "DotPress$Row" "DotPress$Row" "cells" "[I")), (156, (Jvm.Cond.soleField "DotPress$Row" "cells")), (157, (Jvm.Cond.lays "DotPress$Row" "DotPress$Row" "condition" "I")), (158, (Jvm.Cond.soleField "DotPress$Row" "condition")), (159, (Jvm.Cond.superclass "DotPress$Row" "java/lang/Object")), (160, (Jvm.Cond.methodLink "DotPress" (200 : Nat) ({ cls := "DotPress$Table", name := "append", desc := "(LDotPress$Row;)V" } : Jvm.MethodName))), (161, (Jvm.Cond.instanceMethod ({ cls := "DotPress$Table", name := "append", desc := "(LDotPress$Row;)V" } : Jvm.MethodName)))] := lwcdf (by decide +kernel)
def w3_153 := lw_in (mT3 wgr3_13.2.1) rfl
def w3_155 := lw_in (mT3 wgr3_13.2.2.2.1) rfl
def w3_157 := lw_in (mT3 wgr3_13.2.2.2.2.2.1) rfl
def w3_160 := lw_in (mT3 wgr3_13.2.2.2.2.2.2.2.2.1) rfl
def w3_161 := lw_in (mT3 wgr3_13.2.2.2.2.2.2.2.2.2.1) rfl
theorem wgr3_14 : lwcdp tables_1_3 [(162, (Jvm.Cond.selects "DotPress$Table" ({ cls := "DotPress$Table", name := "append", desc := "(LDotPress$Row;)V" } : Jvm.MethodName) ({ cls := "DotPress$Table", name := "append", desc := "(LDotPress$Row;)V" } : Jvm.MethodName))), (164, (Jvm.Cond.methodLink "DotPress$Table" (51 : Nat) ({ cls := "java/util/ArrayList", name := "add", desc := "(Ljava/lang/Object;)Z" } : Jvm.MethodName))), (165, (Jvm.Cond.methodLink "DotPress$Table" (59 : Nat) ({ cls := "DotPress$Ints", name := "add", desc := "(I)V" } : Jvm.MethodName))), (166, (Jvm.Cond.methodLink "DotPress" (164 : Nat) ({ cls := "DotPress$Ints", name := "clear", desc := "()V" } : Jvm.MethodName))), (167, (Jvm.Cond.instanceMethod ({ cls := "DotPress$Ints", name := "clear", desc := "()V" } : Jvm.MethodName))), (168, (Jvm.Cond.selects "DotPress$Ints" ({ cls := "DotPress$Ints", name := "clear", desc := "()V" } : Jvm.MethodName) ({ cls := "DotPress$Ints", name := "clear", desc := "()V" } : Jvm.MethodName))), (170, (Jvm.Cond.methodLink "DotPressLaw" (41 : Nat) ({ cls := "DotPress", name := "condition", desc := "(III)I" } : Jvm.MethodName))), (171, (Jvm.Cond.instanceMethod ({ cls := "DotPress", name := "condition", desc := "(III)I" } : Jvm.MethodName))), (172, (Jvm.Cond.selects "DotPress" ({ cls := "DotPress", name := "condition", desc := "(III)I" } : Jvm.MethodName) ({ cls := "DotPress", name := "condition", desc := "(III)I" } : Jvm.MethodName))), (174, (Jvm.Cond.methodLink "DotPress" (204 : Nat) ({ cls := "java/util/ArrayList", name := "get", desc := "(I)Ljava/lang/Object;" } : Jvm.MethodName)))] := lwcdf (by decide +kernel)
def w3_162 := lw_in (mT3 wgr3_14.1) rfl
def w3_164 := lw_in (mT3 wgr3_14.2.1) rfl
def w3_165 := lw_in (mT3 wgr3_14.2.2.1) rfl
def w3_166 := lw_in (mT3 wgr3_14.2.2.2.1) rfl
def w3_167 := lw_in (mT3 wgr3_14.2.2.2.2.1) rfl
def w3_168 := lw_in (mT3 wgr3_14.2.2.2.2.2.1) rfl
def w3_170 := lw_in (mT3 wgr3_14.2.2.2.2.2.2.1) rfl
def w3_171 := lw_in (mT3 wgr3_14.2.2.2.2.2.2.2.1) rfl
def w3_172 := lw_in (mT3 wgr3_14.2.2.2.2.2.2.2.2.1) rfl
def w3_174 := lw_in (mT3 wgr3_14.2.2.2.2.2.2.2.2.2.1) rfl
theorem wgr3_15 : lwcdp tables_1_3 [(175, (Jvm.Cond.methodLink "DotPressLaw" (45 : Nat) ({ cls := "DotPress", name := "indicator", desc := "(II)I" } : Jvm.MethodName))), (176, (Jvm.Cond.instanceMethod ({ cls := "DotPress", name := "indicator", desc := "(II)I" } : Jvm.MethodName))), (177, (Jvm.Cond.selects "DotPress" ({ cls := "DotPress", name := "indicator", desc := "(II)I" } : Jvm.MethodName) ({ cls := "DotPress", name := "indicator", desc := "(II)I" } : Jvm.MethodName))), (179, (Jvm.Cond.methodLink "DotPress" (208 : Nat) ({ cls := "DotPress", name := "changeIndicator", desc := "(II)I" } : Jvm.MethodName))), (180, (Jvm.Cond.privateMethod ({ cls := "DotPress", name := "changeIndicator", desc := "(II)I" } : Jvm.MethodName))), (181, (Jvm.Cond.instanceMethod ({ cls := "DotPress", name := "changeIndicator", desc := "(II)I" } : Jvm.MethodName))), (183, (Jvm.Cond.methodLink "DotPress" (211 : Nat) ({ cls := "DotPress$Table", name := "mayHave", desc := "(I)Z" } : Jvm.MethodName))), (184, (Jvm.Cond.instanceMethod ({ cls := "DotPress$Table", name := "mayHave", desc := "(I)Z" } : Jvm.MethodName))), (185, (Jvm.Cond.selects "DotPress$Table" ({ cls := "DotPress$Table", name := "mayHave", desc := "(I)Z" } : Jvm.MethodName) ({ cls := "DotPress$Table", name := "mayHave", desc := "(I)Z" } : Jvm.MethodName))), (187, (Jvm.Cond.methodLink "DotPressLaw" (49 : Nat) ({ cls := "DotPress", name := "undo", desc := "()I" } : Jvm.MethodName)))] := lwcdf (by decide +kernel)
def w3_175 := lw_in (mT3 wgr3_15.1) rfl
def w3_176 := lw_in (mT3 wgr3_15.2.1) rfl
def w3_177 := lw_in (mT3 wgr3_15.2.2.1) rfl
def w3_179 := lw_in (mT3 wgr3_15.2.2.2.1) rfl
def w3_181 := lw_in (mT3 wgr3_15.2.2.2.2.2.1) rfl
def w3_183 := lw_in (mT3 wgr3_15.2.2.2.2.2.2.1) rfl
def w3_184 := lw_in (mT3 wgr3_15.2.2.2.2.2.2.2.1) rfl
def w3_185 := lw_in (mT3 wgr3_15.2.2.2.2.2.2.2.2.1) rfl
def w3_187 := lw_in (mT3 wgr3_15.2.2.2.2.2.2.2.2.2.1) rfl
theorem wgr3_16 : lwcdp tables_1_3 [(188, (Jvm.Cond.instanceMethod ({ cls := "DotPress", name := "undo", desc := "()I" } : Jvm.MethodName))), (189, (Jvm.Cond.selects "DotPress" ({ cls := "DotPress", name := "undo", desc := "()I" } : Jvm.MethodName) ({ cls := "DotPress", name := "undo", desc := "()I" } : Jvm.MethodName))), (191, (Jvm.Cond.methodLink "DotPress" (218 : Nat) ({ cls := "DotPress$Tables", name := "takeBack", desc := "()Z" } : Jvm.MethodName))), (192, (Jvm.Cond.instanceMethod ({ cls := "DotPress$Tables", name := "takeBack", desc := "()Z" } : Jvm.MethodName))), (193, (Jvm.Cond.selects "DotPress$Tables" ({ cls := "DotPress$Tables", name := "takeBack", desc := "()Z" } : Jvm.MethodName) ({ cls := "DotPress$Tables", name := "takeBack", desc := "()Z" } : Jvm.MethodName))), (195, (Jvm.Cond.methodLink "DotPress$Tables" (59 : Nat) ({ cls := "java/util/ArrayList", name := "isEmpty", desc := "()Z" } : Jvm.MethodName))), (196, (Jvm.Cond.instanceMethod ({ cls := "java/util/ArrayList", name := "isEmpty", desc := "()Z" } : Jvm.MethodName))), (197, (Jvm.Cond.selects "java/util/ArrayList" ({ cls := "java/util/ArrayList", name := "isEmpty", desc := "()Z" } : Jvm.MethodName) ({ cls := "java/util/ArrayList", name := "isEmpty", desc := "()Z" } : Jvm.MethodName))), (199, (Jvm.Cond.methodLink "DotPress$Tables" (70 : Nat) ({ cls := "DotPress$Table", name := "removeLast", desc := "()V" } : Jvm.MethodName))), (200, (Jvm.Cond.instanceMethod ({ cls := "DotPress$Table", name := "removeLast", desc := "()V" } : Jvm.MethodName)))] := lwcdf (by decide +kernel)
def w3_188 := lw_in (mT3 wgr3_16.1) rfl
def w3_189 := lw_in (mT3 wgr3_16.2.1) rfl
def w3_191 := lw_in (mT3 wgr3_16.2.2.1) rfl
def w3_192 := lw_in (mT3 wgr3_16.2.2.2.1) rfl
def w3_193 := lw_in (mT3 wgr3_16.2.2.2.2.1) rfl
def w3_195 := lw_in (mT3 wgr3_16.2.2.2.2.2.1) rfl
def w3_196 := lw_in (mT3 wgr3_16.2.2.2.2.2.2.1) rfl
def w3_197 := lw_in (mT3 wgr3_16.2.2.2.2.2.2.2.1) rfl
def w3_199 := lw_in (mT3 wgr3_16.2.2.2.2.2.2.2.2.1) rfl
def w3_200 := lw_in (mT3 wgr3_16.2.2.2.2.2.2.2.2.2.1) rfl
theorem wgr3_17 : lwcdp tables_1_3 [(201, (Jvm.Cond.selects "DotPress$Table" ({ cls := "DotPress$Table", name := "removeLast", desc := "()V" } : Jvm.MethodName) ({ cls := "DotPress$Table", name := "removeLast", desc := "()V" } : Jvm.MethodName))), (203, (Jvm.Cond.methodLink "DotPress$Table" (61 : Nat) ({ cls := "java/util/ArrayList", name := "isEmpty", desc := "()Z" } : Jvm.MethodName))), (204, (Jvm.Cond.methodLink "DotPress$Table" (65 : Nat) ({ cls := "java/util/ArrayList", name := "size", desc := "()I" } : Jvm.MethodName))), (205, (Jvm.Cond.methodLink "DotPress$Table" (69 : Nat) ({ cls := "java/util/ArrayList", name := "remove", desc := "(I)Ljava/lang/Object;" } : Jvm.MethodName))), (206, (Jvm.Cond.methodLink "DotPress$Table" (73 : Nat) ({ cls := "DotPress$Ints", name := "keep", desc := "(I)V" } : Jvm.MethodName))), (207, (Jvm.Cond.methodLink "DotPressLaw" (54 : Nat) ({ cls := "DotPress", name := "text", desc := "()I" } : Jvm.MethodName))), (208, (Jvm.Cond.instanceMethod ({ cls := "DotPress", name := "text", desc := "()I" } : Jvm.MethodName))), (209, (Jvm.Cond.selects "DotPress" ({ cls := "DotPress", name := "text", desc := "()I" } : Jvm.MethodName) ({ cls := "DotPress", name := "text", desc := "()I" } : Jvm.MethodName))), (211, (Jvm.Cond.methodLink "DotPress" (221 : Nat) ({ cls := "DotPress", name := "addText", desc := "()I" } : Jvm.MethodName))), (212, (Jvm.Cond.privateMethod ({ cls := "DotPress", name := "addText", desc := "()I" } : Jvm.MethodName)))] := lwcdf (by decide +kernel)
def w3_201 := lw_in (mT3 wgr3_17.1) rfl
def w3_203 := lw_in (mT3 wgr3_17.2.1) rfl
def w3_204 := lw_in (mT3 wgr3_17.2.2.1) rfl
def w3_205 := lw_in (mT3 wgr3_17.2.2.2.1) rfl
def w3_206 := lw_in (mT3 wgr3_17.2.2.2.2.1) rfl
def w3_207 := lw_in (mT3 wgr3_17.2.2.2.2.2.1) rfl
def w3_208 := lw_in (mT3 wgr3_17.2.2.2.2.2.2.1) rfl
def w3_209 := lw_in (mT3 wgr3_17.2.2.2.2.2.2.2.1) rfl
def w3_211 := lw_in (mT3 wgr3_17.2.2.2.2.2.2.2.2.1) rfl
theorem wgr3_18 : lwcdp tables_1_3 [(213, (Jvm.Cond.instanceMethod ({ cls := "DotPress", name := "addText", desc := "()I" } : Jvm.MethodName))), (215, (Jvm.Cond.methodLink "DotPress" (224 : Nat) ({ cls := "DotPress$Ints", name := "at", desc := "(I)I" } : Jvm.MethodName))), (216, (Jvm.Cond.methodLink "DotPress" (227 : Nat) ({ cls := "DotPress$Ints", name := "addAll", desc := "(LDotPress$Ints;)V" } : Jvm.MethodName))), (217, (Jvm.Cond.instanceMethod ({ cls := "DotPress$Ints", name := "addAll", desc := "(LDotPress$Ints;)V" } : Jvm.MethodName))), (218, (Jvm.Cond.selects "DotPress$Ints" ({ cls := "DotPress$Ints", name := "addAll", desc := "(LDotPress$Ints;)V" } : Jvm.MethodName) ({ cls := "DotPress$Ints", name := "addAll", desc := "(LDotPress$Ints;)V" } : Jvm.MethodName))), (220, (Jvm.Cond.methodLink "DotPress$Ints" (26 : Nat) ({ cls := "DotPress$Ints", name := "add", desc := "(I)V" } : Jvm.MethodName))), (221, (Jvm.Cond.methodLink "DotPressLaw" (58 : Nat) ({ cls := "DotPress", name := "measure", desc := "(III)I" } : Jvm.MethodName))), (222, (Jvm.Cond.instanceMethod ({ cls := "DotPress", name := "measure", desc := "(III)I" } : Jvm.MethodName))), (223, (Jvm.Cond.selects "DotPress" ({ cls := "DotPress", name := "measure", desc := "(III)I" } : Jvm.MethodName) ({ cls := "DotPress", name := "measure", desc := "(III)I" } : Jvm.MethodName))), (225, (Jvm.Cond.methodLink "DotPressLaw" (62 : Nat) ({ cls := "DotPress", name := "set", desc := "(I)I" } : Jvm.MethodName)))] := lwcdf (by decide +kernel)
def w3_213 := lw_in (mT3 wgr3_18.1) rfl
def w3_215 := lw_in (mT3 wgr3_18.2.1) rfl
def w3_216 := lw_in (mT3 wgr3_18.2.2.1) rfl
def w3_217 := lw_in (mT3 wgr3_18.2.2.2.1) rfl
def w3_218 := lw_in (mT3 wgr3_18.2.2.2.2.1) rfl
def w3_220 := lw_in (mT3 wgr3_18.2.2.2.2.2.1) rfl
def w3_221 := lw_in (mT3 wgr3_18.2.2.2.2.2.2.1) rfl
def w3_222 := lw_in (mT3 wgr3_18.2.2.2.2.2.2.2.1) rfl
def w3_223 := lw_in (mT3 wgr3_18.2.2.2.2.2.2.2.2.1) rfl
def w3_225 := lw_in (mT3 wgr3_18.2.2.2.2.2.2.2.2.2.1) rfl
theorem wgr3_19 : lwcdp tables_1_3 [(226, (Jvm.Cond.instanceMethod ({ cls := "DotPress", name := "set", desc := "(I)I" } : Jvm.MethodName))), (227, (Jvm.Cond.selects "DotPress" ({ cls := "DotPress", name := "set", desc := "(I)I" } : Jvm.MethodName) ({ cls := "DotPress", name := "set", desc := "(I)I" } : Jvm.MethodName))), (229, (Jvm.Cond.methodLink "DotPress" (231 : Nat) ({ cls := "DotPress$Tables", name := "whole", desc := "(I)LDotPress$Table;" } : Jvm.MethodName))), (230, (Jvm.Cond.instanceMethod ({ cls := "DotPress$Tables", name := "whole", desc := "(I)LDotPress$Table;" } : Jvm.MethodName))), (231, (Jvm.Cond.selects "DotPress$Tables" ({ cls := "DotPress$Tables", name := "whole", desc := "(I)LDotPress$Table;" } : Jvm.MethodName) ({ cls := "DotPress$Tables", name := "whole", desc := "(I)LDotPress$Table;" } : Jvm.MethodName))), (233, (Jvm.Cond.methodLink "DotPress$Tables" (35 : Nat) ({ cls := "DotPress$Tables", name := "alive", desc := "(I)LDotPress$Table;" } : Jvm.MethodName))), (234, (Jvm.Cond.methodLink "DotPress$Tables" (39 : Nat) ({ cls := "DotPress$Table", name := "isWhole", desc := "()Z" } : Jvm.MethodName))), (235, (Jvm.Cond.instanceMethod ({ cls := "DotPress$Table", name := "isWhole", desc := "()Z" } : Jvm.MethodName))), (236, (Jvm.Cond.selects "DotPress$Table" ({ cls := "DotPress$Table", name := "isWhole", desc := "()Z" } : Jvm.MethodName) ({ cls := "DotPress$Table", name := "isWhole", desc := "()Z" } : Jvm.MethodName))), (238, (Jvm.Cond.methodLink "DotPress$Table" (76 : Nat) ({ cls := "DotPress$Table", name := "isUpright", desc := "(LDotPress$Table;)Z" } : Jvm.MethodName)))] := lwcdf (by decide +kernel)
def w3_226 := lw_in (mT3 wgr3_19.1) rfl
def w3_227 := lw_in (mT3 wgr3_19.2.1) rfl
def w3_229 := lw_in (mT3 wgr3_19.2.2.1) rfl
def w3_230 := lw_in (mT3 wgr3_19.2.2.2.1) rfl
def w3_231 := lw_in (mT3 wgr3_19.2.2.2.2.1) rfl
def w3_233 := lw_in (mT3 wgr3_19.2.2.2.2.2.1) rfl
def w3_234 := lw_in (mT3 wgr3_19.2.2.2.2.2.2.1) rfl
def w3_235 := lw_in (mT3 wgr3_19.2.2.2.2.2.2.2.1) rfl
def w3_236 := lw_in (mT3 wgr3_19.2.2.2.2.2.2.2.2.1) rfl
def w3_238 := lw_in (mT3 wgr3_19.2.2.2.2.2.2.2.2.2.1) rfl
theorem wgr3_20 : lwcdp tables_1_3 [(239, (Jvm.Cond.static ({ cls := "DotPress$Table", name := "isUpright", desc := "(LDotPress$Table;)Z" } : Jvm.MethodName)))] := lwcdf (by decide +kernel)
def w3_239 := lw_in (mT3 wgr3_20.1) rfl
theorem wgr4_0 : lwcdp tables_1_4 [(1, (Jvm.Cond.methodLink "DotPress" (234 : Nat) ({ cls := "DotPress$Sheet", name := "clear", desc := "()V" } : Jvm.MethodName))), (2, (Jvm.Cond.instanceMethod ({ cls := "DotPress$Sheet", name := "clear", desc := "()V" } : Jvm.MethodName))), (3, (Jvm.Cond.selects "DotPress$Sheet" ({ cls := "DotPress$Sheet", name := "clear", desc := "()V" } : Jvm.MethodName) ({ cls := "DotPress$Sheet", name := "clear", desc := "()V" } : Jvm.MethodName))), (5, (Jvm.Cond.methodLink "DotPress" (235 : Nat) ({ cls := "DotPress$Source", name := "restart", desc := "()V" } : Jvm.MethodName))), (6, (Jvm.Cond.instanceMethod ({ cls := "DotPress$Source", name := "restart", desc := "()V" } : Jvm.MethodName))), (7, (Jvm.Cond.selects "DotPress$Source" ({ cls := "DotPress$Source", name := "restart", desc := "()V" } : Jvm.MethodName) ({ cls := "DotPress$Source", name := "restart", desc := "()V" } : Jvm.MethodName))), (9, (Jvm.Cond.methodLink "DotPress" (238 : Nat) ({ cls := "DotPress$Source", name := "step", desc := "(LDotPress$Ints;LDotPress$Setting;)I" } : Jvm.MethodName))), (10, (Jvm.Cond.instanceMethod ({ cls := "DotPress$Source", name := "step", desc := "(LDotPress$Ints;LDotPress$Setting;)I" } : Jvm.MethodName))), (11, (Jvm.Cond.selects "DotPress$Source" ({ cls := "DotPress$Source", name := "step", desc := "(LDotPress$Ints;LDotPress$Setting;)I" } : Jvm.MethodName) ({ cls := "DotPress$Source", name := "step", desc := "(LDotPress$Ints;LDotPress$Setting;)I" } : Jvm.MethodName))), (13, (Jvm.Cond.methodLink "DotPress$Source" (39 : Nat) ({ cls := "DotPress$Source", name := "enterLine", desc := "(LDotPress$Ints;)I" } : Jvm.MethodName)))] := lwcdf (by decide +kernel)
def w4_1 := lw_in (mT4 wgr4_0.1) rfl
def w4_2 := lw_in (mT4 wgr4_0.2.1) rfl
def w4_3 := lw_in (mT4 wgr4_0.2.2.1) rfl
def w4_5 := lw_in (mT4 wgr4_0.2.2.2.1) rfl
def w4_6 := lw_in (mT4 wgr4_0.2.2.2.2.1) rfl
def w4_7 := lw_in (mT4 wgr4_0.2.2.2.2.2.1) rfl
def w4_9 := lw_in (mT4 wgr4_0.2.2.2.2.2.2.1) rfl
def w4_10 := lw_in (mT4 wgr4_0.2.2.2.2.2.2.2.1) rfl
def w4_11 := lw_in (mT4 wgr4_0.2.2.2.2.2.2.2.2.1) rfl
def w4_13 := lw_in (mT4 wgr4_0.2.2.2.2.2.2.2.2.2.1) rfl
theorem wgr4_1 : lwcdp tables_1_4 [(14, (Jvm.Cond.privateMethod ({ cls := "DotPress$Source", name := "enterLine", desc := "(LDotPress$Ints;)I" } : Jvm.MethodName))), (15, (Jvm.Cond.instanceMethod ({ cls := "DotPress$Source", name := "enterLine", desc := "(LDotPress$Ints;)I" } : Jvm.MethodName))), (17, (Jvm.Cond.methodLink "DotPress$Source" (53 : Nat) ({ cls := "DotPress$Ints", name := "at", desc := "(I)I" } : Jvm.MethodName))), (18, (Jvm.Cond.methodLink "DotPress$Source" (43 : Nat) ({ cls := "DotPress$Setting", name := "clear", desc := "()V" } : Jvm.MethodName))), (19, (Jvm.Cond.instanceMethod ({ cls := "DotPress$Setting", name := "clear", desc := "()V" } : Jvm.MethodName))), (20, (Jvm.Cond.selects "DotPress$Setting" ({ cls := "DotPress$Setting", name := "clear", desc := "()V" } : Jvm.MethodName) ({ cls := "DotPress$Setting", name := "clear", desc := "()V" } : Jvm.MethodName))), (22, (Jvm.Cond.methodLink "DotPress$Source" (57 : Nat) ({ cls := "DotPress$Setting", name := "putBreak", desc := "()V" } : Jvm.MethodName))), (23, (Jvm.Cond.instanceMethod ({ cls := "DotPress$Setting", name := "putBreak", desc := "()V" } : Jvm.MethodName))), (24, (Jvm.Cond.selects "DotPress$Setting" ({ cls := "DotPress$Setting", name := "putBreak", desc := "()V" } : Jvm.MethodName) ({ cls := "DotPress$Setting", name := "putBreak", desc := "()V" } : Jvm.MethodName))), (26, (Jvm.Cond.methodLink "DotPress$Source" (60 : Nat) ({ cls := "DotPress$Setting", name := "put", desc := "(II)V" } : Jvm.MethodName)))] := lwcdf (by decide +kernel)
def w4_15 := lw_in (mT4 wgr4_1.2.1) rfl
def w4_17 := lw_in (mT4 wgr4_1.2.2.1) rfl
def w4_18 := lw_in (mT4 wgr4_1.2.2.2.1) rfl
def w4_19 := lw_in (mT4 wgr4_1.2.2.2.2.1) rfl
def w4_20 := lw_in (mT4 wgr4_1.2.2.2.2.2.1) rfl
def w4_22 := lw_in (mT4 wgr4_1.2.2.2.2.2.2.1) rfl
def w4_23 := lw_in (mT4 wgr4_1.2.2.2.2.2.2.2.1) rfl
def w4_24 := lw_in (mT4 wgr4_1.2.2.2.2.2.2.2.2.1) rfl
def w4_26 := lw_in (mT4 wgr4_1.2.2.2.2.2.2.2.2.2.1) rfl
theorem wgr4_2 : lwcdp tables_1_4 [(27, (Jvm.Cond.instanceMethod ({ cls := "DotPress$Setting", name := "put", desc := "(II)V" } : Jvm.MethodName))), (28, (Jvm.Cond.selects "DotPress$Setting" ({ cls := "DotPress$Setting", name := "put", desc := "(II)V" } : Jvm.MethodName) ({ cls := "DotPress$Setting", name := "put", desc := "(II)V" } : Jvm.MethodName))), (30, (Jvm.Cond.constant "DotPress" (242 : Nat) (1000000 : Int32))), (31, (Jvm.Cond.methodLink "DotPress" (243 : Nat) ({ cls := "DotPress$Sheet", name := "beginText", desc := "()Z" } : Jvm.MethodName))), (32, (Jvm.Cond.instanceMethod ({ cls := "DotPress$Sheet", name := "beginText", desc := "()Z" } : Jvm.MethodName))), (33, (Jvm.Cond.selects "DotPress$Sheet" ({ cls := "DotPress$Sheet", name := "beginText", desc := "()Z" } : Jvm.MethodName) ({ cls := "DotPress$Sheet", name := "beginText", desc := "()Z" } : Jvm.MethodName))), (35, (Jvm.Cond.methodLink "DotPress$Sheet" (54 : Nat) ({ cls := "DotPress$Sheet", name := "begin", desc := "()Z" } : Jvm.MethodName))), (36, (Jvm.Cond.instanceMethod ({ cls := "DotPress$Sheet", name := "begin", desc := "()Z" } : Jvm.MethodName))), (37, (Jvm.Cond.selects "DotPress$Sheet" ({ cls := "DotPress$Sheet", name := "begin", desc := "()Z" } : Jvm.MethodName) ({ cls := "DotPress$Sheet", name := "begin", desc := "()Z" } : Jvm.MethodName))), (39, (Jvm.Cond.instantiable "DotPress$Line" (3 : Nat)))] := lwcdf (by decide +kernel)
def w4_27 := lw_in (mT4 wgr4_2.1) rfl
def w4_28 := lw_in (mT4 wgr4_2.2.1) rfl
def w4_30 := lw_in (mT4 wgr4_2.2.2.1) rfl
def w4_31 := lw_in (mT4 wgr4_2.2.2.2.1) rfl
def w4_32 := lw_in (mT4 wgr4_2.2.2.2.2.1) rfl
def w4_33 := lw_in (mT4 wgr4_2.2.2.2.2.2.1) rfl
def w4_35 := lw_in (mT4 wgr4_2.2.2.2.2.2.2.1) rfl
def w4_36 := lw_in (mT4 wgr4_2.2.2.2.2.2.2.2.1) rfl
def w4_37 := lw_in (mT4 wgr4_2.2.2.2.2.2.2.2.2.1) rfl
def w4_39 := lw_in (mT4 wgr4_2.2.2.2.2.2.2.2.2.2.1) rfl
theorem wgr4_3 : lwcdp tables_1_4 [(40, (Jvm.Cond.methodLinkNest "DotPress$Sheet" (32 : Nat) ({ cls := "DotPress$Line", name := "<init>", desc := "()V" } : Jvm.MethodName) "DotPress")), (41, (Jvm.Cond.instanceMethod ({ cls := "DotPress$Line", name := "<init>", desc := "()V" } : Jvm.MethodName))), (43, (Jvm.Cond.methodLink "DotPress$Line" (3 : Nat) ({ cls := "java/lang/Object", name := "<init>", desc := "()V" } : Jvm.MethodName))), (44, (Jvm.Cond.fieldLink "DotPress$Line" (9 : Nat) "DotPress$Line" "cells" "[I")), (45, (Jvm.Cond.fieldLink "DotPress$Readings" (69 : Nat) "DotPress$Line" "cells" "[I")), (46, (Jvm.Cond.fieldLink "DotPress$Reader" (113 : Nat) "DotPress$Line" "cells" "[I")), (47, (Jvm.Cond.fieldLink "DotPress$Sheet" (64 : Nat) "DotPress$Line" "cells" "[I")), (48, (Jvm.Cond.fieldLink "DotPress" (301 : Nat) "DotPress$Line" "cells" "[I")), (49, (Jvm.Cond.fieldLink "DotPress$Line" (15 : Nat) "DotPress$Line" "size" "I")), (50, (Jvm.Cond.fieldLink "DotPress$Readings" (60 : Nat) "DotPress$Line" "size" "I"))] := lwcdf (by decide +kernel)
def w4_40t := mT4 wgr4_3.1
def w4_41 := lw_in (mT4 wgr4_3.2.1) rfl
def w4_43 := lw_in (mT4 wgr4_3.2.2.1) rfl
def w4_44 := lw_in (mT4 wgr4_3.2.2.2.1) rfl
def w4_45 := lw_in (mT4 wgr4_3.2.2.2.2.1) rfl
def w4_46 := lw_in (mT4 wgr4_3.2.2.2.2.2.1) rfl
def w4_47 := lw_in (mT4 wgr4_3.2.2.2.2.2.2.1) rfl
def w4_48 := lw_in (mT4 wgr4_3.2.2.2.2.2.2.2.1) rfl
def w4_49 := lw_in (mT4 wgr4_3.2.2.2.2.2.2.2.2.1) rfl
def w4_50 := lw_in (mT4 wgr4_3.2.2.2.2.2.2.2.2.2.1) rfl
theorem wgr4_4 : lwcdp tables_1_4 [(51, (Jvm.Cond.fieldLink "DotPress$Sheet" (36 : Nat) "DotPress$Line" "size" "I")), (52, (Jvm.Cond.fieldLink "DotPress$Reader" (111 : Nat) "DotPress$Line" "size" "I")), (53, (Jvm.Cond.fieldLink "DotPress" (295 : Nat) "DotPress$Line" "size" "I")), (54, (Jvm.Cond.fieldLink "DotPress$Line" (19 : Nat) "DotPress$Line" "lacking" "Z")), (55, (Jvm.Cond.fieldLink "DotPress$Sheet" (28 : Nat) "DotPress$Line" "lacking" "Z")), (56, (Jvm.Cond.fieldLink "DotPress" (310 : Nat) "DotPress$Line" "lacking" "Z")), (57, (Jvm.Cond.laysFinal "DotPress$Line" "DotPress$Line" "cells" "[I")), (58, (Jvm.Cond.soleField "DotPress$Line" "cells")), (59, (Jvm.Cond.lays "DotPress$Line" "DotPress$Line" "size" "I")), (60, (Jvm.Cond.soleField "DotPress$Line" "size"))] := lwcdf (by decide +kernel)
def w4_51 := lw_in (mT4 wgr4_4.1) rfl
def w4_52 := lw_in (mT4 wgr4_4.2.1) rfl
def w4_53 := lw_in (mT4 wgr4_4.2.2.1) rfl
def w4_54 := lw_in (mT4 wgr4_4.2.2.2.1) rfl
def w4_55 := lw_in (mT4 wgr4_4.2.2.2.2.1) rfl
def w4_56 := lw_in (mT4 wgr4_4.2.2.2.2.2.1) rfl
def w4_57 := lw_in (mT4 wgr4_4.2.2.2.2.2.2.1) rfl
def w4_59 := lw_in (mT4 wgr4_4.2.2.2.2.2.2.2.2.1) rfl
theorem wgr4_5 : lwcdp tables_1_4 [(61, (Jvm.Cond.lays "DotPress$Line" "DotPress$Line" "lacking" "Z")), (62, (Jvm.Cond.soleField "DotPress$Line" "lacking")), (63, (Jvm.Cond.superclass "DotPress$Line" "java/lang/Object")), (64, (Jvm.Cond.methodLink "DotPress$Sheet" (33 : Nat) ({ cls := "DotPress$Line", name := "clear", desc := "()V" } : Jvm.MethodName))), (65, (Jvm.Cond.instanceMethod ({ cls := "DotPress$Line", name := "clear", desc := "()V" } : Jvm.MethodName))), (66, (Jvm.Cond.selects "DotPress$Line" ({ cls := "DotPress$Line", name := "clear", desc := "()V" } : Jvm.MethodName) ({ cls := "DotPress$Line", name := "clear", desc := "()V" } : Jvm.MethodName))), (68, (Jvm.Cond.methodLink "DotPress" (249 : Nat) ({ cls := "DotPress$Sheet", name := "endText", desc := "(ZI)V" } : Jvm.MethodName))), (69, (Jvm.Cond.instanceMethod ({ cls := "DotPress$Sheet", name := "endText", desc := "(ZI)V" } : Jvm.MethodName))), (70, (Jvm.Cond.selects "DotPress$Sheet" ({ cls := "DotPress$Sheet", name := "endText", desc := "(ZI)V" } : Jvm.MethodName) ({ cls := "DotPress$Sheet", name := "endText", desc := "(ZI)V" } : Jvm.MethodName))), (72, (Jvm.Cond.methodLink "DotPress$Sheet" (24 : Nat) ({ cls := "DotPress$Sheet", name := "at", desc := "(I)LDotPress$Line;" } : Jvm.MethodName)))] := lwcdf (by decide +kernel)
def w4_61 := lw_in (mT4 wgr4_5.1) rfl
def w4_64 := lw_in (mT4 wgr4_5.2.2.2.1) rfl
def w4_65 := lw_in (mT4 wgr4_5.2.2.2.2.1) rfl
def w4_66 := lw_in (mT4 wgr4_5.2.2.2.2.2.1) rfl
def w4_68 := lw_in (mT4 wgr4_5.2.2.2.2.2.2.1) rfl
def w4_69 := lw_in (mT4 wgr4_5.2.2.2.2.2.2.2.1) rfl
def w4_70 := lw_in (mT4 wgr4_5.2.2.2.2.2.2.2.2.1) rfl
def w4_72 := lw_in (mT4 wgr4_5.2.2.2.2.2.2.2.2.2.1) rfl
theorem wgr4_6 : lwcdp tables_1_4 [(73, (Jvm.Cond.instanceMethod ({ cls := "DotPress$Sheet", name := "at", desc := "(I)LDotPress$Line;" } : Jvm.MethodName))), (74, (Jvm.Cond.selects "DotPress$Sheet" ({ cls := "DotPress$Sheet", name := "at", desc := "(I)LDotPress$Line;" } : Jvm.MethodName) ({ cls := "DotPress$Sheet", name := "at", desc := "(I)LDotPress$Line;" } : Jvm.MethodName))), (76, (Jvm.Cond.methodLink "DotPress$Sheet" (58 : Nat) ({ cls := "DotPress$Line", name := "indent", desc := "(I)V" } : Jvm.MethodName))), (77, (Jvm.Cond.instanceMethod ({ cls := "DotPress$Line", name := "indent", desc := "(I)V" } : Jvm.MethodName))), (78, (Jvm.Cond.selects "DotPress$Line" ({ cls := "DotPress$Line", name := "indent", desc := "(I)V" } : Jvm.MethodName) ({ cls := "DotPress$Line", name := "indent", desc := "(I)V" } : Jvm.MethodName))), (80, (Jvm.Cond.methodLink "DotPress$Line" (36 : Nat) ({ cls := "java/lang/System", name := "arraycopy", desc := "(Ljava/lang/Object;ILjava/lang/Object;II)V" } : Jvm.MethodName))), (81, (Jvm.Cond.methodLink "DotPress" (253 : Nat) ({ cls := "DotPress$Setting", name := "setBy", desc := "(LDotPress$Table;)I" } : Jvm.MethodName))), (82, (Jvm.Cond.instanceMethod ({ cls := "DotPress$Setting", name := "setBy", desc := "(LDotPress$Table;)I" } : Jvm.MethodName))), (83, (Jvm.Cond.selects "DotPress$Setting" ({ cls := "DotPress$Setting", name := "setBy", desc := "(LDotPress$Table;)I" } : Jvm.MethodName) ({ cls := "DotPress$Setting", name := "setBy", desc := "(LDotPress$Table;)I" } : Jvm.MethodName))), (85, (Jvm.Cond.methodLink "DotPress$Setting" (74 : Nat) ({ cls := "DotPress$Setting", name := "setPart", desc := "(LDotPress$Table;II)I" } : Jvm.MethodName)))] := lwcdf (by decide +kernel)
def w4_73 := lw_in (mT4 wgr4_6.1) rfl
def w4_74 := lw_in (mT4 wgr4_6.2.1) rfl
def w4_76 := lw_in (mT4 wgr4_6.2.2.1) rfl
def w4_77 := lw_in (mT4 wgr4_6.2.2.2.1) rfl
def w4_78 := lw_in (mT4 wgr4_6.2.2.2.2.1) rfl
def w4_80 := lw_in (mT4 wgr4_6.2.2.2.2.2.1) rfl
def w4_81 := lw_in (mT4 wgr4_6.2.2.2.2.2.2.1) rfl
def w4_82 := lw_in (mT4 wgr4_6.2.2.2.2.2.2.2.1) rfl
def w4_83 := lw_in (mT4 wgr4_6.2.2.2.2.2.2.2.2.1) rfl
def w4_85 := lw_in (mT4 wgr4_6.2.2.2.2.2.2.2.2.2.1) rfl
theorem wgr4_7 : lwcdp tables_1_4 [(86, (Jvm.Cond.privateMethod ({ cls := "DotPress$Setting", name := "setPart", desc := "(LDotPress$Table;II)I" } : Jvm.MethodName))), (87, (Jvm.Cond.instanceMethod ({ cls := "DotPress$Setting", name := "setPart", desc := "(LDotPress$Table;II)I" } : Jvm.MethodName))), (89, (Jvm.Cond.methodLink "DotPress$Setting" (90 : Nat) ({ cls := "DotPress$Setting", name := "numberAhead", desc := "(LDotPress$Table;I)LDotPress$Row;" } : Jvm.MethodName))), (90, (Jvm.Cond.privateMethod ({ cls := "DotPress$Setting", name := "numberAhead", desc := "(LDotPress$Table;I)LDotPress$Row;" } : Jvm.MethodName))), (91, (Jvm.Cond.instanceMethod ({ cls := "DotPress$Setting", name := "numberAhead", desc := "(LDotPress$Table;I)LDotPress$Row;" } : Jvm.MethodName))), (93, (Jvm.Cond.methodLinkNest "DotPress$Setting" (115 : Nat) ({ cls := "DotPress", name := "isDigit", desc := "(I)Z" } : Jvm.MethodName) "DotPress")), (94, (Jvm.Cond.static ({ cls := "DotPress", name := "isDigit", desc := "(I)Z" } : Jvm.MethodName))), (96, (Jvm.Cond.methodLink "DotPress$Setting" (94 : Nat) ({ cls := "DotPress$Setting", name := "find", desc := "(LDotPress$Table;II)LDotPress$Row;" } : Jvm.MethodName))), (97, (Jvm.Cond.privateMethod ({ cls := "DotPress$Setting", name := "find", desc := "(LDotPress$Table;II)LDotPress$Row;" } : Jvm.MethodName))), (98, (Jvm.Cond.instanceMethod ({ cls := "DotPress$Setting", name := "find", desc := "(LDotPress$Table;II)LDotPress$Row;" } : Jvm.MethodName)))] := lwcdf (by decide +kernel)
def w4_87 := lw_in (mT4 wgr4_7.2.1) rfl
def w4_89 := lw_in (mT4 wgr4_7.2.2.1) rfl
def w4_91 := lw_in (mT4 wgr4_7.2.2.2.2.1) rfl
def w4_93t := mT4 wgr4_7.2.2.2.2.2.1
def w4_94 := lw_in (mT4 wgr4_7.2.2.2.2.2.2.1) rfl
def w4_96 := lw_in (mT4 wgr4_7.2.2.2.2.2.2.2.1) rfl
def w4_98 := lw_in (mT4 wgr4_7.2.2.2.2.2.2.2.2.2.1) rfl
theorem wgr4_8 : lwcdp tables_1_4 [(100, (Jvm.Cond.methodLink "DotPress$Setting" (119 : Nat) ({ cls := "DotPress$Setting", name := "countFind", desc := "(I)V" } : Jvm.MethodName))), (101, (Jvm.Cond.privateMethod ({ cls := "DotPress$Setting", name := "countFind", desc := "(I)V" } : Jvm.MethodName))), (102, (Jvm.Cond.instanceMethod ({ cls := "DotPress$Setting", name := "countFind", desc := "(I)V" } : Jvm.MethodName))), (104, (Jvm.Cond.methodLink "DotPress$Setting" (122 : Nat) ({ cls := "DotPress$Setting", name := "findOwn", desc := "(LDotPress$Table;IILDotPress$Row;)LDotPress$Row;" } : Jvm.MethodName))), (105, (Jvm.Cond.privateMethod ({ cls := "DotPress$Setting", name := "findOwn", desc := "(LDotPress$Table;IILDotPress$Row;)LDotPress$Row;" } : Jvm.MethodName))), (106, (Jvm.Cond.instanceMethod ({ cls := "DotPress$Setting", name := "findOwn", desc := "(LDotPress$Table;IILDotPress$Row;)LDotPress$Row;" } : Jvm.MethodName))), (108, (Jvm.Cond.methodLink "DotPress$Setting" (134 : Nat) ({ cls := "java/util/ArrayList", name := "size", desc := "()I" } : Jvm.MethodName))), (109, (Jvm.Cond.methodLink "DotPress$Setting" (139 : Nat) ({ cls := "java/lang/Math", name := "min", desc := "(II)I" } : Jvm.MethodName))), (110, (Jvm.Cond.methodLink "DotPress$Setting" (145 : Nat) ({ cls := "java/util/ArrayList", name := "get", desc := "(I)Ljava/lang/Object;" } : Jvm.MethodName))), (111, (Jvm.Cond.classLink "DotPress$Setting" (103 : Nat) "DotPress$Row"))] := lwcdf (by decide +kernel)
def w4_100 := lw_in (mT4 wgr4_8.1) rfl
def w4_102 := lw_in (mT4 wgr4_8.2.2.1) rfl
def w4_104 := lw_in (mT4 wgr4_8.2.2.2.1) rfl
def w4_106 := lw_in (mT4 wgr4_8.2.2.2.2.2.1) rfl
def w4_108 := lw_in (mT4 wgr4_8.2.2.2.2.2.2.1) rfl
def w4_109 := lw_in (mT4 wgr4_8.2.2.2.2.2.2.2.1) rfl
def w4_110 := lw_in (mT4 wgr4_8.2.2.2.2.2.2.2.2.1) rfl
def w4_111 := lw_in (mT4 wgr4_8.2.2.2.2.2.2.2.2.2.1) rfl
theorem wgr4_9 : lwcdp tables_1_4 [(112, (Jvm.Cond.methodLink "DotPress$Setting" (149 : Nat) ({ cls := "DotPress$Setting", name := "fits", desc := "(LDotPress$Row;I)Z" } : Jvm.MethodName))), (113, (Jvm.Cond.privateMethod ({ cls := "DotPress$Setting", name := "fits", desc := "(LDotPress$Row;I)Z" } : Jvm.MethodName))), (114, (Jvm.Cond.instanceMethod ({ cls := "DotPress$Setting", name := "fits", desc := "(LDotPress$Row;I)Z" } : Jvm.MethodName))), (116, (Jvm.Cond.methodLink "DotPress$Setting" (156 : Nat) ({ cls := "DotPress$Setting", name := "isSign", desc := "(I)Z" } : Jvm.MethodName))), (117, (Jvm.Cond.static ({ cls := "DotPress$Setting", name := "isSign", desc := "(I)Z" } : Jvm.MethodName))), (119, (Jvm.Cond.methodLinkNest "DotPress$Setting" (98 : Nat) ({ cls := "DotPress", name := "isGreat", desc := "(I)Z" } : Jvm.MethodName) "DotPress")), (120, (Jvm.Cond.static ({ cls := "DotPress", name := "isGreat", desc := "(I)Z" } : Jvm.MethodName))), (122, (Jvm.Cond.methodLink "DotPress$Setting" (105 : Nat) ({ cls := "DotPress$Setting", name := "markStart", desc := "(II)V" } : Jvm.MethodName))), (123, (Jvm.Cond.privateMethod ({ cls := "DotPress$Setting", name := "markStart", desc := "(II)V" } : Jvm.MethodName))), (124, (Jvm.Cond.instanceMethod ({ cls := "DotPress$Setting", name := "markStart", desc := "(II)V" } : Jvm.MethodName)))] := lwcdf (by decide +kernel)
def w4_112 := lw_in (mT4 wgr4_9.1) rfl
def w4_114 := lw_in (mT4 wgr4_9.2.2.1) rfl
def w4_116 := lw_in (mT4 wgr4_9.2.2.2.1) rfl
def w4_117 := lw_in (mT4 wgr4_9.2.2.2.2.1) rfl
def w4_119t := mT4 wgr4_9.2.2.2.2.2.1
def w4_120 := lw_in (mT4 wgr4_9.2.2.2.2.2.2.1) rfl
def w4_122 := lw_in (mT4 wgr4_9.2.2.2.2.2.2.2.1) rfl
def w4_124 := lw_in (mT4 wgr4_9.2.2.2.2.2.2.2.2.2.1) rfl
theorem wgr4_10 : lwcdp tables_1_4 [(126, (Jvm.Cond.methodLink "DotPress$Setting" (86 : Nat) ({ cls := "DotPress$Setting", name := "push", desc := "(LDotPress$Row;)V" } : Jvm.MethodName))), (127, (Jvm.Cond.privateMethod ({ cls := "DotPress$Setting", name := "push", desc := "(LDotPress$Row;)V" } : Jvm.MethodName))), (128, (Jvm.Cond.instanceMethod ({ cls := "DotPress$Setting", name := "push", desc := "(LDotPress$Row;)V" } : Jvm.MethodName))), (130, (Jvm.Cond.methodLink "DotPress$Setting" (109 : Nat) ({ cls := "java/lang/Math", name := "max", desc := "(II)I" } : Jvm.MethodName))), (131, (Jvm.Cond.methodLink "DotPress$Setting" (82 : Nat) ({ cls := "DotPress$Setting", name := "setTurn", desc := "(LDotPress$Row;I)I" } : Jvm.MethodName))), (132, (Jvm.Cond.privateMethod ({ cls := "DotPress$Setting", name := "setTurn", desc := "(LDotPress$Row;I)I" } : Jvm.MethodName))), (133, (Jvm.Cond.instanceMethod ({ cls := "DotPress$Setting", name := "setTurn", desc := "(LDotPress$Row;I)I" } : Jvm.MethodName))), (135, (Jvm.Cond.methodLink "DotPress" (256 : Nat) ({ cls := "DotPress$Sheet", name := "take", desc := "(LDotPress$Setting;III)Z" } : Jvm.MethodName))), (136, (Jvm.Cond.instanceMethod ({ cls := "DotPress$Sheet", name := "take", desc := "(LDotPress$Setting;III)Z" } : Jvm.MethodName))), (137, (Jvm.Cond.selects "DotPress$Sheet" ({ cls := "DotPress$Sheet", name := "take", desc := "(LDotPress$Setting;III)Z" } : Jvm.MethodName) ({ cls := "DotPress$Sheet", name := "take", desc := "(LDotPress$Setting;III)Z" } : Jvm.MethodName)))] := lwcdf (by decide +kernel)
def w4_126 := lw_in (mT4 wgr4_10.1) rfl
def w4_128 := lw_in (mT4 wgr4_10.2.2.1) rfl
def w4_130 := lw_in (mT4 wgr4_10.2.2.2.1) rfl
def w4_131 := lw_in (mT4 wgr4_10.2.2.2.2.1) rfl
def w4_133 := lw_in (mT4 wgr4_10.2.2.2.2.2.2.1) rfl
def w4_135 := lw_in (mT4 wgr4_10.2.2.2.2.2.2.2.1) rfl
def w4_136 := lw_in (mT4 wgr4_10.2.2.2.2.2.2.2.2.1) rfl
def w4_137 := lw_in (mT4 wgr4_10.2.2.2.2.2.2.2.2.2.1) rfl
theorem wgr4_11 : lwcdp tables_1_4 [(139, (Jvm.Cond.methodLink "DotPress$Sheet" (42 : Nat) ({ cls := "DotPress$Line", name := "addPart", desc := "(LDotPress$Setting;II)V" } : Jvm.MethodName))), (140, (Jvm.Cond.instanceMethod ({ cls := "DotPress$Line", name := "addPart", desc := "(LDotPress$Setting;II)V" } : Jvm.MethodName))), (141, (Jvm.Cond.selects "DotPress$Line" ({ cls := "DotPress$Line", name := "addPart", desc := "(LDotPress$Setting;II)V" } : Jvm.MethodName) ({ cls := "DotPress$Line", name := "addPart", desc := "(LDotPress$Setting;II)V" } : Jvm.MethodName))), (143, (Jvm.Cond.methodLink "DotPress$Line" (23 : Nat) ({ cls := "DotPress$Line", name := "add", desc := "(I)V" } : Jvm.MethodName))), (144, (Jvm.Cond.instanceMethod ({ cls := "DotPress$Line", name := "add", desc := "(I)V" } : Jvm.MethodName))), (145, (Jvm.Cond.selects "DotPress$Line" ({ cls := "DotPress$Line", name := "add", desc := "(I)V" } : Jvm.MethodName) ({ cls := "DotPress$Line", name := "add", desc := "(I)V" } : Jvm.MethodName))), (147, (Jvm.Cond.methodLink "DotPress$Sheet" (46 : Nat) ({ cls := "DotPress$Setting", name := "lastBreak", desc := "(III)I" } : Jvm.MethodName))), (148, (Jvm.Cond.instanceMethod ({ cls := "DotPress$Setting", name := "lastBreak", desc := "(III)I" } : Jvm.MethodName))), (149, (Jvm.Cond.selects "DotPress$Setting" ({ cls := "DotPress$Setting", name := "lastBreak", desc := "(III)I" } : Jvm.MethodName) ({ cls := "DotPress$Setting", name := "lastBreak", desc := "(III)I" } : Jvm.MethodName))), (151, (Jvm.Cond.methodLink "DotPress$Sheet" (50 : Nat) ({ cls := "DotPress$Line", name := "add", desc := "(I)V" } : Jvm.MethodName)))] := lwcdf (by decide +kernel)
def w4_139 := lw_in (mT4 wgr4_11.1) rfl
def w4_140 := lw_in (mT4 wgr4_11.2.1) rfl
def w4_141 := lw_in (mT4 wgr4_11.2.2.1) rfl
def w4_143 := lw_in (mT4 wgr4_11.2.2.2.1) rfl
def w4_144 := lw_in (mT4 wgr4_11.2.2.2.2.1) rfl
def w4_145 := lw_in (mT4 wgr4_11.2.2.2.2.2.1) rfl
def w4_147 := lw_in (mT4 wgr4_11.2.2.2.2.2.2.1) rfl
def w4_148 := lw_in (mT4 wgr4_11.2.2.2.2.2.2.2.1) rfl
def w4_149 := lw_in (mT4 wgr4_11.2.2.2.2.2.2.2.2.1) rfl
def w4_151 := lw_in (mT4 wgr4_11.2.2.2.2.2.2.2.2.2.1) rfl
theorem wgr4_12 : lwcdp tables_1_4 [(152, (Jvm.Cond.methodLink "DotPress" (260 : Nat) ({ cls := "DotPress", name := "publish", desc := "()I" } : Jvm.MethodName))), (153, (Jvm.Cond.privateMethod ({ cls := "DotPress", name := "publish", desc := "()I" } : Jvm.MethodName))), (154, (Jvm.Cond.instanceMethod ({ cls := "DotPress", name := "publish", desc := "()I" } : Jvm.MethodName))), (156, (Jvm.Cond.methodLink "DotPress" (263 : Nat) ({ cls := "DotPress$Setting", name := "placeOfUnknown", desc := "()I" } : Jvm.MethodName))), (157, (Jvm.Cond.instanceMethod ({ cls := "DotPress$Setting", name := "placeOfUnknown", desc := "()I" } : Jvm.MethodName))), (158, (Jvm.Cond.selects "DotPress$Setting" ({ cls := "DotPress$Setting", name := "placeOfUnknown", desc := "()I" } : Jvm.MethodName) ({ cls := "DotPress$Setting", name := "placeOfUnknown", desc := "()I" } : Jvm.MethodName))), (160, (Jvm.Cond.methodLink "DotPress" (266 : Nat) ({ cls := "DotPress", name := "refuseAt", desc := "(II)I" } : Jvm.MethodName))), (161, (Jvm.Cond.privateMethod ({ cls := "DotPress", name := "refuseAt", desc := "(II)I" } : Jvm.MethodName))), (162, (Jvm.Cond.instanceMethod ({ cls := "DotPress", name := "refuseAt", desc := "(II)I" } : Jvm.MethodName))), (164, (Jvm.Cond.methodLink "DotPressLaw" (66 : Nat) ({ cls := "DotPress", name := "head", desc := "(I)I" } : Jvm.MethodName)))] := lwcdf (by decide +kernel)
def w4_152 := lw_in (mT4 wgr4_12.1) rfl
def w4_154 := lw_in (mT4 wgr4_12.2.2.1) rfl
def w4_156 := lw_in (mT4 wgr4_12.2.2.2.1) rfl
def w4_157 := lw_in (mT4 wgr4_12.2.2.2.2.1) rfl
def w4_158 := lw_in (mT4 wgr4_12.2.2.2.2.2.1) rfl
def w4_160 := lw_in (mT4 wgr4_12.2.2.2.2.2.2.1) rfl
def w4_162 := lw_in (mT4 wgr4_12.2.2.2.2.2.2.2.2.1) rfl
def w4_164 := lw_in (mT4 wgr4_12.2.2.2.2.2.2.2.2.2.1) rfl
theorem wgr4_13 : lwcdp tables_1_4 [(165, (Jvm.Cond.instanceMethod ({ cls := "DotPress", name := "head", desc := "(I)I" } : Jvm.MethodName))), (166, (Jvm.Cond.selects "DotPress" ({ cls := "DotPress", name := "head", desc := "(I)I" } : Jvm.MethodName) ({ cls := "DotPress", name := "head", desc := "(I)I" } : Jvm.MethodName))), (168, (Jvm.Cond.methodLink "DotPress" (272 : Nat) ({ cls := "DotPress$Setting", name := "clear", desc := "()V" } : Jvm.MethodName))), (169, (Jvm.Cond.methodLink "DotPress" (273 : Nat) ({ cls := "DotPress$Setting", name := "put", desc := "(II)V" } : Jvm.MethodName))), (170, (Jvm.Cond.methodLink "DotPressLaw" (70 : Nat) ({ cls := "DotPress", name := "lines", desc := "()I" } : Jvm.MethodName))), (171, (Jvm.Cond.instanceMethod ({ cls := "DotPress", name := "lines", desc := "()I" } : Jvm.MethodName))), (172, (Jvm.Cond.selects "DotPress" ({ cls := "DotPress", name := "lines", desc := "()I" } : Jvm.MethodName) ({ cls := "DotPress", name := "lines", desc := "()I" } : Jvm.MethodName))), (174, (Jvm.Cond.methodLink "DotPressLaw" (74 : Nat) ({ cls := "DotPress", name := "pages", desc := "()I" } : Jvm.MethodName))), (175, (Jvm.Cond.instanceMethod ({ cls := "DotPress", name := "pages", desc := "()I" } : Jvm.MethodName))), (176, (Jvm.Cond.selects "DotPress" ({ cls := "DotPress", name := "pages", desc := "()I" } : Jvm.MethodName) ({ cls := "DotPress", name := "pages", desc := "()I" } : Jvm.MethodName)))] := lwcdf (by decide +kernel)
def w4_165 := lw_in (mT4 wgr4_13.1) rfl
def w4_166 := lw_in (mT4 wgr4_13.2.1) rfl
def w4_168 := lw_in (mT4 wgr4_13.2.2.1) rfl
def w4_169 := lw_in (mT4 wgr4_13.2.2.2.1) rfl
def w4_170 := lw_in (mT4 wgr4_13.2.2.2.2.1) rfl
def w4_171 := lw_in (mT4 wgr4_13.2.2.2.2.2.1) rfl
def w4_172 := lw_in (mT4 wgr4_13.2.2.2.2.2.2.1) rfl
def w4_174 := lw_in (mT4 wgr4_13.2.2.2.2.2.2.2.1) rfl
def w4_175 := lw_in (mT4 wgr4_13.2.2.2.2.2.2.2.2.1) rfl
def w4_176 := lw_in (mT4 wgr4_13.2.2.2.2.2.2.2.2.2.1) rfl
theorem wgr4_14 : lwcdp tables_1_4 [(178, (Jvm.Cond.methodLink "DotPress" (282 : Nat) ({ cls := "DotPress", name := "linesOfPage", desc := "()I" } : Jvm.MethodName))), (179, (Jvm.Cond.privateMethod ({ cls := "DotPress", name := "linesOfPage", desc := "()I" } : Jvm.MethodName))), (180, (Jvm.Cond.instanceMethod ({ cls := "DotPress", name := "linesOfPage", desc := "()I" } : Jvm.MethodName))), (182, (Jvm.Cond.methodLink "DotPress" (285 : Nat) ({ cls := "DotPress", name := "pagesHaveHeader", desc := "()Z" } : Jvm.MethodName))), (183, (Jvm.Cond.privateMethod ({ cls := "DotPress", name := "pagesHaveHeader", desc := "()Z" } : Jvm.MethodName))), (184, (Jvm.Cond.instanceMethod ({ cls := "DotPress", name := "pagesHaveHeader", desc := "()Z" } : Jvm.MethodName))), (186, (Jvm.Cond.methodLink "DotPressLaw" (78 : Nat) ({ cls := "DotPress", name := "length", desc := "(I)I" } : Jvm.MethodName))), (187, (Jvm.Cond.instanceMethod ({ cls := "DotPress", name := "length", desc := "(I)I" } : Jvm.MethodName))), (188, (Jvm.Cond.selects "DotPress" ({ cls := "DotPress", name := "length", desc := "(I)I" } : Jvm.MethodName) ({ cls := "DotPress", name := "length", desc := "(I)I" } : Jvm.MethodName))), (190, (Jvm.Cond.methodLink "DotPress" (288 : Nat) ({ cls := "DotPress$Sheet", name := "present", desc := "(I)LDotPress$Line;" } : Jvm.MethodName)))] := lwcdf (by decide +kernel)
def w4_178 := lw_in (mT4 wgr4_14.1) rfl
def w4_180 := lw_in (mT4 wgr4_14.2.2.1) rfl
def w4_182 := lw_in (mT4 wgr4_14.2.2.2.1) rfl
def w4_184 := lw_in (mT4 wgr4_14.2.2.2.2.2.1) rfl
def w4_186 := lw_in (mT4 wgr4_14.2.2.2.2.2.2.1) rfl
def w4_187 := lw_in (mT4 wgr4_14.2.2.2.2.2.2.2.1) rfl
def w4_188 := lw_in (mT4 wgr4_14.2.2.2.2.2.2.2.2.1) rfl
def w4_190 := lw_in (mT4 wgr4_14.2.2.2.2.2.2.2.2.2.1) rfl
theorem wgr4_15 : lwcdp tables_1_4 [(191, (Jvm.Cond.instanceMethod ({ cls := "DotPress$Sheet", name := "present", desc := "(I)LDotPress$Line;" } : Jvm.MethodName))), (192, (Jvm.Cond.selects "DotPress$Sheet" ({ cls := "DotPress$Sheet", name := "present", desc := "(I)LDotPress$Line;" } : Jvm.MethodName) ({ cls := "DotPress$Sheet", name := "present", desc := "(I)LDotPress$Line;" } : Jvm.MethodName))), (194, (Jvm.Cond.methodLink "DotPress" (292 : Nat) ({ cls := "DotPress$Sheet", name := "whyNone", desc := "(I)I" } : Jvm.MethodName))), (195, (Jvm.Cond.instanceMethod ({ cls := "DotPress$Sheet", name := "whyNone", desc := "(I)I" } : Jvm.MethodName))), (196, (Jvm.Cond.selects "DotPress$Sheet" ({ cls := "DotPress$Sheet", name := "whyNone", desc := "(I)I" } : Jvm.MethodName) ({ cls := "DotPress$Sheet", name := "whyNone", desc := "(I)I" } : Jvm.MethodName))), (198, (Jvm.Cond.methodLink "DotPressLaw" (82 : Nat) ({ cls := "DotPress", name := "cell", desc := "(II)I" } : Jvm.MethodName))), (199, (Jvm.Cond.instanceMethod ({ cls := "DotPress", name := "cell", desc := "(II)I" } : Jvm.MethodName))), (200, (Jvm.Cond.selects "DotPress" ({ cls := "DotPress", name := "cell", desc := "(II)I" } : Jvm.MethodName) ({ cls := "DotPress", name := "cell", desc := "(II)I" } : Jvm.MethodName))), (202, (Jvm.Cond.methodLink "DotPress" (298 : Nat) ({ cls := "DotPress", name := "cellOfLine", desc := "(II)I" } : Jvm.MethodName))), (203, (Jvm.Cond.privateMethod ({ cls := "DotPress", name := "cellOfLine", desc := "(II)I" } : Jvm.MethodName)))] := lwcdf (by decide +kernel)
def w4_191 := lw_in (mT4 wgr4_15.1) rfl
def w4_192 := lw_in (mT4 wgr4_15.2.1) rfl
def w4_194 := lw_in (mT4 wgr4_15.2.2.1) rfl
def w4_195 := lw_in (mT4 wgr4_15.2.2.2.1) rfl
def w4_196 := lw_in (mT4 wgr4_15.2.2.2.2.1) rfl
def w4_198 := lw_in (mT4 wgr4_15.2.2.2.2.2.1) rfl
def w4_199 := lw_in (mT4 wgr4_15.2.2.2.2.2.2.1) rfl
def w4_200 := lw_in (mT4 wgr4_15.2.2.2.2.2.2.2.1) rfl
def w4_202 := lw_in (mT4 wgr4_15.2.2.2.2.2.2.2.2.1) rfl
theorem wgr4_16 : lwcdp tables_1_4 [(204, (Jvm.Cond.instanceMethod ({ cls := "DotPress", name := "cellOfLine", desc := "(II)I" } : Jvm.MethodName))), (206, (Jvm.Cond.methodLink "DotPressLaw" (86 : Nat) ({ cls := "DotPress", name := "page", desc := "(III)I" } : Jvm.MethodName))), (207, (Jvm.Cond.instanceMethod ({ cls := "DotPress", name := "page", desc := "(III)I" } : Jvm.MethodName))), (208, (Jvm.Cond.selects "DotPress" ({ cls := "DotPress", name := "page", desc := "(III)I" } : Jvm.MethodName) ({ cls := "DotPress", name := "page", desc := "(III)I" } : Jvm.MethodName))), (210, (Jvm.Cond.methodLink "DotPress" (302 : Nat) ({ cls := "DotPress", name := "pages", desc := "()I" } : Jvm.MethodName))), (211, (Jvm.Cond.methodLink "DotPressLaw" (90 : Nat) ({ cls := "DotPress", name := "cut", desc := "(II)I" } : Jvm.MethodName))), (212, (Jvm.Cond.instanceMethod ({ cls := "DotPress", name := "cut", desc := "(II)I" } : Jvm.MethodName))), (213, (Jvm.Cond.selects "DotPress" ({ cls := "DotPress", name := "cut", desc := "(II)I" } : Jvm.MethodName) ({ cls := "DotPress", name := "cut", desc := "(II)I" } : Jvm.MethodName))), (215, (Jvm.Cond.methodLink "DotPress" (305 : Nat) ({ cls := "DotPress$Line", name := "resize", desc := "(I)V" } : Jvm.MethodName))), (216, (Jvm.Cond.instanceMethod ({ cls := "DotPress$Line", name := "resize", desc := "(I)V" } : Jvm.MethodName)))] := lwcdf (by decide +kernel)
def w4_204 := lw_in (mT4 wgr4_16.1) rfl
def w4_206 := lw_in (mT4 wgr4_16.2.1) rfl
def w4_207 := lw_in (mT4 wgr4_16.2.2.1) rfl
def w4_208 := lw_in (mT4 wgr4_16.2.2.2.1) rfl
def w4_210 := lw_in (mT4 wgr4_16.2.2.2.2.1) rfl
def w4_211 := lw_in (mT4 wgr4_16.2.2.2.2.2.1) rfl
def w4_212 := lw_in (mT4 wgr4_16.2.2.2.2.2.2.1) rfl
def w4_213 := lw_in (mT4 wgr4_16.2.2.2.2.2.2.2.1) rfl
def w4_215 := lw_in (mT4 wgr4_16.2.2.2.2.2.2.2.2.1) rfl
def w4_216 := lw_in (mT4 wgr4_16.2.2.2.2.2.2.2.2.2.1) rfl
theorem wgr4_17 : lwcdp tables_1_4 [(217, (Jvm.Cond.selects "DotPress$Line" ({ cls := "DotPress$Line", name := "resize", desc := "(I)V" } : Jvm.MethodName) ({ cls := "DotPress$Line", name := "resize", desc := "(I)V" } : Jvm.MethodName))), (219, (Jvm.Cond.methodLink "DotPress$Line" (30 : Nat) ({ cls := "java/lang/Math", name := "min", desc := "(II)I" } : Jvm.MethodName))), (220, (Jvm.Cond.methodLink "DotPressLaw" (94 : Nat) ({ cls := "DotPress", name := "lose", desc := "(I)I" } : Jvm.MethodName))), (221, (Jvm.Cond.instanceMethod ({ cls := "DotPress", name := "lose", desc := "(I)I" } : Jvm.MethodName))), (222, (Jvm.Cond.selects "DotPress" ({ cls := "DotPress", name := "lose", desc := "(I)I" } : Jvm.MethodName) ({ cls := "DotPress", name := "lose", desc := "(I)I" } : Jvm.MethodName))), (224, (Jvm.Cond.methodLink "DotPress" (308 : Nat) ({ cls := "DotPress$Sheet", name := "at", desc := "(I)LDotPress$Line;" } : Jvm.MethodName))), (225, (Jvm.Cond.methodLink "DotPressLaw" (98 : Nat) ({ cls := "DotPress", name := "copyRow", desc := "(IIIII)I" } : Jvm.MethodName))), (226, (Jvm.Cond.instanceMethod ({ cls := "DotPress", name := "copyRow", desc := "(IIIII)I" } : Jvm.MethodName))), (227, (Jvm.Cond.selects "DotPress" ({ cls := "DotPress", name := "copyRow", desc := "(IIIII)I" } : Jvm.MethodName) ({ cls := "DotPress", name := "copyRow", desc := "(IIIII)I" } : Jvm.MethodName))), (229, (Jvm.Cond.methodLink "DotPress" (313 : Nat) ({ cls := "DotPress$Line", name := "hasCells", desc := "(II)Z" } : Jvm.MethodName)))] := lwcdf (by decide +kernel)
def w4_217 := lw_in (mT4 wgr4_17.1) rfl
def w4_219 := lw_in (mT4 wgr4_17.2.1) rfl
def w4_220 := lw_in (mT4 wgr4_17.2.2.1) rfl
def w4_221 := lw_in (mT4 wgr4_17.2.2.2.1) rfl
def w4_222 := lw_in (mT4 wgr4_17.2.2.2.2.1) rfl
def w4_224 := lw_in (mT4 wgr4_17.2.2.2.2.2.1) rfl
def w4_225 := lw_in (mT4 wgr4_17.2.2.2.2.2.2.1) rfl
def w4_226 := lw_in (mT4 wgr4_17.2.2.2.2.2.2.2.1) rfl
def w4_227 := lw_in (mT4 wgr4_17.2.2.2.2.2.2.2.2.1) rfl
def w4_229 := lw_in (mT4 wgr4_17.2.2.2.2.2.2.2.2.2.1) rfl
theorem wgr4_18 : lwcdp tables_1_4 [(230, (Jvm.Cond.instanceMethod ({ cls := "DotPress$Line", name := "hasCells", desc := "(II)Z" } : Jvm.MethodName))), (231, (Jvm.Cond.selects "DotPress$Line" ({ cls := "DotPress$Line", name := "hasCells", desc := "(II)Z" } : Jvm.MethodName) ({ cls := "DotPress$Line", name := "hasCells", desc := "(II)Z" } : Jvm.MethodName))), (233, (Jvm.Cond.methodLink "DotPress" (316 : Nat) ({ cls := "java/lang/System", name := "arraycopy", desc := "(Ljava/lang/Object;ILjava/lang/Object;II)V" } : Jvm.MethodName))), (234, (Jvm.Cond.methodLink "DotPressLaw" (102 : Nat) ({ cls := "DotPress", name := "copyLines", desc := "(III)I" } : Jvm.MethodName))), (235, (Jvm.Cond.instanceMethod ({ cls := "DotPress", name := "copyLines", desc := "(III)I" } : Jvm.MethodName))), (236, (Jvm.Cond.selects "DotPress" ({ cls := "DotPress", name := "copyLines", desc := "(III)I" } : Jvm.MethodName) ({ cls := "DotPress", name := "copyLines", desc := "(III)I" } : Jvm.MethodName))), (238, (Jvm.Cond.methodLink "DotPress" (322 : Nat) ({ cls := "DotPress$Line", name := "become", desc := "(LDotPress$Line;)V" } : Jvm.MethodName))), (239, (Jvm.Cond.instanceMethod ({ cls := "DotPress$Line", name := "become", desc := "(LDotPress$Line;)V" } : Jvm.MethodName)))] := lwcdf (by decide +kernel)
def w4_230 := lw_in (mT4 wgr4_18.1) rfl
def w4_231 := lw_in (mT4 wgr4_18.2.1) rfl
def w4_233 := lw_in (mT4 wgr4_18.2.2.1) rfl
def w4_234 := lw_in (mT4 wgr4_18.2.2.2.1) rfl
def w4_235 := lw_in (mT4 wgr4_18.2.2.2.2.1) rfl
def w4_236 := lw_in (mT4 wgr4_18.2.2.2.2.2.1) rfl
def w4_238 := lw_in (mT4 wgr4_18.2.2.2.2.2.2.1) rfl
def w4_239 := lw_in (mT4 wgr4_18.2.2.2.2.2.2.2.1) rfl
theorem wgr5_0 : lwcdp tables_1_5 [(0, (Jvm.Cond.selects "DotPress$Line" ({ cls := "DotPress$Line", name := "become", desc := "(LDotPress$Line;)V" } : Jvm.MethodName) ({ cls := "DotPress$Line", name := "become", desc := "(LDotPress$Line;)V" } : Jvm.MethodName))), (2, (Jvm.Cond.methodLink "DotPressLaw" (106 : Nat) ({ cls := "DotPress", name := "copied", desc := "()I" } : Jvm.MethodName))), (3, (Jvm.Cond.instanceMethod ({ cls := "DotPress", name := "copied", desc := "()I" } : Jvm.MethodName))), (4, (Jvm.Cond.selects "DotPress" ({ cls := "DotPress", name := "copied", desc := "()I" } : Jvm.MethodName) ({ cls := "DotPress", name := "copied", desc := "()I" } : Jvm.MethodName))), (6, (Jvm.Cond.methodLink "DotPressLaw" (110 : Nat) ({ cls := "DotPress", name := "emboss", desc := "(II)I" } : Jvm.MethodName))), (7, (Jvm.Cond.instanceMethod ({ cls := "DotPress", name := "emboss", desc := "(II)I" } : Jvm.MethodName))), (8, (Jvm.Cond.selects "DotPress" ({ cls := "DotPress", name := "emboss", desc := "(II)I" } : Jvm.MethodName) ({ cls := "DotPress", name := "emboss", desc := "(II)I" } : Jvm.MethodName))), (10, (Jvm.Cond.methodLink "DotPress" (326 : Nat) ({ cls := "DotPress$Line", name := "dots", desc := "()I" } : Jvm.MethodName))), (11, (Jvm.Cond.instanceMethod ({ cls := "DotPress$Line", name := "dots", desc := "()I" } : Jvm.MethodName))), (12, (Jvm.Cond.selects "DotPress$Line" ({ cls := "DotPress$Line", name := "dots", desc := "()I" } : Jvm.MethodName) ({ cls := "DotPress$Line", name := "dots", desc := "()I" } : Jvm.MethodName)))] := lwcdf (by decide +kernel)
def w5_0 := lw_in (mT5 wgr5_0.1) rfl
def w5_2 := lw_in (mT5 wgr5_0.2.1) rfl
def w5_3 := lw_in (mT5 wgr5_0.2.2.1) rfl
def w5_4 := lw_in (mT5 wgr5_0.2.2.2.1) rfl
def w5_6 := lw_in (mT5 wgr5_0.2.2.2.2.1) rfl
def w5_7 := lw_in (mT5 wgr5_0.2.2.2.2.2.1) rfl
def w5_8 := lw_in (mT5 wgr5_0.2.2.2.2.2.2.1) rfl
def w5_10 := lw_in (mT5 wgr5_0.2.2.2.2.2.2.2.1) rfl
def w5_11 := lw_in (mT5 wgr5_0.2.2.2.2.2.2.2.2.1) rfl
def w5_12 := lw_in (mT5 wgr5_0.2.2.2.2.2.2.2.2.2.1) rfl
theorem wgr5_1 : lwcdp tables_1_5 [(14, (Jvm.Cond.methodLink "DotPress$Line" (42 : Nat) ({ cls := "java/lang/Integer", name := "bitCount", desc := "(I)I" } : Jvm.MethodName))), (15, (Jvm.Cond.static ({ cls := "java/lang/Integer", name := "bitCount", desc := "(I)I" } : Jvm.MethodName))), (17, (Jvm.Cond.constant "java/lang/Integer" (265 : Nat) (1431655765 : Int32))), (18, (Jvm.Cond.constant "java/lang/Integer" (266 : Nat) (858993459 : Int32))), (19, (Jvm.Cond.constant "java/lang/Integer" (267 : Nat) (252645135 : Int32))), (20, (Jvm.Cond.methodLink "DotPressLaw" (114 : Nat) ({ cls := "DotPress", name := "closed", desc := "()I" } : Jvm.MethodName))), (21, (Jvm.Cond.instanceMethod ({ cls := "DotPress", name := "closed", desc := "()I" } : Jvm.MethodName))), (22, (Jvm.Cond.selects "DotPress" ({ cls := "DotPress", name := "closed", desc := "()I" } : Jvm.MethodName) ({ cls := "DotPress", name := "closed", desc := "()I" } : Jvm.MethodName))), (24, (Jvm.Cond.methodLink "DotPressLaw" (118 : Nat) ({ cls := "DotPress", name := "read", desc := "(III)I" } : Jvm.MethodName))), (25, (Jvm.Cond.instanceMethod ({ cls := "DotPress", name := "read", desc := "(III)I" } : Jvm.MethodName)))] := lwcdf (by decide +kernel)
def w5_14 := lw_in (mT5 wgr5_1.1) rfl
def w5_15 := lw_in (mT5 wgr5_1.2.1) rfl
def w5_17 := lw_in (mT5 wgr5_1.2.2.1) rfl
def w5_18 := lw_in (mT5 wgr5_1.2.2.2.1) rfl
def w5_19 := lw_in (mT5 wgr5_1.2.2.2.2.1) rfl
def w5_20 := lw_in (mT5 wgr5_1.2.2.2.2.2.1) rfl
def w5_21 := lw_in (mT5 wgr5_1.2.2.2.2.2.2.1) rfl
def w5_22 := lw_in (mT5 wgr5_1.2.2.2.2.2.2.2.1) rfl
def w5_24 := lw_in (mT5 wgr5_1.2.2.2.2.2.2.2.2.1) rfl
def w5_25 := lw_in (mT5 wgr5_1.2.2.2.2.2.2.2.2.2.1) rfl
theorem wgr5_2 : lwcdp tables_1_5 [(26, (Jvm.Cond.selects "DotPress" ({ cls := "DotPress", name := "read", desc := "(III)I" } : Jvm.MethodName) ({ cls := "DotPress", name := "read", desc := "(III)I" } : Jvm.MethodName))), (28, (Jvm.Cond.methodLink "DotPress" (328 : Nat) ({ cls := "DotPress", name := "chainLines", desc := "(II)V" } : Jvm.MethodName))), (29, (Jvm.Cond.privateMethod ({ cls := "DotPress", name := "chainLines", desc := "(II)V" } : Jvm.MethodName))), (30, (Jvm.Cond.instanceMethod ({ cls := "DotPress", name := "chainLines", desc := "(II)V" } : Jvm.MethodName))), (32, (Jvm.Cond.methodLink "DotPress" (344 : Nat) ({ cls := "DotPress$Reader", name := "clearCells", desc := "()V" } : Jvm.MethodName))), (33, (Jvm.Cond.instanceMethod ({ cls := "DotPress$Reader", name := "clearCells", desc := "()V" } : Jvm.MethodName))), (34, (Jvm.Cond.selects "DotPress$Reader" ({ cls := "DotPress$Reader", name := "clearCells", desc := "()V" } : Jvm.MethodName) ({ cls := "DotPress$Reader", name := "clearCells", desc := "()V" } : Jvm.MethodName))), (36, (Jvm.Cond.methodLink "DotPress$Reader" (77 : Nat) ({ cls := "DotPress$Ints", name := "clear", desc := "()V" } : Jvm.MethodName))), (37, (Jvm.Cond.methodLink "DotPress" (347 : Nat) ({ cls := "DotPress$Reader", name := "chain", desc := "(LDotPress$Line;IIZ)V" } : Jvm.MethodName))), (38, (Jvm.Cond.instanceMethod ({ cls := "DotPress$Reader", name := "chain", desc := "(LDotPress$Line;IIZ)V" } : Jvm.MethodName)))] := lwcdf (by decide +kernel)
def w5_26 := lw_in (mT5 wgr5_2.1) rfl
def w5_28 := lw_in (mT5 wgr5_2.2.1) rfl
def w5_30 := lw_in (mT5 wgr5_2.2.2.2.1) rfl
def w5_32 := lw_in (mT5 wgr5_2.2.2.2.2.1) rfl
def w5_33 := lw_in (mT5 wgr5_2.2.2.2.2.2.1) rfl
def w5_34 := lw_in (mT5 wgr5_2.2.2.2.2.2.2.1) rfl
def w5_36 := lw_in (mT5 wgr5_2.2.2.2.2.2.2.2.1) rfl
def w5_37 := lw_in (mT5 wgr5_2.2.2.2.2.2.2.2.2.1) rfl
def w5_38 := lw_in (mT5 wgr5_2.2.2.2.2.2.2.2.2.2.1) rfl
theorem wgr5_3 : lwcdp tables_1_5 [(39, (Jvm.Cond.selects "DotPress$Reader" ({ cls := "DotPress$Reader", name := "chain", desc := "(LDotPress$Line;IIZ)V" } : Jvm.MethodName) ({ cls := "DotPress$Reader", name := "chain", desc := "(LDotPress$Line;IIZ)V" } : Jvm.MethodName))), (41, (Jvm.Cond.methodLink "DotPress$Reader" (108 : Nat) ({ cls := "DotPress$Line", name := "endsWith", desc := "(I)Z" } : Jvm.MethodName))), (42, (Jvm.Cond.instanceMethod ({ cls := "DotPress$Line", name := "endsWith", desc := "(I)Z" } : Jvm.MethodName))), (43, (Jvm.Cond.selects "DotPress$Line" ({ cls := "DotPress$Line", name := "endsWith", desc := "(I)Z" } : Jvm.MethodName) ({ cls := "DotPress$Line", name := "endsWith", desc := "(I)Z" } : Jvm.MethodName))), (45, (Jvm.Cond.methodLink "DotPress$Reader" (114 : Nat) ({ cls := "DotPress$Reader", name := "addCell", desc := "(II)V" } : Jvm.MethodName))), (46, (Jvm.Cond.instanceMethod ({ cls := "DotPress$Reader", name := "addCell", desc := "(II)V" } : Jvm.MethodName))), (47, (Jvm.Cond.selects "DotPress$Reader" ({ cls := "DotPress$Reader", name := "addCell", desc := "(II)V" } : Jvm.MethodName) ({ cls := "DotPress$Reader", name := "addCell", desc := "(II)V" } : Jvm.MethodName))), (49, (Jvm.Cond.methodLink "DotPress$Reader" (91 : Nat) ({ cls := "DotPress$Ints", name := "add", desc := "(I)V" } : Jvm.MethodName))), (50, (Jvm.Cond.methodLink "DotPress" (331 : Nat) ({ cls := "DotPress$Reader", name := "gather", desc := "(LDotPress$Table;)V" } : Jvm.MethodName))), (51, (Jvm.Cond.instanceMethod ({ cls := "DotPress$Reader", name := "gather", desc := "(LDotPress$Table;)V" } : Jvm.MethodName)))] := lwcdf (by decide +kernel)
def w5_39 := lw_in (mT5 wgr5_3.1) rfl
def w5_41 := lw_in (mT5 wgr5_3.2.1) rfl
def w5_42 := lw_in (mT5 wgr5_3.2.2.1) rfl
def w5_43 := lw_in (mT5 wgr5_3.2.2.2.1) rfl
def w5_45 := lw_in (mT5 wgr5_3.2.2.2.2.1) rfl
def w5_46 := lw_in (mT5 wgr5_3.2.2.2.2.2.1) rfl
def w5_47 := lw_in (mT5 wgr5_3.2.2.2.2.2.2.1) rfl
def w5_49 := lw_in (mT5 wgr5_3.2.2.2.2.2.2.2.1) rfl
def w5_50 := lw_in (mT5 wgr5_3.2.2.2.2.2.2.2.2.1) rfl
def w5_51 := lw_in (mT5 wgr5_3.2.2.2.2.2.2.2.2.2.1) rfl
theorem wgr5_4 : lwcdp tables_1_5 [(52, (Jvm.Cond.selects "DotPress$Reader" ({ cls := "DotPress$Reader", name := "gather", desc := "(LDotPress$Table;)V" } : Jvm.MethodName) ({ cls := "DotPress$Reader", name := "gather", desc := "(LDotPress$Table;)V" } : Jvm.MethodName))), (54, (Jvm.Cond.methodLink "DotPress$Reader" (47 : Nat) ({ cls := "java/util/ArrayList", name := "clear", desc := "()V" } : Jvm.MethodName))), (55, (Jvm.Cond.instanceMethod ({ cls := "java/util/ArrayList", name := "clear", desc := "()V" } : Jvm.MethodName))), (56, (Jvm.Cond.selects "java/util/ArrayList" ({ cls := "java/util/ArrayList", name := "clear", desc := "()V" } : Jvm.MethodName) ({ cls := "java/util/ArrayList", name := "clear", desc := "()V" } : Jvm.MethodName))), (58, (Jvm.Cond.methodLink "DotPress$Reader" (59 : Nat) ({ cls := "DotPress$Reader", name := "gatherPart", desc := "(Ljava/util/ArrayList;LDotPress$Table;)V" } : Jvm.MethodName))), (59, (Jvm.Cond.static ({ cls := "DotPress$Reader", name := "gatherPart", desc := "(Ljava/util/ArrayList;LDotPress$Table;)V" } : Jvm.MethodName))), (61, (Jvm.Cond.methodLink "DotPress$Reader" (78 : Nat) ({ cls := "java/util/ArrayList", name := "size", desc := "()I" } : Jvm.MethodName))), (62, (Jvm.Cond.methodLink "DotPress$Reader" (82 : Nat) ({ cls := "java/util/ArrayList", name := "get", desc := "(I)Ljava/lang/Object;" } : Jvm.MethodName))), (63, (Jvm.Cond.classLink "DotPress$Reader" (86 : Nat) "DotPress$Row")), (64, (Jvm.Cond.methodLink "DotPress$Reader" (97 : Nat) ({ cls := "java/util/ArrayList", name := "add", desc := "(Ljava/lang/Object;)Z" } : Jvm.MethodName)))] := lwcdf (by decide +kernel)
def w5_52 := lw_in (mT5 wgr5_4.1) rfl
def w5_54 := lw_in (mT5 wgr5_4.2.1) rfl
def w5_55 := lw_in (mT5 wgr5_4.2.2.1) rfl
def w5_56 := lw_in (mT5 wgr5_4.2.2.2.1) rfl
def w5_58 := lw_in (mT5 wgr5_4.2.2.2.2.1) rfl
def w5_59 := lw_in (mT5 wgr5_4.2.2.2.2.2.1) rfl
def w5_61 := lw_in (mT5 wgr5_4.2.2.2.2.2.2.1) rfl
def w5_62 := lw_in (mT5 wgr5_4.2.2.2.2.2.2.2.1) rfl
def w5_63 := lw_in (mT5 wgr5_4.2.2.2.2.2.2.2.2.1) rfl
def w5_64 := lw_in (mT5 wgr5_4.2.2.2.2.2.2.2.2.2.1) rfl
theorem wgr5_5 : lwcdp tables_1_5 [(65, (Jvm.Cond.methodLink "DotPress$Reader" (67 : Nat) ({ cls := "DotPress$Reader", name := "addIndicator", desc := "(Ljava/util/ArrayList;LDotPress$Row;)V" } : Jvm.MethodName))), (66, (Jvm.Cond.static ({ cls := "DotPress$Reader", name := "addIndicator", desc := "(Ljava/util/ArrayList;LDotPress$Row;)V" } : Jvm.MethodName))), (68, (Jvm.Cond.methodLink "DotPress$Reader" (73 : Nat) ({ cls := "DotPress$Reader", name := "markBegins", desc := "(Ljava/util/ArrayList;LDotPress$Ints;)V" } : Jvm.MethodName))), (69, (Jvm.Cond.static ({ cls := "DotPress$Reader", name := "markBegins", desc := "(Ljava/util/ArrayList;LDotPress$Ints;)V" } : Jvm.MethodName))), (71, (Jvm.Cond.methodLink "DotPress" (335 : Nat) ({ cls := "DotPress$Reader", name := "decode", desc := "()Z" } : Jvm.MethodName))), (72, (Jvm.Cond.instanceMethod ({ cls := "DotPress$Reader", name := "decode", desc := "()Z" } : Jvm.MethodName))), (73, (Jvm.Cond.selects "DotPress$Reader" ({ cls := "DotPress$Reader", name := "decode", desc := "()Z" } : Jvm.MethodName) ({ cls := "DotPress$Reader", name := "decode", desc := "()Z" } : Jvm.MethodName))), (75, (Jvm.Cond.methodLink "DotPress$Reader" (119 : Nat) ({ cls := "DotPress$Ints", name := "at", desc := "(I)I" } : Jvm.MethodName))), (76, (Jvm.Cond.methodLink "DotPress$Reader" (123 : Nat) ({ cls := "DotPress$Reader", name := "decodeWord", desc := "(I)I" } : Jvm.MethodName))), (77, (Jvm.Cond.privateMethod ({ cls := "DotPress$Reader", name := "decodeWord", desc := "(I)I" } : Jvm.MethodName)))] := lwcdf (by decide +kernel)
def w5_65 := lw_in (mT5 wgr5_5.1) rfl
def w5_66 := lw_in (mT5 wgr5_5.2.1) rfl
def w5_68 := lw_in (mT5 wgr5_5.2.2.1) rfl
def w5_69 := lw_in (mT5 wgr5_5.2.2.2.1) rfl
def w5_71 := lw_in (mT5 wgr5_5.2.2.2.2.1) rfl
def w5_72 := lw_in (mT5 wgr5_5.2.2.2.2.2.1) rfl
def w5_73 := lw_in (mT5 wgr5_5.2.2.2.2.2.2.1) rfl
def w5_75 := lw_in (mT5 wgr5_5.2.2.2.2.2.2.2.1) rfl
def w5_76 := lw_in (mT5 wgr5_5.2.2.2.2.2.2.2.2.1) rfl
theorem wgr5_6 : lwcdp tables_1_5 [(78, (Jvm.Cond.instanceMethod ({ cls := "DotPress$Reader", name := "decodeWord", desc := "(I)I" } : Jvm.MethodName))), (80, (Jvm.Cond.methodLink "DotPress$Reader" (126 : Nat) ({ cls := "DotPress$Reader", name := "longestAt", desc := "(ZI)LDotPress$Row;" } : Jvm.MethodName))), (81, (Jvm.Cond.privateMethod ({ cls := "DotPress$Reader", name := "longestAt", desc := "(ZI)LDotPress$Row;" } : Jvm.MethodName))), (82, (Jvm.Cond.instanceMethod ({ cls := "DotPress$Reader", name := "longestAt", desc := "(ZI)LDotPress$Row;" } : Jvm.MethodName))), (84, (Jvm.Cond.methodLink "DotPress$Reader" (147 : Nat) ({ cls := "DotPress$Reader", name := "rowsOf", desc := "(Z)Ljava/util/ArrayList;" } : Jvm.MethodName))), (85, (Jvm.Cond.instanceMethod ({ cls := "DotPress$Reader", name := "rowsOf", desc := "(Z)Ljava/util/ArrayList;" } : Jvm.MethodName))), (86, (Jvm.Cond.selects "DotPress$Reader" ({ cls := "DotPress$Reader", name := "rowsOf", desc := "(Z)Ljava/util/ArrayList;" } : Jvm.MethodName) ({ cls := "DotPress$Reader", name := "rowsOf", desc := "(Z)Ljava/util/ArrayList;" } : Jvm.MethodName))), (88, (Jvm.Cond.methodLink "DotPress$Reader" (151 : Nat) ({ cls := "java/lang/Math", name := "min", desc := "(II)I" } : Jvm.MethodName))), (89, (Jvm.Cond.methodLink "DotPress$Reader" (157 : Nat) ({ cls := "DotPress$Row", name := "standsAt", desc := "(LDotPress$Ints;I)Z" } : Jvm.MethodName))), (90, (Jvm.Cond.instanceMethod ({ cls := "DotPress$Row", name := "standsAt", desc := "(LDotPress$Ints;I)Z" } : Jvm.MethodName)))] := lwcdf (by decide +kernel)
def w5_78 := lw_in (mT5 wgr5_6.1) rfl
def w5_80 := lw_in (mT5 wgr5_6.2.1) rfl
def w5_82 := lw_in (mT5 wgr5_6.2.2.2.1) rfl
def w5_84 := lw_in (mT5 wgr5_6.2.2.2.2.1) rfl
def w5_85 := lw_in (mT5 wgr5_6.2.2.2.2.2.1) rfl
def w5_86 := lw_in (mT5 wgr5_6.2.2.2.2.2.2.1) rfl
def w5_88 := lw_in (mT5 wgr5_6.2.2.2.2.2.2.2.1) rfl
def w5_89 := lw_in (mT5 wgr5_6.2.2.2.2.2.2.2.2.1) rfl
def w5_90 := lw_in (mT5 wgr5_6.2.2.2.2.2.2.2.2.2.1) rfl
theorem wgr5_7 : lwcdp tables_1_5 [(91, (Jvm.Cond.selects "DotPress$Row" ({ cls := "DotPress$Row", name := "standsAt", desc := "(LDotPress$Ints;I)Z" } : Jvm.MethodName) ({ cls := "DotPress$Row", name := "standsAt", desc := "(LDotPress$Ints;I)Z" } : Jvm.MethodName))), (93, (Jvm.Cond.methodLink "DotPress$Reader" (130 : Nat) ({ cls := "DotPress$Row", name := "beginsSmall", desc := "()Z" } : Jvm.MethodName))), (94, (Jvm.Cond.instanceMethod ({ cls := "DotPress$Row", name := "beginsSmall", desc := "()Z" } : Jvm.MethodName))), (95, (Jvm.Cond.selects "DotPress$Row" ({ cls := "DotPress$Row", name := "beginsSmall", desc := "()Z" } : Jvm.MethodName) ({ cls := "DotPress$Row", name := "beginsSmall", desc := "()Z" } : Jvm.MethodName))), (97, (Jvm.Cond.methodLinkNest "DotPress$Row" (25 : Nat) ({ cls := "DotPress", name := "isSmall", desc := "(I)Z" } : Jvm.MethodName) "DotPress")), (98, (Jvm.Cond.static ({ cls := "DotPress", name := "isSmall", desc := "(I)Z" } : Jvm.MethodName))), (100, (Jvm.Cond.methodLink "DotPress$Reader" (137 : Nat) ({ cls := "DotPress$Row", name := "writeLetters", desc := "(LDotPress$Ints;Z)V" } : Jvm.MethodName))), (101, (Jvm.Cond.instanceMethod ({ cls := "DotPress$Row", name := "writeLetters", desc := "(LDotPress$Ints;Z)V" } : Jvm.MethodName))), (102, (Jvm.Cond.selects "DotPress$Row" ({ cls := "DotPress$Row", name := "writeLetters", desc := "(LDotPress$Ints;Z)V" } : Jvm.MethodName) ({ cls := "DotPress$Row", name := "writeLetters", desc := "(LDotPress$Ints;Z)V" } : Jvm.MethodName))), (104, (Jvm.Cond.methodLink "DotPress$Row" (47 : Nat) ({ cls := "DotPress$Ints", name := "add", desc := "(I)V" } : Jvm.MethodName)))] := lwcdf (by decide +kernel)
def w5_91 := lw_in (mT5 wgr5_7.1) rfl
def w5_93 := lw_in (mT5 wgr5_7.2.1) rfl
def w5_94 := lw_in (mT5 wgr5_7.2.2.1) rfl
def w5_95 := lw_in (mT5 wgr5_7.2.2.2.1) rfl
def w5_97t := mT5 wgr5_7.2.2.2.2.1
def w5_98 := lw_in (mT5 wgr5_7.2.2.2.2.2.1) rfl
def w5_100 := lw_in (mT5 wgr5_7.2.2.2.2.2.2.1) rfl
def w5_101 := lw_in (mT5 wgr5_7.2.2.2.2.2.2.2.1) rfl
def w5_102 := lw_in (mT5 wgr5_7.2.2.2.2.2.2.2.2.1) rfl
def w5_104 := lw_in (mT5 wgr5_7.2.2.2.2.2.2.2.2.2.1) rfl
theorem wgr5_8 : lwcdp tables_1_5 [(105, (Jvm.Cond.methodLink "DotPress$Reader" (141 : Nat) ({ cls := "java/lang/Math", name := "max", desc := "(II)I" } : Jvm.MethodName))), (106, (Jvm.Cond.methodLink "DotPress" (338 : Nat) ({ cls := "DotPress$Reader", name := "placeOfWrong", desc := "()I" } : Jvm.MethodName))), (107, (Jvm.Cond.instanceMethod ({ cls := "DotPress$Reader", name := "placeOfWrong", desc := "()I" } : Jvm.MethodName))), (108, (Jvm.Cond.selects "DotPress$Reader" ({ cls := "DotPress$Reader", name := "placeOfWrong", desc := "()I" } : Jvm.MethodName) ({ cls := "DotPress$Reader", name := "placeOfWrong", desc := "()I" } : Jvm.MethodName))), (110, (Jvm.Cond.methodLink "DotPressLaw" (122 : Nat) ({ cls := "DotPress", name := "letter", desc := "(I)I" } : Jvm.MethodName))), (111, (Jvm.Cond.instanceMethod ({ cls := "DotPress", name := "letter", desc := "(I)I" } : Jvm.MethodName))), (112, (Jvm.Cond.selects "DotPress" ({ cls := "DotPress", name := "letter", desc := "(I)I" } : Jvm.MethodName) ({ cls := "DotPress", name := "letter", desc := "(I)I" } : Jvm.MethodName))), (114, (Jvm.Cond.methodLink "DotPressLaw" (126 : Nat) ({ cls := "DotPress", name := "failed", desc := "(IZ)I" } : Jvm.MethodName))), (115, (Jvm.Cond.instanceMethod ({ cls := "DotPress", name := "failed", desc := "(IZ)I" } : Jvm.MethodName))), (116, (Jvm.Cond.selects "DotPress" ({ cls := "DotPress", name := "failed", desc := "(IZ)I" } : Jvm.MethodName) ({ cls := "DotPress", name := "failed", desc := "(IZ)I" } : Jvm.MethodName)))] := lwcdf (by decide +kernel)
def w5_105 := lw_in (mT5 wgr5_8.1) rfl
def w5_106 := lw_in (mT5 wgr5_8.2.1) rfl
def w5_107 := lw_in (mT5 wgr5_8.2.2.1) rfl
def w5_108 := lw_in (mT5 wgr5_8.2.2.2.1) rfl
def w5_110 := lw_in (mT5 wgr5_8.2.2.2.2.1) rfl
def w5_111 := lw_in (mT5 wgr5_8.2.2.2.2.2.1) rfl
def w5_112 := lw_in (mT5 wgr5_8.2.2.2.2.2.2.1) rfl
def w5_114 := lw_in (mT5 wgr5_8.2.2.2.2.2.2.2.1) rfl
def w5_115 := lw_in (mT5 wgr5_8.2.2.2.2.2.2.2.2.1) rfl
def w5_116 := lw_in (mT5 wgr5_8.2.2.2.2.2.2.2.2.2.1) rfl
theorem wgr5_9 : lwcdp tables_1_5 [(118, (Jvm.Cond.methodLink "DotPress" (351 : Nat) ({ cls := "java/lang/Integer", name := "bitCount", desc := "(I)I" } : Jvm.MethodName))), (119, (Jvm.Cond.methodLink "DotPressLaw" (131 : Nat) ({ cls := "DotPress", name := "readings", desc := "(III)I" } : Jvm.MethodName))), (120, (Jvm.Cond.instanceMethod ({ cls := "DotPress", name := "readings", desc := "(III)I" } : Jvm.MethodName))), (121, (Jvm.Cond.selects "DotPress" ({ cls := "DotPress", name := "readings", desc := "(III)I" } : Jvm.MethodName) ({ cls := "DotPress", name := "readings", desc := "(III)I" } : Jvm.MethodName))), (123, (Jvm.Cond.methodLink "DotPress" (356 : Nat) ({ cls := "DotPress$Readings", name := "collect", desc := "(LDotPress$Line;II)V" } : Jvm.MethodName))), (124, (Jvm.Cond.instanceMethod ({ cls := "DotPress$Readings", name := "collect", desc := "(LDotPress$Line;II)V" } : Jvm.MethodName))), (125, (Jvm.Cond.selects "DotPress$Readings" ({ cls := "DotPress$Readings", name := "collect", desc := "(LDotPress$Line;II)V" } : Jvm.MethodName) ({ cls := "DotPress$Readings", name := "collect", desc := "(LDotPress$Line;II)V" } : Jvm.MethodName))), (127, (Jvm.Cond.methodLink "DotPress$Readings" (63 : Nat) ({ cls := "java/lang/Math", name := "min", desc := "(II)I" } : Jvm.MethodName))), (128, (Jvm.Cond.methodLink "DotPress$Readings" (70 : Nat) ({ cls := "java/lang/System", name := "arraycopy", desc := "(Ljava/lang/Object;ILjava/lang/Object;II)V" } : Jvm.MethodName))), (129, (Jvm.Cond.methodLink "DotPress$Readings" (76 : Nat) ({ cls := "DotPress$Ints", name := "clear", desc := "()V" } : Jvm.MethodName)))] := lwcdf (by decide +kernel)
def w5_118 := lw_in (mT5 wgr5_9.1) rfl
def w5_119 := lw_in (mT5 wgr5_9.2.1) rfl
def w5_120 := lw_in (mT5 wgr5_9.2.2.1) rfl
def w5_121 := lw_in (mT5 wgr5_9.2.2.2.1) rfl
def w5_123 := lw_in (mT5 wgr5_9.2.2.2.2.1) rfl
def w5_124 := lw_in (mT5 wgr5_9.2.2.2.2.2.1) rfl
def w5_125 := lw_in (mT5 wgr5_9.2.2.2.2.2.2.1) rfl
def w5_127 := lw_in (mT5 wgr5_9.2.2.2.2.2.2.2.1) rfl
def w5_128 := lw_in (mT5 wgr5_9.2.2.2.2.2.2.2.2.1) rfl
def w5_129 := lw_in (mT5 wgr5_9.2.2.2.2.2.2.2.2.2.1) rfl
theorem wgr5_10 : lwcdp tables_1_5 [(130, (Jvm.Cond.methodLink "DotPress$Readings" (79 : Nat) ({ cls := "DotPress$Readings", name := "markEnds", desc := "()V" } : Jvm.MethodName))), (131, (Jvm.Cond.privateMethod ({ cls := "DotPress$Readings", name := "markEnds", desc := "()V" } : Jvm.MethodName))), (132, (Jvm.Cond.instanceMethod ({ cls := "DotPress$Readings", name := "markEnds", desc := "()V" } : Jvm.MethodName))), (134, (Jvm.Cond.methodLink "DotPress$Readings" (85 : Nat) ({ cls := "DotPress$Readings", name := "nextChoice", desc := "(II)I" } : Jvm.MethodName))), (135, (Jvm.Cond.privateMethod ({ cls := "DotPress$Readings", name := "nextChoice", desc := "(II)I" } : Jvm.MethodName))), (136, (Jvm.Cond.instanceMethod ({ cls := "DotPress$Readings", name := "nextChoice", desc := "(II)I" } : Jvm.MethodName))), (138, (Jvm.Cond.methodLink "DotPress$Readings" (95 : Nat) ({ cls := "DotPress$Reader", name := "rowsOf", desc := "(Z)Ljava/util/ArrayList;" } : Jvm.MethodName))), (139, (Jvm.Cond.methodLink "DotPress$Readings" (101 : Nat) ({ cls := "java/util/ArrayList", name := "size", desc := "()I" } : Jvm.MethodName))), (140, (Jvm.Cond.methodLink "DotPress$Readings" (92 : Nat) ({ cls := "DotPress$Readings", name := "nodeBehind", desc := "(II)I" } : Jvm.MethodName))), (141, (Jvm.Cond.privateMethod ({ cls := "DotPress$Readings", name := "nodeBehind", desc := "(II)I" } : Jvm.MethodName)))] := lwcdf (by decide +kernel)
def w5_130 := lw_in (mT5 wgr5_10.1) rfl
def w5_132 := lw_in (mT5 wgr5_10.2.2.1) rfl
def w5_134 := lw_in (mT5 wgr5_10.2.2.2.1) rfl
def w5_136 := lw_in (mT5 wgr5_10.2.2.2.2.2.1) rfl
def w5_138 := lw_in (mT5 wgr5_10.2.2.2.2.2.2.1) rfl
def w5_139 := lw_in (mT5 wgr5_10.2.2.2.2.2.2.2.1) rfl
def w5_140 := lw_in (mT5 wgr5_10.2.2.2.2.2.2.2.2.1) rfl
theorem wgr5_11 : lwcdp tables_1_5 [(142, (Jvm.Cond.instanceMethod ({ cls := "DotPress$Readings", name := "nodeBehind", desc := "(II)I" } : Jvm.MethodName))), (144, (Jvm.Cond.methodLink "DotPress$Readings" (106 : Nat) ({ cls := "DotPress$Readings", name := "looksLike", desc := "(II)Z" } : Jvm.MethodName))), (145, (Jvm.Cond.privateMethod ({ cls := "DotPress$Readings", name := "looksLike", desc := "(II)Z" } : Jvm.MethodName))), (146, (Jvm.Cond.instanceMethod ({ cls := "DotPress$Readings", name := "looksLike", desc := "(II)Z" } : Jvm.MethodName))), (148, (Jvm.Cond.methodLink "DotPress$Readings" (110 : Nat) ({ cls := "java/util/ArrayList", name := "get", desc := "(I)Ljava/lang/Object;" } : Jvm.MethodName))), (149, (Jvm.Cond.classLink "DotPress$Readings" (114 : Nat) "DotPress$Row")), (150, (Jvm.Cond.methodLink "DotPress$Readings" (116 : Nat) ({ cls := "DotPress$Readings", name := "looksLikeRow", desc := "(LDotPress$Row;I)Z" } : Jvm.MethodName))), (151, (Jvm.Cond.privateMethod ({ cls := "DotPress$Readings", name := "looksLikeRow", desc := "(LDotPress$Row;I)Z" } : Jvm.MethodName))), (152, (Jvm.Cond.instanceMethod ({ cls := "DotPress$Readings", name := "looksLikeRow", desc := "(LDotPress$Row;I)Z" } : Jvm.MethodName))), (154, (Jvm.Cond.methodLink "DotPress$Readings" (120 : Nat) ({ cls := "DotPress$Row", name := "beginsSmall", desc := "()Z" } : Jvm.MethodName)))] := lwcdf (by decide +kernel)
def w5_142 := lw_in (mT5 wgr5_11.1) rfl
def w5_144 := lw_in (mT5 wgr5_11.2.1) rfl
def w5_146 := lw_in (mT5 wgr5_11.2.2.2.1) rfl
def w5_148 := lw_in (mT5 wgr5_11.2.2.2.2.1) rfl
def w5_149 := lw_in (mT5 wgr5_11.2.2.2.2.2.1) rfl
def w5_150 := lw_in (mT5 wgr5_11.2.2.2.2.2.2.1) rfl
def w5_152 := lw_in (mT5 wgr5_11.2.2.2.2.2.2.2.2.1) rfl
def w5_154 := lw_in (mT5 wgr5_11.2.2.2.2.2.2.2.2.2.1) rfl
theorem wgr5_12 : lwcdp tables_1_5 [(155, (Jvm.Cond.methodLink "DotPress$Readings" (82 : Nat) ({ cls := "DotPress$Readings", name := "walk", desc := "(I)V" } : Jvm.MethodName))), (156, (Jvm.Cond.privateMethod ({ cls := "DotPress$Readings", name := "walk", desc := "(I)V" } : Jvm.MethodName))), (157, (Jvm.Cond.instanceMethod ({ cls := "DotPress$Readings", name := "walk", desc := "(I)V" } : Jvm.MethodName))), (159, (Jvm.Cond.constant "DotPress$Readings" (88 : Nat) (1000000 : Int32))), (160, (Jvm.Cond.methodLink "DotPress$Readings" (89 : Nat) ({ cls := "DotPress$Readings", name := "write", desc := "(I)V" } : Jvm.MethodName))), (161, (Jvm.Cond.privateMethod ({ cls := "DotPress$Readings", name := "write", desc := "(I)V" } : Jvm.MethodName))), (162, (Jvm.Cond.instanceMethod ({ cls := "DotPress$Readings", name := "write", desc := "(I)V" } : Jvm.MethodName))), (164, (Jvm.Cond.methodLink "DotPress$Readings" (128 : Nat) ({ cls := "DotPress$Ints", name := "add", desc := "(I)V" } : Jvm.MethodName))), (165, (Jvm.Cond.methodLink "DotPress$Readings" (131 : Nat) ({ cls := "DotPress$Row", name := "writeLetters", desc := "(LDotPress$Ints;Z)V" } : Jvm.MethodName))), (166, (Jvm.Cond.methodLink "DotPressLaw" (135 : Nat) ({ cls := "DotPress", name := "more", desc := "()I" } : Jvm.MethodName)))] := lwcdf (by decide +kernel)
def w5_155 := lw_in (mT5 wgr5_12.1) rfl
def w5_157 := lw_in (mT5 wgr5_12.2.2.1) rfl
def w5_159 := lw_in (mT5 wgr5_12.2.2.2.1) rfl
def w5_160 := lw_in (mT5 wgr5_12.2.2.2.2.1) rfl
def w5_162 := lw_in (mT5 wgr5_12.2.2.2.2.2.2.1) rfl
def w5_164 := lw_in (mT5 wgr5_12.2.2.2.2.2.2.2.1) rfl
def w5_165 := lw_in (mT5 wgr5_12.2.2.2.2.2.2.2.2.1) rfl
def w5_166 := lw_in (mT5 wgr5_12.2.2.2.2.2.2.2.2.2.1) rfl
theorem wgr5_13 : lwcdp tables_1_5 [(167, (Jvm.Cond.instanceMethod ({ cls := "DotPress", name := "more", desc := "()I" } : Jvm.MethodName))), (168, (Jvm.Cond.selects "DotPress" ({ cls := "DotPress", name := "more", desc := "()I" } : Jvm.MethodName) ({ cls := "DotPress", name := "more", desc := "()I" } : Jvm.MethodName))), (170, (Jvm.Cond.methodLink "DotPressLaw" (139 : Nat) ({ cls := "DotPress", name := "reading", desc := "(II)I" } : Jvm.MethodName))), (171, (Jvm.Cond.instanceMethod ({ cls := "DotPress", name := "reading", desc := "(II)I" } : Jvm.MethodName))), (172, (Jvm.Cond.selects "DotPress" ({ cls := "DotPress", name := "reading", desc := "(II)I" } : Jvm.MethodName) ({ cls := "DotPress", name := "reading", desc := "(II)I" } : Jvm.MethodName))), (174, (Jvm.Cond.methodLink "DotPress" (364 : Nat) ({ cls := "DotPress$Readings", name := "byteOf", desc := "(II)I" } : Jvm.MethodName))), (175, (Jvm.Cond.instanceMethod ({ cls := "DotPress$Readings", name := "byteOf", desc := "(II)I" } : Jvm.MethodName))), (176, (Jvm.Cond.selects "DotPress$Readings" ({ cls := "DotPress$Readings", name := "byteOf", desc := "(II)I" } : Jvm.MethodName) ({ cls := "DotPress$Readings", name := "byteOf", desc := "(II)I" } : Jvm.MethodName))), (178, (Jvm.Cond.methodLink "DotPress$Readings" (56 : Nat) ({ cls := "DotPress$Ints", name := "at", desc := "(I)I" } : Jvm.MethodName))), (179, (Jvm.Cond.methodLink "DotPressLaw" (143 : Nat) ({ cls := "DotPress", name := "judge", desc := "(I)I" } : Jvm.MethodName)))] := lwcdf (by decide +kernel)
def w5_167 := lw_in (mT5 wgr5_13.1) rfl
def w5_168 := lw_in (mT5 wgr5_13.2.1) rfl
def w5_170 := lw_in (mT5 wgr5_13.2.2.1) rfl
def w5_171 := lw_in (mT5 wgr5_13.2.2.2.1) rfl
def w5_172 := lw_in (mT5 wgr5_13.2.2.2.2.1) rfl
def w5_174 := lw_in (mT5 wgr5_13.2.2.2.2.2.1) rfl
def w5_175 := lw_in (mT5 wgr5_13.2.2.2.2.2.2.1) rfl
def w5_176 := lw_in (mT5 wgr5_13.2.2.2.2.2.2.2.1) rfl
def w5_178 := lw_in (mT5 wgr5_13.2.2.2.2.2.2.2.2.1) rfl
def w5_179 := lw_in (mT5 wgr5_13.2.2.2.2.2.2.2.2.2.1) rfl
theorem wgr5_14 : lwcdp tables_1_5 [(180, (Jvm.Cond.instanceMethod ({ cls := "DotPress", name := "judge", desc := "(I)I" } : Jvm.MethodName))), (181, (Jvm.Cond.selects "DotPress" ({ cls := "DotPress", name := "judge", desc := "(I)I" } : Jvm.MethodName) ({ cls := "DotPress", name := "judge", desc := "(I)I" } : Jvm.MethodName))), (183, (Jvm.Cond.methodLink "DotPress" (367 : Nat) ({ cls := "DotPress$Table", name := "hasShort", desc := "()Z" } : Jvm.MethodName))), (184, (Jvm.Cond.instanceMethod ({ cls := "DotPress$Table", name := "hasShort", desc := "()Z" } : Jvm.MethodName))), (185, (Jvm.Cond.selects "DotPress$Table" ({ cls := "DotPress$Table", name := "hasShort", desc := "()Z" } : Jvm.MethodName) ({ cls := "DotPress$Table", name := "hasShort", desc := "()Z" } : Jvm.MethodName))), (187, (Jvm.Cond.methodLink "DotPress$Table" (80 : Nat) ({ cls := "DotPress$Table", name := "isOverShort", desc := "(LDotPress$Table;)Z" } : Jvm.MethodName))), (188, (Jvm.Cond.static ({ cls := "DotPress$Table", name := "isOverShort", desc := "(LDotPress$Table;)Z" } : Jvm.MethodName))), (190, (Jvm.Cond.methodLink "DotPress" (373 : Nat) ({ cls := "DotPress$Reader", name := "isReadable", desc := "(Ljava/util/ArrayList;I)Z" } : Jvm.MethodName))), (191, (Jvm.Cond.static ({ cls := "DotPress$Reader", name := "isReadable", desc := "(Ljava/util/ArrayList;I)Z" } : Jvm.MethodName))), (193, (Jvm.Cond.methodLink "DotPress$Reader" (100 : Nat) ({ cls := "DotPress$Row", name := "endsWith", desc := "(I)Z" } : Jvm.MethodName)))] := lwcdf (by decide +kernel)
def w5_180 := lw_in (mT5 wgr5_14.1) rfl
def w5_181 := lw_in (mT5 wgr5_14.2.1) rfl
def w5_183 := lw_in (mT5 wgr5_14.2.2.1) rfl
def w5_184 := lw_in (mT5 wgr5_14.2.2.2.1) rfl
def w5_185 := lw_in (mT5 wgr5_14.2.2.2.2.1) rfl
def w5_187 := lw_in (mT5 wgr5_14.2.2.2.2.2.1) rfl
def w5_188 := lw_in (mT5 wgr5_14.2.2.2.2.2.2.1) rfl
def w5_190 := lw_in (mT5 wgr5_14.2.2.2.2.2.2.2.1) rfl
def w5_191 := lw_in (mT5 wgr5_14.2.2.2.2.2.2.2.2.1) rfl
def w5_193 := lw_in (mT5 wgr5_14.2.2.2.2.2.2.2.2.2.1) rfl
theorem wgr5_15 : lwcdp tables_1_5 [(194, (Jvm.Cond.instanceMethod ({ cls := "DotPress$Row", name := "endsWith", desc := "(I)Z" } : Jvm.MethodName))), (195, (Jvm.Cond.selects "DotPress$Row" ({ cls := "DotPress$Row", name := "endsWith", desc := "(I)Z" } : Jvm.MethodName) ({ cls := "DotPress$Row", name := "endsWith", desc := "(I)Z" } : Jvm.MethodName))), (197, (Jvm.Cond.methodLink "DotPress$Reader" (104 : Nat) ({ cls := "DotPress$Row", name := "isAtBeginOf", desc := "(LDotPress$Row;)Z" } : Jvm.MethodName))), (198, (Jvm.Cond.instanceMethod ({ cls := "DotPress$Row", name := "isAtBeginOf", desc := "(LDotPress$Row;)Z" } : Jvm.MethodName))), (199, (Jvm.Cond.selects "DotPress$Row" ({ cls := "DotPress$Row", name := "isAtBeginOf", desc := "(LDotPress$Row;)Z" } : Jvm.MethodName) ({ cls := "DotPress$Row", name := "isAtBeginOf", desc := "(LDotPress$Row;)Z" } : Jvm.MethodName))), (201, (Jvm.Cond.methodLink "DotPress$Row" (35 : Nat) ({ cls := "DotPress$Row", name := "alike", desc := "(LDotPress$Row;)I" } : Jvm.MethodName))), (202, (Jvm.Cond.instanceMethod ({ cls := "DotPress$Row", name := "alike", desc := "(LDotPress$Row;)I" } : Jvm.MethodName))), (203, (Jvm.Cond.selects "DotPress$Row" ({ cls := "DotPress$Row", name := "alike", desc := "(LDotPress$Row;)I" } : Jvm.MethodName) ({ cls := "DotPress$Row", name := "alike", desc := "(LDotPress$Row;)I" } : Jvm.MethodName))), (205, (Jvm.Cond.methodLink "DotPress$Row" (29 : Nat) ({ cls := "java/lang/Math", name := "min", desc := "(II)I" } : Jvm.MethodName))), (206, (Jvm.Cond.methodLink "DotPressLaw" (147 : Nat) ({ cls := "DotPress", name := "parts", desc := "(III)I" } : Jvm.MethodName)))] := lwcdf (by decide +kernel)
def w5_194 := lw_in (mT5 wgr5_15.1) rfl
def w5_195 := lw_in (mT5 wgr5_15.2.1) rfl
def w5_197 := lw_in (mT5 wgr5_15.2.2.1) rfl
def w5_198 := lw_in (mT5 wgr5_15.2.2.2.1) rfl
def w5_199 := lw_in (mT5 wgr5_15.2.2.2.2.1) rfl
def w5_201 := lw_in (mT5 wgr5_15.2.2.2.2.2.1) rfl
def w5_202 := lw_in (mT5 wgr5_15.2.2.2.2.2.2.1) rfl
def w5_203 := lw_in (mT5 wgr5_15.2.2.2.2.2.2.2.1) rfl
def w5_205 := lw_in (mT5 wgr5_15.2.2.2.2.2.2.2.2.1) rfl
def w5_206 := lw_in (mT5 wgr5_15.2.2.2.2.2.2.2.2.2.1) rfl
theorem wgr5_16 : lwcdp tables_1_5 [(207, (Jvm.Cond.instanceMethod ({ cls := "DotPress", name := "parts", desc := "(III)I" } : Jvm.MethodName))), (208, (Jvm.Cond.selects "DotPress" ({ cls := "DotPress", name := "parts", desc := "(III)I" } : Jvm.MethodName) ({ cls := "DotPress", name := "parts", desc := "(III)I" } : Jvm.MethodName))), (210, (Jvm.Cond.methodLink "DotPress" (380 : Nat) ({ cls := "DotPress$Row", name := "alike", desc := "(LDotPress$Row;)I" } : Jvm.MethodName))), (211, (Jvm.Cond.methodLink "DotPressLaw" (151 : Nat) ({ cls := "DotPress", name := "unreadable", desc := "(III)I" } : Jvm.MethodName))), (212, (Jvm.Cond.instanceMethod ({ cls := "DotPress", name := "unreadable", desc := "(III)I" } : Jvm.MethodName))), (213, (Jvm.Cond.selects "DotPress" ({ cls := "DotPress", name := "unreadable", desc := "(III)I" } : Jvm.MethodName) ({ cls := "DotPress", name := "unreadable", desc := "(III)I" } : Jvm.MethodName))), (215, (Jvm.Cond.methodLink "DotPress" (385 : Nat) ({ cls := "DotPress$Source", name := "gatherAlphabet", desc := "(LDotPress$Reader;Z)V" } : Jvm.MethodName))), (216, (Jvm.Cond.instanceMethod ({ cls := "DotPress$Source", name := "gatherAlphabet", desc := "(LDotPress$Reader;Z)V" } : Jvm.MethodName))), (217, (Jvm.Cond.selects "DotPress$Source" ({ cls := "DotPress$Source", name := "gatherAlphabet", desc := "(LDotPress$Reader;Z)V" } : Jvm.MethodName) ({ cls := "DotPress$Source", name := "gatherAlphabet", desc := "(LDotPress$Reader;Z)V" } : Jvm.MethodName))), (219, (Jvm.Cond.methodLink "DotPress$Source" (70 : Nat) ({ cls := "DotPress$Source", name := "markLetters", desc := "(Ljava/util/ArrayList;)V" } : Jvm.MethodName)))] := lwcdf (by decide +kernel)
def w5_207 := lw_in (mT5 wgr5_16.1) rfl
def w5_208 := lw_in (mT5 wgr5_16.2.1) rfl
def w5_210 := lw_in (mT5 wgr5_16.2.2.1) rfl
def w5_211 := lw_in (mT5 wgr5_16.2.2.2.1) rfl
def w5_212 := lw_in (mT5 wgr5_16.2.2.2.2.1) rfl
def w5_213 := lw_in (mT5 wgr5_16.2.2.2.2.2.1) rfl
def w5_215 := lw_in (mT5 wgr5_16.2.2.2.2.2.2.1) rfl
def w5_216 := lw_in (mT5 wgr5_16.2.2.2.2.2.2.2.1) rfl
def w5_217 := lw_in (mT5 wgr5_16.2.2.2.2.2.2.2.2.1) rfl
def w5_219 := lw_in (mT5 wgr5_16.2.2.2.2.2.2.2.2.2.1) rfl
theorem wgr5_17 : lwcdp tables_1_5 [(220, (Jvm.Cond.privateMethod ({ cls := "DotPress$Source", name := "markLetters", desc := "(Ljava/util/ArrayList;)V" } : Jvm.MethodName))), (221, (Jvm.Cond.instanceMethod ({ cls := "DotPress$Source", name := "markLetters", desc := "(Ljava/util/ArrayList;)V" } : Jvm.MethodName))), (223, (Jvm.Cond.methodLink "DotPress$Source" (77 : Nat) ({ cls := "java/util/ArrayList", name := "size", desc := "()I" } : Jvm.MethodName))), (224, (Jvm.Cond.methodLink "DotPress$Source" (82 : Nat) ({ cls := "java/util/ArrayList", name := "get", desc := "(I)Ljava/lang/Object;" } : Jvm.MethodName))), (225, (Jvm.Cond.classLink "DotPress$Source" (86 : Nat) "DotPress$Row")), (226, (Jvm.Cond.methodLink "DotPress" (389 : Nat) ({ cls := "DotPress$Source", name := "startSpelling", desc := "(I)Z" } : Jvm.MethodName))), (227, (Jvm.Cond.instanceMethod ({ cls := "DotPress$Source", name := "startSpelling", desc := "(I)Z" } : Jvm.MethodName))), (228, (Jvm.Cond.selects "DotPress$Source" ({ cls := "DotPress$Source", name := "startSpelling", desc := "(I)Z" } : Jvm.MethodName) ({ cls := "DotPress$Source", name := "startSpelling", desc := "(I)Z" } : Jvm.MethodName))), (230, (Jvm.Cond.methodLink "DotPress$Source" (91 : Nat) ({ cls := "DotPress$Source", name := "lengthen", desc := "(I)Z" } : Jvm.MethodName))), (231, (Jvm.Cond.privateMethod ({ cls := "DotPress$Source", name := "lengthen", desc := "(I)Z" } : Jvm.MethodName)))] := lwcdf (by decide +kernel)
def w5_221 := lw_in (mT5 wgr5_17.2.1) rfl
def w5_223 := lw_in (mT5 wgr5_17.2.2.1) rfl
def w5_224 := lw_in (mT5 wgr5_17.2.2.2.1) rfl
def w5_225 := lw_in (mT5 wgr5_17.2.2.2.2.1) rfl
def w5_226 := lw_in (mT5 wgr5_17.2.2.2.2.2.1) rfl
def w5_227 := lw_in (mT5 wgr5_17.2.2.2.2.2.2.1) rfl
def w5_228 := lw_in (mT5 wgr5_17.2.2.2.2.2.2.2.1) rfl
def w5_230 := lw_in (mT5 wgr5_17.2.2.2.2.2.2.2.2.1) rfl
theorem wgr5_18 : lwcdp tables_1_5 [(232, (Jvm.Cond.instanceMethod ({ cls := "DotPress$Source", name := "lengthen", desc := "(I)Z" } : Jvm.MethodName))), (234, (Jvm.Cond.methodLink "DotPress$Source" (95 : Nat) ({ cls := "java/util/Arrays", name := "fill", desc := "([II)V" } : Jvm.MethodName))), (235, (Jvm.Cond.static ({ cls := "java/util/Arrays", name := "fill", desc := "([II)V" } : Jvm.MethodName))), (237, (Jvm.Cond.methodLink "DotPress" (392 : Nat) ({ cls := "DotPress$Source", name := "spell", desc := "(LDotPress$Setting;)V" } : Jvm.MethodName))), (238, (Jvm.Cond.instanceMethod ({ cls := "DotPress$Source", name := "spell", desc := "(LDotPress$Setting;)V" } : Jvm.MethodName))), (239, (Jvm.Cond.selects "DotPress$Source" ({ cls := "DotPress$Source", name := "spell", desc := "(LDotPress$Setting;)V" } : Jvm.MethodName) ({ cls := "DotPress$Source", name := "spell", desc := "(LDotPress$Setting;)V" } : Jvm.MethodName)))] := lwcdf (by decide +kernel)
def w5_232 := lw_in (mT5 wgr5_18.1) rfl
def w5_234 := lw_in (mT5 wgr5_18.2.1) rfl
def w5_235 := lw_in (mT5 wgr5_18.2.2.1) rfl
def w5_237 := lw_in (mT5 wgr5_18.2.2.2.1) rfl
def w5_238 := lw_in (mT5 wgr5_18.2.2.2.2.1) rfl
def w5_239 := lw_in (mT5 wgr5_18.2.2.2.2.2.1) rfl
theorem wgr6_0 : lwcdp tables_1_6 [(1, (Jvm.Cond.methodLink "DotPress" (396 : Nat) ({ cls := "DotPress", name := "isReadBack", desc := "()Z" } : Jvm.MethodName))), (2, (Jvm.Cond.privateMethod ({ cls := "DotPress", name := "isReadBack", desc := "()Z" } : Jvm.MethodName))), (3, (Jvm.Cond.instanceMethod ({ cls := "DotPress", name := "isReadBack", desc := "()Z" } : Jvm.MethodName))), (5, (Jvm.Cond.methodLink "DotPress" (406 : Nat) ({ cls := "DotPress$Reader", name := "addCell", desc := "(II)V" } : Jvm.MethodName))), (6, (Jvm.Cond.methodLink "DotPress" (409 : Nat) ({ cls := "DotPress$Setting", name := "hasLetters", desc := "(LDotPress$Ints;)Z" } : Jvm.MethodName))), (7, (Jvm.Cond.instanceMethod ({ cls := "DotPress$Setting", name := "hasLetters", desc := "(LDotPress$Ints;)Z" } : Jvm.MethodName))), (8, (Jvm.Cond.selects "DotPress$Setting" ({ cls := "DotPress$Setting", name := "hasLetters", desc := "(LDotPress$Ints;)Z" } : Jvm.MethodName) ({ cls := "DotPress$Setting", name := "hasLetters", desc := "(LDotPress$Ints;)Z" } : Jvm.MethodName))), (10, (Jvm.Cond.methodLink "DotPress$Setting" (54 : Nat) ({ cls := "DotPress$Ints", name := "at", desc := "(I)I" } : Jvm.MethodName))), (11, (Jvm.Cond.methodLink "DotPress" (399 : Nat) ({ cls := "DotPress$Setting", name := "writeLetters", desc := "(LDotPress$Ints;)V" } : Jvm.MethodName))), (12, (Jvm.Cond.instanceMethod ({ cls := "DotPress$Setting", name := "writeLetters", desc := "(LDotPress$Ints;)V" } : Jvm.MethodName)))] := lwcdf (by decide +kernel)
def w6_1 := lw_in (mT6 wgr6_0.1) rfl
def w6_3 := lw_in (mT6 wgr6_0.2.2.1) rfl
def w6_5 := lw_in (mT6 wgr6_0.2.2.2.1) rfl
def w6_6 := lw_in (mT6 wgr6_0.2.2.2.2.1) rfl
def w6_7 := lw_in (mT6 wgr6_0.2.2.2.2.2.1) rfl
def w6_8 := lw_in (mT6 wgr6_0.2.2.2.2.2.2.1) rfl
def w6_10 := lw_in (mT6 wgr6_0.2.2.2.2.2.2.2.1) rfl
def w6_11 := lw_in (mT6 wgr6_0.2.2.2.2.2.2.2.2.1) rfl
def w6_12 := lw_in (mT6 wgr6_0.2.2.2.2.2.2.2.2.2.1) rfl
theorem wgr6_1 : lwcdp tables_1_6 [(13, (Jvm.Cond.selects "DotPress$Setting" ({ cls := "DotPress$Setting", name := "writeLetters", desc := "(LDotPress$Ints;)V" } : Jvm.MethodName) ({ cls := "DotPress$Setting", name := "writeLetters", desc := "(LDotPress$Ints;)V" } : Jvm.MethodName))), (15, (Jvm.Cond.methodLink "DotPress$Setting" (58 : Nat) ({ cls := "DotPress$Ints", name := "add", desc := "(I)V" } : Jvm.MethodName))), (16, (Jvm.Cond.methodLink "DotPress" (403 : Nat) ({ cls := "DotPress$Source", name := "spellNext", desc := "(I)Z" } : Jvm.MethodName))), (17, (Jvm.Cond.instanceMethod ({ cls := "DotPress$Source", name := "spellNext", desc := "(I)Z" } : Jvm.MethodName))), (18, (Jvm.Cond.selects "DotPress$Source" ({ cls := "DotPress$Source", name := "spellNext", desc := "(I)Z" } : Jvm.MethodName) ({ cls := "DotPress$Source", name := "spellNext", desc := "(I)Z" } : Jvm.MethodName))), (20, (Jvm.Cond.methodLink "DotPressLaw" (155 : Nat) ({ cls := "DotPress", name := "saved", desc := "(II)I" } : Jvm.MethodName))), (21, (Jvm.Cond.instanceMethod ({ cls := "DotPress", name := "saved", desc := "(II)I" } : Jvm.MethodName))), (22, (Jvm.Cond.selects "DotPress" ({ cls := "DotPress", name := "saved", desc := "(II)I" } : Jvm.MethodName) ({ cls := "DotPress", name := "saved", desc := "(II)I" } : Jvm.MethodName))), (24, (Jvm.Cond.methodLink "DotPressLaw" (159 : Nat) ({ cls := "DotPress", name := "place", desc := "()I" } : Jvm.MethodName))), (25, (Jvm.Cond.instanceMethod ({ cls := "DotPress", name := "place", desc := "()I" } : Jvm.MethodName)))] := lwcdf (by decide +kernel)
def w6_13 := lw_in (mT6 wgr6_1.1) rfl
def w6_15 := lw_in (mT6 wgr6_1.2.1) rfl
def w6_16 := lw_in (mT6 wgr6_1.2.2.1) rfl
def w6_17 := lw_in (mT6 wgr6_1.2.2.2.1) rfl
def w6_18 := lw_in (mT6 wgr6_1.2.2.2.2.1) rfl
def w6_20 := lw_in (mT6 wgr6_1.2.2.2.2.2.1) rfl
def w6_21 := lw_in (mT6 wgr6_1.2.2.2.2.2.2.1) rfl
def w6_22 := lw_in (mT6 wgr6_1.2.2.2.2.2.2.2.1) rfl
def w6_24 := lw_in (mT6 wgr6_1.2.2.2.2.2.2.2.2.1) rfl
def w6_25 := lw_in (mT6 wgr6_1.2.2.2.2.2.2.2.2.2.1) rfl
theorem wgr6_2 : lwcdp tables_1_6 [(26, (Jvm.Cond.selects "DotPress" ({ cls := "DotPress", name := "place", desc := "()I" } : Jvm.MethodName) ({ cls := "DotPress", name := "place", desc := "()I" } : Jvm.MethodName))), (28, (Jvm.Cond.methodLink "DotPressLaw" (163 : Nat) ({ cls := "DotPress", name := "finds", desc := "(I)I" } : Jvm.MethodName))), (29, (Jvm.Cond.instanceMethod ({ cls := "DotPress", name := "finds", desc := "(I)I" } : Jvm.MethodName))), (30, (Jvm.Cond.selects "DotPress" ({ cls := "DotPress", name := "finds", desc := "(I)I" } : Jvm.MethodName) ({ cls := "DotPress", name := "finds", desc := "(I)I" } : Jvm.MethodName))), (32, (Jvm.Cond.methodLink "DotPress" (413 : Nat) ({ cls := "DotPress$Setting", name := "findsOf", desc := "(I)I" } : Jvm.MethodName))), (33, (Jvm.Cond.instanceMethod ({ cls := "DotPress$Setting", name := "findsOf", desc := "(I)I" } : Jvm.MethodName))), (34, (Jvm.Cond.selects "DotPress$Setting" ({ cls := "DotPress$Setting", name := "findsOf", desc := "(I)I" } : Jvm.MethodName) ({ cls := "DotPress$Setting", name := "findsOf", desc := "(I)I" } : Jvm.MethodName))), (36, (Jvm.Cond.methodLink "DotPressLaw" (167 : Nat) ({ cls := "DotPress", name := "status", desc := "()I" } : Jvm.MethodName))), (37, (Jvm.Cond.instanceMethod ({ cls := "DotPress", name := "status", desc := "()I" } : Jvm.MethodName))), (38, (Jvm.Cond.selects "DotPress" ({ cls := "DotPress", name := "status", desc := "()I" } : Jvm.MethodName) ({ cls := "DotPress", name := "status", desc := "()I" } : Jvm.MethodName)))] := lwcdf (by decide +kernel)
def w6_26 := lw_in (mT6 wgr6_2.1) rfl
def w6_28 := lw_in (mT6 wgr6_2.2.1) rfl
def w6_29 := lw_in (mT6 wgr6_2.2.2.1) rfl
def w6_30 := lw_in (mT6 wgr6_2.2.2.2.1) rfl
def w6_32 := lw_in (mT6 wgr6_2.2.2.2.2.1) rfl
def w6_33 := lw_in (mT6 wgr6_2.2.2.2.2.2.1) rfl
def w6_34 := lw_in (mT6 wgr6_2.2.2.2.2.2.2.1) rfl
def w6_36 := lw_in (mT6 wgr6_2.2.2.2.2.2.2.2.1) rfl
def w6_37 := lw_in (mT6 wgr6_2.2.2.2.2.2.2.2.2.1) rfl
def w6_38 := lw_in (mT6 wgr6_2.2.2.2.2.2.2.2.2.2.1) rfl
theorem wgr6_3 : lwcdp tables_1_6 [(40, (Jvm.Cond.methodLink "DotPressLaw" (171 : Nat) ({ cls := "DotPress", name := "digest", desc := "()I" } : Jvm.MethodName))), (41, (Jvm.Cond.instanceMethod ({ cls := "DotPress", name := "digest", desc := "()I" } : Jvm.MethodName))), (42, (Jvm.Cond.selects "DotPress" ({ cls := "DotPress", name := "digest", desc := "()I" } : Jvm.MethodName) ({ cls := "DotPress", name := "digest", desc := "()I" } : Jvm.MethodName))), (44, (Jvm.Cond.methodLink "DotPress" (416 : Nat) ({ cls := "DotPress$Sheet", name := "goOver", desc := "(I)I" } : Jvm.MethodName))), (45, (Jvm.Cond.instanceMethod ({ cls := "DotPress$Sheet", name := "goOver", desc := "(I)I" } : Jvm.MethodName))), (46, (Jvm.Cond.selects "DotPress$Sheet" ({ cls := "DotPress$Sheet", name := "goOver", desc := "(I)I" } : Jvm.MethodName) ({ cls := "DotPress$Sheet", name := "goOver", desc := "(I)I" } : Jvm.MethodName))), (48, (Jvm.Cond.methodLink "DotPress$Sheet" (61 : Nat) ({ cls := "DotPress$Sheet", name := "present", desc := "(I)LDotPress$Line;" } : Jvm.MethodName))), (49, (Jvm.Cond.classLink "DotPressLaw" (10 : Nat) "DotPressModel")), (50, (Jvm.Cond.instantiable "DotPressModel" (67 : Nat))), (51, (Jvm.Cond.methodLink "DotPressLaw" (12 : Nat) ({ cls := "DotPressModel", name := "<init>", desc := "()V" } : Jvm.MethodName)))] := lwcdf (by decide +kernel)
def w6_40 := lw_in (mT6 wgr6_3.1) rfl
def w6_41 := lw_in (mT6 wgr6_3.2.1) rfl
def w6_42 := lw_in (mT6 wgr6_3.2.2.1) rfl
def w6_44 := lw_in (mT6 wgr6_3.2.2.2.1) rfl
def w6_45 := lw_in (mT6 wgr6_3.2.2.2.2.1) rfl
def w6_46 := lw_in (mT6 wgr6_3.2.2.2.2.2.1) rfl
def w6_48 := lw_in (mT6 wgr6_3.2.2.2.2.2.2.1) rfl
def w6_49 := lw_in (mT6 wgr6_3.2.2.2.2.2.2.2.1) rfl
def w6_50 := lw_in (mT6 wgr6_3.2.2.2.2.2.2.2.2.1) rfl
def w6_51 := lw_in (mT6 wgr6_3.2.2.2.2.2.2.2.2.2.1) rfl
theorem wgr6_4 : lwcdp tables_1_6 [(52, (Jvm.Cond.instanceMethod ({ cls := "DotPressModel", name := "<init>", desc := "()V" } : Jvm.MethodName))), (54, (Jvm.Cond.methodLink "DotPressModel" (3 : Nat) ({ cls := "java/lang/Object", name := "<init>", desc := "()V" } : Jvm.MethodName))), (55, (Jvm.Cond.constant "DotPressModel" (45 : Nat) (48000 : Int32))), (56, (Jvm.Cond.constant "DotPressModel" (94 : Nat) (40000 : Int32))), (57, (Jvm.Cond.constant "DotPressModel" (119 : Nat) (40200 : Int32))), (58, (Jvm.Cond.constant "DotPressModel" (135 : Nat) (40400 : Int32))), (59, (Jvm.Cond.fieldLink "DotPressModel" (148 : Nat) "DotPressModel" "status" "I")), (60, (Jvm.Cond.fieldLink "DotPressModel" (9 : Nat) "DotPressModel" "place" "I")), (61, (Jvm.Cond.fieldLink "DotPressModel" (13 : Nat) "DotPressModel" "tape" "[I")), (62, (Jvm.Cond.fieldLink "DotPressModel" (151 : Nat) "DotPressModel" "taped" "I"))] := lwcdf (by decide +kernel)
def w6_52 := lw_in (mT6 wgr6_4.1) rfl
def w6_54 := lw_in (mT6 wgr6_4.2.1) rfl
def w6_55 := lw_in (mT6 wgr6_4.2.2.1) rfl
def w6_56 := lw_in (mT6 wgr6_4.2.2.2.1) rfl
def w6_57 := lw_in (mT6 wgr6_4.2.2.2.2.1) rfl
def w6_58 := lw_in (mT6 wgr6_4.2.2.2.2.2.1) rfl
def w6_59 := lw_in (mT6 wgr6_4.2.2.2.2.2.2.1) rfl
def w6_60 := lw_in (mT6 wgr6_4.2.2.2.2.2.2.2.1) rfl
def w6_61 := lw_in (mT6 wgr6_4.2.2.2.2.2.2.2.2.1) rfl
def w6_62 := lw_in (mT6 wgr6_4.2.2.2.2.2.2.2.2.2.1) rfl
theorem wgr6_5 : lwcdp tables_1_6 [(63, (Jvm.Cond.fieldLink "DotPressModel" (164 : Nat) "DotPressModel" "tables" "I")), (64, (Jvm.Cond.fieldLink "DotPressModel" (17 : Nat) "DotPressModel" "isThere" "[Z")), (65, (Jvm.Cond.fieldLink "DotPressModel" (21 : Nat) "DotPressModel" "kind" "[I")), (66, (Jvm.Cond.fieldLink "DotPressModel" (24 : Nat) "DotPressModel" "dots" "[I")), (67, (Jvm.Cond.fieldLink "DotPressModel" (27 : Nat) "DotPressModel" "base" "[I")), (68, (Jvm.Cond.fieldLink "DotPressModel" (30 : Nat) "DotPressModel" "second" "[I")), (69, (Jvm.Cond.fieldLink "DotPressModel" (33 : Nat) "DotPressModel" "ruleMany" "[I")), (70, (Jvm.Cond.fieldLink "DotPressModel" (36 : Nat) "DotPressModel" "conditions" "[I")), (71, (Jvm.Cond.fieldLink "DotPressModel" (39 : Nat) "DotPressModel" "letterMany" "[I")), (72, (Jvm.Cond.fieldLink "DotPressModel" (42 : Nat) "DotPressModel" "cellMany" "[I"))] := lwcdf (by decide +kernel)
def w6_63 := lw_in (mT6 wgr6_5.1) rfl
def w6_64 := lw_in (mT6 wgr6_5.2.1) rfl
def w6_65 := lw_in (mT6 wgr6_5.2.2.1) rfl
def w6_66 := lw_in (mT6 wgr6_5.2.2.2.1) rfl
def w6_67 := lw_in (mT6 wgr6_5.2.2.2.2.1) rfl
def w6_68 := lw_in (mT6 wgr6_5.2.2.2.2.2.1) rfl
def w6_69 := lw_in (mT6 wgr6_5.2.2.2.2.2.2.1) rfl
def w6_70 := lw_in (mT6 wgr6_5.2.2.2.2.2.2.2.1) rfl
def w6_71 := lw_in (mT6 wgr6_5.2.2.2.2.2.2.2.2.1) rfl
def w6_72 := lw_in (mT6 wgr6_5.2.2.2.2.2.2.2.2.2.1) rfl
theorem wgr6_6 : lwcdp tables_1_6 [(73, (Jvm.Cond.fieldLink "DotPressModel" (46 : Nat) "DotPressModel" "letters" "[I")), (74, (Jvm.Cond.fieldLink "DotPressModel" (49 : Nat) "DotPressModel" "cells" "[I")), (75, (Jvm.Cond.fieldLink "DotPressModel" (52 : Nat) "DotPressModel" "indicatorMany" "[I")), (76, (Jvm.Cond.fieldLink "DotPressModel" (55 : Nat) "DotPressModel" "indicatorCells" "[I")), (77, (Jvm.Cond.fieldLink "DotPressModel" (58 : Nat) "DotPressModel" "steps" "[I")), (78, (Jvm.Cond.fieldLink "DotPressModel" (161 : Nat) "DotPressModel" "stepMany" "I")), (79, (Jvm.Cond.fieldLink "DotPressModel" (61 : Nat) "DotPressModel" "word" "[I")), (80, (Jvm.Cond.fieldLink "DotPressModel" (64 : Nat) "DotPressModel" "wordPlace" "[I")), (81, (Jvm.Cond.fieldLink "DotPressModel" (67 : Nat) "DotPressModel" "mayBreak" "[Z")), (82, (Jvm.Cond.fieldLink "DotPressModel" (234 : Nat) "DotPressModel" "wordLong" "I"))] := lwcdf (by decide +kernel)
def w6_73 := lw_in (mT6 wgr6_6.1) rfl
def w6_74 := lw_in (mT6 wgr6_6.2.1) rfl
def w6_75 := lw_in (mT6 wgr6_6.2.2.1) rfl
def w6_76 := lw_in (mT6 wgr6_6.2.2.2.1) rfl
def w6_77 := lw_in (mT6 wgr6_6.2.2.2.2.1) rfl
def w6_78 := lw_in (mT6 wgr6_6.2.2.2.2.2.1) rfl
def w6_79 := lw_in (mT6 wgr6_6.2.2.2.2.2.2.1) rfl
def w6_80 := lw_in (mT6 wgr6_6.2.2.2.2.2.2.2.1) rfl
def w6_81 := lw_in (mT6 wgr6_6.2.2.2.2.2.2.2.2.1) rfl
def w6_82 := lw_in (mT6 wgr6_6.2.2.2.2.2.2.2.2.2.1) rfl
theorem wgr6_7 : lwcdp tables_1_6 [(83, (Jvm.Cond.fieldLink "DotPressModel" (70 : Nat) "DotPressModel" "made" "[I")), (84, (Jvm.Cond.fieldLink "DotPressModel" (224 : Nat) "DotPressModel" "madeMany" "I")), (85, (Jvm.Cond.fieldLink "DotPressModel" (73 : Nat) "DotPressModel" "begins" "[I")), (86, (Jvm.Cond.fieldLink "DotPressModel" (76 : Nat) "DotPressModel" "finds" "[I")), (87, (Jvm.Cond.fieldLink "DotPressModel" (231 : Nat) "DotPressModel" "unknown" "I")), (88, (Jvm.Cond.fieldLink "DotPressModel" (79 : Nat) "DotPressModel" "text" "[I")), (89, (Jvm.Cond.fieldLink "DotPressModel" (243 : Nat) "DotPressModel" "textLong" "I")), (90, (Jvm.Cond.fieldLink "DotPressModel" (82 : Nat) "DotPressModel" "width" "I")), (91, (Jvm.Cond.fieldLink "DotPressModel" (85 : Nat) "DotPressModel" "height" "I")), (92, (Jvm.Cond.fieldLink "DotPressModel" (88 : Nat) "DotPressModel" "hyphen" "I"))] := lwcdf (by decide +kernel)
def w6_83 := lw_in (mT6 wgr6_7.1) rfl
def w6_84 := lw_in (mT6 wgr6_7.2.1) rfl
def w6_85 := lw_in (mT6 wgr6_7.2.2.1) rfl
def w6_86 := lw_in (mT6 wgr6_7.2.2.2.1) rfl
def w6_87 := lw_in (mT6 wgr6_7.2.2.2.2.1) rfl
def w6_88 := lw_in (mT6 wgr6_7.2.2.2.2.2.1) rfl
def w6_89 := lw_in (mT6 wgr6_7.2.2.2.2.2.2.1) rfl
def w6_90 := lw_in (mT6 wgr6_7.2.2.2.2.2.2.2.1) rfl
def w6_91 := lw_in (mT6 wgr6_7.2.2.2.2.2.2.2.2.1) rfl
def w6_92 := lw_in (mT6 wgr6_7.2.2.2.2.2.2.2.2.2.1) rfl
theorem wgr6_8 : lwcdp tables_1_6 [(93, (Jvm.Cond.fieldLink "DotPressModel" (91 : Nat) "DotPressModel" "long0" "[I")), (94, (Jvm.Cond.fieldLink "DotPressModel" (95 : Nat) "DotPressModel" "lineCells" "[I")), (95, (Jvm.Cond.fieldLink "DotPressModel" (279 : Nat) "DotPressModel" "lines" "I")), (96, (Jvm.Cond.fieldLink "DotPressModel" (98 : Nat) "DotPressModel" "newLong" "[I")), (97, (Jvm.Cond.fieldLink "DotPressModel" (101 : Nat) "DotPressModel" "newCells" "[I")), (98, (Jvm.Cond.fieldLink "DotPressModel" (246 : Nat) "DotPressModel" "newMany" "I")), (99, (Jvm.Cond.fieldLink "DotPressModel" (104 : Nat) "DotPressModel" "head" "[I")), (100, (Jvm.Cond.fieldLink "DotPressModel" (285 : Nat) "DotPressModel" "headMany" "I")), (101, (Jvm.Cond.fieldLink "DotPressModel" (303 : Nat) "DotPressModel" "copied" "I")), (102, (Jvm.Cond.fieldLink "DotPressModel" (306 : Nat) "DotPressModel" "closed" "I"))] := lwcdf (by decide +kernel)
def w6_93 := lw_in (mT6 wgr6_8.1) rfl
def w6_94 := lw_in (mT6 wgr6_8.2.1) rfl
def w6_95 := lw_in (mT6 wgr6_8.2.2.1) rfl
def w6_96 := lw_in (mT6 wgr6_8.2.2.2.1) rfl
def w6_97 := lw_in (mT6 wgr6_8.2.2.2.2.1) rfl
def w6_98 := lw_in (mT6 wgr6_8.2.2.2.2.2.1) rfl
def w6_99 := lw_in (mT6 wgr6_8.2.2.2.2.2.2.1) rfl
def w6_100 := lw_in (mT6 wgr6_8.2.2.2.2.2.2.2.1) rfl
def w6_101 := lw_in (mT6 wgr6_8.2.2.2.2.2.2.2.2.1) rfl
def w6_102 := lw_in (mT6 wgr6_8.2.2.2.2.2.2.2.2.2.1) rfl
theorem wgr6_9 : lwcdp tables_1_6 [(103, (Jvm.Cond.fieldLink "DotPressModel" (107 : Nat) "DotPressModel" "rowIs" "[I")), (104, (Jvm.Cond.fieldLink "DotPressModel" (110 : Nat) "DotPressModel" "rowAt" "[I")), (105, (Jvm.Cond.fieldLink "DotPressModel" (113 : Nat) "DotPressModel" "rowLong" "[I")), (106, (Jvm.Cond.fieldLink "DotPressModel" (116 : Nat) "DotPressModel" "rowMany" "[I")), (107, (Jvm.Cond.fieldLink "DotPressModel" (120 : Nat) "DotPressModel" "row" "[I")), (108, (Jvm.Cond.fieldLink "DotPressModel" (123 : Nat) "DotPressModel" "rowPlace" "[I")), (109, (Jvm.Cond.fieldLink "DotPressModel" (333 : Nat) "DotPressModel" "rowEnd" "I")), (110, (Jvm.Cond.fieldLink "DotPressModel" (126 : Nat) "DotPressModel" "out" "[I")), (111, (Jvm.Cond.fieldLink "DotPressModel" (330 : Nat) "DotPressModel" "outs" "I")), (112, (Jvm.Cond.fieldLink "DotPressModel" (345 : Nat) "DotPressModel" "wrongAt" "I"))] := lwcdf (by decide +kernel)
def w6_103 := lw_in (mT6 wgr6_9.1) rfl
def w6_104 := lw_in (mT6 wgr6_9.2.1) rfl
def w6_105 := lw_in (mT6 wgr6_9.2.2.1) rfl
def w6_106 := lw_in (mT6 wgr6_9.2.2.2.1) rfl
def w6_107 := lw_in (mT6 wgr6_9.2.2.2.2.1) rfl
def w6_108 := lw_in (mT6 wgr6_9.2.2.2.2.2.1) rfl
def w6_109 := lw_in (mT6 wgr6_9.2.2.2.2.2.2.1) rfl
def w6_110 := lw_in (mT6 wgr6_9.2.2.2.2.2.2.2.1) rfl
def w6_111 := lw_in (mT6 wgr6_9.2.2.2.2.2.2.2.2.1) rfl
def w6_112 := lw_in (mT6 wgr6_9.2.2.2.2.2.2.2.2.2.1) rfl
theorem wgr6_10 : lwcdp tables_1_6 [(113, (Jvm.Cond.fieldLink "DotPressModel" (129 : Nat) "DotPressModel" "was" "[I")), (114, (Jvm.Cond.fieldLink "DotPressModel" (419 : Nat) "DotPressModel" "wasMany" "I")), (115, (Jvm.Cond.fieldLink "DotPressModel" (360 : Nat) "DotPressModel" "failed" "I")), (116, (Jvm.Cond.fieldLink "DotPressModel" (132 : Nat) "DotPressModel" "can" "[Z")), (117, (Jvm.Cond.fieldLink "DotPressModel" (136 : Nat) "DotPressModel" "kept" "[I")), (118, (Jvm.Cond.fieldLink "DotPressModel" (139 : Nat) "DotPressModel" "keptLong" "[I")), (119, (Jvm.Cond.fieldLink "DotPressModel" (395 : Nat) "DotPressModel" "keptMany" "I")), (120, (Jvm.Cond.fieldLink "DotPressModel" (382 : Nat) "DotPressModel" "more" "I")), (121, (Jvm.Cond.fieldLink "DotPressModel" (142 : Nat) "DotPressModel" "now" "[I")), (122, (Jvm.Cond.fieldLink "DotPressModel" (388 : Nat) "DotPressModel" "nowLong" "I"))] := lwcdf (by decide +kernel)
def w6_113 := lw_in (mT6 wgr6_10.1) rfl
def w6_114 := lw_in (mT6 wgr6_10.2.1) rfl
def w6_115 := lw_in (mT6 wgr6_10.2.2.1) rfl
def w6_116 := lw_in (mT6 wgr6_10.2.2.2.1) rfl
def w6_117 := lw_in (mT6 wgr6_10.2.2.2.2.1) rfl
def w6_118 := lw_in (mT6 wgr6_10.2.2.2.2.2.1) rfl
def w6_119 := lw_in (mT6 wgr6_10.2.2.2.2.2.2.1) rfl
def w6_120 := lw_in (mT6 wgr6_10.2.2.2.2.2.2.2.1) rfl
def w6_121 := lw_in (mT6 wgr6_10.2.2.2.2.2.2.2.2.1) rfl
def w6_122 := lw_in (mT6 wgr6_10.2.2.2.2.2.2.2.2.2.1) rfl
theorem wgr6_11 : lwcdp tables_1_6 [(123, (Jvm.Cond.fieldLink "DotPressModel" (398 : Nat) "DotPressModel" "wanted" "I")), (124, (Jvm.Cond.fieldLink "DotPressModel" (145 : Nat) "DotPressModel" "signs" "[I")), (125, (Jvm.Cond.fieldLink "DotPressModel" (413 : Nat) "DotPressModel" "signMany" "I")), (126, (Jvm.Cond.lays "DotPressModel" "DotPressModel" "status" "I")), (127, (Jvm.Cond.soleField "DotPressModel" "status")), (128, (Jvm.Cond.lays "DotPressModel" "DotPressModel" "place" "I")), (129, (Jvm.Cond.soleField "DotPressModel" "place")), (130, (Jvm.Cond.laysFinal "DotPressModel" "DotPressModel" "tape" "[I")), (131, (Jvm.Cond.soleField "DotPressModel" "tape")), (132, (Jvm.Cond.lays "DotPressModel" "DotPressModel" "taped" "I"))] := lwcdf (by decide +kernel)
def w6_123 := lw_in (mT6 wgr6_11.1) rfl
def w6_124 := lw_in (mT6 wgr6_11.2.1) rfl
def w6_125 := lw_in (mT6 wgr6_11.2.2.1) rfl
def w6_126 := lw_in (mT6 wgr6_11.2.2.2.1) rfl
def w6_128 := lw_in (mT6 wgr6_11.2.2.2.2.2.1) rfl
def w6_130 := lw_in (mT6 wgr6_11.2.2.2.2.2.2.2.1) rfl
def w6_132 := lw_in (mT6 wgr6_11.2.2.2.2.2.2.2.2.2.1) rfl
theorem wgr6_12 : lwcdp tables_1_6 [(133, (Jvm.Cond.soleField "DotPressModel" "taped")), (134, (Jvm.Cond.lays "DotPressModel" "DotPressModel" "tables" "I")), (135, (Jvm.Cond.soleField "DotPressModel" "tables")), (136, (Jvm.Cond.laysFinal "DotPressModel" "DotPressModel" "isThere" "[Z")), (137, (Jvm.Cond.soleField "DotPressModel" "isThere")), (138, (Jvm.Cond.laysFinal "DotPressModel" "DotPressModel" "kind" "[I")), (139, (Jvm.Cond.soleField "DotPressModel" "kind")), (140, (Jvm.Cond.laysFinal "DotPressModel" "DotPressModel" "dots" "[I")), (141, (Jvm.Cond.soleField "DotPressModel" "dots")), (142, (Jvm.Cond.laysFinal "DotPressModel" "DotPressModel" "base" "[I"))] := lwcdf (by decide +kernel)
def w6_134 := lw_in (mT6 wgr6_12.2.1) rfl
def w6_136 := lw_in (mT6 wgr6_12.2.2.2.1) rfl
def w6_138 := lw_in (mT6 wgr6_12.2.2.2.2.2.1) rfl
def w6_140 := lw_in (mT6 wgr6_12.2.2.2.2.2.2.2.1) rfl
def w6_142 := lw_in (mT6 wgr6_12.2.2.2.2.2.2.2.2.2.1) rfl
theorem wgr6_13 : lwcdp tables_1_6 [(143, (Jvm.Cond.soleField "DotPressModel" "base")), (144, (Jvm.Cond.laysFinal "DotPressModel" "DotPressModel" "second" "[I")), (145, (Jvm.Cond.soleField "DotPressModel" "second")), (146, (Jvm.Cond.laysFinal "DotPressModel" "DotPressModel" "ruleMany" "[I")), (147, (Jvm.Cond.soleField "DotPressModel" "ruleMany")), (148, (Jvm.Cond.laysFinal "DotPressModel" "DotPressModel" "conditions" "[I")), (149, (Jvm.Cond.soleField "DotPressModel" "conditions")), (150, (Jvm.Cond.laysFinal "DotPressModel" "DotPressModel" "letterMany" "[I")), (151, (Jvm.Cond.soleField "DotPressModel" "letterMany")), (152, (Jvm.Cond.laysFinal "DotPressModel" "DotPressModel" "cellMany" "[I"))] := lwcdf (by decide +kernel)
def w6_144 := lw_in (mT6 wgr6_13.2.1) rfl
def w6_146 := lw_in (mT6 wgr6_13.2.2.2.1) rfl
def w6_148 := lw_in (mT6 wgr6_13.2.2.2.2.2.1) rfl
def w6_150 := lw_in (mT6 wgr6_13.2.2.2.2.2.2.2.1) rfl
def w6_152 := lw_in (mT6 wgr6_13.2.2.2.2.2.2.2.2.2.1) rfl
theorem wgr6_14 : lwcdp tables_1_6 [(153, (Jvm.Cond.soleField "DotPressModel" "cellMany")), (154, (Jvm.Cond.laysFinal "DotPressModel" "DotPressModel" "letters" "[I")), (155, (Jvm.Cond.soleField "DotPressModel" "letters")), (156, (Jvm.Cond.laysFinal "DotPressModel" "DotPressModel" "cells" "[I")), (157, (Jvm.Cond.soleField "DotPressModel" "cells")), (158, (Jvm.Cond.laysFinal "DotPressModel" "DotPressModel" "indicatorMany" "[I")), (159, (Jvm.Cond.soleField "DotPressModel" "indicatorMany")), (160, (Jvm.Cond.laysFinal "DotPressModel" "DotPressModel" "indicatorCells" "[I")), (161, (Jvm.Cond.soleField "DotPressModel" "indicatorCells")), (162, (Jvm.Cond.lays "DotPressModel" "DotPressModel" "steps" "[I"))] := lwcdf (by decide +kernel)
def w6_154 := lw_in (mT6 wgr6_14.2.1) rfl
def w6_156 := lw_in (mT6 wgr6_14.2.2.2.1) rfl
def w6_158 := lw_in (mT6 wgr6_14.2.2.2.2.2.1) rfl
def w6_160 := lw_in (mT6 wgr6_14.2.2.2.2.2.2.2.1) rfl
def w6_162 := lw_in (mT6 wgr6_14.2.2.2.2.2.2.2.2.2.1) rfl
theorem wgr6_15 : lwcdp tables_1_6 [(163, (Jvm.Cond.soleField "DotPressModel" "steps")), (164, (Jvm.Cond.lays "DotPressModel" "DotPressModel" "stepMany" "I")), (165, (Jvm.Cond.soleField "DotPressModel" "stepMany")), (166, (Jvm.Cond.laysFinal "DotPressModel" "DotPressModel" "word" "[I")), (167, (Jvm.Cond.soleField "DotPressModel" "word")), (168, (Jvm.Cond.laysFinal "DotPressModel" "DotPressModel" "wordPlace" "[I")), (169, (Jvm.Cond.soleField "DotPressModel" "wordPlace")), (170, (Jvm.Cond.laysFinal "DotPressModel" "DotPressModel" "mayBreak" "[Z")), (171, (Jvm.Cond.soleField "DotPressModel" "mayBreak")), (172, (Jvm.Cond.lays "DotPressModel" "DotPressModel" "wordLong" "I"))] := lwcdf (by decide +kernel)
def w6_164 := lw_in (mT6 wgr6_15.2.1) rfl
def w6_166 := lw_in (mT6 wgr6_15.2.2.2.1) rfl
def w6_168 := lw_in (mT6 wgr6_15.2.2.2.2.2.1) rfl
def w6_170 := lw_in (mT6 wgr6_15.2.2.2.2.2.2.2.1) rfl
def w6_172 := lw_in (mT6 wgr6_15.2.2.2.2.2.2.2.2.2.1) rfl
theorem wgr6_16 : lwcdp tables_1_6 [(173, (Jvm.Cond.soleField "DotPressModel" "wordLong")), (174, (Jvm.Cond.laysFinal "DotPressModel" "DotPressModel" "made" "[I")), (175, (Jvm.Cond.soleField "DotPressModel" "made")), (176, (Jvm.Cond.lays "DotPressModel" "DotPressModel" "madeMany" "I")), (177, (Jvm.Cond.soleField "DotPressModel" "madeMany")), (178, (Jvm.Cond.laysFinal "DotPressModel" "DotPressModel" "begins" "[I")), (179, (Jvm.Cond.soleField "DotPressModel" "begins")), (180, (Jvm.Cond.laysFinal "DotPressModel" "DotPressModel" "finds" "[I")), (181, (Jvm.Cond.soleField "DotPressModel" "finds")), (182, (Jvm.Cond.lays "DotPressModel" "DotPressModel" "unknown" "I"))] := lwcdf (by decide +kernel)
def w6_174 := lw_in (mT6 wgr6_16.2.1) rfl
def w6_176 := lw_in (mT6 wgr6_16.2.2.2.1) rfl
def w6_178 := lw_in (mT6 wgr6_16.2.2.2.2.2.1) rfl
def w6_180 := lw_in (mT6 wgr6_16.2.2.2.2.2.2.2.1) rfl
def w6_182 := lw_in (mT6 wgr6_16.2.2.2.2.2.2.2.2.2.1) rfl
theorem wgr6_17 : lwcdp tables_1_6 [(183, (Jvm.Cond.soleField "DotPressModel" "unknown")), (184, (Jvm.Cond.laysFinal "DotPressModel" "DotPressModel" "text" "[I")), (185, (Jvm.Cond.soleField "DotPressModel" "text")), (186, (Jvm.Cond.lays "DotPressModel" "DotPressModel" "textLong" "I")), (187, (Jvm.Cond.soleField "DotPressModel" "textLong")), (188, (Jvm.Cond.lays "DotPressModel" "DotPressModel" "width" "I")), (189, (Jvm.Cond.soleField "DotPressModel" "width")), (190, (Jvm.Cond.lays "DotPressModel" "DotPressModel" "height" "I")), (191, (Jvm.Cond.soleField "DotPressModel" "height")), (192, (Jvm.Cond.lays "DotPressModel" "DotPressModel" "hyphen" "I"))] := lwcdf (by decide +kernel)
def w6_184 := lw_in (mT6 wgr6_17.2.1) rfl
def w6_186 := lw_in (mT6 wgr6_17.2.2.2.1) rfl
def w6_188 := lw_in (mT6 wgr6_17.2.2.2.2.2.1) rfl
def w6_190 := lw_in (mT6 wgr6_17.2.2.2.2.2.2.2.1) rfl
def w6_192 := lw_in (mT6 wgr6_17.2.2.2.2.2.2.2.2.2.1) rfl
theorem wgr6_18 : lwcdp tables_1_6 [(193, (Jvm.Cond.soleField "DotPressModel" "hyphen")), (194, (Jvm.Cond.laysFinal "DotPressModel" "DotPressModel" "long0" "[I")), (195, (Jvm.Cond.soleField "DotPressModel" "long0")), (196, (Jvm.Cond.laysFinal "DotPressModel" "DotPressModel" "lineCells" "[I")), (197, (Jvm.Cond.soleField "DotPressModel" "lineCells")), (198, (Jvm.Cond.lays "DotPressModel" "DotPressModel" "lines" "I")), (199, (Jvm.Cond.soleField "DotPressModel" "lines")), (200, (Jvm.Cond.laysFinal "DotPressModel" "DotPressModel" "newLong" "[I")), (201, (Jvm.Cond.soleField "DotPressModel" "newLong")), (202, (Jvm.Cond.laysFinal "DotPressModel" "DotPressModel" "newCells" "[I"))] := lwcdf (by decide +kernel)
def w6_194 := lw_in (mT6 wgr6_18.2.1) rfl
def w6_196 := lw_in (mT6 wgr6_18.2.2.2.1) rfl
def w6_198 := lw_in (mT6 wgr6_18.2.2.2.2.2.1) rfl
def w6_200 := lw_in (mT6 wgr6_18.2.2.2.2.2.2.2.1) rfl
def w6_202 := lw_in (mT6 wgr6_18.2.2.2.2.2.2.2.2.2.1) rfl
theorem wgr6_19 : lwcdp tables_1_6 [(203, (Jvm.Cond.soleField "DotPressModel" "newCells")), (204, (Jvm.Cond.lays "DotPressModel" "DotPressModel" "newMany" "I")), (205, (Jvm.Cond.soleField "DotPressModel" "newMany")), (206, (Jvm.Cond.laysFinal "DotPressModel" "DotPressModel" "head" "[I")), (207, (Jvm.Cond.soleField "DotPressModel" "head")), (208, (Jvm.Cond.lays "DotPressModel" "DotPressModel" "headMany" "I")), (209, (Jvm.Cond.soleField "DotPressModel" "headMany")), (210, (Jvm.Cond.lays "DotPressModel" "DotPressModel" "copied" "I")), (211, (Jvm.Cond.soleField "DotPressModel" "copied")), (212, (Jvm.Cond.lays "DotPressModel" "DotPressModel" "closed" "I"))] := lwcdf (by decide +kernel)
def w6_204 := lw_in (mT6 wgr6_19.2.1) rfl
def w6_206 := lw_in (mT6 wgr6_19.2.2.2.1) rfl
def w6_208 := lw_in (mT6 wgr6_19.2.2.2.2.2.1) rfl
def w6_210 := lw_in (mT6 wgr6_19.2.2.2.2.2.2.2.1) rfl
def w6_212 := lw_in (mT6 wgr6_19.2.2.2.2.2.2.2.2.2.1) rfl
theorem wgr6_20 : lwcdp tables_1_6 [(213, (Jvm.Cond.soleField "DotPressModel" "closed")), (214, (Jvm.Cond.laysFinal "DotPressModel" "DotPressModel" "rowIs" "[I")), (215, (Jvm.Cond.soleField "DotPressModel" "rowIs")), (216, (Jvm.Cond.laysFinal "DotPressModel" "DotPressModel" "rowAt" "[I")), (217, (Jvm.Cond.soleField "DotPressModel" "rowAt")), (218, (Jvm.Cond.laysFinal "DotPressModel" "DotPressModel" "rowLong" "[I")), (219, (Jvm.Cond.soleField "DotPressModel" "rowLong")), (220, (Jvm.Cond.laysFinal "DotPressModel" "DotPressModel" "rowMany" "[I")), (221, (Jvm.Cond.soleField "DotPressModel" "rowMany")), (222, (Jvm.Cond.laysFinal "DotPressModel" "DotPressModel" "row" "[I"))] := lwcdf (by decide +kernel)
def w6_214 := lw_in (mT6 wgr6_20.2.1) rfl
def w6_216 := lw_in (mT6 wgr6_20.2.2.2.1) rfl
def w6_218 := lw_in (mT6 wgr6_20.2.2.2.2.2.1) rfl
def w6_220 := lw_in (mT6 wgr6_20.2.2.2.2.2.2.2.1) rfl
def w6_222 := lw_in (mT6 wgr6_20.2.2.2.2.2.2.2.2.2.1) rfl
theorem wgr6_21 : lwcdp tables_1_6 [(223, (Jvm.Cond.soleField "DotPressModel" "row")), (224, (Jvm.Cond.laysFinal "DotPressModel" "DotPressModel" "rowPlace" "[I")), (225, (Jvm.Cond.soleField "DotPressModel" "rowPlace")), (226, (Jvm.Cond.lays "DotPressModel" "DotPressModel" "rowEnd" "I")), (227, (Jvm.Cond.soleField "DotPressModel" "rowEnd")), (228, (Jvm.Cond.laysFinal "DotPressModel" "DotPressModel" "out" "[I")), (229, (Jvm.Cond.soleField "DotPressModel" "out")), (230, (Jvm.Cond.lays "DotPressModel" "DotPressModel" "outs" "I")), (231, (Jvm.Cond.soleField "DotPressModel" "outs")), (232, (Jvm.Cond.lays "DotPressModel" "DotPressModel" "wrongAt" "I"))] := lwcdf (by decide +kernel)
def w6_224 := lw_in (mT6 wgr6_21.2.1) rfl
def w6_226 := lw_in (mT6 wgr6_21.2.2.2.1) rfl
def w6_228 := lw_in (mT6 wgr6_21.2.2.2.2.2.1) rfl
def w6_230 := lw_in (mT6 wgr6_21.2.2.2.2.2.2.2.1) rfl
def w6_232 := lw_in (mT6 wgr6_21.2.2.2.2.2.2.2.2.2.1) rfl
theorem wgr6_22 : lwcdp tables_1_6 [(233, (Jvm.Cond.soleField "DotPressModel" "wrongAt")), (234, (Jvm.Cond.laysFinal "DotPressModel" "DotPressModel" "was" "[I")), (235, (Jvm.Cond.soleField "DotPressModel" "was")), (236, (Jvm.Cond.lays "DotPressModel" "DotPressModel" "wasMany" "I")), (237, (Jvm.Cond.soleField "DotPressModel" "wasMany")), (238, (Jvm.Cond.lays "DotPressModel" "DotPressModel" "failed" "I")), (239, (Jvm.Cond.soleField "DotPressModel" "failed"))] := lwcdf (by decide +kernel)
def w6_234 := lw_in (mT6 wgr6_22.2.1) rfl
def w6_236 := lw_in (mT6 wgr6_22.2.2.2.1) rfl
def w6_238 := lw_in (mT6 wgr6_22.2.2.2.2.2.1) rfl
theorem wgr7_0 : lwcdp tables_1_7 [(0, (Jvm.Cond.laysFinal "DotPressModel" "DotPressModel" "can" "[Z")), (1, (Jvm.Cond.soleField "DotPressModel" "can")), (2, (Jvm.Cond.laysFinal "DotPressModel" "DotPressModel" "kept" "[I")), (3, (Jvm.Cond.soleField "DotPressModel" "kept")), (4, (Jvm.Cond.laysFinal "DotPressModel" "DotPressModel" "keptLong" "[I")), (5, (Jvm.Cond.soleField "DotPressModel" "keptLong")), (6, (Jvm.Cond.lays "DotPressModel" "DotPressModel" "keptMany" "I")), (7, (Jvm.Cond.soleField "DotPressModel" "keptMany")), (8, (Jvm.Cond.lays "DotPressModel" "DotPressModel" "more" "I")), (9, (Jvm.Cond.soleField "DotPressModel" "more"))] := lwcdf (by decide +kernel)
def w7_0 := lw_in (mT7 wgr7_0.1) rfl
def w7_2 := lw_in (mT7 wgr7_0.2.2.1) rfl
def w7_4 := lw_in (mT7 wgr7_0.2.2.2.2.1) rfl
def w7_6 := lw_in (mT7 wgr7_0.2.2.2.2.2.2.1) rfl
def w7_8 := lw_in (mT7 wgr7_0.2.2.2.2.2.2.2.2.1) rfl
theorem wgr7_1 : lwcdp tables_1_7 [(10, (Jvm.Cond.laysFinal "DotPressModel" "DotPressModel" "now" "[I")), (11, (Jvm.Cond.soleField "DotPressModel" "now")), (12, (Jvm.Cond.lays "DotPressModel" "DotPressModel" "nowLong" "I")), (13, (Jvm.Cond.soleField "DotPressModel" "nowLong")), (14, (Jvm.Cond.lays "DotPressModel" "DotPressModel" "wanted" "I")), (15, (Jvm.Cond.soleField "DotPressModel" "wanted")), (16, (Jvm.Cond.laysFinal "DotPressModel" "DotPressModel" "signs" "[I")), (17, (Jvm.Cond.soleField "DotPressModel" "signs")), (18, (Jvm.Cond.lays "DotPressModel" "DotPressModel" "signMany" "I")), (19, (Jvm.Cond.soleField "DotPressModel" "signMany"))] := lwcdf (by decide +kernel)
def w7_10 := lw_in (mT7 wgr7_1.1) rfl
def w7_12 := lw_in (mT7 wgr7_1.2.2.1) rfl
def w7_14 := lw_in (mT7 wgr7_1.2.2.2.2.1) rfl
def w7_16 := lw_in (mT7 wgr7_1.2.2.2.2.2.2.1) rfl
def w7_18 := lw_in (mT7 wgr7_1.2.2.2.2.2.2.2.2.1) rfl
theorem wgr7_2 : lwcdp tables_1_7 [(20, (Jvm.Cond.superclass "DotPressModel" "java/lang/Object")), (21, (Jvm.Cond.methodLink "DotPressLaw" (17 : Nat) ({ cls := "DotPressModel", name := "feed", desc := "(IIIII)I" } : Jvm.MethodName))), (22, (Jvm.Cond.instanceMethod ({ cls := "DotPressModel", name := "feed", desc := "(IIIII)I" } : Jvm.MethodName))), (23, (Jvm.Cond.selects "DotPressModel" ({ cls := "DotPressModel", name := "feed", desc := "(IIIII)I" } : Jvm.MethodName) ({ cls := "DotPressModel", name := "feed", desc := "(IIIII)I" } : Jvm.MethodName))), (25, (Jvm.Cond.methodLink "DotPressModel" (154 : Nat) ({ cls := "DotPressModel", name := "bad", desc := "(I)I" } : Jvm.MethodName))), (26, (Jvm.Cond.privateMethod ({ cls := "DotPressModel", name := "bad", desc := "(I)I" } : Jvm.MethodName))), (27, (Jvm.Cond.instanceMethod ({ cls := "DotPressModel", name := "bad", desc := "(I)I" } : Jvm.MethodName))), (29, (Jvm.Cond.methodLink "DotPressModel" (158 : Nat) ({ cls := "DotPressModel", name := "fine", desc := "(I)I" } : Jvm.MethodName))), (30, (Jvm.Cond.privateMethod ({ cls := "DotPressModel", name := "fine", desc := "(I)I" } : Jvm.MethodName))), (31, (Jvm.Cond.instanceMethod ({ cls := "DotPressModel", name := "fine", desc := "(I)I" } : Jvm.MethodName)))] := lwcdf (by decide +kernel)
def w7_21 := lw_in (mT7 wgr7_2.2.1) rfl
def w7_22 := lw_in (mT7 wgr7_2.2.2.1) rfl
def w7_23 := lw_in (mT7 wgr7_2.2.2.2.1) rfl
def w7_25 := lw_in (mT7 wgr7_2.2.2.2.2.1) rfl
def w7_27 := lw_in (mT7 wgr7_2.2.2.2.2.2.2.1) rfl
def w7_29 := lw_in (mT7 wgr7_2.2.2.2.2.2.2.2.1) rfl
def w7_31 := lw_in (mT7 wgr7_2.2.2.2.2.2.2.2.2.2.1) rfl
theorem wgr7_3 : lwcdp tables_1_7 [(33, (Jvm.Cond.methodLink "DotPressLaw" (22 : Nat) ({ cls := "DotPressModel", name := "end", desc := "(I)I" } : Jvm.MethodName))), (34, (Jvm.Cond.instanceMethod ({ cls := "DotPressModel", name := "end", desc := "(I)I" } : Jvm.MethodName))), (35, (Jvm.Cond.selects "DotPressModel" ({ cls := "DotPressModel", name := "end", desc := "(I)I" } : Jvm.MethodName) ({ cls := "DotPressModel", name := "end", desc := "(I)I" } : Jvm.MethodName))), (37, (Jvm.Cond.methodLink "DotPressLaw" (27 : Nat) ({ cls := "DotPressModel", name := "table", desc := "(III)I" } : Jvm.MethodName))), (38, (Jvm.Cond.instanceMethod ({ cls := "DotPressModel", name := "table", desc := "(III)I" } : Jvm.MethodName))), (39, (Jvm.Cond.selects "DotPressModel" ({ cls := "DotPressModel", name := "table", desc := "(III)I" } : Jvm.MethodName) ({ cls := "DotPressModel", name := "table", desc := "(III)I" } : Jvm.MethodName))), (41, (Jvm.Cond.methodLink "DotPressModel" (174 : Nat) ({ cls := "DotPressModel", name := "isIn", desc := "(III)Z" } : Jvm.MethodName))), (42, (Jvm.Cond.static ({ cls := "DotPressModel", name := "isIn", desc := "(III)Z" } : Jvm.MethodName))), (44, (Jvm.Cond.methodLink "DotPressModel" (167 : Nat) ({ cls := "DotPressModel", name := "isTable", desc := "(I)Z" } : Jvm.MethodName))), (45, (Jvm.Cond.privateMethod ({ cls := "DotPressModel", name := "isTable", desc := "(I)Z" } : Jvm.MethodName)))] := lwcdf (by decide +kernel)
def w7_33 := lw_in (mT7 wgr7_3.1) rfl
def w7_34 := lw_in (mT7 wgr7_3.2.1) rfl
def w7_35 := lw_in (mT7 wgr7_3.2.2.1) rfl
def w7_37 := lw_in (mT7 wgr7_3.2.2.2.1) rfl
def w7_38 := lw_in (mT7 wgr7_3.2.2.2.2.1) rfl
def w7_39 := lw_in (mT7 wgr7_3.2.2.2.2.2.1) rfl
def w7_41 := lw_in (mT7 wgr7_3.2.2.2.2.2.2.1) rfl
def w7_42 := lw_in (mT7 wgr7_3.2.2.2.2.2.2.2.1) rfl
def w7_44 := lw_in (mT7 wgr7_3.2.2.2.2.2.2.2.2.1) rfl
theorem wgr7_4 : lwcdp tables_1_7 [(46, (Jvm.Cond.instanceMethod ({ cls := "DotPressModel", name := "isTable", desc := "(I)Z" } : Jvm.MethodName))), (48, (Jvm.Cond.methodLink "DotPressModel" (178 : Nat) ({ cls := "DotPressModel", name := "newTable", desc := "(IIII)I" } : Jvm.MethodName))), (49, (Jvm.Cond.privateMethod ({ cls := "DotPressModel", name := "newTable", desc := "(IIII)I" } : Jvm.MethodName))), (50, (Jvm.Cond.instanceMethod ({ cls := "DotPressModel", name := "newTable", desc := "(IIII)I" } : Jvm.MethodName))), (52, (Jvm.Cond.methodLink "DotPressModel" (182 : Nat) ({ cls := "DotPressModel", name := "step", desc := "(IIII)V" } : Jvm.MethodName))), (53, (Jvm.Cond.privateMethod ({ cls := "DotPressModel", name := "step", desc := "(IIII)V" } : Jvm.MethodName))), (54, (Jvm.Cond.instanceMethod ({ cls := "DotPressModel", name := "step", desc := "(IIII)V" } : Jvm.MethodName))), (56, (Jvm.Cond.methodLink "DotPressLaw" (32 : Nat) ({ cls := "DotPressModel", name := "join", desc := "(II)I" } : Jvm.MethodName))), (57, (Jvm.Cond.instanceMethod ({ cls := "DotPressModel", name := "join", desc := "(II)I" } : Jvm.MethodName))), (58, (Jvm.Cond.selects "DotPressModel" ({ cls := "DotPressModel", name := "join", desc := "(II)I" } : Jvm.MethodName) ({ cls := "DotPressModel", name := "join", desc := "(II)I" } : Jvm.MethodName)))] := lwcdf (by decide +kernel)
def w7_46 := lw_in (mT7 wgr7_4.1) rfl
def w7_48 := lw_in (mT7 wgr7_4.2.1) rfl
def w7_50 := lw_in (mT7 wgr7_4.2.2.2.1) rfl
def w7_52 := lw_in (mT7 wgr7_4.2.2.2.2.1) rfl
def w7_54 := lw_in (mT7 wgr7_4.2.2.2.2.2.2.1) rfl
def w7_56 := lw_in (mT7 wgr7_4.2.2.2.2.2.2.2.1) rfl
def w7_57 := lw_in (mT7 wgr7_4.2.2.2.2.2.2.2.2.1) rfl
def w7_58 := lw_in (mT7 wgr7_4.2.2.2.2.2.2.2.2.2.1) rfl
theorem wgr7_5 : lwcdp tables_1_7 [(60, (Jvm.Cond.methodLink "DotPressModel" (186 : Nat) ({ cls := "java/lang/Math", name := "max", desc := "(II)I" } : Jvm.MethodName))), (61, (Jvm.Cond.methodLink "DotPressLaw" (36 : Nat) ({ cls := "DotPressModel", name := "drop", desc := "(I)I" } : Jvm.MethodName))), (62, (Jvm.Cond.instanceMethod ({ cls := "DotPressModel", name := "drop", desc := "(I)I" } : Jvm.MethodName))), (63, (Jvm.Cond.selects "DotPressModel" ({ cls := "DotPressModel", name := "drop", desc := "(I)I" } : Jvm.MethodName) ({ cls := "DotPressModel", name := "drop", desc := "(I)I" } : Jvm.MethodName))), (65, (Jvm.Cond.methodLink "DotPressLaw" (40 : Nat) ({ cls := "DotPressModel", name := "rule", desc := "(III)I" } : Jvm.MethodName))), (66, (Jvm.Cond.instanceMethod ({ cls := "DotPressModel", name := "rule", desc := "(III)I" } : Jvm.MethodName))), (67, (Jvm.Cond.selects "DotPressModel" ({ cls := "DotPressModel", name := "rule", desc := "(III)I" } : Jvm.MethodName) ({ cls := "DotPressModel", name := "rule", desc := "(III)I" } : Jvm.MethodName))), (69, (Jvm.Cond.methodLink "DotPressModel" (192 : Nat) ({ cls := "DotPressModel", name := "taken", desc := "()I" } : Jvm.MethodName))), (70, (Jvm.Cond.privateMethod ({ cls := "DotPressModel", name := "taken", desc := "()I" } : Jvm.MethodName))), (71, (Jvm.Cond.instanceMethod ({ cls := "DotPressModel", name := "taken", desc := "()I" } : Jvm.MethodName)))] := lwcdf (by decide +kernel)
def w7_60 := lw_in (mT7 wgr7_5.1) rfl
def w7_61 := lw_in (mT7 wgr7_5.2.1) rfl
def w7_62 := lw_in (mT7 wgr7_5.2.2.1) rfl
def w7_63 := lw_in (mT7 wgr7_5.2.2.2.1) rfl
def w7_65 := lw_in (mT7 wgr7_5.2.2.2.2.1) rfl
def w7_66 := lw_in (mT7 wgr7_5.2.2.2.2.2.1) rfl
def w7_67 := lw_in (mT7 wgr7_5.2.2.2.2.2.2.1) rfl
def w7_69 := lw_in (mT7 wgr7_5.2.2.2.2.2.2.2.1) rfl
def w7_71 := lw_in (mT7 wgr7_5.2.2.2.2.2.2.2.2.2.1) rfl
theorem wgr7_6 : lwcdp tables_1_7 [(73, (Jvm.Cond.methodLink "DotPressModel" (196 : Nat) ({ cls := "DotPressModel", name := "areCells", desc := "(III)Z" } : Jvm.MethodName))), (74, (Jvm.Cond.privateMethod ({ cls := "DotPressModel", name := "areCells", desc := "(III)Z" } : Jvm.MethodName))), (75, (Jvm.Cond.instanceMethod ({ cls := "DotPressModel", name := "areCells", desc := "(III)Z" } : Jvm.MethodName))), (77, (Jvm.Cond.methodLink "DotPressModel" (199 : Nat) ({ cls := "DotPressModel", name := "isLetter", desc := "(I)Z" } : Jvm.MethodName))), (78, (Jvm.Cond.static ({ cls := "DotPressModel", name := "isLetter", desc := "(I)Z" } : Jvm.MethodName))), (80, (Jvm.Cond.methodLink "DotPressLaw" (44 : Nat) ({ cls := "DotPressModel", name := "condition", desc := "(III)I" } : Jvm.MethodName))), (81, (Jvm.Cond.instanceMethod ({ cls := "DotPressModel", name := "condition", desc := "(III)I" } : Jvm.MethodName))), (82, (Jvm.Cond.selects "DotPressModel" ({ cls := "DotPressModel", name := "condition", desc := "(III)I" } : Jvm.MethodName) ({ cls := "DotPressModel", name := "condition", desc := "(III)I" } : Jvm.MethodName))), (84, (Jvm.Cond.methodLink "DotPressLaw" (48 : Nat) ({ cls := "DotPressModel", name := "indicator", desc := "(II)I" } : Jvm.MethodName))), (85, (Jvm.Cond.instanceMethod ({ cls := "DotPressModel", name := "indicator", desc := "(II)I" } : Jvm.MethodName)))] := lwcdf (by decide +kernel)
def w7_73 := lw_in (mT7 wgr7_6.1) rfl
def w7_75 := lw_in (mT7 wgr7_6.2.2.1) rfl
def w7_77 := lw_in (mT7 wgr7_6.2.2.2.1) rfl
def w7_78 := lw_in (mT7 wgr7_6.2.2.2.2.1) rfl
def w7_80 := lw_in (mT7 wgr7_6.2.2.2.2.2.1) rfl
def w7_81 := lw_in (mT7 wgr7_6.2.2.2.2.2.2.1) rfl
def w7_82 := lw_in (mT7 wgr7_6.2.2.2.2.2.2.2.1) rfl
def w7_84 := lw_in (mT7 wgr7_6.2.2.2.2.2.2.2.2.1) rfl
def w7_85 := lw_in (mT7 wgr7_6.2.2.2.2.2.2.2.2.2.1) rfl
theorem wgr7_7 : lwcdp tables_1_7 [(86, (Jvm.Cond.selects "DotPressModel" ({ cls := "DotPressModel", name := "indicator", desc := "(II)I" } : Jvm.MethodName) ({ cls := "DotPressModel", name := "indicator", desc := "(II)I" } : Jvm.MethodName))), (88, (Jvm.Cond.methodLink "DotPressLaw" (53 : Nat) ({ cls := "DotPressModel", name := "undo", desc := "()I" } : Jvm.MethodName))), (89, (Jvm.Cond.instanceMethod ({ cls := "DotPressModel", name := "undo", desc := "()I" } : Jvm.MethodName))), (90, (Jvm.Cond.selects "DotPressModel" ({ cls := "DotPressModel", name := "undo", desc := "()I" } : Jvm.MethodName) ({ cls := "DotPressModel", name := "undo", desc := "()I" } : Jvm.MethodName))), (92, (Jvm.Cond.methodLink "DotPressLaw" (166 : Nat) ({ cls := "DotPressModel", name := "finds", desc := "(I)I" } : Jvm.MethodName))), (93, (Jvm.Cond.instanceMethod ({ cls := "DotPressModel", name := "finds", desc := "(I)I" } : Jvm.MethodName))), (94, (Jvm.Cond.selects "DotPressModel" ({ cls := "DotPressModel", name := "finds", desc := "(I)I" } : Jvm.MethodName) ({ cls := "DotPressModel", name := "finds", desc := "(I)I" } : Jvm.MethodName))), (96, (Jvm.Cond.methodLink "DotPressLaw" (57 : Nat) ({ cls := "DotPressModel", name := "text", desc := "()I" } : Jvm.MethodName))), (97, (Jvm.Cond.instanceMethod ({ cls := "DotPressModel", name := "text", desc := "()I" } : Jvm.MethodName))), (98, (Jvm.Cond.selects "DotPressModel" ({ cls := "DotPressModel", name := "text", desc := "()I" } : Jvm.MethodName) ({ cls := "DotPressModel", name := "text", desc := "()I" } : Jvm.MethodName)))] := lwcdf (by decide +kernel)
def w7_86 := lw_in (mT7 wgr7_7.1) rfl
def w7_88 := lw_in (mT7 wgr7_7.2.1) rfl
def w7_89 := lw_in (mT7 wgr7_7.2.2.1) rfl
def w7_90 := lw_in (mT7 wgr7_7.2.2.2.1) rfl
def w7_92 := lw_in (mT7 wgr7_7.2.2.2.2.1) rfl
def w7_93 := lw_in (mT7 wgr7_7.2.2.2.2.2.1) rfl
def w7_94 := lw_in (mT7 wgr7_7.2.2.2.2.2.2.1) rfl
def w7_96 := lw_in (mT7 wgr7_7.2.2.2.2.2.2.2.1) rfl
def w7_97 := lw_in (mT7 wgr7_7.2.2.2.2.2.2.2.2.1) rfl
def w7_98 := lw_in (mT7 wgr7_7.2.2.2.2.2.2.2.2.2.1) rfl
theorem wgr7_8 : lwcdp tables_1_7 [(100, (Jvm.Cond.methodLink "DotPressLaw" (61 : Nat) ({ cls := "DotPressModel", name := "measure", desc := "(III)I" } : Jvm.MethodName))), (101, (Jvm.Cond.instanceMethod ({ cls := "DotPressModel", name := "measure", desc := "(III)I" } : Jvm.MethodName))), (102, (Jvm.Cond.selects "DotPressModel" ({ cls := "DotPressModel", name := "measure", desc := "(III)I" } : Jvm.MethodName) ({ cls := "DotPressModel", name := "measure", desc := "(III)I" } : Jvm.MethodName))), (104, (Jvm.Cond.methodLink "DotPressLaw" (65 : Nat) ({ cls := "DotPressModel", name := "set", desc := "(I)I" } : Jvm.MethodName))), (105, (Jvm.Cond.instanceMethod ({ cls := "DotPressModel", name := "set", desc := "(I)I" } : Jvm.MethodName))), (106, (Jvm.Cond.selects "DotPressModel" ({ cls := "DotPressModel", name := "set", desc := "(I)I" } : Jvm.MethodName) ({ cls := "DotPressModel", name := "set", desc := "(I)I" } : Jvm.MethodName))), (108, (Jvm.Cond.methodLink "DotPressModel" (171 : Nat) ({ cls := "DotPressModel", name := "isWhole", desc := "(I)Z" } : Jvm.MethodName))), (109, (Jvm.Cond.privateMethod ({ cls := "DotPressModel", name := "isWhole", desc := "(I)Z" } : Jvm.MethodName))), (110, (Jvm.Cond.instanceMethod ({ cls := "DotPressModel", name := "isWhole", desc := "(I)Z" } : Jvm.MethodName))), (112, (Jvm.Cond.methodLink "DotPressModel" (261 : Nat) ({ cls := "DotPressModel", name := "lineEnd", desc := "(I)I" } : Jvm.MethodName)))] := lwcdf (by decide +kernel)
def w7_100 := lw_in (mT7 wgr7_8.1) rfl
def w7_101 := lw_in (mT7 wgr7_8.2.1) rfl
def w7_102 := lw_in (mT7 wgr7_8.2.2.1) rfl
def w7_104 := lw_in (mT7 wgr7_8.2.2.2.1) rfl
def w7_105 := lw_in (mT7 wgr7_8.2.2.2.2.1) rfl
def w7_106 := lw_in (mT7 wgr7_8.2.2.2.2.2.1) rfl
def w7_108 := lw_in (mT7 wgr7_8.2.2.2.2.2.2.1) rfl
def w7_110 := lw_in (mT7 wgr7_8.2.2.2.2.2.2.2.2.1) rfl
def w7_112 := lw_in (mT7 wgr7_8.2.2.2.2.2.2.2.2.2.1) rfl
theorem wgr7_9 : lwcdp tables_1_7 [(113, (Jvm.Cond.privateMethod ({ cls := "DotPressModel", name := "lineEnd", desc := "(I)I" } : Jvm.MethodName))), (114, (Jvm.Cond.instanceMethod ({ cls := "DotPressModel", name := "lineEnd", desc := "(I)I" } : Jvm.MethodName))), (116, (Jvm.Cond.methodLink "DotPressModel" (257 : Nat) ({ cls := "DotPressModel", name := "newLine", desc := "()Z" } : Jvm.MethodName))), (117, (Jvm.Cond.privateMethod ({ cls := "DotPressModel", name := "newLine", desc := "()Z" } : Jvm.MethodName))), (118, (Jvm.Cond.instanceMethod ({ cls := "DotPressModel", name := "newLine", desc := "()Z" } : Jvm.MethodName))), (120, (Jvm.Cond.methodLink "DotPressModel" (264 : Nat) ({ cls := "DotPressModel", name := "takeWord", desc := "(II)I" } : Jvm.MethodName))), (121, (Jvm.Cond.privateMethod ({ cls := "DotPressModel", name := "takeWord", desc := "(II)I" } : Jvm.MethodName))), (122, (Jvm.Cond.instanceMethod ({ cls := "DotPressModel", name := "takeWord", desc := "(II)I" } : Jvm.MethodName))), (124, (Jvm.Cond.methodLink "DotPressModel" (267 : Nat) ({ cls := "DotPressModel", name := "setWord", desc := "(I)Z" } : Jvm.MethodName))), (125, (Jvm.Cond.privateMethod ({ cls := "DotPressModel", name := "setWord", desc := "(I)Z" } : Jvm.MethodName)))] := lwcdf (by decide +kernel)
def w7_114 := lw_in (mT7 wgr7_9.2.1) rfl
def w7_116 := lw_in (mT7 wgr7_9.2.2.1) rfl
def w7_118 := lw_in (mT7 wgr7_9.2.2.2.2.1) rfl
def w7_120 := lw_in (mT7 wgr7_9.2.2.2.2.2.1) rfl
def w7_122 := lw_in (mT7 wgr7_9.2.2.2.2.2.2.2.1) rfl
def w7_124 := lw_in (mT7 wgr7_9.2.2.2.2.2.2.2.2.1) rfl
theorem wgr7_10 : lwcdp tables_1_7 [(126, (Jvm.Cond.instanceMethod ({ cls := "DotPressModel", name := "setWord", desc := "(I)Z" } : Jvm.MethodName))), (128, (Jvm.Cond.methodLink "DotPressModel" (237 : Nat) ({ cls := "DotPressModel", name := "setPart", desc := "(III)Z" } : Jvm.MethodName))), (129, (Jvm.Cond.privateMethod ({ cls := "DotPressModel", name := "setPart", desc := "(III)Z" } : Jvm.MethodName))), (130, (Jvm.Cond.instanceMethod ({ cls := "DotPressModel", name := "setPart", desc := "(III)Z" } : Jvm.MethodName))), (132, (Jvm.Cond.methodLink "DotPressModel" (202 : Nat) ({ cls := "DotPressModel", name := "isDigit", desc := "(I)Z" } : Jvm.MethodName))), (133, (Jvm.Cond.static ({ cls := "DotPressModel", name := "isDigit", desc := "(I)Z" } : Jvm.MethodName))), (135, (Jvm.Cond.methodLink "DotPressModel" (227 : Nat) ({ cls := "DotPressModel", name := "putIndicator", desc := "(II)V" } : Jvm.MethodName))), (136, (Jvm.Cond.privateMethod ({ cls := "DotPressModel", name := "putIndicator", desc := "(II)V" } : Jvm.MethodName))), (137, (Jvm.Cond.instanceMethod ({ cls := "DotPressModel", name := "putIndicator", desc := "(II)V" } : Jvm.MethodName))), (139, (Jvm.Cond.methodLink "DotPressModel" (218 : Nat) ({ cls := "DotPressModel", name := "find", desc := "(IIII)I" } : Jvm.MethodName)))] := lwcdf (by decide +kernel)
def w7_126 := lw_in (mT7 wgr7_10.1) rfl
def w7_128 := lw_in (mT7 wgr7_10.2.1) rfl
def w7_130 := lw_in (mT7 wgr7_10.2.2.2.1) rfl
def w7_132 := lw_in (mT7 wgr7_10.2.2.2.2.1) rfl
def w7_133 := lw_in (mT7 wgr7_10.2.2.2.2.2.1) rfl
def w7_135 := lw_in (mT7 wgr7_10.2.2.2.2.2.2.1) rfl
def w7_137 := lw_in (mT7 wgr7_10.2.2.2.2.2.2.2.2.1) rfl
def w7_139 := lw_in (mT7 wgr7_10.2.2.2.2.2.2.2.2.2.1) rfl
theorem wgr7_11 : lwcdp tables_1_7 [(140, (Jvm.Cond.privateMethod ({ cls := "DotPressModel", name := "find", desc := "(IIII)I" } : Jvm.MethodName))), (141, (Jvm.Cond.instanceMethod ({ cls := "DotPressModel", name := "find", desc := "(IIII)I" } : Jvm.MethodName))), (143, (Jvm.Cond.methodLink "DotPressModel" (215 : Nat) ({ cls := "DotPressModel", name := "contracted", desc := "(IIII)I" } : Jvm.MethodName))), (144, (Jvm.Cond.privateMethod ({ cls := "DotPressModel", name := "contracted", desc := "(IIII)I" } : Jvm.MethodName))), (145, (Jvm.Cond.instanceMethod ({ cls := "DotPressModel", name := "contracted", desc := "(IIII)I" } : Jvm.MethodName))), (147, (Jvm.Cond.methodLink "DotPressModel" (221 : Nat) ({ cls := "DotPressModel", name := "own", desc := "(IIII)I" } : Jvm.MethodName))), (148, (Jvm.Cond.privateMethod ({ cls := "DotPressModel", name := "own", desc := "(IIII)I" } : Jvm.MethodName))), (149, (Jvm.Cond.instanceMethod ({ cls := "DotPressModel", name := "own", desc := "(IIII)I" } : Jvm.MethodName))), (151, (Jvm.Cond.methodLink "DotPressModel" (211 : Nat) ({ cls := "DotPressModel", name := "fits", desc := "(IIII)Z" } : Jvm.MethodName))), (152, (Jvm.Cond.privateMethod ({ cls := "DotPressModel", name := "fits", desc := "(IIII)Z" } : Jvm.MethodName)))] := lwcdf (by decide +kernel)
def w7_141 := lw_in (mT7 wgr7_11.2.1) rfl
def w7_143 := lw_in (mT7 wgr7_11.2.2.1) rfl
def w7_145 := lw_in (mT7 wgr7_11.2.2.2.2.1) rfl
def w7_147 := lw_in (mT7 wgr7_11.2.2.2.2.2.1) rfl
def w7_149 := lw_in (mT7 wgr7_11.2.2.2.2.2.2.2.1) rfl
def w7_151 := lw_in (mT7 wgr7_11.2.2.2.2.2.2.2.2.1) rfl
theorem wgr7_12 : lwcdp tables_1_7 [(153, (Jvm.Cond.instanceMethod ({ cls := "DotPressModel", name := "fits", desc := "(IIII)Z" } : Jvm.MethodName))), (155, (Jvm.Cond.methodLink "DotPressModel" (205 : Nat) ({ cls := "DotPressModel", name := "isGreat", desc := "(I)Z" } : Jvm.MethodName))), (156, (Jvm.Cond.static ({ cls := "DotPressModel", name := "isGreat", desc := "(I)Z" } : Jvm.MethodName))), (158, (Jvm.Cond.methodLink "DotPressModel" (208 : Nat) ({ cls := "DotPressModel", name := "isSmall", desc := "(I)Z" } : Jvm.MethodName))), (159, (Jvm.Cond.static ({ cls := "DotPressModel", name := "isSmall", desc := "(I)Z" } : Jvm.MethodName))), (161, (Jvm.Cond.methodLink "DotPressModel" (270 : Nat) ({ cls := "DotPressModel", name := "notSet", desc := "()I" } : Jvm.MethodName))), (162, (Jvm.Cond.privateMethod ({ cls := "DotPressModel", name := "notSet", desc := "()I" } : Jvm.MethodName))), (163, (Jvm.Cond.instanceMethod ({ cls := "DotPressModel", name := "notSet", desc := "()I" } : Jvm.MethodName))), (165, (Jvm.Cond.methodLink "DotPressModel" (240 : Nat) ({ cls := "DotPressModel", name := "badAt", desc := "(II)I" } : Jvm.MethodName))), (166, (Jvm.Cond.privateMethod ({ cls := "DotPressModel", name := "badAt", desc := "(II)I" } : Jvm.MethodName)))] := lwcdf (by decide +kernel)
def w7_153 := lw_in (mT7 wgr7_12.1) rfl
def w7_155 := lw_in (mT7 wgr7_12.2.1) rfl
def w7_156 := lw_in (mT7 wgr7_12.2.2.1) rfl
def w7_158 := lw_in (mT7 wgr7_12.2.2.2.1) rfl
def w7_159 := lw_in (mT7 wgr7_12.2.2.2.2.1) rfl
def w7_161 := lw_in (mT7 wgr7_12.2.2.2.2.2.1) rfl
def w7_163 := lw_in (mT7 wgr7_12.2.2.2.2.2.2.2.1) rfl
def w7_165 := lw_in (mT7 wgr7_12.2.2.2.2.2.2.2.2.1) rfl
theorem wgr7_13 : lwcdp tables_1_7 [(167, (Jvm.Cond.instanceMethod ({ cls := "DotPressModel", name := "badAt", desc := "(II)I" } : Jvm.MethodName))), (169, (Jvm.Cond.methodLink "DotPressModel" (273 : Nat) ({ cls := "DotPressModel", name := "flow", desc := "(I)Z" } : Jvm.MethodName))), (170, (Jvm.Cond.privateMethod ({ cls := "DotPressModel", name := "flow", desc := "(I)Z" } : Jvm.MethodName))), (171, (Jvm.Cond.instanceMethod ({ cls := "DotPressModel", name := "flow", desc := "(I)Z" } : Jvm.MethodName))), (173, (Jvm.Cond.methodLink "DotPressModel" (249 : Nat) ({ cls := "DotPressModel", name := "breakOf", desc := "(III)I" } : Jvm.MethodName))), (174, (Jvm.Cond.privateMethod ({ cls := "DotPressModel", name := "breakOf", desc := "(III)I" } : Jvm.MethodName))), (175, (Jvm.Cond.instanceMethod ({ cls := "DotPressModel", name := "breakOf", desc := "(III)I" } : Jvm.MethodName))), (177, (Jvm.Cond.methodLink "DotPressModel" (253 : Nat) ({ cls := "DotPressModel", name := "putCell", desc := "(I)V" } : Jvm.MethodName))), (178, (Jvm.Cond.privateMethod ({ cls := "DotPressModel", name := "putCell", desc := "(I)V" } : Jvm.MethodName))), (179, (Jvm.Cond.instanceMethod ({ cls := "DotPressModel", name := "putCell", desc := "(I)V" } : Jvm.MethodName)))] := lwcdf (by decide +kernel)
def w7_167 := lw_in (mT7 wgr7_13.1) rfl
def w7_169 := lw_in (mT7 wgr7_13.2.1) rfl
def w7_171 := lw_in (mT7 wgr7_13.2.2.2.1) rfl
def w7_173 := lw_in (mT7 wgr7_13.2.2.2.2.1) rfl
def w7_175 := lw_in (mT7 wgr7_13.2.2.2.2.2.2.1) rfl
def w7_177 := lw_in (mT7 wgr7_13.2.2.2.2.2.2.2.1) rfl
def w7_179 := lw_in (mT7 wgr7_13.2.2.2.2.2.2.2.2.2.1) rfl
theorem wgr7_14 : lwcdp tables_1_7 [(181, (Jvm.Cond.methodLink "DotPressModel" (276 : Nat) ({ cls := "DotPressModel", name := "centre", desc := "(I)V" } : Jvm.MethodName))), (182, (Jvm.Cond.privateMethod ({ cls := "DotPressModel", name := "centre", desc := "(I)V" } : Jvm.MethodName))), (183, (Jvm.Cond.instanceMethod ({ cls := "DotPressModel", name := "centre", desc := "(I)V" } : Jvm.MethodName))), (185, (Jvm.Cond.methodLink "DotPressLaw" (69 : Nat) ({ cls := "DotPressModel", name := "head", desc := "(I)I" } : Jvm.MethodName))), (186, (Jvm.Cond.instanceMethod ({ cls := "DotPressModel", name := "head", desc := "(I)I" } : Jvm.MethodName))), (187, (Jvm.Cond.selects "DotPressModel" ({ cls := "DotPressModel", name := "head", desc := "(I)I" } : Jvm.MethodName) ({ cls := "DotPressModel", name := "head", desc := "(I)I" } : Jvm.MethodName))), (189, (Jvm.Cond.methodLink "DotPressModel" (282 : Nat) ({ cls := "java/lang/Math", name := "min", desc := "(II)I" } : Jvm.MethodName))), (190, (Jvm.Cond.methodLink "DotPressLaw" (73 : Nat) ({ cls := "DotPressModel", name := "lines", desc := "()I" } : Jvm.MethodName))), (191, (Jvm.Cond.instanceMethod ({ cls := "DotPressModel", name := "lines", desc := "()I" } : Jvm.MethodName))), (192, (Jvm.Cond.selects "DotPressModel" ({ cls := "DotPressModel", name := "lines", desc := "()I" } : Jvm.MethodName) ({ cls := "DotPressModel", name := "lines", desc := "()I" } : Jvm.MethodName)))] := lwcdf (by decide +kernel)
def w7_181 := lw_in (mT7 wgr7_14.1) rfl
def w7_183 := lw_in (mT7 wgr7_14.2.2.1) rfl
def w7_185 := lw_in (mT7 wgr7_14.2.2.2.1) rfl
def w7_186 := lw_in (mT7 wgr7_14.2.2.2.2.1) rfl
def w7_187 := lw_in (mT7 wgr7_14.2.2.2.2.2.1) rfl
def w7_189 := lw_in (mT7 wgr7_14.2.2.2.2.2.2.1) rfl
def w7_190 := lw_in (mT7 wgr7_14.2.2.2.2.2.2.2.1) rfl
def w7_191 := lw_in (mT7 wgr7_14.2.2.2.2.2.2.2.2.1) rfl
def w7_192 := lw_in (mT7 wgr7_14.2.2.2.2.2.2.2.2.2.1) rfl
theorem wgr7_15 : lwcdp tables_1_7 [(194, (Jvm.Cond.methodLink "DotPressLaw" (77 : Nat) ({ cls := "DotPressModel", name := "pages", desc := "()I" } : Jvm.MethodName))), (195, (Jvm.Cond.instanceMethod ({ cls := "DotPressModel", name := "pages", desc := "()I" } : Jvm.MethodName))), (196, (Jvm.Cond.selects "DotPressModel" ({ cls := "DotPressModel", name := "pages", desc := "()I" } : Jvm.MethodName) ({ cls := "DotPressModel", name := "pages", desc := "()I" } : Jvm.MethodName))), (198, (Jvm.Cond.methodLink "DotPressModel" (291 : Nat) ({ cls := "DotPressModel", name := "onPage", desc := "()I" } : Jvm.MethodName))), (199, (Jvm.Cond.privateMethod ({ cls := "DotPressModel", name := "onPage", desc := "()I" } : Jvm.MethodName))), (200, (Jvm.Cond.instanceMethod ({ cls := "DotPressModel", name := "onPage", desc := "()I" } : Jvm.MethodName))), (202, (Jvm.Cond.methodLink "DotPressModel" (288 : Nat) ({ cls := "DotPressModel", name := "hasHead", desc := "()Z" } : Jvm.MethodName))), (203, (Jvm.Cond.privateMethod ({ cls := "DotPressModel", name := "hasHead", desc := "()Z" } : Jvm.MethodName))), (204, (Jvm.Cond.instanceMethod ({ cls := "DotPressModel", name := "hasHead", desc := "()Z" } : Jvm.MethodName))), (206, (Jvm.Cond.methodLink "DotPressLaw" (81 : Nat) ({ cls := "DotPressModel", name := "length", desc := "(I)I" } : Jvm.MethodName)))] := lwcdf (by decide +kernel)
def w7_194 := lw_in (mT7 wgr7_15.1) rfl
def w7_195 := lw_in (mT7 wgr7_15.2.1) rfl
def w7_196 := lw_in (mT7 wgr7_15.2.2.1) rfl
def w7_198 := lw_in (mT7 wgr7_15.2.2.2.1) rfl
def w7_200 := lw_in (mT7 wgr7_15.2.2.2.2.2.1) rfl
def w7_202 := lw_in (mT7 wgr7_15.2.2.2.2.2.2.1) rfl
def w7_204 := lw_in (mT7 wgr7_15.2.2.2.2.2.2.2.2.1) rfl
def w7_206 := lw_in (mT7 wgr7_15.2.2.2.2.2.2.2.2.2.1) rfl
theorem wgr7_16 : lwcdp tables_1_7 [(207, (Jvm.Cond.instanceMethod ({ cls := "DotPressModel", name := "length", desc := "(I)I" } : Jvm.MethodName))), (208, (Jvm.Cond.selects "DotPressModel" ({ cls := "DotPressModel", name := "length", desc := "(I)I" } : Jvm.MethodName) ({ cls := "DotPressModel", name := "length", desc := "(I)I" } : Jvm.MethodName))), (210, (Jvm.Cond.methodLink "DotPressModel" (294 : Nat) ({ cls := "DotPressModel", name := "lineFault", desc := "(I)I" } : Jvm.MethodName))), (211, (Jvm.Cond.privateMethod ({ cls := "DotPressModel", name := "lineFault", desc := "(I)I" } : Jvm.MethodName))), (212, (Jvm.Cond.instanceMethod ({ cls := "DotPressModel", name := "lineFault", desc := "(I)I" } : Jvm.MethodName))), (214, (Jvm.Cond.methodLink "DotPressLaw" (85 : Nat) ({ cls := "DotPressModel", name := "cell", desc := "(II)I" } : Jvm.MethodName))), (215, (Jvm.Cond.instanceMethod ({ cls := "DotPressModel", name := "cell", desc := "(II)I" } : Jvm.MethodName))), (216, (Jvm.Cond.selects "DotPressModel" ({ cls := "DotPressModel", name := "cell", desc := "(II)I" } : Jvm.MethodName) ({ cls := "DotPressModel", name := "cell", desc := "(II)I" } : Jvm.MethodName))), (218, (Jvm.Cond.methodLink "DotPressLaw" (89 : Nat) ({ cls := "DotPressModel", name := "page", desc := "(III)I" } : Jvm.MethodName))), (219, (Jvm.Cond.instanceMethod ({ cls := "DotPressModel", name := "page", desc := "(III)I" } : Jvm.MethodName)))] := lwcdf (by decide +kernel)
def w7_207 := lw_in (mT7 wgr7_16.1) rfl
def w7_208 := lw_in (mT7 wgr7_16.2.1) rfl
def w7_210 := lw_in (mT7 wgr7_16.2.2.1) rfl
def w7_212 := lw_in (mT7 wgr7_16.2.2.2.2.1) rfl
def w7_214 := lw_in (mT7 wgr7_16.2.2.2.2.2.1) rfl
def w7_215 := lw_in (mT7 wgr7_16.2.2.2.2.2.2.1) rfl
def w7_216 := lw_in (mT7 wgr7_16.2.2.2.2.2.2.2.1) rfl
def w7_218 := lw_in (mT7 wgr7_16.2.2.2.2.2.2.2.2.1) rfl
def w7_219 := lw_in (mT7 wgr7_16.2.2.2.2.2.2.2.2.2.1) rfl
theorem wgr7_17 : lwcdp tables_1_7 [(220, (Jvm.Cond.selects "DotPressModel" ({ cls := "DotPressModel", name := "page", desc := "(III)I" } : Jvm.MethodName) ({ cls := "DotPressModel", name := "page", desc := "(III)I" } : Jvm.MethodName))), (222, (Jvm.Cond.methodLink "DotPressModel" (297 : Nat) ({ cls := "DotPressModel", name := "pages", desc := "()I" } : Jvm.MethodName))), (223, (Jvm.Cond.methodLink "DotPressModel" (300 : Nat) ({ cls := "DotPressModel", name := "cell", desc := "(II)I" } : Jvm.MethodName))), (224, (Jvm.Cond.methodLink "DotPressLaw" (93 : Nat) ({ cls := "DotPressModel", name := "cut", desc := "(II)I" } : Jvm.MethodName))), (225, (Jvm.Cond.instanceMethod ({ cls := "DotPressModel", name := "cut", desc := "(II)I" } : Jvm.MethodName))), (226, (Jvm.Cond.selects "DotPressModel" ({ cls := "DotPressModel", name := "cut", desc := "(II)I" } : Jvm.MethodName) ({ cls := "DotPressModel", name := "cut", desc := "(II)I" } : Jvm.MethodName))), (228, (Jvm.Cond.methodLink "DotPressLaw" (97 : Nat) ({ cls := "DotPressModel", name := "lose", desc := "(I)I" } : Jvm.MethodName))), (229, (Jvm.Cond.instanceMethod ({ cls := "DotPressModel", name := "lose", desc := "(I)I" } : Jvm.MethodName))), (230, (Jvm.Cond.selects "DotPressModel" ({ cls := "DotPressModel", name := "lose", desc := "(I)I" } : Jvm.MethodName) ({ cls := "DotPressModel", name := "lose", desc := "(I)I" } : Jvm.MethodName))), (232, (Jvm.Cond.methodLink "DotPressLaw" (101 : Nat) ({ cls := "DotPressModel", name := "copyRow", desc := "(IIIII)I" } : Jvm.MethodName)))] := lwcdf (by decide +kernel)
def w7_220 := lw_in (mT7 wgr7_17.1) rfl
def w7_222 := lw_in (mT7 wgr7_17.2.1) rfl
def w7_223 := lw_in (mT7 wgr7_17.2.2.1) rfl
def w7_224 := lw_in (mT7 wgr7_17.2.2.2.1) rfl
def w7_225 := lw_in (mT7 wgr7_17.2.2.2.2.1) rfl
def w7_226 := lw_in (mT7 wgr7_17.2.2.2.2.2.1) rfl
def w7_228 := lw_in (mT7 wgr7_17.2.2.2.2.2.2.1) rfl
def w7_229 := lw_in (mT7 wgr7_17.2.2.2.2.2.2.2.1) rfl
def w7_230 := lw_in (mT7 wgr7_17.2.2.2.2.2.2.2.2.1) rfl
def w7_232 := lw_in (mT7 wgr7_17.2.2.2.2.2.2.2.2.2.1) rfl
theorem wgr7_18 : lwcdp tables_1_7 [(233, (Jvm.Cond.instanceMethod ({ cls := "DotPressModel", name := "copyRow", desc := "(IIIII)I" } : Jvm.MethodName))), (234, (Jvm.Cond.selects "DotPressModel" ({ cls := "DotPressModel", name := "copyRow", desc := "(IIIII)I" } : Jvm.MethodName) ({ cls := "DotPressModel", name := "copyRow", desc := "(IIIII)I" } : Jvm.MethodName))), (236, (Jvm.Cond.methodLink "DotPressLaw" (105 : Nat) ({ cls := "DotPressModel", name := "copyLines", desc := "(III)I" } : Jvm.MethodName))), (237, (Jvm.Cond.instanceMethod ({ cls := "DotPressModel", name := "copyLines", desc := "(III)I" } : Jvm.MethodName))), (238, (Jvm.Cond.selects "DotPressModel" ({ cls := "DotPressModel", name := "copyLines", desc := "(III)I" } : Jvm.MethodName) ({ cls := "DotPressModel", name := "copyLines", desc := "(III)I" } : Jvm.MethodName)))] := lwcdf (by decide +kernel)
def w7_233 := lw_in (mT7 wgr7_18.1) rfl
def w7_234 := lw_in (mT7 wgr7_18.2.1) rfl
def w7_236 := lw_in (mT7 wgr7_18.2.2.1) rfl
def w7_237 := lw_in (mT7 wgr7_18.2.2.2.1) rfl
def w7_238 := lw_in (mT7 wgr7_18.2.2.2.2.1) rfl
theorem wgr8_0 : lwcdp tables_1_8 [(0, (Jvm.Cond.methodLink "DotPressLaw" (109 : Nat) ({ cls := "DotPressModel", name := "copied", desc := "()I" } : Jvm.MethodName))), (1, (Jvm.Cond.instanceMethod ({ cls := "DotPressModel", name := "copied", desc := "()I" } : Jvm.MethodName))), (2, (Jvm.Cond.selects "DotPressModel" ({ cls := "DotPressModel", name := "copied", desc := "()I" } : Jvm.MethodName) ({ cls := "DotPressModel", name := "copied", desc := "()I" } : Jvm.MethodName))), (4, (Jvm.Cond.methodLink "DotPressLaw" (113 : Nat) ({ cls := "DotPressModel", name := "emboss", desc := "(II)I" } : Jvm.MethodName))), (5, (Jvm.Cond.instanceMethod ({ cls := "DotPressModel", name := "emboss", desc := "(II)I" } : Jvm.MethodName))), (6, (Jvm.Cond.selects "DotPressModel" ({ cls := "DotPressModel", name := "emboss", desc := "(II)I" } : Jvm.MethodName) ({ cls := "DotPressModel", name := "emboss", desc := "(II)I" } : Jvm.MethodName))), (8, (Jvm.Cond.methodLink "DotPressModel" (309 : Nat) ({ cls := "java/lang/Integer", name := "bitCount", desc := "(I)I" } : Jvm.MethodName))), (9, (Jvm.Cond.methodLink "DotPressLaw" (117 : Nat) ({ cls := "DotPressModel", name := "closed", desc := "()I" } : Jvm.MethodName))), (10, (Jvm.Cond.instanceMethod ({ cls := "DotPressModel", name := "closed", desc := "()I" } : Jvm.MethodName))), (11, (Jvm.Cond.selects "DotPressModel" ({ cls := "DotPressModel", name := "closed", desc := "()I" } : Jvm.MethodName) ({ cls := "DotPressModel", name := "closed", desc := "()I" } : Jvm.MethodName)))] := lwcdf (by decide +kernel)
def w8_0 := lw_in (mT8 wgr8_0.1) rfl
def w8_1 := lw_in (mT8 wgr8_0.2.1) rfl
def w8_2 := lw_in (mT8 wgr8_0.2.2.1) rfl
def w8_4 := lw_in (mT8 wgr8_0.2.2.2.1) rfl
def w8_5 := lw_in (mT8 wgr8_0.2.2.2.2.1) rfl
def w8_6 := lw_in (mT8 wgr8_0.2.2.2.2.2.1) rfl
def w8_8 := lw_in (mT8 wgr8_0.2.2.2.2.2.2.1) rfl
def w8_9 := lw_in (mT8 wgr8_0.2.2.2.2.2.2.2.1) rfl
def w8_10 := lw_in (mT8 wgr8_0.2.2.2.2.2.2.2.2.1) rfl
def w8_11 := lw_in (mT8 wgr8_0.2.2.2.2.2.2.2.2.2.1) rfl
theorem wgr8_1 : lwcdp tables_1_8 [(13, (Jvm.Cond.methodLink "DotPressLaw" (158 : Nat) ({ cls := "DotPressModel", name := "saved", desc := "(II)I" } : Jvm.MethodName))), (14, (Jvm.Cond.instanceMethod ({ cls := "DotPressModel", name := "saved", desc := "(II)I" } : Jvm.MethodName))), (15, (Jvm.Cond.selects "DotPressModel" ({ cls := "DotPressModel", name := "saved", desc := "(II)I" } : Jvm.MethodName) ({ cls := "DotPressModel", name := "saved", desc := "(II)I" } : Jvm.MethodName))), (17, (Jvm.Cond.methodLink "DotPressLaw" (121 : Nat) ({ cls := "DotPressModel", name := "read", desc := "(III)I" } : Jvm.MethodName))), (18, (Jvm.Cond.instanceMethod ({ cls := "DotPressModel", name := "read", desc := "(III)I" } : Jvm.MethodName))), (19, (Jvm.Cond.selects "DotPressModel" ({ cls := "DotPressModel", name := "read", desc := "(III)I" } : Jvm.MethodName) ({ cls := "DotPressModel", name := "read", desc := "(III)I" } : Jvm.MethodName))), (21, (Jvm.Cond.methodLink "DotPressModel" (351 : Nat) ({ cls := "DotPressModel", name := "putRow", desc := "(II)V" } : Jvm.MethodName))), (22, (Jvm.Cond.privateMethod ({ cls := "DotPressModel", name := "putRow", desc := "(II)V" } : Jvm.MethodName))), (23, (Jvm.Cond.instanceMethod ({ cls := "DotPressModel", name := "putRow", desc := "(II)V" } : Jvm.MethodName))), (25, (Jvm.Cond.methodLink "DotPressModel" (354 : Nat) ({ cls := "DotPressModel", name := "gather", desc := "(I)V" } : Jvm.MethodName)))] := lwcdf (by decide +kernel)
def w8_13 := lw_in (mT8 wgr8_1.1) rfl
def w8_14 := lw_in (mT8 wgr8_1.2.1) rfl
def w8_15 := lw_in (mT8 wgr8_1.2.2.1) rfl
def w8_17 := lw_in (mT8 wgr8_1.2.2.2.1) rfl
def w8_18 := lw_in (mT8 wgr8_1.2.2.2.2.1) rfl
def w8_19 := lw_in (mT8 wgr8_1.2.2.2.2.2.1) rfl
def w8_21 := lw_in (mT8 wgr8_1.2.2.2.2.2.2.1) rfl
def w8_23 := lw_in (mT8 wgr8_1.2.2.2.2.2.2.2.2.1) rfl
def w8_25 := lw_in (mT8 wgr8_1.2.2.2.2.2.2.2.2.2.1) rfl
theorem wgr8_2 : lwcdp tables_1_8 [(26, (Jvm.Cond.privateMethod ({ cls := "DotPressModel", name := "gather", desc := "(I)V" } : Jvm.MethodName))), (27, (Jvm.Cond.instanceMethod ({ cls := "DotPressModel", name := "gather", desc := "(I)V" } : Jvm.MethodName))), (29, (Jvm.Cond.methodLink "DotPressModel" (321 : Nat) ({ cls := "DotPressModel", name := "addRows", desc := "(II)V" } : Jvm.MethodName))), (30, (Jvm.Cond.privateMethod ({ cls := "DotPressModel", name := "addRows", desc := "(II)V" } : Jvm.MethodName))), (31, (Jvm.Cond.instanceMethod ({ cls := "DotPressModel", name := "addRows", desc := "(II)V" } : Jvm.MethodName))), (33, (Jvm.Cond.methodLink "DotPressModel" (314 : Nat) ({ cls := "DotPressModel", name := "addRow", desc := "(IIII)V" } : Jvm.MethodName))), (34, (Jvm.Cond.privateMethod ({ cls := "DotPressModel", name := "addRow", desc := "(IIII)V" } : Jvm.MethodName))), (35, (Jvm.Cond.instanceMethod ({ cls := "DotPressModel", name := "addRow", desc := "(IIII)V" } : Jvm.MethodName))), (37, (Jvm.Cond.methodLink "DotPressModel" (317 : Nat) ({ cls := "DotPressModel", name := "addIndicator", desc := "(III)V" } : Jvm.MethodName))), (38, (Jvm.Cond.privateMethod ({ cls := "DotPressModel", name := "addIndicator", desc := "(III)V" } : Jvm.MethodName)))] := lwcdf (by decide +kernel)
def w8_27 := lw_in (mT8 wgr8_2.2.1) rfl
def w8_29 := lw_in (mT8 wgr8_2.2.2.1) rfl
def w8_31 := lw_in (mT8 wgr8_2.2.2.2.2.1) rfl
def w8_33 := lw_in (mT8 wgr8_2.2.2.2.2.2.1) rfl
def w8_35 := lw_in (mT8 wgr8_2.2.2.2.2.2.2.2.1) rfl
def w8_37 := lw_in (mT8 wgr8_2.2.2.2.2.2.2.2.2.1) rfl
theorem wgr8_3 : lwcdp tables_1_8 [(39, (Jvm.Cond.instanceMethod ({ cls := "DotPressModel", name := "addIndicator", desc := "(III)V" } : Jvm.MethodName))), (41, (Jvm.Cond.methodLink "DotPressModel" (357 : Nat) ({ cls := "DotPressModel", name := "readAll", desc := "()I" } : Jvm.MethodName))), (42, (Jvm.Cond.privateMethod ({ cls := "DotPressModel", name := "readAll", desc := "()I" } : Jvm.MethodName))), (43, (Jvm.Cond.instanceMethod ({ cls := "DotPressModel", name := "readAll", desc := "()I" } : Jvm.MethodName))), (45, (Jvm.Cond.methodLink "DotPressModel" (336 : Nat) ({ cls := "DotPressModel", name := "tell", desc := "(I)Z" } : Jvm.MethodName))), (46, (Jvm.Cond.privateMethod ({ cls := "DotPressModel", name := "tell", desc := "(I)Z" } : Jvm.MethodName))), (47, (Jvm.Cond.instanceMethod ({ cls := "DotPressModel", name := "tell", desc := "(I)Z" } : Jvm.MethodName))), (49, (Jvm.Cond.methodLink "DotPressModel" (339 : Nat) ({ cls := "DotPressModel", name := "readWord", desc := "(II)I" } : Jvm.MethodName))), (50, (Jvm.Cond.privateMethod ({ cls := "DotPressModel", name := "readWord", desc := "(II)I" } : Jvm.MethodName))), (51, (Jvm.Cond.instanceMethod ({ cls := "DotPressModel", name := "readWord", desc := "(II)I" } : Jvm.MethodName)))] := lwcdf (by decide +kernel)
def w8_39 := lw_in (mT8 wgr8_3.1) rfl
def w8_41 := lw_in (mT8 wgr8_3.2.1) rfl
def w8_43 := lw_in (mT8 wgr8_3.2.2.2.1) rfl
def w8_45 := lw_in (mT8 wgr8_3.2.2.2.2.1) rfl
def w8_47 := lw_in (mT8 wgr8_3.2.2.2.2.2.2.1) rfl
def w8_49 := lw_in (mT8 wgr8_3.2.2.2.2.2.2.2.1) rfl
def w8_51 := lw_in (mT8 wgr8_3.2.2.2.2.2.2.2.2.2.1) rfl
theorem wgr8_4 : lwcdp tables_1_8 [(53, (Jvm.Cond.methodLink "DotPressModel" (342 : Nat) ({ cls := "DotPressModel", name := "longest", desc := "(III)I" } : Jvm.MethodName))), (54, (Jvm.Cond.privateMethod ({ cls := "DotPressModel", name := "longest", desc := "(III)I" } : Jvm.MethodName))), (55, (Jvm.Cond.instanceMethod ({ cls := "DotPressModel", name := "longest", desc := "(III)I" } : Jvm.MethodName))), (57, (Jvm.Cond.methodLink "DotPressModel" (327 : Nat) ({ cls := "DotPressModel", name := "stands", desc := "(III)Z" } : Jvm.MethodName))), (58, (Jvm.Cond.privateMethod ({ cls := "DotPressModel", name := "stands", desc := "(III)Z" } : Jvm.MethodName))), (59, (Jvm.Cond.instanceMethod ({ cls := "DotPressModel", name := "stands", desc := "(III)Z" } : Jvm.MethodName))), (61, (Jvm.Cond.methodLink "DotPressModel" (324 : Nat) ({ cls := "DotPressModel", name := "rowCell", desc := "(II)I" } : Jvm.MethodName))), (62, (Jvm.Cond.privateMethod ({ cls := "DotPressModel", name := "rowCell", desc := "(II)I" } : Jvm.MethodName))), (63, (Jvm.Cond.instanceMethod ({ cls := "DotPressModel", name := "rowCell", desc := "(II)I" } : Jvm.MethodName))), (65, (Jvm.Cond.methodLink "DotPressModel" (348 : Nat) ({ cls := "DotPressModel", name := "isSmallRule", desc := "(I)Z" } : Jvm.MethodName)))] := lwcdf (by decide +kernel)
def w8_53 := lw_in (mT8 wgr8_4.1) rfl
def w8_55 := lw_in (mT8 wgr8_4.2.2.1) rfl
def w8_57 := lw_in (mT8 wgr8_4.2.2.2.1) rfl
def w8_59 := lw_in (mT8 wgr8_4.2.2.2.2.2.1) rfl
def w8_61 := lw_in (mT8 wgr8_4.2.2.2.2.2.2.1) rfl
def w8_63 := lw_in (mT8 wgr8_4.2.2.2.2.2.2.2.2.1) rfl
def w8_65 := lw_in (mT8 wgr8_4.2.2.2.2.2.2.2.2.2.1) rfl
theorem wgr8_5 : lwcdp tables_1_8 [(66, (Jvm.Cond.privateMethod ({ cls := "DotPressModel", name := "isSmallRule", desc := "(I)Z" } : Jvm.MethodName))), (67, (Jvm.Cond.instanceMethod ({ cls := "DotPressModel", name := "isSmallRule", desc := "(I)Z" } : Jvm.MethodName))), (69, (Jvm.Cond.methodLink "DotPressLaw" (125 : Nat) ({ cls := "DotPressModel", name := "letter", desc := "(I)I" } : Jvm.MethodName))), (70, (Jvm.Cond.instanceMethod ({ cls := "DotPressModel", name := "letter", desc := "(I)I" } : Jvm.MethodName))), (71, (Jvm.Cond.selects "DotPressModel" ({ cls := "DotPressModel", name := "letter", desc := "(I)I" } : Jvm.MethodName) ({ cls := "DotPressModel", name := "letter", desc := "(I)I" } : Jvm.MethodName))), (73, (Jvm.Cond.methodLink "DotPressLaw" (130 : Nat) ({ cls := "DotPressModel", name := "failed", desc := "(IZ)I" } : Jvm.MethodName))), (74, (Jvm.Cond.instanceMethod ({ cls := "DotPressModel", name := "failed", desc := "(IZ)I" } : Jvm.MethodName))), (75, (Jvm.Cond.selects "DotPressModel" ({ cls := "DotPressModel", name := "failed", desc := "(IZ)I" } : Jvm.MethodName) ({ cls := "DotPressModel", name := "failed", desc := "(IZ)I" } : Jvm.MethodName))), (77, (Jvm.Cond.methodLink "DotPressLaw" (134 : Nat) ({ cls := "DotPressModel", name := "readings", desc := "(III)I" } : Jvm.MethodName))), (78, (Jvm.Cond.instanceMethod ({ cls := "DotPressModel", name := "readings", desc := "(III)I" } : Jvm.MethodName)))] := lwcdf (by decide +kernel)
def w8_67 := lw_in (mT8 wgr8_5.2.1) rfl
def w8_69 := lw_in (mT8 wgr8_5.2.2.1) rfl
def w8_70 := lw_in (mT8 wgr8_5.2.2.2.1) rfl
def w8_71 := lw_in (mT8 wgr8_5.2.2.2.2.1) rfl
def w8_73 := lw_in (mT8 wgr8_5.2.2.2.2.2.1) rfl
def w8_74 := lw_in (mT8 wgr8_5.2.2.2.2.2.2.1) rfl
def w8_75 := lw_in (mT8 wgr8_5.2.2.2.2.2.2.2.1) rfl
def w8_77 := lw_in (mT8 wgr8_5.2.2.2.2.2.2.2.2.1) rfl
def w8_78 := lw_in (mT8 wgr8_5.2.2.2.2.2.2.2.2.2.1) rfl
theorem wgr8_6 : lwcdp tables_1_8 [(79, (Jvm.Cond.selects "DotPressModel" ({ cls := "DotPressModel", name := "readings", desc := "(III)I" } : Jvm.MethodName) ({ cls := "DotPressModel", name := "readings", desc := "(III)I" } : Jvm.MethodName))), (81, (Jvm.Cond.methodLink "DotPressModel" (401 : Nat) ({ cls := "DotPressModel", name := "findCan", desc := "()V" } : Jvm.MethodName))), (82, (Jvm.Cond.privateMethod ({ cls := "DotPressModel", name := "findCan", desc := "()V" } : Jvm.MethodName))), (83, (Jvm.Cond.instanceMethod ({ cls := "DotPressModel", name := "findCan", desc := "()V" } : Jvm.MethodName))), (85, (Jvm.Cond.methodLink "DotPressModel" (374 : Nat) ({ cls := "DotPressModel", name := "mayBlank", desc := "(IZ)Z" } : Jvm.MethodName))), (86, (Jvm.Cond.privateMethod ({ cls := "DotPressModel", name := "mayBlank", desc := "(IZ)Z" } : Jvm.MethodName))), (87, (Jvm.Cond.instanceMethod ({ cls := "DotPressModel", name := "mayBlank", desc := "(IZ)Z" } : Jvm.MethodName))), (89, (Jvm.Cond.methodLink "DotPressModel" (363 : Nat) ({ cls := "DotPressModel", name := "looksLike", desc := "(II)Z" } : Jvm.MethodName))), (90, (Jvm.Cond.privateMethod ({ cls := "DotPressModel", name := "looksLike", desc := "(II)Z" } : Jvm.MethodName))), (91, (Jvm.Cond.instanceMethod ({ cls := "DotPressModel", name := "looksLike", desc := "(II)Z" } : Jvm.MethodName)))] := lwcdf (by decide +kernel)
def w8_79 := lw_in (mT8 wgr8_6.1) rfl
def w8_81 := lw_in (mT8 wgr8_6.2.1) rfl
def w8_83 := lw_in (mT8 wgr8_6.2.2.2.1) rfl
def w8_85 := lw_in (mT8 wgr8_6.2.2.2.2.1) rfl
def w8_87 := lw_in (mT8 wgr8_6.2.2.2.2.2.2.1) rfl
def w8_89 := lw_in (mT8 wgr8_6.2.2.2.2.2.2.2.1) rfl
def w8_91 := lw_in (mT8 wgr8_6.2.2.2.2.2.2.2.2.2.1) rfl
theorem wgr8_7 : lwcdp tables_1_8 [(93, (Jvm.Cond.methodLink "DotPressModel" (370 : Nat) ({ cls := "DotPressModel", name := "state", desc := "(IIZ)I" } : Jvm.MethodName))), (94, (Jvm.Cond.static ({ cls := "DotPressModel", name := "state", desc := "(IIZ)I" } : Jvm.MethodName))), (96, (Jvm.Cond.methodLink "DotPressModel" (378 : Nat) ({ cls := "DotPressModel", name := "may", desc := "(IIIZ)Z" } : Jvm.MethodName))), (97, (Jvm.Cond.privateMethod ({ cls := "DotPressModel", name := "may", desc := "(IIIZ)Z" } : Jvm.MethodName))), (98, (Jvm.Cond.instanceMethod ({ cls := "DotPressModel", name := "may", desc := "(IIIZ)Z" } : Jvm.MethodName))), (100, (Jvm.Cond.methodLink "DotPressModel" (367 : Nat) ({ cls := "DotPressModel", name := "next", desc := "(II)I" } : Jvm.MethodName))), (101, (Jvm.Cond.privateMethod ({ cls := "DotPressModel", name := "next", desc := "(II)I" } : Jvm.MethodName))), (102, (Jvm.Cond.instanceMethod ({ cls := "DotPressModel", name := "next", desc := "(II)I" } : Jvm.MethodName))), (104, (Jvm.Cond.methodLink "DotPressModel" (391 : Nat) ({ cls := "DotPressModel", name := "go", desc := "(IIZ)V" } : Jvm.MethodName))), (105, (Jvm.Cond.privateMethod ({ cls := "DotPressModel", name := "go", desc := "(IIZ)V" } : Jvm.MethodName)))] := lwcdf (by decide +kernel)
def w8_93 := lw_in (mT8 wgr8_7.1) rfl
def w8_94 := lw_in (mT8 wgr8_7.2.1) rfl
def w8_96 := lw_in (mT8 wgr8_7.2.2.1) rfl
def w8_98 := lw_in (mT8 wgr8_7.2.2.2.2.1) rfl
def w8_100 := lw_in (mT8 wgr8_7.2.2.2.2.2.1) rfl
def w8_102 := lw_in (mT8 wgr8_7.2.2.2.2.2.2.2.1) rfl
def w8_104 := lw_in (mT8 wgr8_7.2.2.2.2.2.2.2.2.1) rfl
theorem wgr8_8 : lwcdp tables_1_8 [(106, (Jvm.Cond.instanceMethod ({ cls := "DotPressModel", name := "go", desc := "(IIZ)V" } : Jvm.MethodName))), (108, (Jvm.Cond.methodLink "DotPressModel" (385 : Nat) ({ cls := "DotPressModel", name := "keep", desc := "()V" } : Jvm.MethodName))), (109, (Jvm.Cond.privateMethod ({ cls := "DotPressModel", name := "keep", desc := "()V" } : Jvm.MethodName))), (110, (Jvm.Cond.instanceMethod ({ cls := "DotPressModel", name := "keep", desc := "()V" } : Jvm.MethodName))), (112, (Jvm.Cond.methodLink "DotPressLaw" (138 : Nat) ({ cls := "DotPressModel", name := "more", desc := "()I" } : Jvm.MethodName))), (113, (Jvm.Cond.instanceMethod ({ cls := "DotPressModel", name := "more", desc := "()I" } : Jvm.MethodName))), (114, (Jvm.Cond.selects "DotPressModel" ({ cls := "DotPressModel", name := "more", desc := "()I" } : Jvm.MethodName) ({ cls := "DotPressModel", name := "more", desc := "()I" } : Jvm.MethodName))), (116, (Jvm.Cond.methodLink "DotPressLaw" (142 : Nat) ({ cls := "DotPressModel", name := "reading", desc := "(II)I" } : Jvm.MethodName))), (117, (Jvm.Cond.instanceMethod ({ cls := "DotPressModel", name := "reading", desc := "(II)I" } : Jvm.MethodName))), (118, (Jvm.Cond.selects "DotPressModel" ({ cls := "DotPressModel", name := "reading", desc := "(II)I" } : Jvm.MethodName) ({ cls := "DotPressModel", name := "reading", desc := "(II)I" } : Jvm.MethodName)))] := lwcdf (by decide +kernel)
def w8_106 := lw_in (mT8 wgr8_8.1) rfl
def w8_108 := lw_in (mT8 wgr8_8.2.1) rfl
def w8_110 := lw_in (mT8 wgr8_8.2.2.2.1) rfl
def w8_112 := lw_in (mT8 wgr8_8.2.2.2.2.1) rfl
def w8_113 := lw_in (mT8 wgr8_8.2.2.2.2.2.1) rfl
def w8_114 := lw_in (mT8 wgr8_8.2.2.2.2.2.2.1) rfl
def w8_116 := lw_in (mT8 wgr8_8.2.2.2.2.2.2.2.1) rfl
def w8_117 := lw_in (mT8 wgr8_8.2.2.2.2.2.2.2.2.1) rfl
def w8_118 := lw_in (mT8 wgr8_8.2.2.2.2.2.2.2.2.2.1) rfl
theorem wgr8_9 : lwcdp tables_1_8 [(120, (Jvm.Cond.methodLink "DotPressLaw" (146 : Nat) ({ cls := "DotPressModel", name := "judge", desc := "(I)I" } : Jvm.MethodName))), (121, (Jvm.Cond.instanceMethod ({ cls := "DotPressModel", name := "judge", desc := "(I)I" } : Jvm.MethodName))), (122, (Jvm.Cond.selects "DotPressModel" ({ cls := "DotPressModel", name := "judge", desc := "(I)I" } : Jvm.MethodName) ({ cls := "DotPressModel", name := "judge", desc := "(I)I" } : Jvm.MethodName))), (124, (Jvm.Cond.methodLink "DotPressModel" (407 : Nat) ({ cls := "DotPressModel", name := "isShort", desc := "(I)Z" } : Jvm.MethodName))), (125, (Jvm.Cond.privateMethod ({ cls := "DotPressModel", name := "isShort", desc := "(I)Z" } : Jvm.MethodName))), (126, (Jvm.Cond.instanceMethod ({ cls := "DotPressModel", name := "isShort", desc := "(I)Z" } : Jvm.MethodName))), (128, (Jvm.Cond.methodLink "DotPressModel" (410 : Nat) ({ cls := "DotPressModel", name := "isReadable", desc := "(I)Z" } : Jvm.MethodName))), (129, (Jvm.Cond.privateMethod ({ cls := "DotPressModel", name := "isReadable", desc := "(I)Z" } : Jvm.MethodName))), (130, (Jvm.Cond.instanceMethod ({ cls := "DotPressModel", name := "isReadable", desc := "(I)Z" } : Jvm.MethodName))), (132, (Jvm.Cond.methodLink "DotPressModel" (404 : Nat) ({ cls := "DotPressModel", name := "alike", desc := "(II)I" } : Jvm.MethodName)))] := lwcdf (by decide +kernel)
def w8_120 := lw_in (mT8 wgr8_9.1) rfl
def w8_121 := lw_in (mT8 wgr8_9.2.1) rfl
def w8_122 := lw_in (mT8 wgr8_9.2.2.1) rfl
def w8_124 := lw_in (mT8 wgr8_9.2.2.2.1) rfl
def w8_126 := lw_in (mT8 wgr8_9.2.2.2.2.2.1) rfl
def w8_128 := lw_in (mT8 wgr8_9.2.2.2.2.2.2.1) rfl
def w8_130 := lw_in (mT8 wgr8_9.2.2.2.2.2.2.2.2.1) rfl
def w8_132 := lw_in (mT8 wgr8_9.2.2.2.2.2.2.2.2.2.1) rfl
theorem wgr8_10 : lwcdp tables_1_8 [(133, (Jvm.Cond.privateMethod ({ cls := "DotPressModel", name := "alike", desc := "(II)I" } : Jvm.MethodName))), (134, (Jvm.Cond.instanceMethod ({ cls := "DotPressModel", name := "alike", desc := "(II)I" } : Jvm.MethodName))), (136, (Jvm.Cond.methodLink "DotPressLaw" (150 : Nat) ({ cls := "DotPressModel", name := "parts", desc := "(III)I" } : Jvm.MethodName))), (137, (Jvm.Cond.instanceMethod ({ cls := "DotPressModel", name := "parts", desc := "(III)I" } : Jvm.MethodName))), (138, (Jvm.Cond.selects "DotPressModel" ({ cls := "DotPressModel", name := "parts", desc := "(III)I" } : Jvm.MethodName) ({ cls := "DotPressModel", name := "parts", desc := "(III)I" } : Jvm.MethodName))), (140, (Jvm.Cond.methodLink "DotPressLaw" (154 : Nat) ({ cls := "DotPressModel", name := "unreadable", desc := "(III)I" } : Jvm.MethodName))), (141, (Jvm.Cond.instanceMethod ({ cls := "DotPressModel", name := "unreadable", desc := "(III)I" } : Jvm.MethodName))), (142, (Jvm.Cond.selects "DotPressModel" ({ cls := "DotPressModel", name := "unreadable", desc := "(III)I" } : Jvm.MethodName) ({ cls := "DotPressModel", name := "unreadable", desc := "(III)I" } : Jvm.MethodName))), (144, (Jvm.Cond.methodLink "DotPressModel" (416 : Nat) ({ cls := "DotPressModel", name := "gatherSigns", desc := "(I)V" } : Jvm.MethodName))), (145, (Jvm.Cond.privateMethod ({ cls := "DotPressModel", name := "gatherSigns", desc := "(I)V" } : Jvm.MethodName)))] := lwcdf (by decide +kernel)
def w8_134 := lw_in (mT8 wgr8_10.2.1) rfl
def w8_136 := lw_in (mT8 wgr8_10.2.2.1) rfl
def w8_137 := lw_in (mT8 wgr8_10.2.2.2.1) rfl
def w8_138 := lw_in (mT8 wgr8_10.2.2.2.2.1) rfl
def w8_140 := lw_in (mT8 wgr8_10.2.2.2.2.2.1) rfl
def w8_141 := lw_in (mT8 wgr8_10.2.2.2.2.2.2.1) rfl
def w8_142 := lw_in (mT8 wgr8_10.2.2.2.2.2.2.2.1) rfl
def w8_144 := lw_in (mT8 wgr8_10.2.2.2.2.2.2.2.2.1) rfl
theorem wgr8_11 : lwcdp tables_1_8 [(146, (Jvm.Cond.instanceMethod ({ cls := "DotPressModel", name := "gatherSigns", desc := "(I)V" } : Jvm.MethodName))), (148, (Jvm.Cond.methodLink "DotPressModel" (422 : Nat) ({ cls := "DotPressModel", name := "putBack", desc := "()V" } : Jvm.MethodName))), (149, (Jvm.Cond.privateMethod ({ cls := "DotPressModel", name := "putBack", desc := "()V" } : Jvm.MethodName))), (150, (Jvm.Cond.instanceMethod ({ cls := "DotPressModel", name := "putBack", desc := "()V" } : Jvm.MethodName))), (152, (Jvm.Cond.methodLink "DotPressModel" (425 : Nat) ({ cls := "DotPressModel", name := "isUnreadable", desc := "(I)Z" } : Jvm.MethodName))), (153, (Jvm.Cond.privateMethod ({ cls := "DotPressModel", name := "isUnreadable", desc := "(I)Z" } : Jvm.MethodName))), (154, (Jvm.Cond.instanceMethod ({ cls := "DotPressModel", name := "isUnreadable", desc := "(I)Z" } : Jvm.MethodName))), (156, (Jvm.Cond.methodLink "DotPressLaw" (162 : Nat) ({ cls := "DotPressModel", name := "place", desc := "()I" } : Jvm.MethodName))), (157, (Jvm.Cond.instanceMethod ({ cls := "DotPressModel", name := "place", desc := "()I" } : Jvm.MethodName))), (158, (Jvm.Cond.selects "DotPressModel" ({ cls := "DotPressModel", name := "place", desc := "()I" } : Jvm.MethodName) ({ cls := "DotPressModel", name := "place", desc := "()I" } : Jvm.MethodName)))] := lwcdf (by decide +kernel)
def w8_146 := lw_in (mT8 wgr8_11.1) rfl
def w8_148 := lw_in (mT8 wgr8_11.2.1) rfl
def w8_150 := lw_in (mT8 wgr8_11.2.2.2.1) rfl
def w8_152 := lw_in (mT8 wgr8_11.2.2.2.2.1) rfl
def w8_154 := lw_in (mT8 wgr8_11.2.2.2.2.2.2.1) rfl
def w8_156 := lw_in (mT8 wgr8_11.2.2.2.2.2.2.2.1) rfl
def w8_157 := lw_in (mT8 wgr8_11.2.2.2.2.2.2.2.2.1) rfl
def w8_158 := lw_in (mT8 wgr8_11.2.2.2.2.2.2.2.2.2.1) rfl
theorem wgr8_12 : lwcdp tables_1_8 [(160, (Jvm.Cond.methodLink "DotPressLaw" (170 : Nat) ({ cls := "DotPressModel", name := "status", desc := "()I" } : Jvm.MethodName))), (161, (Jvm.Cond.instanceMethod ({ cls := "DotPressModel", name := "status", desc := "()I" } : Jvm.MethodName))), (162, (Jvm.Cond.selects "DotPressModel" ({ cls := "DotPressModel", name := "status", desc := "()I" } : Jvm.MethodName) ({ cls := "DotPressModel", name := "status", desc := "()I" } : Jvm.MethodName))), (164, (Jvm.Cond.methodLink "DotPressLaw" (174 : Nat) ({ cls := "DotPressModel", name := "digest", desc := "()I" } : Jvm.MethodName))), (165, (Jvm.Cond.instanceMethod ({ cls := "DotPressModel", name := "digest", desc := "()I" } : Jvm.MethodName))), (166, (Jvm.Cond.selects "DotPressModel" ({ cls := "DotPressModel", name := "digest", desc := "()I" } : Jvm.MethodName) ({ cls := "DotPressModel", name := "digest", desc := "()I" } : Jvm.MethodName))), (168, (Jvm.Cond.castable "DotPress$Table" "DotPress$Table")), (169, (Jvm.Cond.castable "DotPress$Row" "DotPress$Row")), (170, (Jvm.Cond.castable "DotPress$Change" "DotPress$Change")), (171, (Jvm.Cond.sameMethod "[Ljava/lang/Object;" "java/lang/Object" "getClass" "()Ljava/lang/Class;"))] := lwcdf (by decide +kernel)
def w8_160 := lw_in (mT8 wgr8_12.1) rfl
def w8_161 := lw_in (mT8 wgr8_12.2.1) rfl
def w8_162 := lw_in (mT8 wgr8_12.2.2.1) rfl
def w8_164 := lw_in (mT8 wgr8_12.2.2.2.1) rfl
def w8_165 := lw_in (mT8 wgr8_12.2.2.2.2.1) rfl
def w8_166 := lw_in (mT8 wgr8_12.2.2.2.2.2.1) rfl
def w8_168t := mT8 wgr8_12.2.2.2.2.2.2.1
def w8_169t := mT8 wgr8_12.2.2.2.2.2.2.2.1
def w8_170t := mT8 wgr8_12.2.2.2.2.2.2.2.2.1
theorem wgr8_13 : lwcdp tables_1_8 [(172, (Jvm.Cond.selects "[Ljava/lang/Object;" ({ cls := "java/lang/Object", name := "getClass", desc := "()Ljava/lang/Class;" } : Jvm.MethodName) ({ cls := "java/lang/Object", name := "getClass", desc := "()Ljava/lang/Class;" } : Jvm.MethodName))), (173, (Jvm.Cond.declares ({ cls := "java/lang/Object", name := "getClass", desc := "()Ljava/lang/Class;" } : Jvm.MethodName))), (174, (Jvm.Cond.castable "DotPress" "java/lang/Object")), (175, (Jvm.Cond.castable "DotPress$Ints" "java/lang/Object")), (176, (Jvm.Cond.castable "DotPress$Tables" "java/lang/Object")), (177, (Jvm.Cond.castable "DotPress$Source" "java/lang/Object")), (178, (Jvm.Cond.castable "DotPress$Setting" "java/lang/Object")), (179, (Jvm.Cond.castable "DotPress$Reader" "java/lang/Object")), (180, (Jvm.Cond.castable "DotPress$Readings" "java/lang/Object")), (181, (Jvm.Cond.castable "DotPress$Sheet" "java/lang/Object"))] := lwcdf (by decide +kernel)
def w8_172 := lw_in (mT8 wgr8_13.1) rfl
def w8_173t := mT8 wgr8_13.2.1
theorem wgr8_14 : lwcdp tables_1_8 [(182, (Jvm.Cond.castable "DotPressModel" "java/lang/Object")), (183, (Jvm.Cond.castable "DotPress$Table" "java/lang/Object")), (184, (Jvm.Cond.castable "DotPress$Change" "java/lang/Object")), (185, (Jvm.Cond.castable "DotPress$Row" "java/lang/Object")), (186, (Jvm.Cond.castable "DotPress$Line" "java/lang/Object"))] := lwcdf (by decide +kernel)
def w8_183t := mT8 wgr8_14.2.1
def w8_184t := mT8 wgr8_14.2.2.1
def w8_185t := mT8 wgr8_14.2.2.2.1
theorem wp_0 : Cond.selects "DotPress" ⟨"DotPress", "refuse", "(I)I"⟩ ⟨"DotPress", "refuse", "(I)I"⟩ ∈ lw_g := lw_in (List.mem_append_left _ (List.mem_map.mpr ⟨(⟨"DotPress", "refuse", "(I)I"⟩, _), List.mem_of_getElem? (i := 0) rfl, rfl⟩)) rfl
theorem wp_1 : Cond.selects "DotPress" ⟨"DotPress", "feedFour", "(I)V"⟩ ⟨"DotPress", "feedFour", "(I)V"⟩ ∈ lw_g := lw_in (List.mem_append_left _ (List.mem_map.mpr ⟨(⟨"DotPress", "feedFour", "(I)V"⟩, _), List.mem_of_getElem? (i := 1) rfl, rfl⟩)) rfl
theorem wp_10 : Cond.selects "DotPress" ⟨"DotPress", "addText", "()I"⟩ ⟨"DotPress", "addText", "()I"⟩ ∈ lw_g := lw_in (List.mem_append_left _ (List.mem_map.mpr ⟨(⟨"DotPress", "addText", "()I"⟩, _), List.mem_of_getElem? (i := 10) rfl, rfl⟩)) rfl
theorem wp_11 : Cond.selects "DotPress$Source" ⟨"DotPress$Source", "enterLine", "(LDotPress$Ints;)I"⟩ ⟨"DotPress$Source", "enterLine", "(LDotPress$Ints;)I"⟩ ∈ lw_g := lw_in (List.mem_append_left _ (List.mem_map.mpr ⟨(⟨"DotPress$Source", "enterLine", "(LDotPress$Ints;)I"⟩, _), List.mem_of_getElem? (i := 11) rfl, rfl⟩)) rfl
theorem wp_12 : Cond.selects "DotPress$Setting" ⟨"DotPress$Setting", "setPart", "(LDotPress$Table;II)I"⟩ ⟨"DotPress$Setting", "setPart", "(LDotPress$Table;II)I"⟩ ∈ lw_g := lw_in (List.mem_append_left _ (List.mem_map.mpr ⟨(⟨"DotPress$Setting", "setPart", "(LDotPress$Table;II)I"⟩, _), List.mem_of_getElem? (i := 12) rfl, rfl⟩)) rfl
theorem wp_13 : Cond.selects "DotPress$Setting" ⟨"DotPress$Setting", "numberAhead", "(LDotPress$Table;I)LDotPress$Row;"⟩ ⟨"DotPress$Setting", "numberAhead", "(LDotPress$Table;I)LDotPress$Row;"⟩ ∈ lw_g := lw_in (List.mem_append_left _ (List.mem_map.mpr ⟨(⟨"DotPress$Setting", "numberAhead", "(LDotPress$Table;I)LDotPress$Row;"⟩, _), List.mem_of_getElem? (i := 13) rfl, rfl⟩)) rfl
theorem wp_14 : Cond.selects "DotPress$Setting" ⟨"DotPress$Setting", "find", "(LDotPress$Table;II)LDotPress$Row;"⟩ ⟨"DotPress$Setting", "find", "(LDotPress$Table;II)LDotPress$Row;"⟩ ∈ lw_g := lw_in (List.mem_append_left _ (List.mem_map.mpr ⟨(⟨"DotPress$Setting", "find", "(LDotPress$Table;II)LDotPress$Row;"⟩, _), List.mem_of_getElem? (i := 14) rfl, rfl⟩)) rfl
theorem wp_15 : Cond.selects "DotPress$Setting" ⟨"DotPress$Setting", "countFind", "(I)V"⟩ ⟨"DotPress$Setting", "countFind", "(I)V"⟩ ∈ lw_g := lw_in (List.mem_append_left _ (List.mem_map.mpr ⟨(⟨"DotPress$Setting", "countFind", "(I)V"⟩, _), List.mem_of_getElem? (i := 15) rfl, rfl⟩)) rfl
theorem wp_16 : Cond.selects "DotPress$Setting" ⟨"DotPress$Setting", "findOwn", "(LDotPress$Table;IILDotPress$Row;)LDotPress$Row;"⟩ ⟨"DotPress$Setting", "findOwn", "(LDotPress$Table;IILDotPress$Row;)LDotPress$Row;"⟩ ∈ lw_g := lw_in (List.mem_append_left _ (List.mem_map.mpr ⟨(⟨"DotPress$Setting", "findOwn", "(LDotPress$Table;IILDotPress$Row;)LDotPress$Row;"⟩, _), List.mem_of_getElem? (i := 16) rfl, rfl⟩)) rfl
theorem wp_17 : Cond.selects "DotPress$Setting" ⟨"DotPress$Setting", "fits", "(LDotPress$Row;I)Z"⟩ ⟨"DotPress$Setting", "fits", "(LDotPress$Row;I)Z"⟩ ∈ lw_g := lw_in (List.mem_append_left _ (List.mem_map.mpr ⟨(⟨"DotPress$Setting", "fits", "(LDotPress$Row;I)Z"⟩, _), List.mem_of_getElem? (i := 17) rfl, rfl⟩)) rfl
theorem wp_18 : Cond.selects "DotPress$Setting" ⟨"DotPress$Setting", "markStart", "(II)V"⟩ ⟨"DotPress$Setting", "markStart", "(II)V"⟩ ∈ lw_g := lw_in (List.mem_append_left _ (List.mem_map.mpr ⟨(⟨"DotPress$Setting", "markStart", "(II)V"⟩, _), List.mem_of_getElem? (i := 18) rfl, rfl⟩)) rfl
theorem wp_19 : Cond.selects "DotPress$Setting" ⟨"DotPress$Setting", "push", "(LDotPress$Row;)V"⟩ ⟨"DotPress$Setting", "push", "(LDotPress$Row;)V"⟩ ∈ lw_g := lw_in (List.mem_append_left _ (List.mem_map.mpr ⟨(⟨"DotPress$Setting", "push", "(LDotPress$Row;)V"⟩, _), List.mem_of_getElem? (i := 19) rfl, rfl⟩)) rfl
theorem wp_2 : Cond.selects "DotPress" ⟨"DotPress", "done", "(I)I"⟩ ⟨"DotPress", "done", "(I)I"⟩ ∈ lw_g := lw_in (List.mem_append_left _ (List.mem_map.mpr ⟨(⟨"DotPress", "done", "(I)I"⟩, _), List.mem_of_getElem? (i := 2) rfl, rfl⟩)) rfl
theorem wp_20 : Cond.selects "DotPress$Setting" ⟨"DotPress$Setting", "setTurn", "(LDotPress$Row;I)I"⟩ ⟨"DotPress$Setting", "setTurn", "(LDotPress$Row;I)I"⟩ ∈ lw_g := lw_in (List.mem_append_left _ (List.mem_map.mpr ⟨(⟨"DotPress$Setting", "setTurn", "(LDotPress$Row;I)I"⟩, _), List.mem_of_getElem? (i := 20) rfl, rfl⟩)) rfl
theorem wp_21 : Cond.selects "DotPress" ⟨"DotPress", "publish", "()I"⟩ ⟨"DotPress", "publish", "()I"⟩ ∈ lw_g := lw_in (List.mem_append_left _ (List.mem_map.mpr ⟨(⟨"DotPress", "publish", "()I"⟩, _), List.mem_of_getElem? (i := 21) rfl, rfl⟩)) rfl
theorem wp_22 : Cond.selects "DotPress" ⟨"DotPress", "refuseAt", "(II)I"⟩ ⟨"DotPress", "refuseAt", "(II)I"⟩ ∈ lw_g := lw_in (List.mem_append_left _ (List.mem_map.mpr ⟨(⟨"DotPress", "refuseAt", "(II)I"⟩, _), List.mem_of_getElem? (i := 22) rfl, rfl⟩)) rfl
theorem wp_23 : Cond.selects "DotPress" ⟨"DotPress", "linesOfPage", "()I"⟩ ⟨"DotPress", "linesOfPage", "()I"⟩ ∈ lw_g := lw_in (List.mem_append_left _ (List.mem_map.mpr ⟨(⟨"DotPress", "linesOfPage", "()I"⟩, _), List.mem_of_getElem? (i := 23) rfl, rfl⟩)) rfl
theorem wp_24 : Cond.selects "DotPress" ⟨"DotPress", "pagesHaveHeader", "()Z"⟩ ⟨"DotPress", "pagesHaveHeader", "()Z"⟩ ∈ lw_g := lw_in (List.mem_append_left _ (List.mem_map.mpr ⟨(⟨"DotPress", "pagesHaveHeader", "()Z"⟩, _), List.mem_of_getElem? (i := 24) rfl, rfl⟩)) rfl
theorem wp_25 : Cond.selects "DotPress" ⟨"DotPress", "cellOfLine", "(II)I"⟩ ⟨"DotPress", "cellOfLine", "(II)I"⟩ ∈ lw_g := lw_in (List.mem_append_left _ (List.mem_map.mpr ⟨(⟨"DotPress", "cellOfLine", "(II)I"⟩, _), List.mem_of_getElem? (i := 25) rfl, rfl⟩)) rfl
theorem wp_26 : Cond.selects "DotPress" ⟨"DotPress", "chainLines", "(II)V"⟩ ⟨"DotPress", "chainLines", "(II)V"⟩ ∈ lw_g := lw_in (List.mem_append_left _ (List.mem_map.mpr ⟨(⟨"DotPress", "chainLines", "(II)V"⟩, _), List.mem_of_getElem? (i := 26) rfl, rfl⟩)) rfl
theorem wp_27 : Cond.selects "DotPress$Reader" ⟨"DotPress$Reader", "decodeWord", "(I)I"⟩ ⟨"DotPress$Reader", "decodeWord", "(I)I"⟩ ∈ lw_g := lw_in (List.mem_append_left _ (List.mem_map.mpr ⟨(⟨"DotPress$Reader", "decodeWord", "(I)I"⟩, _), List.mem_of_getElem? (i := 27) rfl, rfl⟩)) rfl
theorem wp_28 : Cond.selects "DotPress$Reader" ⟨"DotPress$Reader", "longestAt", "(ZI)LDotPress$Row;"⟩ ⟨"DotPress$Reader", "longestAt", "(ZI)LDotPress$Row;"⟩ ∈ lw_g := lw_in (List.mem_append_left _ (List.mem_map.mpr ⟨(⟨"DotPress$Reader", "longestAt", "(ZI)LDotPress$Row;"⟩, _), List.mem_of_getElem? (i := 28) rfl, rfl⟩)) rfl
theorem wp_29 : Cond.selects "DotPress$Readings" ⟨"DotPress$Readings", "markEnds", "()V"⟩ ⟨"DotPress$Readings", "markEnds", "()V"⟩ ∈ lw_g := lw_in (List.mem_append_left _ (List.mem_map.mpr ⟨(⟨"DotPress$Readings", "markEnds", "()V"⟩, _), List.mem_of_getElem? (i := 29) rfl, rfl⟩)) rfl
theorem wp_3 : Cond.selects "java/util/ArrayList" ⟨"java/util/ArrayList", "add", "(Ljava/lang/Object;[Ljava/lang/Object;I)V"⟩ ⟨"java/util/ArrayList", "add", "(Ljava/lang/Object;[Ljava/lang/Object;I)V"⟩ ∈ lw_g := lw_in (List.mem_append_left _ (List.mem_map.mpr ⟨(⟨"java/util/ArrayList", "add", "(Ljava/lang/Object;[Ljava/lang/Object;I)V"⟩, _), List.mem_of_getElem? (i := 3) rfl, rfl⟩)) rfl
theorem wp_30 : Cond.selects "DotPress$Readings" ⟨"DotPress$Readings", "nextChoice", "(II)I"⟩ ⟨"DotPress$Readings", "nextChoice", "(II)I"⟩ ∈ lw_g := lw_in (List.mem_append_left _ (List.mem_map.mpr ⟨(⟨"DotPress$Readings", "nextChoice", "(II)I"⟩, _), List.mem_of_getElem? (i := 30) rfl, rfl⟩)) rfl
theorem wp_31 : Cond.selects "DotPress$Readings" ⟨"DotPress$Readings", "nodeBehind", "(II)I"⟩ ⟨"DotPress$Readings", "nodeBehind", "(II)I"⟩ ∈ lw_g := lw_in (List.mem_append_left _ (List.mem_map.mpr ⟨(⟨"DotPress$Readings", "nodeBehind", "(II)I"⟩, _), List.mem_of_getElem? (i := 31) rfl, rfl⟩)) rfl
theorem wp_32 : Cond.selects "DotPress$Readings" ⟨"DotPress$Readings", "looksLike", "(II)Z"⟩ ⟨"DotPress$Readings", "looksLike", "(II)Z"⟩ ∈ lw_g := lw_in (List.mem_append_left _ (List.mem_map.mpr ⟨(⟨"DotPress$Readings", "looksLike", "(II)Z"⟩, _), List.mem_of_getElem? (i := 32) rfl, rfl⟩)) rfl
theorem wp_33 : Cond.selects "DotPress$Readings" ⟨"DotPress$Readings", "looksLikeRow", "(LDotPress$Row;I)Z"⟩ ⟨"DotPress$Readings", "looksLikeRow", "(LDotPress$Row;I)Z"⟩ ∈ lw_g := lw_in (List.mem_append_left _ (List.mem_map.mpr ⟨(⟨"DotPress$Readings", "looksLikeRow", "(LDotPress$Row;I)Z"⟩, _), List.mem_of_getElem? (i := 33) rfl, rfl⟩)) rfl
theorem wp_34 : Cond.selects "DotPress$Readings" ⟨"DotPress$Readings", "walk", "(I)V"⟩ ⟨"DotPress$Readings", "walk", "(I)V"⟩ ∈ lw_g := lw_in (List.mem_append_left _ (List.mem_map.mpr ⟨(⟨"DotPress$Readings", "walk", "(I)V"⟩, _), List.mem_of_getElem? (i := 34) rfl, rfl⟩)) rfl
theorem wp_35 : Cond.selects "DotPress$Readings" ⟨"DotPress$Readings", "write", "(I)V"⟩ ⟨"DotPress$Readings", "write", "(I)V"⟩ ∈ lw_g := lw_in (List.mem_append_left _ (List.mem_map.mpr ⟨(⟨"DotPress$Readings", "write", "(I)V"⟩, _), List.mem_of_getElem? (i := 35) rfl, rfl⟩)) rfl
theorem wp_36 : Cond.selects "DotPress$Source" ⟨"DotPress$Source", "markLetters", "(Ljava/util/ArrayList;)V"⟩ ⟨"DotPress$Source", "markLetters", "(Ljava/util/ArrayList;)V"⟩ ∈ lw_g := lw_in (List.mem_append_left _ (List.mem_map.mpr ⟨(⟨"DotPress$Source", "markLetters", "(Ljava/util/ArrayList;)V"⟩, _), List.mem_of_getElem? (i := 36) rfl, rfl⟩)) rfl
theorem wp_37 : Cond.selects "DotPress$Source" ⟨"DotPress$Source", "lengthen", "(I)Z"⟩ ⟨"DotPress$Source", "lengthen", "(I)Z"⟩ ∈ lw_g := lw_in (List.mem_append_left _ (List.mem_map.mpr ⟨(⟨"DotPress$Source", "lengthen", "(I)Z"⟩, _), List.mem_of_getElem? (i := 37) rfl, rfl⟩)) rfl
theorem wp_38 : Cond.selects "DotPress" ⟨"DotPress", "isReadBack", "()Z"⟩ ⟨"DotPress", "isReadBack", "()Z"⟩ ∈ lw_g := lw_in (List.mem_append_left _ (List.mem_map.mpr ⟨(⟨"DotPress", "isReadBack", "()Z"⟩, _), List.mem_of_getElem? (i := 38) rfl, rfl⟩)) rfl
theorem wp_39 : Cond.selects "DotPressModel" ⟨"DotPressModel", "bad", "(I)I"⟩ ⟨"DotPressModel", "bad", "(I)I"⟩ ∈ lw_g := lw_in (List.mem_append_left _ (List.mem_map.mpr ⟨(⟨"DotPressModel", "bad", "(I)I"⟩, _), List.mem_of_getElem? (i := 39) rfl, rfl⟩)) rfl
theorem wp_4 : Cond.selects "java/util/ArrayList" ⟨"java/util/ArrayList", "grow", "()[Ljava/lang/Object;"⟩ ⟨"java/util/ArrayList", "grow", "()[Ljava/lang/Object;"⟩ ∈ lw_g := lw_in (List.mem_append_left _ (List.mem_map.mpr ⟨(⟨"java/util/ArrayList", "grow", "()[Ljava/lang/Object;"⟩, _), List.mem_of_getElem? (i := 4) rfl, rfl⟩)) rfl
theorem wp_40 : Cond.selects "DotPressModel" ⟨"DotPressModel", "fine", "(I)I"⟩ ⟨"DotPressModel", "fine", "(I)I"⟩ ∈ lw_g := lw_in (List.mem_append_left _ (List.mem_map.mpr ⟨(⟨"DotPressModel", "fine", "(I)I"⟩, _), List.mem_of_getElem? (i := 40) rfl, rfl⟩)) rfl
theorem wp_41 : Cond.selects "DotPressModel" ⟨"DotPressModel", "isTable", "(I)Z"⟩ ⟨"DotPressModel", "isTable", "(I)Z"⟩ ∈ lw_g := lw_in (List.mem_append_left _ (List.mem_map.mpr ⟨(⟨"DotPressModel", "isTable", "(I)Z"⟩, _), List.mem_of_getElem? (i := 41) rfl, rfl⟩)) rfl
theorem wp_42 : Cond.selects "DotPressModel" ⟨"DotPressModel", "newTable", "(IIII)I"⟩ ⟨"DotPressModel", "newTable", "(IIII)I"⟩ ∈ lw_g := lw_in (List.mem_append_left _ (List.mem_map.mpr ⟨(⟨"DotPressModel", "newTable", "(IIII)I"⟩, _), List.mem_of_getElem? (i := 42) rfl, rfl⟩)) rfl
theorem wp_43 : Cond.selects "DotPressModel" ⟨"DotPressModel", "step", "(IIII)V"⟩ ⟨"DotPressModel", "step", "(IIII)V"⟩ ∈ lw_g := lw_in (List.mem_append_left _ (List.mem_map.mpr ⟨(⟨"DotPressModel", "step", "(IIII)V"⟩, _), List.mem_of_getElem? (i := 43) rfl, rfl⟩)) rfl
theorem wp_44 : Cond.selects "DotPressModel" ⟨"DotPressModel", "taken", "()I"⟩ ⟨"DotPressModel", "taken", "()I"⟩ ∈ lw_g := lw_in (List.mem_append_left _ (List.mem_map.mpr ⟨(⟨"DotPressModel", "taken", "()I"⟩, _), List.mem_of_getElem? (i := 44) rfl, rfl⟩)) rfl
theorem wp_45 : Cond.selects "DotPressModel" ⟨"DotPressModel", "areCells", "(III)Z"⟩ ⟨"DotPressModel", "areCells", "(III)Z"⟩ ∈ lw_g := lw_in (List.mem_append_left _ (List.mem_map.mpr ⟨(⟨"DotPressModel", "areCells", "(III)Z"⟩, _), List.mem_of_getElem? (i := 45) rfl, rfl⟩)) rfl
theorem wp_46 : Cond.selects "DotPressModel" ⟨"DotPressModel", "isWhole", "(I)Z"⟩ ⟨"DotPressModel", "isWhole", "(I)Z"⟩ ∈ lw_g := lw_in (List.mem_append_left _ (List.mem_map.mpr ⟨(⟨"DotPressModel", "isWhole", "(I)Z"⟩, _), List.mem_of_getElem? (i := 46) rfl, rfl⟩)) rfl
theorem wp_47 : Cond.selects "DotPressModel" ⟨"DotPressModel", "lineEnd", "(I)I"⟩ ⟨"DotPressModel", "lineEnd", "(I)I"⟩ ∈ lw_g := lw_in (List.mem_append_left _ (List.mem_map.mpr ⟨(⟨"DotPressModel", "lineEnd", "(I)I"⟩, _), List.mem_of_getElem? (i := 47) rfl, rfl⟩)) rfl
theorem wp_48 : Cond.selects "DotPressModel" ⟨"DotPressModel", "newLine", "()Z"⟩ ⟨"DotPressModel", "newLine", "()Z"⟩ ∈ lw_g := lw_in (List.mem_append_left _ (List.mem_map.mpr ⟨(⟨"DotPressModel", "newLine", "()Z"⟩, _), List.mem_of_getElem? (i := 48) rfl, rfl⟩)) rfl
theorem wp_49 : Cond.selects "DotPressModel" ⟨"DotPressModel", "takeWord", "(II)I"⟩ ⟨"DotPressModel", "takeWord", "(II)I"⟩ ∈ lw_g := lw_in (List.mem_append_left _ (List.mem_map.mpr ⟨(⟨"DotPressModel", "takeWord", "(II)I"⟩, _), List.mem_of_getElem? (i := 49) rfl, rfl⟩)) rfl
theorem wp_5 : Cond.selects "java/util/ArrayList" ⟨"java/util/ArrayList", "grow", "(I)[Ljava/lang/Object;"⟩ ⟨"java/util/ArrayList", "grow", "(I)[Ljava/lang/Object;"⟩ ∈ lw_g := lw_in (List.mem_append_left _ (List.mem_map.mpr ⟨(⟨"java/util/ArrayList", "grow", "(I)[Ljava/lang/Object;"⟩, _), List.mem_of_getElem? (i := 5) rfl, rfl⟩)) rfl
theorem wp_50 : Cond.selects "DotPressModel" ⟨"DotPressModel", "setWord", "(I)Z"⟩ ⟨"DotPressModel", "setWord", "(I)Z"⟩ ∈ lw_g := lw_in (List.mem_append_left _ (List.mem_map.mpr ⟨(⟨"DotPressModel", "setWord", "(I)Z"⟩, _), List.mem_of_getElem? (i := 50) rfl, rfl⟩)) rfl
theorem wp_51 : Cond.selects "DotPressModel" ⟨"DotPressModel", "setPart", "(III)Z"⟩ ⟨"DotPressModel", "setPart", "(III)Z"⟩ ∈ lw_g := lw_in (List.mem_append_left _ (List.mem_map.mpr ⟨(⟨"DotPressModel", "setPart", "(III)Z"⟩, _), List.mem_of_getElem? (i := 51) rfl, rfl⟩)) rfl
theorem wp_52 : Cond.selects "DotPressModel" ⟨"DotPressModel", "putIndicator", "(II)V"⟩ ⟨"DotPressModel", "putIndicator", "(II)V"⟩ ∈ lw_g := lw_in (List.mem_append_left _ (List.mem_map.mpr ⟨(⟨"DotPressModel", "putIndicator", "(II)V"⟩, _), List.mem_of_getElem? (i := 52) rfl, rfl⟩)) rfl
theorem wp_53 : Cond.selects "DotPressModel" ⟨"DotPressModel", "find", "(IIII)I"⟩ ⟨"DotPressModel", "find", "(IIII)I"⟩ ∈ lw_g := lw_in (List.mem_append_left _ (List.mem_map.mpr ⟨(⟨"DotPressModel", "find", "(IIII)I"⟩, _), List.mem_of_getElem? (i := 53) rfl, rfl⟩)) rfl
theorem wp_54 : Cond.selects "DotPressModel" ⟨"DotPressModel", "contracted", "(IIII)I"⟩ ⟨"DotPressModel", "contracted", "(IIII)I"⟩ ∈ lw_g := lw_in (List.mem_append_left _ (List.mem_map.mpr ⟨(⟨"DotPressModel", "contracted", "(IIII)I"⟩, _), List.mem_of_getElem? (i := 54) rfl, rfl⟩)) rfl
theorem wp_55 : Cond.selects "DotPressModel" ⟨"DotPressModel", "own", "(IIII)I"⟩ ⟨"DotPressModel", "own", "(IIII)I"⟩ ∈ lw_g := lw_in (List.mem_append_left _ (List.mem_map.mpr ⟨(⟨"DotPressModel", "own", "(IIII)I"⟩, _), List.mem_of_getElem? (i := 55) rfl, rfl⟩)) rfl
theorem wp_56 : Cond.selects "DotPressModel" ⟨"DotPressModel", "fits", "(IIII)Z"⟩ ⟨"DotPressModel", "fits", "(IIII)Z"⟩ ∈ lw_g := lw_in (List.mem_append_left _ (List.mem_map.mpr ⟨(⟨"DotPressModel", "fits", "(IIII)Z"⟩, _), List.mem_of_getElem? (i := 56) rfl, rfl⟩)) rfl
theorem wp_57 : Cond.selects "DotPressModel" ⟨"DotPressModel", "notSet", "()I"⟩ ⟨"DotPressModel", "notSet", "()I"⟩ ∈ lw_g := lw_in (List.mem_append_left _ (List.mem_map.mpr ⟨(⟨"DotPressModel", "notSet", "()I"⟩, _), List.mem_of_getElem? (i := 57) rfl, rfl⟩)) rfl
theorem wp_58 : Cond.selects "DotPressModel" ⟨"DotPressModel", "badAt", "(II)I"⟩ ⟨"DotPressModel", "badAt", "(II)I"⟩ ∈ lw_g := lw_in (List.mem_append_left _ (List.mem_map.mpr ⟨(⟨"DotPressModel", "badAt", "(II)I"⟩, _), List.mem_of_getElem? (i := 58) rfl, rfl⟩)) rfl
theorem wp_59 : Cond.selects "DotPressModel" ⟨"DotPressModel", "flow", "(I)Z"⟩ ⟨"DotPressModel", "flow", "(I)Z"⟩ ∈ lw_g := lw_in (List.mem_append_left _ (List.mem_map.mpr ⟨(⟨"DotPressModel", "flow", "(I)Z"⟩, _), List.mem_of_getElem? (i := 59) rfl, rfl⟩)) rfl
theorem wp_6 : Cond.selects "java/util/ArrayList" ⟨"java/util/ArrayList", "fastRemove", "([Ljava/lang/Object;I)V"⟩ ⟨"java/util/ArrayList", "fastRemove", "([Ljava/lang/Object;I)V"⟩ ∈ lw_g := lw_in (List.mem_append_left _ (List.mem_map.mpr ⟨(⟨"java/util/ArrayList", "fastRemove", "([Ljava/lang/Object;I)V"⟩, _), List.mem_of_getElem? (i := 6) rfl, rfl⟩)) rfl
theorem wp_60 : Cond.selects "DotPressModel" ⟨"DotPressModel", "breakOf", "(III)I"⟩ ⟨"DotPressModel", "breakOf", "(III)I"⟩ ∈ lw_g := lw_in (List.mem_append_left _ (List.mem_map.mpr ⟨(⟨"DotPressModel", "breakOf", "(III)I"⟩, _), List.mem_of_getElem? (i := 60) rfl, rfl⟩)) rfl
theorem wp_61 : Cond.selects "DotPressModel" ⟨"DotPressModel", "putCell", "(I)V"⟩ ⟨"DotPressModel", "putCell", "(I)V"⟩ ∈ lw_g := lw_in (List.mem_append_left _ (List.mem_map.mpr ⟨(⟨"DotPressModel", "putCell", "(I)V"⟩, _), List.mem_of_getElem? (i := 61) rfl, rfl⟩)) rfl
theorem wp_62 : Cond.selects "DotPressModel" ⟨"DotPressModel", "centre", "(I)V"⟩ ⟨"DotPressModel", "centre", "(I)V"⟩ ∈ lw_g := lw_in (List.mem_append_left _ (List.mem_map.mpr ⟨(⟨"DotPressModel", "centre", "(I)V"⟩, _), List.mem_of_getElem? (i := 62) rfl, rfl⟩)) rfl
theorem wp_63 : Cond.selects "DotPressModel" ⟨"DotPressModel", "onPage", "()I"⟩ ⟨"DotPressModel", "onPage", "()I"⟩ ∈ lw_g := lw_in (List.mem_append_left _ (List.mem_map.mpr ⟨(⟨"DotPressModel", "onPage", "()I"⟩, _), List.mem_of_getElem? (i := 63) rfl, rfl⟩)) rfl
theorem wp_64 : Cond.selects "DotPressModel" ⟨"DotPressModel", "hasHead", "()Z"⟩ ⟨"DotPressModel", "hasHead", "()Z"⟩ ∈ lw_g := lw_in (List.mem_append_left _ (List.mem_map.mpr ⟨(⟨"DotPressModel", "hasHead", "()Z"⟩, _), List.mem_of_getElem? (i := 64) rfl, rfl⟩)) rfl
theorem wp_65 : Cond.selects "DotPressModel" ⟨"DotPressModel", "lineFault", "(I)I"⟩ ⟨"DotPressModel", "lineFault", "(I)I"⟩ ∈ lw_g := lw_in (List.mem_append_left _ (List.mem_map.mpr ⟨(⟨"DotPressModel", "lineFault", "(I)I"⟩, _), List.mem_of_getElem? (i := 65) rfl, rfl⟩)) rfl
theorem wp_66 : Cond.selects "DotPressModel" ⟨"DotPressModel", "putRow", "(II)V"⟩ ⟨"DotPressModel", "putRow", "(II)V"⟩ ∈ lw_g := lw_in (List.mem_append_left _ (List.mem_map.mpr ⟨(⟨"DotPressModel", "putRow", "(II)V"⟩, _), List.mem_of_getElem? (i := 66) rfl, rfl⟩)) rfl
theorem wp_67 : Cond.selects "DotPressModel" ⟨"DotPressModel", "gather", "(I)V"⟩ ⟨"DotPressModel", "gather", "(I)V"⟩ ∈ lw_g := lw_in (List.mem_append_left _ (List.mem_map.mpr ⟨(⟨"DotPressModel", "gather", "(I)V"⟩, _), List.mem_of_getElem? (i := 67) rfl, rfl⟩)) rfl
theorem wp_68 : Cond.selects "DotPressModel" ⟨"DotPressModel", "addRows", "(II)V"⟩ ⟨"DotPressModel", "addRows", "(II)V"⟩ ∈ lw_g := lw_in (List.mem_append_left _ (List.mem_map.mpr ⟨(⟨"DotPressModel", "addRows", "(II)V"⟩, _), List.mem_of_getElem? (i := 68) rfl, rfl⟩)) rfl
theorem wp_69 : Cond.selects "DotPressModel" ⟨"DotPressModel", "addRow", "(IIII)V"⟩ ⟨"DotPressModel", "addRow", "(IIII)V"⟩ ∈ lw_g := lw_in (List.mem_append_left _ (List.mem_map.mpr ⟨(⟨"DotPressModel", "addRow", "(IIII)V"⟩, _), List.mem_of_getElem? (i := 69) rfl, rfl⟩)) rfl
theorem wp_7 : Cond.selects "DotPress" ⟨"DotPress", "addRule", "(III)I"⟩ ⟨"DotPress", "addRule", "(III)I"⟩ ∈ lw_g := lw_in (List.mem_append_left _ (List.mem_map.mpr ⟨(⟨"DotPress", "addRule", "(III)I"⟩, _), List.mem_of_getElem? (i := 7) rfl, rfl⟩)) rfl
theorem wp_70 : Cond.selects "DotPressModel" ⟨"DotPressModel", "addIndicator", "(III)V"⟩ ⟨"DotPressModel", "addIndicator", "(III)V"⟩ ∈ lw_g := lw_in (List.mem_append_left _ (List.mem_map.mpr ⟨(⟨"DotPressModel", "addIndicator", "(III)V"⟩, _), List.mem_of_getElem? (i := 70) rfl, rfl⟩)) rfl
theorem wp_71 : Cond.selects "DotPressModel" ⟨"DotPressModel", "readAll", "()I"⟩ ⟨"DotPressModel", "readAll", "()I"⟩ ∈ lw_g := lw_in (List.mem_append_left _ (List.mem_map.mpr ⟨(⟨"DotPressModel", "readAll", "()I"⟩, _), List.mem_of_getElem? (i := 71) rfl, rfl⟩)) rfl
theorem wp_72 : Cond.selects "DotPressModel" ⟨"DotPressModel", "tell", "(I)Z"⟩ ⟨"DotPressModel", "tell", "(I)Z"⟩ ∈ lw_g := lw_in (List.mem_append_left _ (List.mem_map.mpr ⟨(⟨"DotPressModel", "tell", "(I)Z"⟩, _), List.mem_of_getElem? (i := 72) rfl, rfl⟩)) rfl
theorem wp_73 : Cond.selects "DotPressModel" ⟨"DotPressModel", "readWord", "(II)I"⟩ ⟨"DotPressModel", "readWord", "(II)I"⟩ ∈ lw_g := lw_in (List.mem_append_left _ (List.mem_map.mpr ⟨(⟨"DotPressModel", "readWord", "(II)I"⟩, _), List.mem_of_getElem? (i := 73) rfl, rfl⟩)) rfl
theorem wp_74 : Cond.selects "DotPressModel" ⟨"DotPressModel", "longest", "(III)I"⟩ ⟨"DotPressModel", "longest", "(III)I"⟩ ∈ lw_g := lw_in (List.mem_append_left _ (List.mem_map.mpr ⟨(⟨"DotPressModel", "longest", "(III)I"⟩, _), List.mem_of_getElem? (i := 74) rfl, rfl⟩)) rfl
theorem wp_75 : Cond.selects "DotPressModel" ⟨"DotPressModel", "stands", "(III)Z"⟩ ⟨"DotPressModel", "stands", "(III)Z"⟩ ∈ lw_g := lw_in (List.mem_append_left _ (List.mem_map.mpr ⟨(⟨"DotPressModel", "stands", "(III)Z"⟩, _), List.mem_of_getElem? (i := 75) rfl, rfl⟩)) rfl
theorem wp_76 : Cond.selects "DotPressModel" ⟨"DotPressModel", "rowCell", "(II)I"⟩ ⟨"DotPressModel", "rowCell", "(II)I"⟩ ∈ lw_g := lw_in (List.mem_append_left _ (List.mem_map.mpr ⟨(⟨"DotPressModel", "rowCell", "(II)I"⟩, _), List.mem_of_getElem? (i := 76) rfl, rfl⟩)) rfl
theorem wp_77 : Cond.selects "DotPressModel" ⟨"DotPressModel", "isSmallRule", "(I)Z"⟩ ⟨"DotPressModel", "isSmallRule", "(I)Z"⟩ ∈ lw_g := lw_in (List.mem_append_left _ (List.mem_map.mpr ⟨(⟨"DotPressModel", "isSmallRule", "(I)Z"⟩, _), List.mem_of_getElem? (i := 77) rfl, rfl⟩)) rfl
theorem wp_78 : Cond.selects "DotPressModel" ⟨"DotPressModel", "findCan", "()V"⟩ ⟨"DotPressModel", "findCan", "()V"⟩ ∈ lw_g := lw_in (List.mem_append_left _ (List.mem_map.mpr ⟨(⟨"DotPressModel", "findCan", "()V"⟩, _), List.mem_of_getElem? (i := 78) rfl, rfl⟩)) rfl
theorem wp_79 : Cond.selects "DotPressModel" ⟨"DotPressModel", "mayBlank", "(IZ)Z"⟩ ⟨"DotPressModel", "mayBlank", "(IZ)Z"⟩ ∈ lw_g := lw_in (List.mem_append_left _ (List.mem_map.mpr ⟨(⟨"DotPressModel", "mayBlank", "(IZ)Z"⟩, _), List.mem_of_getElem? (i := 79) rfl, rfl⟩)) rfl
theorem wp_8 : Cond.selects "DotPress" ⟨"DotPress", "isRowOfCells", "(II)Z"⟩ ⟨"DotPress", "isRowOfCells", "(II)Z"⟩ ∈ lw_g := lw_in (List.mem_append_left _ (List.mem_map.mpr ⟨(⟨"DotPress", "isRowOfCells", "(II)Z"⟩, _), List.mem_of_getElem? (i := 8) rfl, rfl⟩)) rfl
theorem wp_80 : Cond.selects "DotPressModel" ⟨"DotPressModel", "looksLike", "(II)Z"⟩ ⟨"DotPressModel", "looksLike", "(II)Z"⟩ ∈ lw_g := lw_in (List.mem_append_left _ (List.mem_map.mpr ⟨(⟨"DotPressModel", "looksLike", "(II)Z"⟩, _), List.mem_of_getElem? (i := 80) rfl, rfl⟩)) rfl
theorem wp_81 : Cond.selects "DotPressModel" ⟨"DotPressModel", "may", "(IIIZ)Z"⟩ ⟨"DotPressModel", "may", "(IIIZ)Z"⟩ ∈ lw_g := lw_in (List.mem_append_left _ (List.mem_map.mpr ⟨(⟨"DotPressModel", "may", "(IIIZ)Z"⟩, _), List.mem_of_getElem? (i := 81) rfl, rfl⟩)) rfl
theorem wp_82 : Cond.selects "DotPressModel" ⟨"DotPressModel", "next", "(II)I"⟩ ⟨"DotPressModel", "next", "(II)I"⟩ ∈ lw_g := lw_in (List.mem_append_left _ (List.mem_map.mpr ⟨(⟨"DotPressModel", "next", "(II)I"⟩, _), List.mem_of_getElem? (i := 82) rfl, rfl⟩)) rfl
theorem wp_83 : Cond.selects "DotPressModel" ⟨"DotPressModel", "go", "(IIZ)V"⟩ ⟨"DotPressModel", "go", "(IIZ)V"⟩ ∈ lw_g := lw_in (List.mem_append_left _ (List.mem_map.mpr ⟨(⟨"DotPressModel", "go", "(IIZ)V"⟩, _), List.mem_of_getElem? (i := 83) rfl, rfl⟩)) rfl
theorem wp_84 : Cond.selects "DotPressModel" ⟨"DotPressModel", "keep", "()V"⟩ ⟨"DotPressModel", "keep", "()V"⟩ ∈ lw_g := lw_in (List.mem_append_left _ (List.mem_map.mpr ⟨(⟨"DotPressModel", "keep", "()V"⟩, _), List.mem_of_getElem? (i := 84) rfl, rfl⟩)) rfl
theorem wp_85 : Cond.selects "DotPressModel" ⟨"DotPressModel", "isShort", "(I)Z"⟩ ⟨"DotPressModel", "isShort", "(I)Z"⟩ ∈ lw_g := lw_in (List.mem_append_left _ (List.mem_map.mpr ⟨(⟨"DotPressModel", "isShort", "(I)Z"⟩, _), List.mem_of_getElem? (i := 85) rfl, rfl⟩)) rfl
theorem wp_86 : Cond.selects "DotPressModel" ⟨"DotPressModel", "isReadable", "(I)Z"⟩ ⟨"DotPressModel", "isReadable", "(I)Z"⟩ ∈ lw_g := lw_in (List.mem_append_left _ (List.mem_map.mpr ⟨(⟨"DotPressModel", "isReadable", "(I)Z"⟩, _), List.mem_of_getElem? (i := 86) rfl, rfl⟩)) rfl
theorem wp_87 : Cond.selects "DotPressModel" ⟨"DotPressModel", "alike", "(II)I"⟩ ⟨"DotPressModel", "alike", "(II)I"⟩ ∈ lw_g := lw_in (List.mem_append_left _ (List.mem_map.mpr ⟨(⟨"DotPressModel", "alike", "(II)I"⟩, _), List.mem_of_getElem? (i := 87) rfl, rfl⟩)) rfl
theorem wp_88 : Cond.selects "DotPressModel" ⟨"DotPressModel", "gatherSigns", "(I)V"⟩ ⟨"DotPressModel", "gatherSigns", "(I)V"⟩ ∈ lw_g := lw_in (List.mem_append_left _ (List.mem_map.mpr ⟨(⟨"DotPressModel", "gatherSigns", "(I)V"⟩, _), List.mem_of_getElem? (i := 88) rfl, rfl⟩)) rfl
theorem wp_89 : Cond.selects "DotPressModel" ⟨"DotPressModel", "putBack", "()V"⟩ ⟨"DotPressModel", "putBack", "()V"⟩ ∈ lw_g := lw_in (List.mem_append_left _ (List.mem_map.mpr ⟨(⟨"DotPressModel", "putBack", "()V"⟩, _), List.mem_of_getElem? (i := 89) rfl, rfl⟩)) rfl
theorem wp_9 : Cond.selects "DotPress" ⟨"DotPress", "changeIndicator", "(II)I"⟩ ⟨"DotPress", "changeIndicator", "(II)I"⟩ ∈ lw_g := lw_in (List.mem_append_left _ (List.mem_map.mpr ⟨(⟨"DotPress", "changeIndicator", "(II)I"⟩, _), List.mem_of_getElem? (i := 9) rfl, rfl⟩)) rfl
theorem wp_90 : Cond.selects "DotPressModel" ⟨"DotPressModel", "isUnreadable", "(I)Z"⟩ ⟨"DotPressModel", "isUnreadable", "(I)Z"⟩ ∈ lw_g := lw_in (List.mem_append_left _ (List.mem_map.mpr ⟨(⟨"DotPressModel", "isUnreadable", "(I)Z"⟩, _), List.mem_of_getElem? (i := 90) rfl, rfl⟩)) rfl
theorem ckw_0 : ∀ k, k < 3 → u_lay RJx4a65c TJx4a65c k ∈ lw_g := fun k hk => match k, hk with
  | 0, _ => w1_87
  | 1, _ => w1_83
  | 2, _ => w1_85
  | n + 3, h => absurd h (by omega)
theorem ck_0 : Ck 0 RJx4a65c TJx4a65c 3 tyJx4a65c := ⟨rfl, fun w hw => by obtain ⟨k, hk, e⟩ := List.mem_map.mp hw; rw [← e]; exact ckw_0 k (List.mem_range.mp hk), tyJx4a65c_ok, nmJx4a65c⟩
theorem ckw_1 : ∀ k, k < 4 → u_lay RX0 TX0 k ∈ lw_g := fun k hk => match k, hk with
  | 0, _ => w3_48
  | 1, _ => w3_50
  | 2, _ => w3_52
  | 3, _ => w3_54
  | n + 4, h => absurd h (by omega)
theorem ck_1 : Ck 1 RX0 TX0 4 tyX0 := ⟨rfl, fun w hw => by obtain ⟨k, hk, e⟩ := List.mem_map.mp hw; rw [← e]; exact ckw_1 k (List.mem_range.mp hk), tyX0_ok, nmX0⟩
theorem ckw_2 : ∀ k, k < 3 → u_lay RX1 TX1 k ∈ lw_g := fun k hk => match k, hk with
  | 0, _ => w1_50
  | 1, _ => w1_52
  | 2, _ => w1_54
  | n + 3, h => absurd h (by omega)
theorem ck_2 : Ck 2 RX1 TX1 3 tyX1 := ⟨rfl, fun w hw => by obtain ⟨k, hk, e⟩ := List.mem_map.mp hw; rw [← e]; exact ckw_2 k (List.mem_range.mp hk), tyX1_ok, nmX1⟩
theorem ckw_3 : ∀ k, k < 3 → u_lay RX2 TX2 k ∈ lw_g := fun k hk => match k, hk with
  | 0, _ => w4_57
  | 1, _ => w4_59
  | 2, _ => w4_61
  | n + 3, h => absurd h (by omega)
theorem ck_3 : Ck 3 RX2 TX2 3 tyX2 := ⟨rfl, fun w hw => by obtain ⟨k, hk, e⟩ := List.mem_map.mp hw; rw [← e]; exact ckw_3 k (List.mem_range.mp hk), tyX2_ok, nmX2⟩
theorem ckw_4 : ∀ k, k < 8 → u_lay RX3 TX3 k ∈ lw_g := fun k hk => match k, hk with
  | 0, _ => w1_203
  | 1, _ => w1_205
  | 2, _ => w1_207
  | 3, _ => w1_209
  | 4, _ => w1_211
  | 5, _ => w1_213
  | 6, _ => w1_215
  | 7, _ => w1_217
  | n + 8, h => absurd h (by omega)
theorem ck_4 : Ck 4 RX3 TX3 8 tyX3 := ⟨rfl, fun w hw => by obtain ⟨k, hk, e⟩ := List.mem_map.mp hw; rw [← e]; exact ckw_4 k (List.mem_range.mp hk), tyX3_ok, nmX3⟩
theorem ckw_5 : ∀ k, k < 11 → u_lay RX4 TX4 k ∈ lw_g := fun k hk => match k, hk with
  | 0, _ => w2_2
  | 1, _ => w2_4
  | 2, _ => w2_6
  | 3, _ => w2_8
  | 4, _ => w2_10
  | 5, _ => w2_12
  | 6, _ => w2_14
  | 7, _ => w2_16
  | 8, _ => w2_18
  | 9, _ => w2_20
  | 10, _ => w2_22
  | n + 11, h => absurd h (by omega)
theorem ck_5 : Ck 5 RX4 TX4 11 tyX4 := ⟨rfl, fun w hw => by obtain ⟨k, hk, e⟩ := List.mem_map.mp hw; rw [← e]; exact ckw_5 k (List.mem_range.mp hk), tyX4_ok, nmX4⟩
theorem ckw_6 : ∀ k, k < 4 → u_lay RX5 TX5 k ∈ lw_g := fun k hk => match k, hk with
  | 0, _ => w3_151
  | 1, _ => w3_153
  | 2, _ => w3_155
  | 3, _ => w3_157
  | n + 4, h => absurd h (by omega)
theorem ck_6 : Ck 6 RX5 TX5 4 tyX5 := ⟨rfl, fun w hw => by obtain ⟨k, hk, e⟩ := List.mem_map.mp hw; rw [← e]; exact ckw_6 k (List.mem_range.mp hk), tyX5_ok, nmX5⟩
theorem ckw_7 : ∀ k, k < 12 → u_lay RX6 TX6 k ∈ lw_g := fun k hk => match k, hk with
  | 0, _ => w1_154
  | 1, _ => w1_156
  | 2, _ => w1_158
  | 3, _ => w1_160
  | 4, _ => w1_162
  | 5, _ => w1_164
  | 6, _ => w1_166
  | 7, _ => w1_168
  | 8, _ => w1_170
  | 9, _ => w1_172
  | 10, _ => w1_174
  | 11, _ => w1_176
  | n + 12, h => absurd h (by omega)
theorem ck_7 : Ck 7 RX6 TX6 12 tyX6 := ⟨rfl, fun w hw => by obtain ⟨k, hk, e⟩ := List.mem_map.mp hw; rw [← e]; exact ckw_7 k (List.mem_range.mp hk), tyX6_ok, nmX6⟩
theorem ckw_8 : ∀ k, k < 3 → u_lay RX7 TX7 k ∈ lw_g := fun k hk => match k, hk with
  | 0, _ => w2_37
  | 1, _ => w2_39
  | 2, _ => w2_41
  | n + 3, h => absurd h (by omega)
theorem ck_8 : Ck 8 RX7 TX7 3 tyX7 := ⟨rfl, fun w hw => by obtain ⟨k, hk, e⟩ := List.mem_map.mp hw; rw [← e]; exact ckw_8 k (List.mem_range.mp hk), tyX7_ok, nmX7⟩
theorem ckw_9 : ∀ k, k < 8 → u_lay RX8 TX8 k ∈ lw_g := fun k hk => match k, hk with
  | 0, _ => w1_112
  | 1, _ => w1_114
  | 2, _ => w1_116
  | 3, _ => w1_118
  | 4, _ => w1_120
  | 5, _ => w1_122
  | 6, _ => w1_124
  | 7, _ => w1_126
  | n + 8, h => absurd h (by omega)
theorem ck_9 : Ck 9 RX8 TX8 8 tyX8 := ⟨rfl, fun w hw => by obtain ⟨k, hk, e⟩ := List.mem_map.mp hw; rw [← e]; exact ckw_9 k (List.mem_range.mp hk), tyX8_ok, nmX8⟩
theorem ckw_10 : ∀ k, k < 8 → u_lay RX9 TX9 k ∈ lw_g := fun k hk => match k, hk with
  | 0, _ => w2_200
  | 1, _ => w2_202
  | 2, _ => w2_204
  | 3, _ => w2_206
  | 4, _ => w2_208
  | 5, _ => w2_210
  | 6, _ => w2_212
  | 7, _ => w2_214
  | n + 8, h => absurd h (by omega)
theorem ck_10 : Ck 10 RX9 TX9 8 tyX9 := ⟨rfl, fun w hw => by obtain ⟨k, hk, e⟩ := List.mem_map.mp hw; rw [← e]; exact ckw_10 k (List.mem_range.mp hk), tyX9_ok, nmX9⟩
theorem ckw_11 : ∀ k, k < 2 → u_lay RX10 TX10 k ∈ lw_g := fun k hk => match k, hk with
  | 0, _ => w1_92
  | 1, _ => w1_94
  | n + 2, h => absurd h (by omega)
theorem ck_11 : Ck 11 RX10 TX10 2 tyX10 := ⟨rfl, fun w hw => by obtain ⟨k, hk, e⟩ := List.mem_map.mp hw; rw [← e]; exact ckw_11 k (List.mem_range.mp hk), tyX10_ok, nmX10⟩
theorem ckw_12 : ∀ k, k < 19 → u_lay RX11 TX11 k ∈ lw_g := fun k hk => match k, hk with
  | 0, _ => w2_63
  | 1, _ => w2_65
  | 2, _ => w2_67
  | 3, _ => w2_69
  | 4, _ => w2_71
  | 5, _ => w2_73
  | 6, _ => w2_75
  | 7, _ => w2_77
  | 8, _ => w2_79
  | 9, _ => w2_81
  | 10, _ => w2_83
  | 11, _ => w2_85
  | 12, _ => w2_87
  | 13, _ => w2_89
  | 14, _ => w2_91
  | 15, _ => w2_93
  | 16, _ => w2_95
  | 17, _ => w2_97
  | 18, _ => w2_99
  | n + 19, h => absurd h (by omega)
theorem ck_12 : Ck 12 RX11 TX11 19 tyX11 := ⟨rfl, fun w hw => by obtain ⟨k, hk, e⟩ := List.mem_map.mp hw; rw [← e]; exact ckw_12 k (List.mem_range.mp hk), tyX11_ok, nmX11⟩
theorem ckw_13 : ∀ k, k < 67 → u_lay RX12 TX12 k ∈ lw_g := fun k hk => match k, hk with
  | 0, _ => w6_126
  | 1, _ => w6_128
  | 2, _ => w6_130
  | 3, _ => w6_132
  | 4, _ => w6_134
  | 5, _ => w6_136
  | 6, _ => w6_138
  | 7, _ => w6_140
  | 8, _ => w6_142
  | 9, _ => w6_144
  | 10, _ => w6_146
  | 11, _ => w6_148
  | 12, _ => w6_150
  | 13, _ => w6_152
  | 14, _ => w6_154
  | 15, _ => w6_156
  | 16, _ => w6_158
  | 17, _ => w6_160
  | 18, _ => w6_162
  | 19, _ => w6_164
  | 20, _ => w6_166
  | 21, _ => w6_168
  | 22, _ => w6_170
  | 23, _ => w6_172
  | 24, _ => w6_174
  | 25, _ => w6_176
  | 26, _ => w6_178
  | 27, _ => w6_180
  | 28, _ => w6_182
  | 29, _ => w6_184
  | 30, _ => w6_186
  | 31, _ => w6_188
  | 32, _ => w6_190
  | 33, _ => w6_192
  | 34, _ => w6_194
  | 35, _ => w6_196
  | 36, _ => w6_198
  | 37, _ => w6_200
  | 38, _ => w6_202
  | 39, _ => w6_204
  | 40, _ => w6_206
  | 41, _ => w6_208
  | 42, _ => w6_210
  | 43, _ => w6_212
  | 44, _ => w6_214
  | 45, _ => w6_216
  | 46, _ => w6_218
  | 47, _ => w6_220
  | 48, _ => w6_222
  | 49, _ => w6_224
  | 50, _ => w6_226
  | 51, _ => w6_228
  | 52, _ => w6_230
  | 53, _ => w6_232
  | 54, _ => w6_234
  | 55, _ => w6_236
  | 56, _ => w6_238
  | 57, _ => w7_0
  | 58, _ => w7_2
  | 59, _ => w7_4
  | 60, _ => w7_6
  | 61, _ => w7_8
  | 62, _ => w7_10
  | 63, _ => w7_12
  | 64, _ => w7_14
  | 65, _ => w7_16
  | 66, _ => w7_18
  | n + 67, h => absurd h (by omega)
theorem ck_13 : Ck 13 RX12 TX12 67 tyX12 := ⟨rfl, fun w hw => by obtain ⟨k, hk, e⟩ := List.mem_map.mp hw; rw [← e]; exact ckw_13 k (List.mem_range.mp hk), tyX12_ok, nmX12⟩
end
section
theorem kI_Jx4a65c_1 : Wi RJx4a65c 1 yJxc12de_init_da8c8 cJxc12de_init_da8c8 1 0 := ⟨⟨w1_69, w1_5, w1_71, (by decide +kernel)⟩, rfl, w1_70⟩
theorem kI_Jxc12de_1 : Wi RJxc12de 1 yJxa1e45_init_da8c8 cJxa1e45_init_da8c8 1 0 := ⟨⟨w1_72, w1_4, w1_74, (by decide +kernel)⟩, rfl, w1_73⟩
theorem kI_L_12 : Wi RL 12 yX12_init cX12_init 1 0 := ⟨⟨w6_51, w1_12, w6_53, (by decide +kernel)⟩, rfl, w6_52⟩
theorem kI_L_9 : Wi RL 9 yX11_init cX11_init 1 0 := ⟨⟨w1_26, w1_1, w1_28, (by decide +kernel)⟩, rfl, w1_27⟩
theorem kI_X10_11 : Wi RX10 11 yJx4a65c_init_da8c8 cJx4a65c_init_da8c8 1 0 := ⟨⟨w1_66, w1_6, w1_68, (by decide +kernel)⟩, rfl, w1_67⟩
theorem kI_X10_49 : Wi RX10 49 yX0_init cX0_init 5 4 := ⟨⟨w3_36, w1_18, w3_38, (by decide +kernel)⟩, rfl, w3_37⟩
theorem kI_X11_11 : Wi RX11 11 yX1_init cX1_init 2 1 := ⟨⟨w1_34, w1_2, w1_36, (by decide +kernel)⟩, rfl, w1_35⟩
theorem kI_X11_124 : Wi RX11 124 yX9_init cX9_init 5 4 := ⟨⟨w2_164, w1_16, w2_166, (by decide +kernel)⟩, rfl, w2_165⟩
theorem kI_X11_149 : Wi RX11 149 yX0_init cX0_init 5 4 := ⟨⟨w3_99, w1_18, w3_38, (by decide +kernel)⟩, rfl, w3_37⟩
theorem kI_X11_194 : Wi RX11 194 yX5_init cX5_init 4 3 := ⟨⟨w3_131, w1_21, w3_133, (by decide +kernel)⟩, rfl, w3_132⟩
theorem kI_X11_57 : Wi RX11 57 yX4_init cX4_init 2 1 := ⟨⟨w1_222, w1_10, w1_224, (by decide +kernel)⟩, rfl, w1_223⟩
theorem kI_X3_11 : Wi RX3 11 yJx4a65c_init_da8c8 cJx4a65c_init_da8c8 1 0 := ⟨⟨w1_186, w1_6, w1_68, (by decide +kernel)⟩, rfl, w1_67⟩
theorem kI_X3_23 : Wi RX3 23 yX1_init cX1_init 2 1 := ⟨⟨w1_188, w1_2, w1_36, (by decide +kernel)⟩, rfl, w1_35⟩
theorem kI_X4_28 : Wi RX4 28 yX1_init cX1_init 2 1 := ⟨⟨w1_228, w1_2, w1_36, (by decide +kernel)⟩, rfl, w1_35⟩
theorem kI_X9_11 : Wi RX9 11 yJx4a65c_init_da8c8 cJx4a65c_init_da8c8 1 0 := ⟨⟨w2_169, w1_6, w1_68, (by decide +kernel)⟩, rfl, w1_67⟩
theorem kI_X9_20 : Wi RX9 20 yX1_init cX1_init 2 1 := ⟨⟨w2_171, w1_2, w1_36, (by decide +kernel)⟩, rfl, w1_35⟩
theorem kN_X11_29 : Wn RX11 29 yX10_init "DotPress" cX10_init 1 0 := ⟨⟨w1_60t, w1_3, w1_62, (by decide +kernel)⟩, rfl, w1_61⟩
theorem kN_X11_36 : Wn RX11 36 yX8_init "DotPress" cX8_init 1 0 := ⟨⟨w1_99t, w1_7, w1_101, (by decide +kernel)⟩, rfl, w1_100⟩
theorem kN_X11_43 : Wn RX11 43 yX6_init "DotPress" cX6_init 1 0 := ⟨⟨w1_132t, w1_8, w1_134, (by decide +kernel)⟩, rfl, w1_133⟩
theorem kN_X11_50 : Wn RX11 50 yX3_init "DotPress" cX3_init 1 0 := ⟨⟨w1_181t, w1_9, w1_183, (by decide +kernel)⟩, rfl, w1_182⟩
theorem kN_X11_66 : Wn RX11 66 yX7_init "DotPress" cX7_init 1 0 := ⟨⟨w2_27t, w1_11, w2_29, (by decide +kernel)⟩, rfl, w2_28⟩
theorem kN_X7_32 : Wn RX7 32 yX2_init "DotPress" cX2_init 1 0 := ⟨⟨w4_40t, w1_22, w4_42, (by decide +kernel)⟩, rfl, w4_41⟩
theorem kSN_X5_25 : Wns RX5 25 yX11_isSmall "DotPress" cX11_isSmall 1 (some .boolean) 1 := ⟨⟨w5_97t, w1_1, w5_99, (by decide +kernel)⟩, w5_98⟩
theorem kSN_X6_115 : Wns RX6 115 yX11_isDigit "DotPress" cX11_isDigit 1 (some .boolean) 1 := ⟨⟨w4_93t, w1_1, w4_95, (by decide +kernel)⟩, w4_94⟩
theorem kSN_X6_98 : Wns RX6 98 yX11_isGreat "DotPress" cX11_isGreat 1 (some .boolean) 1 := ⟨⟨w4_119t, w1_1, w4_121, (by decide +kernel)⟩, w4_120⟩
theorem kS_J15_105 : Ws RJ15 105 yJ3_checkIndex_8e157 cJ3_checkIndex_8e157 3 (some .int) 3 := ⟨⟨w3_68, w1_20, w3_70, (by decide +kernel)⟩, w3_69⟩
theorem kS_J7_300 : Ws RJ7 300 yJ7_copyOf_6403c cJ7_copyOf_6403c 4 (some (.array (.object "java/lang/Object"))) 3 := ⟨⟨w3_26, w1_13, w3_28, (by decide +kernel)⟩, w3_27⟩
theorem kS_Jx4a65c_118 : Ws RJx4a65c 118 yJ15_checkIndex_7cf53 cJ15_checkIndex_7cf53 2 (some .int) 2 := ⟨⟨w3_65, w1_19, w3_67, (by decide +kernel)⟩, w3_66⟩
theorem kS_Jx4a65c_66 : Ws RJx4a65c 66 yJ7_copyOf_1904c cJ7_copyOf_1904c 2 (some (.array (.object "java/lang/Object"))) 2 := ⟨⟨w3_5, w1_13, w3_7, (by decide +kernel)⟩, w3_6⟩
theorem kS_Jx4a65c_73 : Ws RJx4a65c 73 yJ8_newLength_cabcc cJ8_newLength_cabcc 4 (some .int) 3 := ⟨⟨w2_237, w1_17, w2_239, (by decide +kernel)⟩, w2_238⟩
theorem kS_X11_167 : Ws RX11 167 yX11_isCondition cX11_isCondition 1 (some .boolean) 1 := ⟨⟨w3_109, w1_1, w3_111, (by decide +kernel)⟩, w3_110⟩
theorem kS_X11_351 : Ws RX11 351 yJ6_bitCount_0f7a4 cJ6_bitCount_0f7a4 1 (some .int) 1 := ⟨⟨w5_118, w1_23, w5_16, (by decide +kernel)⟩, w5_15⟩
theorem kS_X11_373 : Ws RX11 373 yX3_isReadable cX3_isReadable 6 (some .boolean) 2 := ⟨⟨w5_190, w1_9, w5_192, (by decide +kernel)⟩, w5_191⟩
theorem kS_X12_174 : Ws RX12 174 yX12_isIn cX12_isIn 3 (some .boolean) 3 := ⟨⟨w7_41, w1_12, w7_43, (by decide +kernel)⟩, w7_42⟩
theorem kS_X12_199 : Ws RX12 199 yX12_isLetter cX12_isLetter 1 (some .boolean) 1 := ⟨⟨w7_77, w1_12, w7_79, (by decide +kernel)⟩, w7_78⟩
theorem kS_X12_202 : Ws RX12 202 yX12_isDigit cX12_isDigit 1 (some .boolean) 1 := ⟨⟨w7_132, w1_12, w7_134, (by decide +kernel)⟩, w7_133⟩
theorem kS_X12_205 : Ws RX12 205 yX12_isGreat cX12_isGreat 1 (some .boolean) 1 := ⟨⟨w7_155, w1_12, w7_157, (by decide +kernel)⟩, w7_156⟩
theorem kS_X12_208 : Ws RX12 208 yX12_isSmall cX12_isSmall 1 (some .boolean) 1 := ⟨⟨w7_158, w1_12, w7_160, (by decide +kernel)⟩, w7_159⟩
theorem kS_X12_309 : Ws RX12 309 yJ6_bitCount_0f7a4 cJ6_bitCount_0f7a4 1 (some .int) 1 := ⟨⟨w8_8, w1_23, w5_16, (by decide +kernel)⟩, w5_15⟩
theorem kS_X12_370 : Ws RX12 370 yX12_state cX12_state 3 (some .int) 3 := ⟨⟨w8_93, w1_12, w8_95, (by decide +kernel)⟩, w8_94⟩
theorem kS_X1_20 : Ws RX1 20 yJ7_copyOf_59c91 cJ7_copyOf_59c91 3 (some (.array .int)) 2 := ⟨⟨w2_118, w1_13, w2_120, (by decide +kernel)⟩, w2_119⟩
theorem kS_X2_42 : Ws RX2 42 yJ6_bitCount_0f7a4 cJ6_bitCount_0f7a4 1 (some .int) 1 := ⟨⟨w5_14, w1_23, w5_16, (by decide +kernel)⟩, w5_15⟩
theorem kS_X3_59 : Ws RX3 59 yX3_gatherPart cX3_gatherPart 4 none 2 := ⟨⟨w5_58, w1_9, w5_60, (by decide +kernel)⟩, w5_59⟩
theorem kS_X3_67 : Ws RX3 67 yX3_addIndicator cX3_addIndicator 2 none 2 := ⟨⟨w5_65, w1_9, w5_67, (by decide +kernel)⟩, w5_66⟩
theorem kS_X3_73 : Ws RX3 73 yX3_markBegins cX3_markBegins 5 none 2 := ⟨⟨w5_68, w1_9, w5_70, (by decide +kernel)⟩, w5_69⟩
theorem kS_X6_156 : Ws RX6 156 yX6_isSign cX6_isSign 1 (some .boolean) 1 := ⟨⟨w4_116, w1_8, w4_118, (by decide +kernel)⟩, w4_117⟩
theorem kS_X8_95 : Ws RX8 95 yJ7_fill_53178 cJ7_fill_53178 4 none 2 := ⟨⟨w5_234, w1_13, w5_236, (by decide +kernel)⟩, w5_235⟩
theorem kS_X9_76 : Ws RX9 76 yX9_isUpright cX9_isUpright 2 (some .boolean) 1 := ⟨⟨w3_238, w1_16, w4_0, (by decide +kernel)⟩, w3_239⟩
theorem kS_X9_80 : Ws RX9 80 yX9_isOverShort cX9_isOverShort 2 (some .boolean) 1 := ⟨⟨w5_187, w1_16, w5_189, (by decide +kernel)⟩, w5_188⟩
theorem kV_Jx4a65c_123 : Wv RJx4a65c 123 yJx4a65c_elementData_915e3 cJx4a65c_elementData_915e3 2 (some (.object "java/lang/Object")) 1 := ⟨⟨w3_84, w1_6, w3_87, (by decide +kernel)⟩, w3_85, w3_86⟩
theorem kV_Jx4a65c_129 : Wv RJx4a65c 129 yJx4a65c_grow_d5877 cJx4a65c_grow_d5877 1 (some (.array (.object "java/lang/Object"))) 0 := ⟨⟨w2_229, w1_6, w2_232, (by decide +kernel)⟩, w2_231, wp_4⟩
theorem kV_Jx4a65c_131 : Wv RJx4a65c 131 yJx4a65c_add_72be8 cJx4a65c_add_72be8 4 none 3 := ⟨⟨w2_225, w1_6, w2_228, (by decide +kernel)⟩, w2_227, wp_3⟩
theorem kV_Jx4a65c_144 : Wv RJx4a65c 144 yJx4a65c_fastRemove_b59b0 cJx4a65c_fastRemove_b59b0 4 none 2 := ⟨⟨w3_71, w1_6, w3_74, (by decide +kernel)⟩, w3_73, wp_6⟩
theorem kV_Jx4a65c_69 : Wv RJx4a65c 69 yJx4a65c_grow_92f84 cJx4a65c_grow_92f84 4 (some (.array (.object "java/lang/Object"))) 1 := ⟨⟨w2_233, w1_6, w2_236, (by decide +kernel)⟩, w2_235, wp_5⟩
theorem kV_L_101 : Wv RL 101 yX12_copyRow cX12_copyRow 11 (some .int) 5 := ⟨⟨w7_232, w1_12, w7_235, (by decide +kernel)⟩, w7_233, w7_234⟩
theorem kV_L_102 : Wv RL 102 yX11_copyLines cX11_copyLines 7 (some .int) 3 := ⟨⟨w4_234, w1_1, w4_237, (by decide +kernel)⟩, w4_235, w4_236⟩
theorem kV_L_105 : Wv RL 105 yX12_copyLines cX12_copyLines 10 (some .int) 3 := ⟨⟨w7_236, w1_12, w7_239, (by decide +kernel)⟩, w7_237, w7_238⟩
theorem kV_L_106 : Wv RL 106 yX11_copied cX11_copied 1 (some .int) 0 := ⟨⟨w5_2, w1_1, w5_5, (by decide +kernel)⟩, w5_3, w5_4⟩
theorem kV_L_109 : Wv RL 109 yX12_copied cX12_copied 1 (some .int) 0 := ⟨⟨w8_0, w1_12, w8_3, (by decide +kernel)⟩, w8_1, w8_2⟩
theorem kV_L_110 : Wv RL 110 yX11_emboss cX11_emboss 6 (some .int) 2 := ⟨⟨w5_6, w1_1, w5_9, (by decide +kernel)⟩, w5_7, w5_8⟩
theorem kV_L_113 : Wv RL 113 yX12_emboss cX12_emboss 9 (some .int) 2 := ⟨⟨w8_4, w1_12, w8_7, (by decide +kernel)⟩, w8_5, w8_6⟩
theorem kV_L_114 : Wv RL 114 yX11_closed cX11_closed 1 (some .int) 0 := ⟨⟨w5_20, w1_1, w5_23, (by decide +kernel)⟩, w5_21, w5_22⟩
theorem kV_L_117 : Wv RL 117 yX12_closed cX12_closed 1 (some .int) 0 := ⟨⟨w8_9, w1_12, w8_12, (by decide +kernel)⟩, w8_10, w8_11⟩
theorem kV_L_118 : Wv RL 118 yX11_read cX11_read 6 (some .int) 3 := ⟨⟨w5_24, w1_1, w5_27, (by decide +kernel)⟩, w5_25, w5_26⟩
theorem kV_L_121 : Wv RL 121 yX12_read cX12_read 11 (some .int) 3 := ⟨⟨w8_17, w1_12, w8_20, (by decide +kernel)⟩, w8_18, w8_19⟩
theorem kV_L_122 : Wv RL 122 yX11_letter cX11_letter 2 (some .int) 1 := ⟨⟨w5_110, w1_1, w5_113, (by decide +kernel)⟩, w5_111, w5_112⟩
theorem kV_L_125 : Wv RL 125 yX12_letter cX12_letter 2 (some .int) 1 := ⟨⟨w8_69, w1_12, w8_72, (by decide +kernel)⟩, w8_70, w8_71⟩
theorem kV_L_126 : Wv RL 126 yX11_failed cX11_failed 4 (some .int) 2 := ⟨⟨w5_114, w1_1, w5_117, (by decide +kernel)⟩, w5_115, w5_116⟩
theorem kV_L_13 : Wv RL 13 yX11_feed cX11_feed 6 (some .int) 5 := ⟨⟨w2_102, w1_1, w2_105, (by decide +kernel)⟩, w2_103, w2_104⟩
theorem kV_L_130 : Wv RL 130 yX12_failed cX12_failed 3 (some .int) 2 := ⟨⟨w8_73, w1_12, w8_76, (by decide +kernel)⟩, w8_74, w8_75⟩
theorem kV_L_131 : Wv RL 131 yX11_readings cX11_readings 6 (some .int) 3 := ⟨⟨w5_119, w1_1, w5_122, (by decide +kernel)⟩, w5_120, w5_121⟩
theorem kV_L_134 : Wv RL 134 yX12_readings cX12_readings 5 (some .int) 3 := ⟨⟨w8_77, w1_12, w8_80, (by decide +kernel)⟩, w8_78, w8_79⟩
theorem kV_L_135 : Wv RL 135 yX11_more cX11_more 1 (some .int) 0 := ⟨⟨w5_166, w1_1, w5_169, (by decide +kernel)⟩, w5_167, w5_168⟩
theorem kV_L_138 : Wv RL 138 yX12_more cX12_more 1 (some .int) 0 := ⟨⟨w8_112, w1_12, w8_115, (by decide +kernel)⟩, w8_113, w8_114⟩
theorem kV_L_139 : Wv RL 139 yX11_reading cX11_reading 4 (some .int) 2 := ⟨⟨w5_170, w1_1, w5_173, (by decide +kernel)⟩, w5_171, w5_172⟩
theorem kV_L_142 : Wv RL 142 yX12_reading cX12_reading 3 (some .int) 2 := ⟨⟨w8_116, w1_12, w8_119, (by decide +kernel)⟩, w8_117, w8_118⟩
theorem kV_L_143 : Wv RL 143 yX11_judge cX11_judge 4 (some .int) 1 := ⟨⟨w5_179, w1_1, w5_182, (by decide +kernel)⟩, w5_180, w5_181⟩
theorem kV_L_146 : Wv RL 146 yX12_judge cX12_judge 3 (some .int) 1 := ⟨⟨w8_120, w1_12, w8_123, (by decide +kernel)⟩, w8_121, w8_122⟩
theorem kV_L_147 : Wv RL 147 yX11_parts cX11_parts 10 (some .int) 3 := ⟨⟨w5_206, w1_1, w5_209, (by decide +kernel)⟩, w5_207, w5_208⟩
theorem kV_L_150 : Wv RL 150 yX12_parts cX12_parts 5 (some .int) 3 := ⟨⟨w8_136, w1_12, w8_139, (by decide +kernel)⟩, w8_137, w8_138⟩
theorem kV_L_151 : Wv RL 151 yX11_unreadable cX11_unreadable 7 (some .int) 3 := ⟨⟨w5_211, w1_1, w5_214, (by decide +kernel)⟩, w5_212, w5_213⟩
theorem kV_L_154 : Wv RL 154 yX12_unreadable cX12_unreadable 9 (some .int) 3 := ⟨⟨w8_140, w1_12, w8_143, (by decide +kernel)⟩, w8_141, w8_142⟩
theorem kV_L_155 : Wv RL 155 yX11_saved cX11_saved 10 (some .int) 2 := ⟨⟨w6_20, w1_1, w6_23, (by decide +kernel)⟩, w6_21, w6_22⟩
theorem kV_L_158 : Wv RL 158 yX12_saved cX12_saved 8 (some .int) 2 := ⟨⟨w8_13, w1_12, w8_16, (by decide +kernel)⟩, w8_14, w8_15⟩
theorem kV_L_159 : Wv RL 159 yX11_place cX11_place 1 (some .int) 0 := ⟨⟨w6_24, w1_1, w6_27, (by decide +kernel)⟩, w6_25, w6_26⟩
theorem kV_L_162 : Wv RL 162 yX12_place cX12_place 1 (some .int) 0 := ⟨⟨w8_156, w1_12, w8_159, (by decide +kernel)⟩, w8_157, w8_158⟩
theorem kV_L_163 : Wv RL 163 yX11_finds cX11_finds 2 (some .int) 1 := ⟨⟨w6_28, w1_1, w6_31, (by decide +kernel)⟩, w6_29, w6_30⟩
theorem kV_L_166 : Wv RL 166 yX12_finds cX12_finds 2 (some .int) 1 := ⟨⟨w7_92, w1_12, w7_95, (by decide +kernel)⟩, w7_93, w7_94⟩
theorem kV_L_167 : Wv RL 167 yX11_status cX11_status 1 (some .int) 0 := ⟨⟨w6_36, w1_1, w6_39, (by decide +kernel)⟩, w6_37, w6_38⟩
theorem kV_L_17 : Wv RL 17 yX12_feed cX12_feed 8 (some .int) 5 := ⟨⟨w7_21, w1_12, w7_24, (by decide +kernel)⟩, w7_22, w7_23⟩
theorem kV_L_170 : Wv RL 170 yX12_status cX12_status 1 (some .int) 0 := ⟨⟨w8_160, w1_12, w8_163, (by decide +kernel)⟩, w8_161, w8_162⟩
theorem kV_L_171 : Wv RL 171 yX11_digest cX11_digest 3 (some .int) 0 := ⟨⟨w6_40, w1_1, w6_43, (by decide +kernel)⟩, w6_41, w6_42⟩
theorem kV_L_174 : Wv RL 174 yX12_digest cX12_digest 4 (some .int) 0 := ⟨⟨w8_164, w1_12, w8_167, (by decide +kernel)⟩, w8_165, w8_166⟩
theorem kV_L_18 : Wv RL 18 yX11_end cX11_end 2 (some .int) 1 := ⟨⟨w2_138, w1_1, w2_141, (by decide +kernel)⟩, w2_139, w2_140⟩
theorem kV_L_22 : Wv RL 22 yX12_end cX12_end 2 (some .int) 1 := ⟨⟨w7_33, w1_12, w7_36, (by decide +kernel)⟩, w7_34, w7_35⟩
theorem kV_L_23 : Wv RL 23 yX11_table cX11_table 5 (some .int) 3 := ⟨⟨w2_150, w1_1, w2_153, (by decide +kernel)⟩, w2_151, w2_152⟩
theorem kV_L_27 : Wv RL 27 yX12_table cX12_table 5 (some .int) 3 := ⟨⟨w7_37, w1_12, w7_40, (by decide +kernel)⟩, w7_38, w7_39⟩
theorem kV_L_28 : Wv RL 28 yX11_join cX11_join 5 (some .int) 2 := ⟨⟨w3_89, w1_1, w3_92, (by decide +kernel)⟩, w3_90, w3_91⟩
theorem kV_L_32 : Wv RL 32 yX12_join cX12_join 3 (some .int) 2 := ⟨⟨w7_56, w1_12, w7_59, (by decide +kernel)⟩, w7_57, w7_58⟩
theorem kV_L_33 : Wv RL 33 yX11_drop cX11_drop 3 (some .int) 1 := ⟨⟨w3_94, w1_1, w3_97, (by decide +kernel)⟩, w3_95, w3_96⟩
theorem kV_L_36 : Wv RL 36 yX12_drop cX12_drop 2 (some .int) 1 := ⟨⟨w7_61, w1_12, w7_64, (by decide +kernel)⟩, w7_62, w7_63⟩
theorem kV_L_37 : Wv RL 37 yX11_rule cX11_rule 5 (some .int) 3 := ⟨⟨w3_101, w1_1, w3_104, (by decide +kernel)⟩, w3_102, w3_103⟩
theorem kV_L_40 : Wv RL 40 yX12_rule cX12_rule 8 (some .int) 3 := ⟨⟨w7_65, w1_12, w7_68, (by decide +kernel)⟩, w7_66, w7_67⟩
theorem kV_L_41 : Wv RL 41 yX11_condition cX11_condition 7 (some .int) 3 := ⟨⟨w3_170, w1_1, w3_173, (by decide +kernel)⟩, w3_171, w3_172⟩
theorem kV_L_44 : Wv RL 44 yX12_condition cX12_condition 5 (some .int) 3 := ⟨⟨w7_80, w1_12, w7_83, (by decide +kernel)⟩, w7_81, w7_82⟩
theorem kV_L_45 : Wv RL 45 yX11_indicator cX11_indicator 4 (some .int) 2 := ⟨⟨w3_175, w1_1, w3_178, (by decide +kernel)⟩, w3_176, w3_177⟩
theorem kV_L_48 : Wv RL 48 yX12_indicator cX12_indicator 8 (some .int) 2 := ⟨⟨w7_84, w1_12, w7_87, (by decide +kernel)⟩, w7_85, w7_86⟩
theorem kV_L_49 : Wv RL 49 yX11_undo cX11_undo 1 (some .int) 0 := ⟨⟨w3_187, w1_1, w3_190, (by decide +kernel)⟩, w3_188, w3_189⟩
theorem kV_L_53 : Wv RL 53 yX12_undo cX12_undo 5 (some .int) 0 := ⟨⟨w7_88, w1_12, w7_91, (by decide +kernel)⟩, w7_89, w7_90⟩
theorem kV_L_54 : Wv RL 54 yX11_text cX11_text 2 (some .int) 0 := ⟨⟨w3_207, w1_1, w3_210, (by decide +kernel)⟩, w3_208, w3_209⟩
theorem kV_L_57 : Wv RL 57 yX12_text cX12_text 4 (some .int) 0 := ⟨⟨w7_96, w1_12, w7_99, (by decide +kernel)⟩, w7_97, w7_98⟩
theorem kV_L_58 : Wv RL 58 yX11_measure cX11_measure 4 (some .int) 3 := ⟨⟨w3_221, w1_1, w3_224, (by decide +kernel)⟩, w3_222, w3_223⟩
theorem kV_L_61 : Wv RL 61 yX12_measure cX12_measure 4 (some .int) 3 := ⟨⟨w7_100, w1_12, w7_103, (by decide +kernel)⟩, w7_101, w7_102⟩
theorem kV_L_62 : Wv RL 62 yX11_set cX11_set 7 (some .int) 1 := ⟨⟨w3_225, w1_1, w3_228, (by decide +kernel)⟩, w3_226, w3_227⟩
theorem kV_L_65 : Wv RL 65 yX12_set cX12_set 7 (some .int) 1 := ⟨⟨w7_104, w1_12, w7_107, (by decide +kernel)⟩, w7_105, w7_106⟩
theorem kV_L_66 : Wv RL 66 yX11_head cX11_head 6 (some .int) 1 := ⟨⟨w4_164, w1_1, w4_167, (by decide +kernel)⟩, w4_165, w4_166⟩
theorem kV_L_69 : Wv RL 69 yX12_head cX12_head 5 (some .int) 1 := ⟨⟨w7_185, w1_12, w7_188, (by decide +kernel)⟩, w7_186, w7_187⟩
theorem kV_L_70 : Wv RL 70 yX11_lines cX11_lines 1 (some .int) 0 := ⟨⟨w4_170, w1_1, w4_173, (by decide +kernel)⟩, w4_171, w4_172⟩
theorem kV_L_73 : Wv RL 73 yX12_lines cX12_lines 1 (some .int) 0 := ⟨⟨w7_190, w1_12, w7_193, (by decide +kernel)⟩, w7_191, w7_192⟩
theorem kV_L_74 : Wv RL 74 yX11_pages cX11_pages 2 (some .int) 0 := ⟨⟨w4_174, w1_1, w4_177, (by decide +kernel)⟩, w4_175, w4_176⟩
theorem kV_L_77 : Wv RL 77 yX12_pages cX12_pages 1 (some .int) 0 := ⟨⟨w7_194, w1_12, w7_197, (by decide +kernel)⟩, w7_195, w7_196⟩
theorem kV_L_78 : Wv RL 78 yX11_length cX11_length 3 (some .int) 1 := ⟨⟨w4_186, w1_1, w4_189, (by decide +kernel)⟩, w4_187, w4_188⟩
theorem kV_L_81 : Wv RL 81 yX12_length cX12_length 2 (some .int) 1 := ⟨⟨w7_206, w1_12, w7_209, (by decide +kernel)⟩, w7_207, w7_208⟩
theorem kV_L_82 : Wv RL 82 yX11_cell cX11_cell 3 (some .int) 2 := ⟨⟨w4_198, w1_1, w4_201, (by decide +kernel)⟩, w4_199, w4_200⟩
theorem kV_L_85 : Wv RL 85 yX12_cell cX12_cell 3 (some .int) 2 := ⟨⟨w7_214, w1_12, w7_217, (by decide +kernel)⟩, w7_215, w7_216⟩
theorem kV_L_86 : Wv RL 86 yX11_page cX11_page 5 (some .int) 3 := ⟨⟨w4_206, w1_1, w4_209, (by decide +kernel)⟩, w4_207, w4_208⟩
theorem kV_L_89 : Wv RL 89 yX12_page cX12_page 5 (some .int) 3 := ⟨⟨w7_218, w1_12, w7_221, (by decide +kernel)⟩, w7_219, w7_220⟩
theorem kV_L_90 : Wv RL 90 yX11_cut cX11_cut 4 (some .int) 2 := ⟨⟨w4_211, w1_1, w4_214, (by decide +kernel)⟩, w4_212, w4_213⟩
theorem kV_L_93 : Wv RL 93 yX12_cut cX12_cut 4 (some .int) 2 := ⟨⟨w7_224, w1_12, w7_227, (by decide +kernel)⟩, w7_225, w7_226⟩
theorem kV_L_94 : Wv RL 94 yX11_lose cX11_lose 3 (some .int) 1 := ⟨⟨w4_220, w1_1, w4_223, (by decide +kernel)⟩, w4_221, w4_222⟩
theorem kV_L_97 : Wv RL 97 yX12_lose cX12_lose 2 (some .int) 1 := ⟨⟨w7_228, w1_12, w7_231, (by decide +kernel)⟩, w7_229, w7_230⟩
theorem kV_L_98 : Wv RL 98 yX11_copyRow cX11_copyRow 8 (some .int) 5 := ⟨⟨w4_225, w1_1, w4_228, (by decide +kernel)⟩, w4_226, w4_227⟩
theorem kV_X10_21 : Wv RX10 21 yJx4a65c_size_8abf5 cJx4a65c_size_8abf5 1 (some .int) 0 := ⟨⟨w2_158, w1_6, w2_161, (by decide +kernel)⟩, w2_159, w2_160⟩
theorem kV_X10_25 : Wv RX10 25 yJx4a65c_get_915e3 cJx4a65c_get_915e3 2 (some (.object "java/lang/Object")) 1 := ⟨⟨w3_80, w1_6, w3_83, (by decide +kernel)⟩, w3_81, w3_82⟩
theorem kV_X10_35 : Wv RX10 35 yX10_alive cX10_alive 3 (some (.object "DotPress$Table")) 1 := ⟨⟨w3_233, w1_3, w3_79, (by decide +kernel)⟩, w3_77, w3_78⟩
theorem kV_X10_39 : Wv RX10 39 yX9_isWhole cX9_isWhole 1 (some .boolean) 0 := ⟨⟨w3_234, w1_16, w3_237, (by decide +kernel)⟩, w3_235, w3_236⟩
theorem kV_X10_43 : Wv RX10 43 yJx4a65c_add_9ea2d cJx4a65c_add_9ea2d 2 (some .boolean) 1 := ⟨⟨w2_221, w1_6, w2_224, (by decide +kernel)⟩, w2_222, w2_223⟩
theorem kV_X10_52 : Wv RX10 52 yX10_remember cX10_remember 2 none 1 := ⟨⟨w3_57, w1_3, w3_60, (by decide +kernel)⟩, w3_58, w3_59⟩
theorem kV_X10_56 : Wv RX10 56 yJx4a65c_remove_915e3 cJx4a65c_remove_915e3 4 (some (.object "java/lang/Object")) 1 := ⟨⟨w3_61, w1_6, w3_64, (by decide +kernel)⟩, w3_62, w3_63⟩
theorem kV_X10_59 : Wv RX10 59 yJx4a65c_isEmpty_aae02 cJx4a65c_isEmpty_aae02 1 (some .boolean) 0 := ⟨⟨w3_195, w1_6, w3_198, (by decide +kernel)⟩, w3_196, w3_197⟩
theorem kV_X10_70 : Wv RX10 70 yX9_removeLast cX9_removeLast 1 none 0 := ⟨⟨w3_199, w1_16, w3_202, (by decide +kernel)⟩, w3_200, w3_201⟩
theorem kV_X11_102 : Wv RX11 102 yX11_refuse cX11_refuse 2 (some .int) 1 := ⟨⟨w2_106, w1_1, w2_109, (by decide +kernel)⟩, w2_108, wp_0⟩
theorem kV_X11_106 : Wv RX11 106 yX11_feedFour cX11_feedFour 3 none 1 := ⟨⟨w2_110, w1_1, w2_113, (by decide +kernel)⟩, w2_112, wp_1⟩
theorem kV_X11_109 : Wv RX11 109 yX11_done cX11_done 2 (some .int) 1 := ⟨⟨w2_134, w1_1, w2_137, (by decide +kernel)⟩, w2_136, wp_2⟩
theorem kV_X11_112 : Wv RX11 112 yX1_add cX1_add 2 none 1 := ⟨⟨w2_114, w1_2, w2_117, (by decide +kernel)⟩, w2_115, w2_116⟩
theorem kV_X11_115 : Wv RX11 115 yX1_keep cX1_keep 2 none 1 := ⟨⟨w2_142, w1_2, w2_145, (by decide +kernel)⟩, w2_143, w2_144⟩
theorem kV_X11_118 : Wv RX11 118 yX10_isFull cX10_isFull 1 (some .boolean) 0 := ⟨⟨w2_154, w1_3, w2_157, (by decide +kernel)⟩, w2_155, w2_156⟩
theorem kV_X11_127 : Wv RX11 127 yX10_make cX10_make 2 (some .int) 1 := ⟨⟨w2_217, w1_3, w2_220, (by decide +kernel)⟩, w2_218, w2_219⟩
theorem kV_X11_131 : Wv RX11 131 yX10_alive cX10_alive 3 (some (.object "DotPress$Table")) 1 := ⟨⟨w3_76, w1_3, w3_79, (by decide +kernel)⟩, w3_77, w3_78⟩
theorem kV_X11_152 : Wv RX11 152 yX10_remember cX10_remember 2 none 1 := ⟨⟨w3_100, w1_3, w3_60, (by decide +kernel)⟩, w3_58, w3_59⟩
theorem kV_X11_160 : Wv RX11 160 yX11_addRule cX11_addRule 6 (some .int) 3 := ⟨⟨w3_105, w1_1, w3_108, (by decide +kernel)⟩, w3_107, wp_7⟩
theorem kV_X11_164 : Wv RX11 164 yX1_clear cX1_clear 1 none 0 := ⟨⟨w3_166, w1_2, w3_169, (by decide +kernel)⟩, w3_167, w3_168⟩
theorem kV_X11_171 : Wv RX11 171 yX1_isWithin cX1_isWithin 6 (some .boolean) 4 := ⟨⟨w3_112, w1_2, w3_115, (by decide +kernel)⟩, w3_113, w3_114⟩
theorem kV_X11_175 : Wv RX11 175 yX11_isRowOfCells cX11_isRowOfCells 3 (some .boolean) 2 := ⟨⟨w3_120, w1_1, w3_123, (by decide +kernel)⟩, w3_122, wp_8⟩
theorem kV_X11_183 : Wv RX11 183 yJx4a65c_size_8abf5 cJx4a65c_size_8abf5 1 (some .int) 0 := ⟨⟨w3_124, w1_6, w2_161, (by decide +kernel)⟩, w2_159, w2_160⟩
theorem kV_X11_190 : Wv RX11 190 yX1_slice cX1_slice 5 (some (.array .int)) 2 := ⟨⟨w3_127, w1_2, w3_130, (by decide +kernel)⟩, w3_128, w3_129⟩
theorem kV_X11_200 : Wv RX11 200 yX9_append cX9_append 2 none 1 := ⟨⟨w3_160, w1_16, w3_163, (by decide +kernel)⟩, w3_161, w3_162⟩
theorem kV_X11_204 : Wv RX11 204 yJx4a65c_get_915e3 cJx4a65c_get_915e3 2 (some (.object "java/lang/Object")) 1 := ⟨⟨w3_174, w1_6, w3_83, (by decide +kernel)⟩, w3_81, w3_82⟩
theorem kV_X11_208 : Wv RX11 208 yX11_changeIndicator cX11_changeIndicator 4 (some .int) 2 := ⟨⟨w3_179, w1_1, w3_182, (by decide +kernel)⟩, w3_181, wp_9⟩
theorem kV_X11_211 : Wv RX11 211 yX9_mayHave cX9_mayHave 2 (some .boolean) 1 := ⟨⟨w3_183, w1_16, w3_186, (by decide +kernel)⟩, w3_184, w3_185⟩
theorem kV_X11_218 : Wv RX11 218 yX10_takeBack cX10_takeBack 2 (some .boolean) 0 := ⟨⟨w3_191, w1_3, w3_194, (by decide +kernel)⟩, w3_192, w3_193⟩
theorem kV_X11_221 : Wv RX11 221 yX11_addText cX11_addText 3 (some .int) 0 := ⟨⟨w3_211, w1_1, w3_214, (by decide +kernel)⟩, w3_213, wp_10⟩
theorem kV_X11_224 : Wv RX11 224 yX1_at cX1_at 2 (some .int) 1 := ⟨⟨w3_215, w1_2, w3_119, (by decide +kernel)⟩, w3_117, w3_118⟩
theorem kV_X11_227 : Wv RX11 227 yX1_addAll cX1_addAll 3 none 1 := ⟨⟨w3_216, w1_2, w3_219, (by decide +kernel)⟩, w3_217, w3_218⟩
theorem kV_X11_231 : Wv RX11 231 yX10_whole cX10_whole 3 (some (.object "DotPress$Table")) 1 := ⟨⟨w3_229, w1_3, w3_232, (by decide +kernel)⟩, w3_230, w3_231⟩
theorem kV_X11_234 : Wv RX11 234 yX7_clear cX7_clear 1 none 0 := ⟨⟨w4_1, w1_11, w4_4, (by decide +kernel)⟩, w4_2, w4_3⟩
theorem kV_X11_235 : Wv RX11 235 yX8_restart cX8_restart 1 none 0 := ⟨⟨w4_5, w1_7, w4_8, (by decide +kernel)⟩, w4_6, w4_7⟩
theorem kV_X11_238 : Wv RX11 238 yX8_step cX8_step 4 (some .int) 2 := ⟨⟨w4_9, w1_7, w4_12, (by decide +kernel)⟩, w4_10, w4_11⟩
theorem kV_X11_243 : Wv RX11 243 yX7_beginText cX7_beginText 1 (some .boolean) 0 := ⟨⟨w4_31, w1_11, w4_34, (by decide +kernel)⟩, w4_32, w4_33⟩
theorem kV_X11_249 : Wv RX11 249 yX7_endText cX7_endText 5 none 2 := ⟨⟨w4_68, w1_11, w4_71, (by decide +kernel)⟩, w4_69, w4_70⟩
theorem kV_X11_253 : Wv RX11 253 yX6_setBy cX6_setBy 9 (some .int) 1 := ⟨⟨w4_81, w1_8, w4_84, (by decide +kernel)⟩, w4_82, w4_83⟩
theorem kV_X11_256 : Wv RX11 256 yX7_take cX7_take 10 (some .boolean) 4 := ⟨⟨w4_135, w1_11, w4_138, (by decide +kernel)⟩, w4_136, w4_137⟩
theorem kV_X11_260 : Wv RX11 260 yX11_publish cX11_publish 2 (some .int) 0 := ⟨⟨w4_152, w1_1, w4_155, (by decide +kernel)⟩, w4_154, wp_21⟩
theorem kV_X11_263 : Wv RX11 263 yX6_placeOfUnknown cX6_placeOfUnknown 1 (some .int) 0 := ⟨⟨w4_156, w1_8, w4_159, (by decide +kernel)⟩, w4_157, w4_158⟩
theorem kV_X11_266 : Wv RX11 266 yX11_refuseAt cX11_refuseAt 3 (some .int) 2 := ⟨⟨w4_160, w1_1, w4_163, (by decide +kernel)⟩, w4_162, wp_22⟩
theorem kV_X11_272 : Wv RX11 272 yX6_clear cX6_clear 1 none 0 := ⟨⟨w4_168, w1_8, w4_21, (by decide +kernel)⟩, w4_19, w4_20⟩
theorem kV_X11_273 : Wv RX11 273 yX6_put cX6_put 3 none 2 := ⟨⟨w4_169, w1_8, w4_29, (by decide +kernel)⟩, w4_27, w4_28⟩
theorem kV_X11_282 : Wv RX11 282 yX11_linesOfPage cX11_linesOfPage 1 (some .int) 0 := ⟨⟨w4_178, w1_1, w4_181, (by decide +kernel)⟩, w4_180, wp_23⟩
theorem kV_X11_285 : Wv RX11 285 yX11_pagesHaveHeader cX11_pagesHaveHeader 1 (some .boolean) 0 := ⟨⟨w4_182, w1_1, w4_185, (by decide +kernel)⟩, w4_184, wp_24⟩
theorem kV_X11_288 : Wv RX11 288 yX7_present cX7_present 3 (some (.object "DotPress$Line")) 1 := ⟨⟨w4_190, w1_11, w4_193, (by decide +kernel)⟩, w4_191, w4_192⟩
theorem kV_X11_292 : Wv RX11 292 yX7_whyNone cX7_whyNone 2 (some .int) 1 := ⟨⟨w4_194, w1_11, w4_197, (by decide +kernel)⟩, w4_195, w4_196⟩
theorem kV_X11_298 : Wv RX11 298 yX11_cellOfLine cX11_cellOfLine 4 (some .int) 2 := ⟨⟨w4_202, w1_1, w4_205, (by decide +kernel)⟩, w4_204, wp_25⟩
theorem kV_X11_302 : Wv RX11 302 yX11_pages cX11_pages 2 (some .int) 0 := ⟨⟨w4_210, w1_1, w4_177, (by decide +kernel)⟩, w4_175, w4_176⟩
theorem kV_X11_305 : Wv RX11 305 yX2_resize cX2_resize 3 none 1 := ⟨⟨w4_215, w1_22, w4_218, (by decide +kernel)⟩, w4_216, w4_217⟩
theorem kV_X11_308 : Wv RX11 308 yX7_at cX7_at 2 (some (.object "DotPress$Line")) 1 := ⟨⟨w4_224, w1_11, w4_75, (by decide +kernel)⟩, w4_73, w4_74⟩
theorem kV_X11_313 : Wv RX11 313 yX2_hasCells cX2_hasCells 3 (some .boolean) 2 := ⟨⟨w4_229, w1_22, w4_232, (by decide +kernel)⟩, w4_230, w4_231⟩
theorem kV_X11_322 : Wv RX11 322 yX2_become cX2_become 2 none 1 := ⟨⟨w4_238, w1_22, w5_1, (by decide +kernel)⟩, w4_239, w5_0⟩
theorem kV_X11_326 : Wv RX11 326 yX2_dots cX2_dots 3 (some .int) 0 := ⟨⟨w5_10, w1_22, w5_13, (by decide +kernel)⟩, w5_11, w5_12⟩
theorem kV_X11_328 : Wv RX11 328 yX11_chainLines cX11_chainLines 5 none 2 := ⟨⟨w5_28, w1_1, w5_31, (by decide +kernel)⟩, w5_30, wp_26⟩
theorem kV_X11_331 : Wv RX11 331 yX3_gather cX3_gather 2 none 1 := ⟨⟨w5_50, w1_9, w5_53, (by decide +kernel)⟩, w5_51, w5_52⟩
theorem kV_X11_335 : Wv RX11 335 yX3_decode cX3_decode 4 (some .boolean) 0 := ⟨⟨w5_71, w1_9, w5_74, (by decide +kernel)⟩, w5_72, w5_73⟩
theorem kV_X11_338 : Wv RX11 338 yX3_placeOfWrong cX3_placeOfWrong 1 (some .int) 0 := ⟨⟨w5_106, w1_9, w5_109, (by decide +kernel)⟩, w5_107, w5_108⟩
theorem kV_X11_344 : Wv RX11 344 yX3_clearCells cX3_clearCells 1 none 0 := ⟨⟨w5_32, w1_9, w5_35, (by decide +kernel)⟩, w5_33, w5_34⟩
theorem kV_X11_347 : Wv RX11 347 yX3_chain cX3_chain 8 none 4 := ⟨⟨w5_37, w1_9, w5_40, (by decide +kernel)⟩, w5_38, w5_39⟩
theorem kV_X11_356 : Wv RX11 356 yX4_collect cX4_collect 4 none 3 := ⟨⟨w5_123, w1_10, w5_126, (by decide +kernel)⟩, w5_124, w5_125⟩
theorem kV_X11_364 : Wv RX11 364 yX4_byteOf cX4_byteOf 4 (some .int) 2 := ⟨⟨w5_174, w1_10, w5_177, (by decide +kernel)⟩, w5_175, w5_176⟩
theorem kV_X11_367 : Wv RX11 367 yX9_hasShort cX9_hasShort 1 (some .boolean) 0 := ⟨⟨w5_183, w1_16, w5_186, (by decide +kernel)⟩, w5_184, w5_185⟩
theorem kV_X11_380 : Wv RX11 380 yX5_alike cX5_alike 4 (some .int) 1 := ⟨⟨w5_210, w1_21, w5_204, (by decide +kernel)⟩, w5_202, w5_203⟩
theorem kV_X11_385 : Wv RX11 385 yX8_gatherAlphabet cX8_gatherAlphabet 4 none 2 := ⟨⟨w5_215, w1_7, w5_218, (by decide +kernel)⟩, w5_216, w5_217⟩
theorem kV_X11_389 : Wv RX11 389 yX8_startSpelling cX8_startSpelling 2 (some .boolean) 1 := ⟨⟨w5_226, w1_7, w5_229, (by decide +kernel)⟩, w5_227, w5_228⟩
theorem kV_X11_392 : Wv RX11 392 yX8_spell cX8_spell 3 none 1 := ⟨⟨w5_237, w1_7, w6_0, (by decide +kernel)⟩, w5_238, w5_239⟩
theorem kV_X11_396 : Wv RX11 396 yX11_isReadBack cX11_isReadBack 2 (some .boolean) 0 := ⟨⟨w6_1, w1_1, w6_4, (by decide +kernel)⟩, w6_3, wp_38⟩
theorem kV_X11_399 : Wv RX11 399 yX6_writeLetters cX6_writeLetters 3 none 1 := ⟨⟨w6_11, w1_8, w6_14, (by decide +kernel)⟩, w6_12, w6_13⟩
theorem kV_X11_403 : Wv RX11 403 yX8_spellNext cX8_spellNext 3 (some .boolean) 1 := ⟨⟨w6_16, w1_7, w6_19, (by decide +kernel)⟩, w6_17, w6_18⟩
theorem kV_X11_406 : Wv RX11 406 yX3_addCell cX3_addCell 3 none 2 := ⟨⟨w6_5, w1_9, w5_48, (by decide +kernel)⟩, w5_46, w5_47⟩
theorem kV_X11_409 : Wv RX11 409 yX6_hasLetters cX6_hasLetters 3 (some .boolean) 1 := ⟨⟨w6_6, w1_8, w6_9, (by decide +kernel)⟩, w6_7, w6_8⟩
theorem kV_X11_413 : Wv RX11 413 yX6_findsOf cX6_findsOf 2 (some .int) 1 := ⟨⟨w6_32, w1_8, w6_35, (by decide +kernel)⟩, w6_33, w6_34⟩
theorem kV_X11_416 : Wv RX11 416 yX7_goOver cX7_goOver 6 (some .int) 1 := ⟨⟨w6_44, w1_11, w6_47, (by decide +kernel)⟩, w6_45, w6_46⟩
theorem kV_X12_154 : Wv RX12 154 yX12_bad cX12_bad 2 (some .int) 1 := ⟨⟨w7_25, w1_12, w7_28, (by decide +kernel)⟩, w7_27, wp_39⟩
theorem kV_X12_158 : Wv RX12 158 yX12_fine cX12_fine 2 (some .int) 1 := ⟨⟨w7_29, w1_12, w7_32, (by decide +kernel)⟩, w7_31, wp_40⟩
theorem kV_X12_167 : Wv RX12 167 yX12_isTable cX12_isTable 2 (some .boolean) 1 := ⟨⟨w7_44, w1_12, w7_47, (by decide +kernel)⟩, w7_46, wp_41⟩
theorem kV_X12_171 : Wv RX12 171 yX12_isWhole cX12_isWhole 2 (some .boolean) 1 := ⟨⟨w7_108, w1_12, w7_111, (by decide +kernel)⟩, w7_110, wp_46⟩
theorem kV_X12_178 : Wv RX12 178 yX12_newTable cX12_newTable 7 (some .int) 4 := ⟨⟨w7_48, w1_12, w7_51, (by decide +kernel)⟩, w7_50, wp_42⟩
theorem kV_X12_182 : Wv RX12 182 yX12_step cX12_step 7 none 4 := ⟨⟨w7_52, w1_12, w7_55, (by decide +kernel)⟩, w7_54, wp_43⟩
theorem kV_X12_192 : Wv RX12 192 yX12_taken cX12_taken 2 (some .int) 0 := ⟨⟨w7_69, w1_12, w7_72, (by decide +kernel)⟩, w7_71, wp_44⟩
theorem kV_X12_196 : Wv RX12 196 yX12_areCells cX12_areCells 6 (some .boolean) 3 := ⟨⟨w7_73, w1_12, w7_76, (by decide +kernel)⟩, w7_75, wp_45⟩
theorem kV_X12_211 : Wv RX12 211 yX12_fits cX12_fits 9 (some .boolean) 4 := ⟨⟨w7_151, w1_12, w7_154, (by decide +kernel)⟩, w7_153, wp_56⟩
theorem kV_X12_215 : Wv RX12 215 yX12_contracted cX12_contracted 7 (some .int) 4 := ⟨⟨w7_143, w1_12, w7_146, (by decide +kernel)⟩, w7_145, wp_54⟩
theorem kV_X12_218 : Wv RX12 218 yX12_find cX12_find 7 (some .int) 4 := ⟨⟨w7_139, w1_12, w7_142, (by decide +kernel)⟩, w7_141, wp_53⟩
theorem kV_X12_221 : Wv RX12 221 yX12_own cX12_own 7 (some .int) 4 := ⟨⟨w7_147, w1_12, w7_150, (by decide +kernel)⟩, w7_149, wp_55⟩
theorem kV_X12_227 : Wv RX12 227 yX12_putIndicator cX12_putIndicator 5 none 2 := ⟨⟨w7_135, w1_12, w7_138, (by decide +kernel)⟩, w7_137, wp_52⟩
theorem kV_X12_237 : Wv RX12 237 yX12_setPart cX12_setPart 8 (some .boolean) 3 := ⟨⟨w7_128, w1_12, w7_131, (by decide +kernel)⟩, w7_130, wp_51⟩
theorem kV_X12_240 : Wv RX12 240 yX12_badAt cX12_badAt 3 (some .int) 2 := ⟨⟨w7_165, w1_12, w7_168, (by decide +kernel)⟩, w7_167, wp_58⟩
theorem kV_X12_249 : Wv RX12 249 yX12_breakOf cX12_breakOf 7 (some .int) 3 := ⟨⟨w7_173, w1_12, w7_176, (by decide +kernel)⟩, w7_175, wp_60⟩
theorem kV_X12_253 : Wv RX12 253 yX12_putCell cX12_putCell 3 none 1 := ⟨⟨w7_177, w1_12, w7_180, (by decide +kernel)⟩, w7_179, wp_61⟩
theorem kV_X12_257 : Wv RX12 257 yX12_newLine cX12_newLine 1 (some .boolean) 0 := ⟨⟨w7_116, w1_12, w7_119, (by decide +kernel)⟩, w7_118, wp_48⟩
theorem kV_X12_261 : Wv RX12 261 yX12_lineEnd cX12_lineEnd 3 (some .int) 1 := ⟨⟨w7_112, w1_12, w7_115, (by decide +kernel)⟩, w7_114, wp_47⟩
theorem kV_X12_264 : Wv RX12 264 yX12_takeWord cX12_takeWord 4 (some .int) 2 := ⟨⟨w7_120, w1_12, w7_123, (by decide +kernel)⟩, w7_122, wp_49⟩
theorem kV_X12_267 : Wv RX12 267 yX12_setWord cX12_setWord 7 (some .boolean) 1 := ⟨⟨w7_124, w1_12, w7_127, (by decide +kernel)⟩, w7_126, wp_50⟩
theorem kV_X12_270 : Wv RX12 270 yX12_notSet cX12_notSet 1 (some .int) 0 := ⟨⟨w7_161, w1_12, w7_164, (by decide +kernel)⟩, w7_163, wp_57⟩
theorem kV_X12_273 : Wv RX12 273 yX12_flow cX12_flow 7 (some .boolean) 1 := ⟨⟨w7_169, w1_12, w7_172, (by decide +kernel)⟩, w7_171, wp_59⟩
theorem kV_X12_276 : Wv RX12 276 yX12_centre cX12_centre 5 none 1 := ⟨⟨w7_181, w1_12, w7_184, (by decide +kernel)⟩, w7_183, wp_62⟩
theorem kV_X12_288 : Wv RX12 288 yX12_hasHead cX12_hasHead 1 (some .boolean) 0 := ⟨⟨w7_202, w1_12, w7_205, (by decide +kernel)⟩, w7_204, wp_64⟩
theorem kV_X12_291 : Wv RX12 291 yX12_onPage cX12_onPage 1 (some .int) 0 := ⟨⟨w7_198, w1_12, w7_201, (by decide +kernel)⟩, w7_200, wp_63⟩
theorem kV_X12_294 : Wv RX12 294 yX12_lineFault cX12_lineFault 2 (some .int) 1 := ⟨⟨w7_210, w1_12, w7_213, (by decide +kernel)⟩, w7_212, wp_65⟩
theorem kV_X12_297 : Wv RX12 297 yX12_pages cX12_pages 1 (some .int) 0 := ⟨⟨w7_222, w1_12, w7_197, (by decide +kernel)⟩, w7_195, w7_196⟩
theorem kV_X12_300 : Wv RX12 300 yX12_cell cX12_cell 3 (some .int) 2 := ⟨⟨w7_223, w1_12, w7_217, (by decide +kernel)⟩, w7_215, w7_216⟩
theorem kV_X12_314 : Wv RX12 314 yX12_addRow cX12_addRow 6 none 4 := ⟨⟨w8_33, w1_12, w8_36, (by decide +kernel)⟩, w8_35, wp_69⟩
theorem kV_X12_317 : Wv RX12 317 yX12_addIndicator cX12_addIndicator 5 none 3 := ⟨⟨w8_37, w1_12, w8_40, (by decide +kernel)⟩, w8_39, wp_70⟩
theorem kV_X12_321 : Wv RX12 321 yX12_addRows cX12_addRows 5 none 2 := ⟨⟨w8_29, w1_12, w8_32, (by decide +kernel)⟩, w8_31, wp_68⟩
theorem kV_X12_324 : Wv RX12 324 yX12_rowCell cX12_rowCell 3 (some .int) 2 := ⟨⟨w8_61, w1_12, w8_64, (by decide +kernel)⟩, w8_63, wp_76⟩
theorem kV_X12_327 : Wv RX12 327 yX12_stands cX12_stands 6 (some .boolean) 3 := ⟨⟨w8_57, w1_12, w8_60, (by decide +kernel)⟩, w8_59, wp_75⟩
theorem kV_X12_336 : Wv RX12 336 yX12_tell cX12_tell 2 (some .boolean) 1 := ⟨⟨w8_45, w1_12, w8_48, (by decide +kernel)⟩, w8_47, wp_72⟩
theorem kV_X12_339 : Wv RX12 339 yX12_readWord cX12_readWord 9 (some .int) 2 := ⟨⟨w8_49, w1_12, w8_52, (by decide +kernel)⟩, w8_51, wp_73⟩
theorem kV_X12_342 : Wv RX12 342 yX12_longest cX12_longest 6 (some .int) 3 := ⟨⟨w8_53, w1_12, w8_56, (by decide +kernel)⟩, w8_55, wp_74⟩
theorem kV_X12_348 : Wv RX12 348 yX12_isSmallRule cX12_isSmallRule 2 (some .boolean) 1 := ⟨⟨w8_65, w1_12, w8_68, (by decide +kernel)⟩, w8_67, wp_77⟩
theorem kV_X12_351 : Wv RX12 351 yX12_putRow cX12_putRow 3 none 2 := ⟨⟨w8_21, w1_12, w8_24, (by decide +kernel)⟩, w8_23, wp_66⟩
theorem kV_X12_354 : Wv RX12 354 yX12_gather cX12_gather 2 none 1 := ⟨⟨w8_25, w1_12, w8_28, (by decide +kernel)⟩, w8_27, wp_67⟩
theorem kV_X12_357 : Wv RX12 357 yX12_readAll cX12_readAll 5 (some .int) 0 := ⟨⟨w8_41, w1_12, w8_44, (by decide +kernel)⟩, w8_43, wp_71⟩
theorem kV_X12_363 : Wv RX12 363 yX12_looksLike cX12_looksLike 3 (some .boolean) 2 := ⟨⟨w8_89, w1_12, w8_92, (by decide +kernel)⟩, w8_91, wp_80⟩
theorem kV_X12_367 : Wv RX12 367 yX12_next cX12_next 3 (some .int) 2 := ⟨⟨w8_100, w1_12, w8_103, (by decide +kernel)⟩, w8_102, wp_82⟩
theorem kV_X12_374 : Wv RX12 374 yX12_mayBlank cX12_mayBlank 3 (some .boolean) 2 := ⟨⟨w8_85, w1_12, w8_88, (by decide +kernel)⟩, w8_87, wp_79⟩
theorem kV_X12_378 : Wv RX12 378 yX12_may cX12_may 6 (some .boolean) 4 := ⟨⟨w8_96, w1_12, w8_99, (by decide +kernel)⟩, w8_98, wp_81⟩
theorem kV_X12_385 : Wv RX12 385 yX12_keep cX12_keep 2 none 0 := ⟨⟨w8_108, w1_12, w8_111, (by decide +kernel)⟩, w8_110, wp_84⟩
theorem kV_X12_391 : Wv RX12 391 yX12_go cX12_go 8 none 3 := ⟨⟨w8_104, w1_12, w8_107, (by decide +kernel)⟩, w8_106, wp_83⟩
theorem kV_X12_401 : Wv RX12 401 yX12_findCan cX12_findCan 7 none 0 := ⟨⟨w8_81, w1_12, w8_84, (by decide +kernel)⟩, w8_83, wp_78⟩
theorem kV_X12_404 : Wv RX12 404 yX12_alike cX12_alike 4 (some .int) 2 := ⟨⟨w8_132, w1_12, w8_135, (by decide +kernel)⟩, w8_134, wp_87⟩
theorem kV_X12_407 : Wv RX12 407 yX12_isShort cX12_isShort 4 (some .boolean) 1 := ⟨⟨w8_124, w1_12, w8_127, (by decide +kernel)⟩, w8_126, wp_85⟩
theorem kV_X12_410 : Wv RX12 410 yX12_isReadable cX12_isReadable 6 (some .boolean) 1 := ⟨⟨w8_128, w1_12, w8_131, (by decide +kernel)⟩, w8_130, wp_86⟩
theorem kV_X12_416 : Wv RX12 416 yX12_gatherSigns cX12_gatherSigns 8 none 1 := ⟨⟨w8_144, w1_12, w8_147, (by decide +kernel)⟩, w8_146, wp_88⟩
theorem kV_X12_422 : Wv RX12 422 yX12_putBack cX12_putBack 2 none 0 := ⟨⟨w8_148, w1_12, w8_151, (by decide +kernel)⟩, w8_150, wp_89⟩
theorem kV_X12_425 : Wv RX12 425 yX12_isUnreadable cX12_isUnreadable 3 (some .boolean) 1 := ⟨⟨w8_152, w1_12, w8_155, (by decide +kernel)⟩, w8_154, wp_90⟩
theorem kV_X1_26 : Wv RX1 26 yX1_add cX1_add 2 none 1 := ⟨⟨w3_220, w1_2, w2_117, (by decide +kernel)⟩, w2_115, w2_116⟩
theorem kV_X1_39 : Wv RX1 39 yX1_at cX1_at 2 (some .int) 1 := ⟨⟨w3_116, w1_2, w3_119, (by decide +kernel)⟩, w3_117, w3_118⟩
theorem kV_X2_23 : Wv RX2 23 yX2_add cX2_add 2 none 1 := ⟨⟨w4_143, w1_22, w4_146, (by decide +kernel)⟩, w4_144, w4_145⟩
theorem kV_X3_100 : Wv RX3 100 yX5_endsWith cX5_endsWith 2 (some .boolean) 1 := ⟨⟨w5_193, w1_21, w5_196, (by decide +kernel)⟩, w5_194, w5_195⟩
theorem kV_X3_104 : Wv RX3 104 yX5_isAtBeginOf cX5_isAtBeginOf 2 (some .boolean) 1 := ⟨⟨w5_197, w1_21, w5_200, (by decide +kernel)⟩, w5_198, w5_199⟩
theorem kV_X3_108 : Wv RX3 108 yX2_endsWith cX2_endsWith 2 (some .boolean) 1 := ⟨⟨w5_41, w1_22, w5_44, (by decide +kernel)⟩, w5_42, w5_43⟩
theorem kV_X3_114 : Wv RX3 114 yX3_addCell cX3_addCell 3 none 2 := ⟨⟨w5_45, w1_9, w5_48, (by decide +kernel)⟩, w5_46, w5_47⟩
theorem kV_X3_119 : Wv RX3 119 yX1_at cX1_at 2 (some .int) 1 := ⟨⟨w5_75, w1_2, w3_119, (by decide +kernel)⟩, w3_117, w3_118⟩
theorem kV_X3_123 : Wv RX3 123 yX3_decodeWord cX3_decodeWord 6 (some .int) 1 := ⟨⟨w5_76, w1_9, w5_79, (by decide +kernel)⟩, w5_78, wp_27⟩
theorem kV_X3_126 : Wv RX3 126 yX3_longestAt cX3_longestAt 11 (some (.object "DotPress$Row")) 2 := ⟨⟨w5_80, w1_9, w5_83, (by decide +kernel)⟩, w5_82, wp_28⟩
theorem kV_X3_130 : Wv RX3 130 yX5_beginsSmall cX5_beginsSmall 1 (some .boolean) 0 := ⟨⟨w5_93, w1_21, w5_96, (by decide +kernel)⟩, w5_94, w5_95⟩
theorem kV_X3_137 : Wv RX3 137 yX5_writeLetters cX5_writeLetters 4 none 2 := ⟨⟨w5_100, w1_21, w5_103, (by decide +kernel)⟩, w5_101, w5_102⟩
theorem kV_X3_147 : Wv RX3 147 yX3_rowsOf cX3_rowsOf 2 (some (.object "java/util/ArrayList")) 1 := ⟨⟨w5_84, w1_9, w5_87, (by decide +kernel)⟩, w5_85, w5_86⟩
theorem kV_X3_157 : Wv RX3 157 yX5_standsAt cX5_standsAt 4 (some .boolean) 2 := ⟨⟨w5_89, w1_21, w5_92, (by decide +kernel)⟩, w5_90, w5_91⟩
theorem kV_X3_47 : Wv RX3 47 yJx4a65c_clear_da8c8 cJx4a65c_clear_da8c8 4 none 0 := ⟨⟨w5_54, w1_6, w5_57, (by decide +kernel)⟩, w5_55, w5_56⟩
theorem kV_X3_77 : Wv RX3 77 yX1_clear cX1_clear 1 none 0 := ⟨⟨w5_36, w1_2, w3_169, (by decide +kernel)⟩, w3_167, w3_168⟩
theorem kV_X3_78 : Wv RX3 78 yJx4a65c_size_8abf5 cJx4a65c_size_8abf5 1 (some .int) 0 := ⟨⟨w5_61, w1_6, w2_161, (by decide +kernel)⟩, w2_159, w2_160⟩
theorem kV_X3_82 : Wv RX3 82 yJx4a65c_get_915e3 cJx4a65c_get_915e3 2 (some (.object "java/lang/Object")) 1 := ⟨⟨w5_62, w1_6, w3_83, (by decide +kernel)⟩, w3_81, w3_82⟩
theorem kV_X3_91 : Wv RX3 91 yX1_add cX1_add 2 none 1 := ⟨⟨w5_49, w1_2, w2_117, (by decide +kernel)⟩, w2_115, w2_116⟩
theorem kV_X3_97 : Wv RX3 97 yJx4a65c_add_9ea2d cJx4a65c_add_9ea2d 2 (some .boolean) 1 := ⟨⟨w5_64, w1_6, w2_224, (by decide +kernel)⟩, w2_222, w2_223⟩
theorem kV_X4_101 : Wv RX4 101 yJx4a65c_size_8abf5 cJx4a65c_size_8abf5 1 (some .int) 0 := ⟨⟨w5_139, w1_6, w2_161, (by decide +kernel)⟩, w2_159, w2_160⟩
theorem kV_X4_106 : Wv RX4 106 yX4_looksLike cX4_looksLike 3 (some .boolean) 2 := ⟨⟨w5_144, w1_10, w5_147, (by decide +kernel)⟩, w5_146, wp_32⟩
theorem kV_X4_110 : Wv RX4 110 yJx4a65c_get_915e3 cJx4a65c_get_915e3 2 (some (.object "java/lang/Object")) 1 := ⟨⟨w5_148, w1_6, w3_83, (by decide +kernel)⟩, w3_81, w3_82⟩
theorem kV_X4_116 : Wv RX4 116 yX4_looksLikeRow cX4_looksLikeRow 4 (some .boolean) 2 := ⟨⟨w5_150, w1_10, w5_153, (by decide +kernel)⟩, w5_152, wp_33⟩
theorem kV_X4_120 : Wv RX4 120 yX5_beginsSmall cX5_beginsSmall 1 (some .boolean) 0 := ⟨⟨w5_154, w1_21, w5_96, (by decide +kernel)⟩, w5_94, w5_95⟩
theorem kV_X4_128 : Wv RX4 128 yX1_add cX1_add 2 none 1 := ⟨⟨w5_164, w1_2, w2_117, (by decide +kernel)⟩, w2_115, w2_116⟩
theorem kV_X4_131 : Wv RX4 131 yX5_writeLetters cX5_writeLetters 4 none 2 := ⟨⟨w5_165, w1_21, w5_103, (by decide +kernel)⟩, w5_101, w5_102⟩
theorem kV_X4_56 : Wv RX4 56 yX1_at cX1_at 2 (some .int) 1 := ⟨⟨w5_178, w1_2, w3_119, (by decide +kernel)⟩, w3_117, w3_118⟩
theorem kV_X4_76 : Wv RX4 76 yX1_clear cX1_clear 1 none 0 := ⟨⟨w5_129, w1_2, w3_169, (by decide +kernel)⟩, w3_167, w3_168⟩
theorem kV_X4_79 : Wv RX4 79 yX4_markEnds cX4_markEnds 2 none 0 := ⟨⟨w5_130, w1_10, w5_133, (by decide +kernel)⟩, w5_132, wp_29⟩
theorem kV_X4_82 : Wv RX4 82 yX4_walk cX4_walk 6 none 1 := ⟨⟨w5_155, w1_10, w5_158, (by decide +kernel)⟩, w5_157, wp_34⟩
theorem kV_X4_85 : Wv RX4 85 yX4_nextChoice cX4_nextChoice 6 (some .int) 2 := ⟨⟨w5_134, w1_10, w5_137, (by decide +kernel)⟩, w5_136, wp_30⟩
theorem kV_X4_89 : Wv RX4 89 yX4_write cX4_write 5 none 1 := ⟨⟨w5_160, w1_10, w5_163, (by decide +kernel)⟩, w5_162, wp_35⟩
theorem kV_X4_92 : Wv RX4 92 yX4_nodeBehind cX4_nodeBehind 7 (some .int) 2 := ⟨⟨w5_140, w1_10, w5_143, (by decide +kernel)⟩, w5_142, wp_31⟩
theorem kV_X4_95 : Wv RX4 95 yX3_rowsOf cX3_rowsOf 2 (some (.object "java/util/ArrayList")) 1 := ⟨⟨w5_138, w1_9, w5_87, (by decide +kernel)⟩, w5_85, w5_86⟩
theorem kV_X5_35 : Wv RX5 35 yX5_alike cX5_alike 4 (some .int) 1 := ⟨⟨w5_201, w1_21, w5_204, (by decide +kernel)⟩, w5_202, w5_203⟩
theorem kV_X5_47 : Wv RX5 47 yX1_add cX1_add 2 none 1 := ⟨⟨w5_104, w1_2, w2_117, (by decide +kernel)⟩, w2_115, w2_116⟩
theorem kV_X6_105 : Wv RX6 105 yX6_markStart cX6_markStart 4 none 2 := ⟨⟨w4_122, w1_8, w4_125, (by decide +kernel)⟩, w4_124, wp_18⟩
theorem kV_X6_119 : Wv RX6 119 yX6_countFind cX6_countFind 2 none 1 := ⟨⟨w4_100, w1_8, w4_103, (by decide +kernel)⟩, w4_102, wp_15⟩
theorem kV_X6_122 : Wv RX6 122 yX6_findOwn cX6_findOwn 11 (some (.object "DotPress$Row")) 4 := ⟨⟨w4_104, w1_8, w4_107, (by decide +kernel)⟩, w4_106, wp_16⟩
theorem kV_X6_134 : Wv RX6 134 yJx4a65c_size_8abf5 cJx4a65c_size_8abf5 1 (some .int) 0 := ⟨⟨w4_108, w1_6, w2_161, (by decide +kernel)⟩, w2_159, w2_160⟩
theorem kV_X6_145 : Wv RX6 145 yJx4a65c_get_915e3 cJx4a65c_get_915e3 2 (some (.object "java/lang/Object")) 1 := ⟨⟨w4_110, w1_6, w3_83, (by decide +kernel)⟩, w3_81, w3_82⟩
theorem kV_X6_149 : Wv RX6 149 yX6_fits cX6_fits 6 (some .boolean) 2 := ⟨⟨w4_112, w1_8, w4_115, (by decide +kernel)⟩, w4_114, wp_17⟩
theorem kV_X6_54 : Wv RX6 54 yX1_at cX1_at 2 (some .int) 1 := ⟨⟨w6_10, w1_2, w3_119, (by decide +kernel)⟩, w3_117, w3_118⟩
theorem kV_X6_58 : Wv RX6 58 yX1_add cX1_add 2 none 1 := ⟨⟨w6_15, w1_2, w2_117, (by decide +kernel)⟩, w2_115, w2_116⟩
theorem kV_X6_74 : Wv RX6 74 yX6_setPart cX6_setPart 9 (some .int) 3 := ⟨⟨w4_85, w1_8, w4_88, (by decide +kernel)⟩, w4_87, wp_12⟩
theorem kV_X6_82 : Wv RX6 82 yX6_setTurn cX6_setTurn 3 (some .int) 2 := ⟨⟨w4_131, w1_8, w4_134, (by decide +kernel)⟩, w4_133, wp_20⟩
theorem kV_X6_86 : Wv RX6 86 yX6_push cX6_push 3 none 1 := ⟨⟨w4_126, w1_8, w4_129, (by decide +kernel)⟩, w4_128, wp_19⟩
theorem kV_X6_90 : Wv RX6 90 yX6_numberAhead cX6_numberAhead 4 (some (.object "DotPress$Row")) 2 := ⟨⟨w4_89, w1_8, w4_92, (by decide +kernel)⟩, w4_91, wp_13⟩
theorem kV_X6_94 : Wv RX6 94 yX6_find cX6_find 7 (some (.object "DotPress$Row")) 3 := ⟨⟨w4_96, w1_8, w4_99, (by decide +kernel)⟩, w4_98, wp_14⟩
theorem kV_X7_24 : Wv RX7 24 yX7_at cX7_at 2 (some (.object "DotPress$Line")) 1 := ⟨⟨w4_72, w1_11, w4_75, (by decide +kernel)⟩, w4_73, w4_74⟩
theorem kV_X7_33 : Wv RX7 33 yX2_clear cX2_clear 1 none 0 := ⟨⟨w4_64, w1_22, w4_67, (by decide +kernel)⟩, w4_65, w4_66⟩
theorem kV_X7_42 : Wv RX7 42 yX2_addPart cX2_addPart 5 none 3 := ⟨⟨w4_139, w1_22, w4_142, (by decide +kernel)⟩, w4_140, w4_141⟩
theorem kV_X7_46 : Wv RX7 46 yX6_lastBreak cX6_lastBreak 7 (some .int) 3 := ⟨⟨w4_147, w1_8, w4_150, (by decide +kernel)⟩, w4_148, w4_149⟩
theorem kV_X7_50 : Wv RX7 50 yX2_add cX2_add 2 none 1 := ⟨⟨w4_151, w1_22, w4_146, (by decide +kernel)⟩, w4_144, w4_145⟩
theorem kV_X7_54 : Wv RX7 54 yX7_begin cX7_begin 1 (some .boolean) 0 := ⟨⟨w4_35, w1_11, w4_38, (by decide +kernel)⟩, w4_36, w4_37⟩
theorem kV_X7_58 : Wv RX7 58 yX2_indent cX2_indent 3 none 1 := ⟨⟨w4_76, w1_22, w4_79, (by decide +kernel)⟩, w4_77, w4_78⟩
theorem kV_X7_61 : Wv RX7 61 yX7_present cX7_present 3 (some (.object "DotPress$Line")) 1 := ⟨⟨w6_48, w1_11, w4_193, (by decide +kernel)⟩, w4_191, w4_192⟩
theorem kV_X8_39 : Wv RX8 39 yX8_enterLine cX8_enterLine 2 (some .int) 1 := ⟨⟨w4_13, w1_7, w4_16, (by decide +kernel)⟩, w4_15, wp_11⟩
theorem kV_X8_43 : Wv RX8 43 yX6_clear cX6_clear 1 none 0 := ⟨⟨w4_18, w1_8, w4_21, (by decide +kernel)⟩, w4_19, w4_20⟩
theorem kV_X8_53 : Wv RX8 53 yX1_at cX1_at 2 (some .int) 1 := ⟨⟨w4_17, w1_2, w3_119, (by decide +kernel)⟩, w3_117, w3_118⟩
theorem kV_X8_57 : Wv RX8 57 yX6_putBreak cX6_putBreak 1 none 0 := ⟨⟨w4_22, w1_8, w4_25, (by decide +kernel)⟩, w4_23, w4_24⟩
theorem kV_X8_60 : Wv RX8 60 yX6_put cX6_put 3 none 2 := ⟨⟨w4_26, w1_8, w4_29, (by decide +kernel)⟩, w4_27, w4_28⟩
theorem kV_X8_70 : Wv RX8 70 yX8_markLetters cX8_markLetters 5 none 1 := ⟨⟨w5_219, w1_7, w5_222, (by decide +kernel)⟩, w5_221, wp_36⟩
theorem kV_X8_77 : Wv RX8 77 yJx4a65c_size_8abf5 cJx4a65c_size_8abf5 1 (some .int) 0 := ⟨⟨w5_223, w1_6, w2_161, (by decide +kernel)⟩, w2_159, w2_160⟩
theorem kV_X8_82 : Wv RX8 82 yJx4a65c_get_915e3 cJx4a65c_get_915e3 2 (some (.object "java/lang/Object")) 1 := ⟨⟨w5_224, w1_6, w3_83, (by decide +kernel)⟩, w3_81, w3_82⟩
theorem kV_X8_91 : Wv RX8 91 yX8_lengthen cX8_lengthen 2 (some .boolean) 1 := ⟨⟨w5_230, w1_7, w5_233, (by decide +kernel)⟩, w5_232, wp_37⟩
theorem kV_X9_51 : Wv RX9 51 yJx4a65c_add_9ea2d cJx4a65c_add_9ea2d 2 (some .boolean) 1 := ⟨⟨w3_164, w1_6, w2_224, (by decide +kernel)⟩, w2_222, w2_223⟩
theorem kV_X9_59 : Wv RX9 59 yX1_add cX1_add 2 none 1 := ⟨⟨w3_165, w1_2, w2_117, (by decide +kernel)⟩, w2_115, w2_116⟩
theorem kV_X9_61 : Wv RX9 61 yJx4a65c_isEmpty_aae02 cJx4a65c_isEmpty_aae02 1 (some .boolean) 0 := ⟨⟨w3_203, w1_6, w3_198, (by decide +kernel)⟩, w3_196, w3_197⟩
theorem kV_X9_65 : Wv RX9 65 yJx4a65c_size_8abf5 cJx4a65c_size_8abf5 1 (some .int) 0 := ⟨⟨w3_204, w1_6, w2_161, (by decide +kernel)⟩, w2_159, w2_160⟩
theorem kV_X9_69 : Wv RX9 69 yJx4a65c_remove_915e3 cJx4a65c_remove_915e3 4 (some (.object "java/lang/Object")) 1 := ⟨⟨w3_205, w1_6, w3_64, (by decide +kernel)⟩, w3_62, w3_63⟩
theorem kV_X9_73 : Wv RX9 73 yX1_keep cX1_keep 2 none 1 := ⟨⟨w3_206, w1_2, w2_145, (by decide +kernel)⟩, w2_143, w2_144⟩
end
section
abbrev iI (z : Int) : Int32 := Int32.ofInt z
abbrev R32 (z : Int) : Prop := -2147483648 ≤ z ∧ z < 2147483648
theorem r32_c {x lo hi : Int} (h1 : lo ≤ x) (h2 : x ≤ hi) (h3 : -2147483648 ≤ lo) (h4 : hi < 2147483648) : R32 x := ⟨Int.le_trans h3 h1, Int.lt_of_le_of_lt h2 h4⟩
theorem r32_01 {f : Int} (h : f = 0 ∨ f = 1) : R32 f := by
  rcases h with rfl | rfl <;> exact ⟨by decide, by decide⟩
theorem r32_067 {f : Int} (h : f = 0 ∨ f = 6 ∨ f = 7) : R32 f := by
  rcases h with rfl | rfl | rfl <;> exact ⟨by decide, by decide⟩
theorem r32_0p {f : Int} {p : Prop} (h : f = 0 ∨ (f = 1 ∧ p)) : R32 f := r32_01 (h.imp id And.left)
theorem r32_p0 {f : Int} {p : Prop} (h : (f = 1 ∧ p) ∨ f = 0) : R32 f := r32_01 (h.elim (fun q => Or.inr q.1) Or.inl)
theorem r32_pq {f : Int} {p q : Prop} (h : (f = 0 ∧ p) ∨ (f = 1 ∧ q)) : R32 f := r32_01 (h.imp And.left And.left)
theorem r32_qp {f : Int} {p q : Prop} (h : (f = 1 ∧ p) ∨ (f = 0 ∧ q)) : R32 f := r32_01 (h.elim (fun q => Or.inr q.1) (fun q => Or.inl q.1))
theorem iI_int {z : Int} (h : R32 z) : (iI z).toInt = z := Int32.toInt_ofInt_of_le h.1 h.2
theorem iI_of (x : Int32) : ∃ z : Int, R32 z ∧ x = iI z := ⟨x.toInt, ⟨Int32.le_toInt x, Int32.toInt_lt x⟩, (Int32.ofInt_toInt x).symm⟩
theorem iI_cl {z : Int} (h : R32 z) : (iI z).toNatClampNeg = z.toNat := by rw [← Int32.toNat_toInt, iI_int h]
theorem iI_lt {a b : Int} (ha : R32 a) (hb : R32 b) : iI a < iI b ↔ a < b := by rw [Int32.lt_iff_toInt_lt, iI_int ha, iI_int hb]
theorem iI_le {a b : Int} (ha : R32 a) (hb : R32 b) : iI a ≤ iI b ↔ a ≤ b := by rw [Int32.le_iff_toInt_le, iI_int ha, iI_int hb]
theorem iI_eq {a b : Int} (ha : R32 a) (hb : R32 b) : iI a = iI b ↔ a = b := by rw [← Int32.toInt_inj, iI_int ha, iI_int hb]
theorem iI_in {z : Int} {n : Nat} (h : R32 z) (h0 : 0 ≤ z) (hn : z < n) : vp_in (iI z) n := by rw [vp_in_iff, iI_int h]; exact ⟨h0, hn⟩
theorem R32_0 : R32 0 := ⟨by decide, by decide⟩
def mA (k : Nat) : Bool := [2, 5, 6, 7, 8, 9, 10, 11, 12, 13, 14, 15, 16, 17, 18, 20, 21, 22, 24, 26, 27, 29, 34, 35, 37, 38, 40, 44, 45, 46, 47, 48, 49, 51, 54, 57, 58, 59, 62, 65].contains k
def mZ (k : Nat) : Bool := [5, 22, 57].contains k
def mlen : Nat → Nat := fun k => match k with
  | 2 => 3000
  | 5 => 30
  | 6 => 30
  | 7 => 30
  | 8 => 30
  | 9 => 30
  | 10 => 30
  | 11 => 6000
  | 12 => 6000
  | 13 => 6000
  | 14 => 48000
  | 15 => 24000
  | 16 => 120
  | 17 => 480
  | 18 => 64
  | 20 => 512
  | 21 => 512
  | 22 => 513
  | 24 => 6144
  | 26 => 513
  | 27 => 5
  | 29 => 500
  | 34 => 200
  | 35 => 40000
  | 37 => 200
  | 38 => 40000
  | 40 => 200
  | 44 => 12016
  | 45 => 12016
  | 46 => 12016
  | 47 => 2
  | 48 => 40200
  | 49 => 40200
  | 51 => 4000
  | 54 => 4000
  | 57 => 404
  | 58 => 40400
  | 59 => 50
  | 62 => 1000
  | 65 => 256
  | _ => 0
def mfv (ad : Nat → Nat) (v : Nat → Int) : Nat → Value := fun k => if mA k = true then .ref (ad k) else .int (iI (v k))
def mar (G : GT) (n k : Nat) (c : Nat → Int) : va_E := if mZ k = true then aZ G n (fun j => iI (c j)) else aI G n (fun j => iI (c j))
def up2 (a : Nat → Nat → Int) (k i : Nat) (z : Int) : Nat → Nat → Int := fun k2 j => if k2 = k then (if j = i then z else a k2 j) else a k2 j
def mI (G : GT) (h0 : Nat) (ad ln : Nat → Nat) (v : Nat → Int) (a : Nat → Nat → Int) (L : List Nat) (E : Nat → va_E) : Prop := h0 ∈ L ∧ E h0 = ob 13 67 (mfv ad v) ∧ (∀ k, mA k = true → ad k ∈ L ∧ E (ad k) = mar G (ln k) k (a k)) ∧ (∀ k, mA k = true → h0 ≠ ad k) ∧ (∀ i j, mA i = true → mA j = true → ad i = ad j → i = j) ∧ (∀ k, k ≠ 18 → ln k = mlen k) ∧ (64 ≤ ln 18 ∧ ln 18 ≤ 8192)
theorem mfv_i {ad : Nat → Nat} {v : Nat → Int} {k : Nat} (h : mA k = false) : mfv ad v k = .int (iI (v k)) := by unfold mfv; rw [h]; rfl
theorem mfv_a {ad : Nat → Nat} {v : Nat → Int} {k : Nat} (h : mA k = true) : mfv ad v k = .ref (ad k) := by unfold mfv; rw [h]; rfl
theorem mfv_put {ad : Nat → Nat} {v : Nat → Int} {k : Nat} {z : Int} (h : mA k = false) : va_up (mfv ad v) k (.int (iI z)) = mfv ad (va_up v k z) := by
  funext j
  by_cases e : j = k
  · subst e; rw [va_up_self, mfv_i h, va_up_self]
  · rw [va_up_ne _ _ e]; unfold mfv; rw [va_up_ne _ _ e]
theorem mI.put {G : GT} {h0 : Nat} {ad ln : Nat → Nat} {v : Nat → Int} {a : Nat → Nat → Int} {L : List Nat} {E : Nat → va_E} {k : Nat} {z : Int} (h : mI G h0 ad ln v a L E) (hk : mA k = false) : mI G h0 ad ln (va_up v k z) a L (va_up E h0 (ob 13 67 (va_up (mfv ad v) k (.int (iI z))))) := by
  obtain ⟨h1, h2, h3, h4, h5, h6⟩ := h
  refine ⟨h1, by rw [va_up_self, mfv_put hk], fun j hj => ⟨(h3 j hj).1, ?_⟩, h4, h5, h6⟩
  rw [va_up_ne _ _ (Ne.symm (h4 j hj))]; exact (h3 j hj).2
theorem mI.set {G : GT} {h0 : Nat} {ad ln : Nat → Nat} {v : Nat → Int} {a : Nat → Nat → Int} {L : List Nat} {E : Nat → va_E} {k i : Nat} {z : Int} (h : mI G h0 ad ln v a L E) (hk : mA k = true) {x : va_E} (hx : x = mar G (ln k) k (up2 a k i z k)) : mI G h0 ad ln v (up2 a k i z) L (va_up E (ad k) x) := by
  obtain ⟨h1, h2, h3, h4, h5, h6⟩ := h
  refine ⟨h1, by rw [va_up_ne _ _ (h4 k hk)]; exact h2, fun j hj => ⟨(h3 j hj).1, ?_⟩, h4, h5, h6⟩
  by_cases e : j = k
  · subst e; rw [va_up_self, hx]
  · rw [va_up_ne _ _ (fun q => e (h5 j k hj hk q)), (h3 j hj).2]
    have : up2 a k i z j = a j := by funext q; unfold up2; rw [if_neg e]
    rw [this]
theorem up2_s {a : Nat → Nat → Int} {k i : Nat} {z : Int} : up2 a k i z k i = z := by unfold up2; rw [if_pos rfl, if_pos rfl]
theorem up2_k {a : Nat → Nat → Int} {k i k2 j : Nat} {z : Int} (h : k2 ≠ k) : up2 a k i z k2 j = a k2 j := by unfold up2; rw [if_neg h]
theorem up2_j {a : Nat → Nat → Int} {k i k2 j : Nat} {z : Int} (h : j ≠ i) : up2 a k i z k2 j = a k2 j := by
  unfold up2; simp [h]
def mw (p : Program) (l : Launch) (e : Env) (R : Room) (s : State) (m : MethodId) (args : Array Value) (below : List Frame) (meth : Method) (c : Code) (G : GT) (A : Nat → Prop) (nL : Nat) (Q : State → Prop) (h0 : Nat) (ad ln : Nat → Nat) (v : Nat → Int) (a : Nat → Nat → Int) (kc ks pc : Nat) (lv : List (Nat × Value)) (st : List Value) : Prop := ∀ (L : List Nat) (E : Nat → va_E), mI G h0 ad ln v a L E → wq p l e R s m args below meth c G A nL Q L E kc ks pc lv st
def Mm (l : Launch) (G : GT) (y : MethodName) (cc : ByteArray) (n : Nat) (ret : Option FieldType) (d : Nat) (As : List Value) (h0 : Nat) (ad ln : Nat → Nat) (v : Nat → Int) (a : Nat → Nat → Int) (mc ms : Nat) (Post : Option Value → (Nat → Int) → (Nat → Nat → Int) → Prop) : Prop := ∀ (L : List Nat) (E : Nat → va_E), mI G h0 ad ln v a L E → Mq l G y cc n ret d (.ref h0 :: As) L E mc ms (fun r L2 E2 => ∃ (v2 : Nat → Int) (a2 : Nat → Nat → Int), mI G h0 ad ln v2 a2 L2 E2 ∧ Post r v2 a2)
section MQ2
variable {p : Program} {l : Launch} {e : Env} {R : Room} {s : State} {m : MethodId} {args : Array Value} {below : List Frame} {meth : Method} {c : Code} {cc : ByteArray} {y : MethodName} {ret : Option FieldType} {G : GT} {A : Nat → Prop} {nL mc ms : Nat} {Q : State → Prop} {Post : Option Value → (Nat → Int) → (Nat → Nat → Int) → Prop} {h0 : Nat} {ad ln : Nat → Nat} {v : Nat → Int} {a : Nat → Nat → Int} {kc ks pc : Nat} {lv : List (Nat × Value)} {st : List Value}
theorem m_iconst (C : Cq p s m args meth c cc y ret G A nL) {n : Int} (d : decode cc pc = .ok (.iconst n, 1))  (k : mw p l e R s m args below meth c G A nL Q h0 ad ln v a kc ks (pc + 1) lv (.int (iI n) :: st)) : mw p l e R s m args below meth c G A nL Q h0 ad ln v a kc ks pc lv st := fun L E h => q_iconst C d rfl (k L E h)
theorem m_bipush (C : Cq p s m args meth c cc y ret G A nL) {n z : Int} (d : decode cc pc = .ok (.bipush n, 2)) (hz : (Int8.ofInt n).toInt32 = iI z) (k : mw p l e R s m args below meth c G A nL Q h0 ad ln v a kc ks (pc + 2) lv (.int (iI z) :: st)) : mw p l e R s m args below meth c G A nL Q h0 ad ln v a kc ks pc lv st := fun L E h => q_bipush C d hz (k L E h)
theorem m_sipush (C : Cq p s m args meth c cc y ret G A nL) {n z : Int} (d : decode cc pc = .ok (.sipush n, 3)) (hz : (Int16.ofInt n).toInt32 = iI z) (k : mw p l e R s m args below meth c G A nL Q h0 ad ln v a kc ks (pc + 3) lv (.int (iI z) :: st)) : mw p l e R s m args below meth c G A nL Q h0 ad ln v a kc ks pc lv st := fun L E h => q_sipush C d hz (k L E h)
theorem m_iload_n (C : Cq p s m args meth c cc y ret G A nL) {i : Fin 4} {j : Nat} {x : Int32} (d : decode cc pc = .ok (.iload_n i, 1)) (hj : lv[j]? = some ((i : Nat), .int x)) (k : mw p l e R s m args below meth c G A nL Q h0 ad ln v a kc ks (pc + 1) lv (.int x :: st)) : mw p l e R s m args below meth c G A nL Q h0 ad ln v a kc ks pc lv st := fun L E h => q_iload_n C d hj (k L E h)
theorem m_iload (C : Cq p s m args meth c cc y ret G A nL) {i j : Nat} {x : Int32} (d : decode cc pc = .ok (.iload i, 2)) (hj : lv[j]? = some (i, .int x)) (k : mw p l e R s m args below meth c G A nL Q h0 ad ln v a kc ks (pc + 2) lv (.int x :: st)) : mw p l e R s m args below meth c G A nL Q h0 ad ln v a kc ks pc lv st := fun L E h => q_iload C d hj (k L E h)
theorem m_aload_n (C : Cq p s m args meth c cc y ret G A nL) {i : Fin 4} {j : Nat} {x : Nat} (d : decode cc pc = .ok (.aload_n i, 1)) (hj : lv[j]? = some ((i : Nat), .ref x)) (k : mw p l e R s m args below meth c G A nL Q h0 ad ln v a kc ks (pc + 1) lv (.ref x :: st)) : mw p l e R s m args below meth c G A nL Q h0 ad ln v a kc ks pc lv st := fun L E h => q_aload_n C d hj (k L E h)
theorem m_lload (C : Cq p s m args meth c cc y ret G A nL) {i j : Nat} {x : Int64} (d : decode cc pc = .ok (.lload i, 2)) (hj : lv[j]? = some (i, .long x)) (k : mw p l e R s m args below meth c G A nL Q h0 ad ln v a kc ks (pc + 2) lv (.long x :: st)) : mw p l e R s m args below meth c G A nL Q h0 ad ln v a kc ks pc lv st := fun L E h => q_lload C d hj (k L E h)
theorem m_istore_n (C : Cq p s m args meth c cc y ret G A nL) {i : Fin 4} {x : Int32} {lv2 : List (Nat × Value)} (d : decode cc pc = .ok (.istore_n i, 1)) (hn : (i : Nat) < nL) (hl : ((i : Nat), Value.int x) :: lv.filter (fun q => !(q.1 == (i : Nat)) && !(q.1 + 1 == (i : Nat) && q.2.category == 2)) = lv2) (k : mw p l e R s m args below meth c G A nL Q h0 ad ln v a kc ks (pc + 1) lv2 st) : mw p l e R s m args below meth c G A nL Q h0 ad ln v a kc ks pc lv (Value.int x :: st) := fun L E h => q_istore_n C d hn hl (k L E h)
theorem m_istore (C : Cq p s m args meth c cc y ret G A nL) {i : Nat} {x : Int32} {lv2 : List (Nat × Value)} (d : decode cc pc = .ok (.istore i, 2)) (hn : i < nL) (hl : (i, Value.int x) :: lv.filter (fun q => !(q.1 == i) && !(q.1 + 1 == i && q.2.category == 2)) = lv2) (k : mw p l e R s m args below meth c G A nL Q h0 ad ln v a kc ks (pc + 2) lv2 st) : mw p l e R s m args below meth c G A nL Q h0 ad ln v a kc ks pc lv (Value.int x :: st) := fun L E h => q_istore C d hn hl (k L E h)
theorem m_lstore (C : Cq p s m args meth c cc y ret G A nL) {i : Nat} {x : Int64} {lv2 : List (Nat × Value)} (d : decode cc pc = .ok (.lstore i, 2)) (hn : i + 1 < nL) (hl : (i, Value.long x) :: lv.filter (fun q => !(q.1 == i) && (!(q.1 == i + 1) && !(q.1 + 1 == i && q.2.category == 2))) = lv2) (k : mw p l e R s m args below meth c G A nL Q h0 ad ln v a kc ks (pc + 2) lv2 st) : mw p l e R s m args below meth c G A nL Q h0 ad ln v a kc ks pc lv (Value.long x :: st) := fun L E h => q_lstore C d hn hl (k L E h)
theorem m_iinc (C : Cq p s m args meth c cc y ret G A nL) {i j : Nat} {n z : Int} {lv2 : List (Nat × Value)} (d : decode cc pc = .ok (.iinc i n, 3)) (hj : lv[j]? = some (i, .int (iI z))) (hn : i < nL) (hl : (i, Value.int (iI (z + n))) :: lv.filter (fun q => !(q.1 == i) && !(q.1 + 1 == i && q.2.category == 2)) = lv2) (k : mw p l e R s m args below meth c G A nL Q h0 ad ln v a kc ks (pc + 3) lv2 st) : mw p l e R s m args below meth c G A nL Q h0 ad ln v a kc ks pc lv st := fun L E h => q_iinc C d hj (Int32.ofInt_add z n).symm hn hl (k L E h)
theorem m_iadd (C : Cq p s m args meth c cc y ret G A nL) {x z : Int} (d : decode cc pc = .ok (.iadd, 1))  (k : mw p l e R s m args below meth c G A nL Q h0 ad ln v a kc ks (pc + 1) lv (.int (iI (x + z)) :: st)) : mw p l e R s m args below meth c G A nL Q h0 ad ln v a kc ks pc lv (.int (iI z) :: .int (iI x) :: st) := fun L E h => q_iadd C d (Int32.ofInt_add x z).symm (k L E h)
theorem m_isub (C : Cq p s m args meth c cc y ret G A nL) {x z : Int} (d : decode cc pc = .ok (.isub, 1))  (k : mw p l e R s m args below meth c G A nL Q h0 ad ln v a kc ks (pc + 1) lv (.int (iI (x - z)) :: st)) : mw p l e R s m args below meth c G A nL Q h0 ad ln v a kc ks pc lv (.int (iI z) :: .int (iI x) :: st) := fun L E h => q_isub C d (Int32.ofInt_sub x z).symm (k L E h)
theorem m_imul (C : Cq p s m args meth c cc y ret G A nL) {x z : Int} (d : decode cc pc = .ok (.imul, 1))  (k : mw p l e R s m args below meth c G A nL Q h0 ad ln v a kc ks (pc + 1) lv (.int (iI (x * z)) :: st)) : mw p l e R s m args below meth c G A nL Q h0 ad ln v a kc ks pc lv (.int (iI z) :: .int (iI x) :: st) := fun L E h => q_imul C d (Int32.ofInt_mul x z).symm (k L E h)
theorem m_iand (C : Cq p s m args meth c cc y ret G A nL) {x y2 w : Int32} (d : decode cc pc = .ok (.iand, 1)) (hv : x &&& y2 = w) (k : mw p l e R s m args below meth c G A nL Q h0 ad ln v a kc ks (pc + 1) lv (.int w :: st)) : mw p l e R s m args below meth c G A nL Q h0 ad ln v a kc ks pc lv (.int y2 :: .int x :: st) := fun L E h => q_iand C d hv (k L E h)
theorem m_ior (C : Cq p s m args meth c cc y ret G A nL) {x y2 w : Int32} (d : decode cc pc = .ok (.ior, 1)) (hv : x ||| y2 = w) (k : mw p l e R s m args below meth c G A nL Q h0 ad ln v a kc ks (pc + 1) lv (.int w :: st)) : mw p l e R s m args below meth c G A nL Q h0 ad ln v a kc ks pc lv (.int y2 :: .int x :: st) := fun L E h => q_ior C d hv (k L E h)
theorem m_ixor (C : Cq p s m args meth c cc y ret G A nL) {x y2 w : Int32} (d : decode cc pc = .ok (.ixor, 1)) (hv : x ^^^ y2 = w) (k : mw p l e R s m args below meth c G A nL Q h0 ad ln v a kc ks (pc + 1) lv (.int w :: st)) : mw p l e R s m args below meth c G A nL Q h0 ad ln v a kc ks pc lv (.int y2 :: .int x :: st) := fun L E h => q_ixor C d hv (k L E h)
theorem m_ishl (C : Cq p s m args meth c cc y ret G A nL) {x y2 w : Int32} (d : decode cc pc = .ok (.ishl, 1)) (hv : x <<< (y2 &&& 31) = w) (k : mw p l e R s m args below meth c G A nL Q h0 ad ln v a kc ks (pc + 1) lv (.int w :: st)) : mw p l e R s m args below meth c G A nL Q h0 ad ln v a kc ks pc lv (.int y2 :: .int x :: st) := fun L E h => q_ishl C d hv (k L E h)
theorem m_ishr (C : Cq p s m args meth c cc y ret G A nL) {x y2 w : Int32} (d : decode cc pc = .ok (.ishr, 1)) (hv : x >>> (y2 &&& 31) = w) (k : mw p l e R s m args below meth c G A nL Q h0 ad ln v a kc ks (pc + 1) lv (.int w :: st)) : mw p l e R s m args below meth c G A nL Q h0 ad ln v a kc ks pc lv (.int y2 :: .int x :: st) := fun L E h => q_ishr C d hv (k L E h)
theorem m_idiv (C : Cq p s m args meth c cc y ret G A nL) {x y2 w : Int32} (d : decode cc pc = .ok (.idiv, 1)) (hne : ¬ y2 = 0) (hv : x / y2 = w) (k : mw p l e R s m args below meth c G A nL Q h0 ad ln v a kc ks (pc + 1) lv (.int w :: st)) : mw p l e R s m args below meth c G A nL Q h0 ad ln v a kc ks pc lv (.int y2 :: .int x :: st) := fun L E h => q_idiv C d hne hv (k L E h)
theorem m_ineg (C : Cq p s m args meth c cc y ret G A nL) {z : Int} (d : decode cc pc = .ok (.ineg, 1))  (k : mw p l e R s m args below meth c G A nL Q h0 ad ln v a kc ks (pc + 1) lv (.int (iI (-z)) :: st)) : mw p l e R s m args below meth c G A nL Q h0 ad ln v a kc ks pc lv (.int (iI z) :: st) := fun L E h => q_ineg C d (Int32.ofInt_neg z).symm (k L E h)
theorem m_dup (C : Cq p s m args meth c cc y ret G A nL) {u : Value} (d : decode cc pc = .ok (.dup, 1)) (hu : u.category = 1) (k : mw p l e R s m args below meth c G A nL Q h0 ad ln v a kc ks (pc + 1) lv (u :: u :: st)) : mw p l e R s m args below meth c G A nL Q h0 ad ln v a kc ks pc lv (u :: st) := fun L E h => q_dup C d hu (k L E h)
theorem m_dup2 (C : Cq p s m args meth c cc y ret G A nL) {u w : Value} (d : decode cc pc = .ok (.dup2, 1)) (hu : u.category = 1) (hw : w.category = 1) (k : mw p l e R s m args below meth c G A nL Q h0 ad ln v a kc ks (pc + 1) lv (u :: w :: u :: w :: st)) : mw p l e R s m args below meth c G A nL Q h0 ad ln v a kc ks pc lv (u :: w :: st) := fun L E h => q_dup2 C d hu hw (k L E h)
theorem m_i2l (C : Cq p s m args meth c cc y ret G A nL) {x : Int32} {w : Int64} (d : decode cc pc = .ok (.i2l, 1)) (hv : x.toInt64 = w) (k : mw p l e R s m args below meth c G A nL Q h0 ad ln v a kc ks (pc + 1) lv (.long w :: st)) : mw p l e R s m args below meth c G A nL Q h0 ad ln v a kc ks pc lv (.int x :: st) := fun L E h => q_i2l C d hv (k L E h)
theorem m_l2i (C : Cq p s m args meth c cc y ret G A nL) {x : Int64} {w : Int32} (d : decode cc pc = .ok (.l2i, 1)) (hv : x.toInt32 = w) (k : mw p l e R s m args below meth c G A nL Q h0 ad ln v a kc ks (pc + 1) lv (.int w :: st)) : mw p l e R s m args below meth c G A nL Q h0 ad ln v a kc ks pc lv (.long x :: st) := fun L E h => q_l2i C d hv (k L E h)
theorem m_ladd (C : Cq p s m args meth c cc y ret G A nL) {x y2 w : Int64} (d : decode cc pc = .ok (.ladd, 1)) (hv : x + y2 = w) (k : mw p l e R s m args below meth c G A nL Q h0 ad ln v a kc ks (pc + 1) lv (.long w :: st)) : mw p l e R s m args below meth c G A nL Q h0 ad ln v a kc ks pc lv (.long y2 :: .long x :: st) := fun L E h => q_ladd C d hv (k L E h)
theorem m_lconst (C : Cq p s m args meth c cc y ret G A nL) {n : Fin 2} {w : Int64} (d : decode cc pc = .ok (.lconst n, 1)) (hv : Int64.ofNat (n : Nat) = w) (k : mw p l e R s m args below meth c G A nL Q h0 ad ln v a kc ks (pc + 1) lv (.long w :: st)) : mw p l e R s m args below meth c G A nL Q h0 ad ln v a kc ks pc lv st := fun L E h => q_lconst C d hv (k L E h)
theorem m_lcmp (C : Cq p s m args meth c cc y ret G A nL) {x y2 : Int64} {w : Int32} (d : decode cc pc = .ok (.lcmp, 1)) (hv : lg_cmp x y2 = w) (k : mw p l e R s m args below meth c G A nL Q h0 ad ln v a kc ks (pc + 1) lv (.int w :: st)) : mw p l e R s m args below meth c G A nL Q h0 ad ln v a kc ks pc lv (.long y2 :: .long x :: st) := fun L E h => q_lcmp C d hv (k L E h)
theorem m_goto (C : Cq p s m args meth c cc y ret G A nL) {off : Int} {tgt : Nat} (d : decode cc pc = .ok (.goto off, 3)) (ht : (pc : Int) + off = (tgt : Int)) (k : mw p l e R s m args below meth c G A nL Q h0 ad ln v a kc ks tgt lv st) : mw p l e R s m args below meth c G A nL Q h0 ad ln v a kc ks pc lv st := fun L E h => q_goto C d ht (k L E h)
theorem m_icmp_eq (C : Cq p s m args meth c cc y ret G A nL) {x z off : Int} {tgt : Nat} (hx : R32 x) (hz : R32 z) (d : decode cc pc = .ok (.if_icmp .eq off, 3)) (ht : (pc : Int) + off = (tgt : Int)) (kt : x = z → mw p l e R s m args below meth c G A nL Q h0 ad ln v a kc ks tgt lv st) (kf : ¬ x = z → mw p l e R s m args below meth c G A nL Q h0 ad ln v a kc ks (pc + 3) lv st) : mw p l e R s m args below meth c G A nL Q h0 ad ln v a kc ks pc lv (.int (iI z) :: .int (iI x) :: st) := fun L E h => q_icmp_eq C d ht (fun q => kt ((iI_eq hx hz).mp q) L E h) (fun q => kf (fun r => q ((iI_eq hx hz).mpr r)) L E h)
theorem m_if_eq (C : Cq p s m args meth c cc y ret G A nL) {x off : Int} {tgt : Nat} (hx : R32 x) (d : decode cc pc = .ok (.ifCond .eq off, 3)) (ht : (pc : Int) + off = (tgt : Int)) (kt : x = 0 → mw p l e R s m args below meth c G A nL Q h0 ad ln v a kc ks tgt lv st) (kf : ¬ x = 0 → mw p l e R s m args below meth c G A nL Q h0 ad ln v a kc ks (pc + 3) lv st) : mw p l e R s m args below meth c G A nL Q h0 ad ln v a kc ks pc lv (.int (iI x) :: st) := fun L E h => q_if_eq C d ht (fun q => kt ((iI_eq hx R32_0).mp q) L E h) (fun q => kf (fun r => q ((iI_eq hx R32_0).mpr r)) L E h)
theorem m_icmp_ne (C : Cq p s m args meth c cc y ret G A nL) {x z off : Int} {tgt : Nat} (hx : R32 x) (hz : R32 z) (d : decode cc pc = .ok (.if_icmp .ne off, 3)) (ht : (pc : Int) + off = (tgt : Int)) (kt : ¬ x = z → mw p l e R s m args below meth c G A nL Q h0 ad ln v a kc ks tgt lv st) (kf : x = z → mw p l e R s m args below meth c G A nL Q h0 ad ln v a kc ks (pc + 3) lv st) : mw p l e R s m args below meth c G A nL Q h0 ad ln v a kc ks pc lv (.int (iI z) :: .int (iI x) :: st) := fun L E h => q_icmp_ne C d ht (fun q => kt (fun r => q ((iI_eq hx hz).mpr r)) L E h) (fun q => kf ((iI_eq hx hz).mp q) L E h)
theorem m_if_ne (C : Cq p s m args meth c cc y ret G A nL) {x off : Int} {tgt : Nat} (hx : R32 x) (d : decode cc pc = .ok (.ifCond .ne off, 3)) (ht : (pc : Int) + off = (tgt : Int)) (kt : ¬ x = 0 → mw p l e R s m args below meth c G A nL Q h0 ad ln v a kc ks tgt lv st) (kf : x = 0 → mw p l e R s m args below meth c G A nL Q h0 ad ln v a kc ks (pc + 3) lv st) : mw p l e R s m args below meth c G A nL Q h0 ad ln v a kc ks pc lv (.int (iI x) :: st) := fun L E h => q_if_ne C d ht (fun q => kt (fun r => q ((iI_eq hx R32_0).mpr r)) L E h) (fun q => kf ((iI_eq hx R32_0).mp q) L E h)
theorem m_icmp_lt (C : Cq p s m args meth c cc y ret G A nL) {x z off : Int} {tgt : Nat} (hx : R32 x) (hz : R32 z) (d : decode cc pc = .ok (.if_icmp .lt off, 3)) (ht : (pc : Int) + off = (tgt : Int)) (kt : x < z → mw p l e R s m args below meth c G A nL Q h0 ad ln v a kc ks tgt lv st) (kf : ¬ x < z → mw p l e R s m args below meth c G A nL Q h0 ad ln v a kc ks (pc + 3) lv st) : mw p l e R s m args below meth c G A nL Q h0 ad ln v a kc ks pc lv (.int (iI z) :: .int (iI x) :: st) := fun L E h => q_icmp_lt C d ht (fun q => kt ((iI_lt hx hz).mp q) L E h) (fun q => kf (fun r => q ((iI_lt hx hz).mpr r)) L E h)
theorem m_if_lt (C : Cq p s m args meth c cc y ret G A nL) {x off : Int} {tgt : Nat} (hx : R32 x) (d : decode cc pc = .ok (.ifCond .lt off, 3)) (ht : (pc : Int) + off = (tgt : Int)) (kt : x < 0 → mw p l e R s m args below meth c G A nL Q h0 ad ln v a kc ks tgt lv st) (kf : ¬ x < 0 → mw p l e R s m args below meth c G A nL Q h0 ad ln v a kc ks (pc + 3) lv st) : mw p l e R s m args below meth c G A nL Q h0 ad ln v a kc ks pc lv (.int (iI x) :: st) := fun L E h => q_if_lt C d ht (fun q => kt ((iI_lt hx R32_0).mp q) L E h) (fun q => kf (fun r => q ((iI_lt hx R32_0).mpr r)) L E h)
theorem m_icmp_ge (C : Cq p s m args meth c cc y ret G A nL) {x z off : Int} {tgt : Nat} (hx : R32 x) (hz : R32 z) (d : decode cc pc = .ok (.if_icmp .ge off, 3)) (ht : (pc : Int) + off = (tgt : Int)) (kt : z ≤ x → mw p l e R s m args below meth c G A nL Q h0 ad ln v a kc ks tgt lv st) (kf : ¬ z ≤ x → mw p l e R s m args below meth c G A nL Q h0 ad ln v a kc ks (pc + 3) lv st) : mw p l e R s m args below meth c G A nL Q h0 ad ln v a kc ks pc lv (.int (iI z) :: .int (iI x) :: st) := fun L E h => q_icmp_ge C d ht (fun q => kt ((iI_le hz hx).mp q) L E h) (fun q => kf (fun r => q ((iI_le hz hx).mpr r)) L E h)
theorem m_if_ge (C : Cq p s m args meth c cc y ret G A nL) {x off : Int} {tgt : Nat} (hx : R32 x) (d : decode cc pc = .ok (.ifCond .ge off, 3)) (ht : (pc : Int) + off = (tgt : Int)) (kt : 0 ≤ x → mw p l e R s m args below meth c G A nL Q h0 ad ln v a kc ks tgt lv st) (kf : ¬ 0 ≤ x → mw p l e R s m args below meth c G A nL Q h0 ad ln v a kc ks (pc + 3) lv st) : mw p l e R s m args below meth c G A nL Q h0 ad ln v a kc ks pc lv (.int (iI x) :: st) := fun L E h => q_if_ge C d ht (fun q => kt ((iI_le R32_0 hx).mp q) L E h) (fun q => kf (fun r => q ((iI_le R32_0 hx).mpr r)) L E h)
theorem m_icmp_gt (C : Cq p s m args meth c cc y ret G A nL) {x z off : Int} {tgt : Nat} (hx : R32 x) (hz : R32 z) (d : decode cc pc = .ok (.if_icmp .gt off, 3)) (ht : (pc : Int) + off = (tgt : Int)) (kt : z < x → mw p l e R s m args below meth c G A nL Q h0 ad ln v a kc ks tgt lv st) (kf : ¬ z < x → mw p l e R s m args below meth c G A nL Q h0 ad ln v a kc ks (pc + 3) lv st) : mw p l e R s m args below meth c G A nL Q h0 ad ln v a kc ks pc lv (.int (iI z) :: .int (iI x) :: st) := fun L E h => q_icmp_gt C d ht (fun q => kt ((iI_lt hz hx).mp q) L E h) (fun q => kf (fun r => q ((iI_lt hz hx).mpr r)) L E h)
theorem m_icmp_le (C : Cq p s m args meth c cc y ret G A nL) {x z off : Int} {tgt : Nat} (hx : R32 x) (hz : R32 z) (d : decode cc pc = .ok (.if_icmp .le off, 3)) (ht : (pc : Int) + off = (tgt : Int)) (kt : x ≤ z → mw p l e R s m args below meth c G A nL Q h0 ad ln v a kc ks tgt lv st) (kf : ¬ x ≤ z → mw p l e R s m args below meth c G A nL Q h0 ad ln v a kc ks (pc + 3) lv st) : mw p l e R s m args below meth c G A nL Q h0 ad ln v a kc ks pc lv (.int (iI z) :: .int (iI x) :: st) := fun L E h => q_icmp_le C d ht (fun q => kt ((iI_le hx hz).mp q) L E h) (fun q => kf (fun r => q ((iI_le hx hz).mpr r)) L E h)
theorem m_if_le (C : Cq p s m args meth c cc y ret G A nL) {x off : Int} {tgt : Nat} (hx : R32 x) (d : decode cc pc = .ok (.ifCond .le off, 3)) (ht : (pc : Int) + off = (tgt : Int)) (kt : x ≤ 0 → mw p l e R s m args below meth c G A nL Q h0 ad ln v a kc ks tgt lv st) (kf : ¬ x ≤ 0 → mw p l e R s m args below meth c G A nL Q h0 ad ln v a kc ks (pc + 3) lv st) : mw p l e R s m args below meth c G A nL Q h0 ad ln v a kc ks pc lv (.int (iI x) :: st) := fun L E h => q_if_le C d ht (fun q => kt ((iI_le hx R32_0).mp q) L E h) (fun q => kf (fun r => q ((iI_le hx R32_0).mpr r)) L E h)
theorem m_get (C : Cq p s m args meth c cc y ret G A nL) {k idx : Nat} (d : decode cc pc = .ok (.getfield idx, 3)) (lk : Cond.fieldLink y.cls idx (TX12 k).1 (TX12 k).2.1 (TX12 k).2.2.1 ∈ lw_g) (hk : k < 67) (hA : mA k = false) (kk : mw p l e R s m args below meth c G A nL Q h0 ad ln v a kc ks (pc + 3) lv (.int (iI (v k)) :: st)) : mw p l e R s m args below meth c G A nL Q h0 ad ln v a kc ks pc lv (.ref h0 :: st) := fun L E h => q_get (k := k) C ck_13 d lk hk h.1 h.2.1 (mfv_i hA) (kk L E h)
theorem m_geta (C : Cq p s m args meth c cc y ret G A nL) {k idx : Nat} (d : decode cc pc = .ok (.getfield idx, 3)) (lk : Cond.fieldLink y.cls idx (TX12 k).1 (TX12 k).2.1 (TX12 k).2.2.1 ∈ lw_g) (hk : k < 67) (hA : mA k = true) (kk : mw p l e R s m args below meth c G A nL Q h0 ad ln v a kc ks (pc + 3) lv (.ref (ad k) :: st)) : mw p l e R s m args below meth c G A nL Q h0 ad ln v a kc ks pc lv (.ref h0 :: st) := fun L E h => q_get (k := k) C ck_13 d lk hk h.1 h.2.1 (mfv_a hA) (kk L E h)
theorem m_put (C : Cq p s m args meth c cc y ret G A nL) {k idx : Nat} {z : Int} (d : decode cc pc = .ok (.putfield idx, 3)) (lk : Cond.fieldLink y.cls idx (TX12 k).1 (TX12 k).2.1 (TX12 k).2.2.1 ∈ lw_g) (hk : k < 67) (hA : mA k = false) (hf : (TX12 k).2.2.2 = false) (ht : tyX12 k = .int) (kk : mw p l e R s m args below meth c G A nL Q h0 ad ln (va_up v k z) a kc ks (pc + 3) lv st) : mw p l e R s m args below meth c G A nL Q h0 ad ln v a kc ks pc lv (.int (iI z) :: .ref h0 :: st) := fun L E h => q_put (k := k) C ck_13 d lk hk hf h.1 h.2.1 (by rw [ht]; rfl) (by rw [ht]; rfl) (kk L _ (h.put hA))
theorem m_ald (C : Cq p s m args meth c cc y ret G A nL) {k : Nat} {z : Int} (d : decode cc pc = .ok (.iaload, 1)) (hA : mA k = true) (hZ : mZ k = false) (h18 : k ≠ 18) (h1 : 0 ≤ z) (h2 : z < (mlen k : Nat)) (hm : mlen k ≤ 100000) (kk : mw p l e R s m args below meth c G A nL Q h0 ad ln v a kc ks (pc + 1) lv (.int (iI (a k z.toNat)) :: st)) : mw p l e R s m args below meth c G A nL Q h0 ad ln v a kc ks pc lv (.int (iI z) :: .ref (ad k) :: st) := by
  intro L E h
  refine hv2 (show R32 z from ⟨by omega, by omega⟩) ((h.2.2.1 k hA).2) (fun hr hE => ?_)
  unfold mar at hE
  rw [hZ, if_neg (by decide), h.2.2.2.2.2.1 k h18] at hE
  exact q_iald C d (h.2.2.1 k hA).1 hE (iI_in hr h1 h2) (by rw [iI_cl hr]) (kk L E h)
theorem m_zald (C : Cq p s m args meth c cc y ret G A nL) {k : Nat} {z : Int} (d : decode cc pc = .ok (.baload, 1)) (hA : mA k = true) (hZ : mZ k = true) (h18 : k ≠ 18) (h1 : 0 ≤ z) (h2 : z < (mlen k : Nat)) (hm : mlen k ≤ 100000) (kk : mw p l e R s m args below meth c G A nL Q h0 ad ln v a kc ks (pc + 1) lv (.int (iI (a k z.toNat)) :: st)) : mw p l e R s m args below meth c G A nL Q h0 ad ln v a kc ks pc lv (.int (iI z) :: .ref (ad k) :: st) := by
  intro L E h
  refine hv2 (show R32 z from ⟨by omega, by omega⟩) ((h.2.2.1 k hA).2) (fun hr hE => ?_)
  unfold mar at hE
  rw [hZ, if_pos rfl, h.2.2.2.2.2.1 k h18] at hE
  exact q_zald C d (h.2.2.1 k hA).1 hE (iI_in hr h1 h2) (by rw [iI_cl hr]) (kk L E h)
theorem m_ast (C : Cq p s m args meth c cc y ret G A nL) {k : Nat} {z w : Int} (d : decode cc pc = .ok (.iastore, 1)) (hA : mA k = true) (hZ : mZ k = false) (h18 : k ≠ 18) (h1 : 0 ≤ z) (h2 : z < (mlen k : Nat)) (hm : mlen k ≤ 100000) (kk : mw p l e R s m args below meth c G A nL Q h0 ad ln v (up2 a k z.toNat w) kc ks (pc + 1) lv st) : mw p l e R s m args below meth c G A nL Q h0 ad ln v a kc ks pc lv (.int (iI w) :: .int (iI z) :: .ref (ad k) :: st) := by
  intro L E h
  refine hv2 (show R32 z from ⟨by omega, by omega⟩) ((h.2.2.1 k hA).2) (fun hr hE => ?_)
  have hE2 := hE
  unfold mar at hE
  rw [hZ, if_neg (by decide)] at hE
  refine q_iast C d (h.2.2.1 k hA).1 hE (by rw [h.2.2.2.2.2.1 k h18]; exact iI_in hr h1 h2) (kk L _ (h.set hA ?_))
  unfold mar
  rw [hZ, if_neg (by decide), iI_cl hr]
  congr 1
  funext j
  unfold upd up2
  rw [if_pos rfl]
  split <;> rfl
theorem m_st {st2 : List Value} (h : st = st2) (k : mw p l e R s m args below meth c G A nL Q h0 ad ln v a kc ks pc lv st2) : mw p l e R s m args below meth c G A nL Q h0 ad ln v a kc ks pc lv st := by subst h; exact k
theorem m_iret (C : Cq p s m args meth c cc y ret G A nL) {z : Int} (d : decode cc pc = .ok (.ireturn, 1)) (hr : ret = some .int) (h1 : kc ≤ mc) (h2 : ks ≤ ms) (hp : Post (some (.int (iI z))) v a) : mw p l e R s m args below meth c G A nL (MQ below (Qm G A (fun r L2 E2 => ∃ (v2 : Nat → Int) (a2 : Nat → Nat → Int), mI G h0 ad ln v2 a2 L2 E2 ∧ Post r v2 a2)) args s mc ms A) h0 ad ln v a kc ks pc lv [.int (iI z)] := fun L E h => q_iret C d hr h1 h2 ⟨v, a, h, hp⟩
theorem m_zret (C : Cq p s m args meth c cc y ret G A nL) {z : Int} (d : decode cc pc = .ok (.ireturn, 1)) (hr : ret = some .boolean) (hz : z = 0 ∨ z = 1) (h1 : kc ≤ mc) (h2 : ks ≤ ms) (hp : Post (some (.int (iI z))) v a) : mw p l e R s m args below meth c G A nL (MQ below (Qm G A (fun r L2 E2 => ∃ (v2 : Nat → Int) (a2 : Nat → Nat → Int), mI G h0 ad ln v2 a2 L2 E2 ∧ Post r v2 a2)) args s mc ms A) h0 ad ln v a kc ks pc lv [.int (iI z)] := fun L E h => q_zret C d hr (by rcases hz with rfl | rfl <;> decide) h1 h2 ⟨v, a, h, hp⟩
theorem m_vret (C : Cq p s m args meth c cc y ret G A nL) (d : decode cc pc = .ok (.return_, 1)) (hr : ret = none) (h1 : kc ≤ mc) (h2 : ks ≤ ms) (hp : Post none v a) : mw p l e R s m args below meth c G A nL (MQ below (Qm G A (fun r L2 E2 => ∃ (v2 : Nat → Int) (a2 : Nat → Nat → Int), mI G h0 ad ln v2 a2 L2 E2 ∧ Post r v2 a2)) args s mc ms A) h0 ad ln v a kc ks pc lv [] := fun L E h => q_vret C d hr h1 h2 ⟨v, a, h, hp⟩
theorem Mm.mk {n d : Nat} {As : List Value} (hy : plainName y.cls = true) (hn : (lg_sl (.ref h0 :: As)).length ≤ n) (body : ∀ (p : Program) (e : Env) (s : State) (m : MethodId) (args : Array Value) (below : List Frame) (meth : Method) (c : Code) (A : Nat → Prop), Cq p s m args meth c cc y ret G A n → mw p l e (rmq d mc ms) s m args below meth c G A n (MQ below (Qm G A (fun r L2 E2 => ∃ (v2 : Nat → Int) (a2 : Nat → Nat → Int), mI G h0 ad ln v2 a2 L2 E2 ∧ Post r v2 a2)) args s mc ms A) h0 ad ln v a 0 0 0 (lv_args 0 (.ref h0 :: As)) []) : Mm l G y cc n ret d As h0 ad ln v a mc ms Post := fun L E h => Mq.mk hy hn (fun p e s m args below meth c A C => body p e s m args below meth c A C L E h)
theorem m_call (C : Cq p s m args meth c cc y ret G A nL) {y2 : MethodName} {cc2 : ByteArray} {n2 d2 mc2 ms2 idx k2 : Nat} {ret2 : Option FieldType} {P2 : Option Value → (Nat → Int) → (Nat → Nat → Int) → Prop} {As rest : List Value} (M : Mm l G y2 cc2 n2 ret2 d2 As h0 ad ln v a mc2 ms2 P2) (d : decode cc pc = .ok (.invokevirtual idx, 3)) (hw : Wv y.cls idx y2 cc2 n2 ret2 k2) (hk : As.length = k2) (ck : Ck 13 y2.cls TX12 67 tyX12) (hst : st = As.reverse ++ .ref h0 :: rest) (hcat : (rest.map fun v => v.category).sum ≤ 8) (hR : d2 + 1 ≤ R.frames ∧ 8 + (n2 + 11) + 64 * d2 ≤ R.locals) (hf : kc + mc2 ≤ R.cells ∧ ks + ms2 ≤ R.slots) (kk : ∀ (r : Option Value) (v2 : Nat → Int) (a2 : Nat → Nat → Int), P2 r v2 a2 → mw p l e R s m args below meth c G A nL Q h0 ad ln v2 a2 (kc + mc2) (ks + ms2) (pc + 3) lv (r.toList ++ rest)) : mw p l e R s m args below meth c G A nL Q h0 ad ln v a kc ks pc lv st := fun L E h => q_callV C (M L E h) d hw hk h.1 h.2.1 ck hst hcat hR hf (fun r L2 E2 ⟨v2, a2, h2, hp⟩ => kk r v2 a2 hp L2 E2 h2)
theorem m_callS (C : Cq p s m args meth c cc y ret G A nL) {y2 : MethodName} {cc2 : ByteArray} {n2 d2 idx k2 : Nat} {ret2 : Option FieldType} {r2 : Value} {As rest : List Value} (M : ∀ (L : List Nat) (E : Nat → va_E), Mq l G y2 cc2 n2 ret2 d2 As L E 0 0 (fun r L2 E2 => r = some r2 ∧ L2 = L ∧ E2 = E)) (d : decode cc pc = .ok (.invokestatic idx, 3)) (hw : Ws y.cls idx y2 cc2 n2 ret2 k2) (hk : As.length = k2) (hst : st = As.reverse ++ rest) (hcat : (rest.map fun v => v.category).sum ≤ 8) (hR : d2 + 1 ≤ R.frames ∧ 8 + (n2 + 11) + 64 * d2 ≤ R.locals) (hf : kc ≤ R.cells ∧ ks ≤ R.slots) (kk : mw p l e R s m args below meth c G A nL Q h0 ad ln v a kc ks (pc + 3) lv (r2 :: rest)) : mw p l e R s m args below meth c G A nL Q h0 ad ln v a kc ks pc lv st := fun L E h => q_callS C (M L E) d hw hk hst hcat hR hf (fun r L2 E2 ⟨h1, h2, h3⟩ => by subst h1; subst h2; subst h3; exact kk _ _ h)
theorem m_lv {lv2 : List (Nat × Value)} (ps : List Nat) (hl : lv_pick lv ps = lv2) (k : mw p l e R s m args below meth c G A nL Q h0 ad ln v a kc ks pc lv2 st) : mw p l e R s m args below meth c G A nL Q h0 ad ln v a kc ks pc lv st := fun L E h H locs ls hP hD hS hv => k L E h H locs ls hP hD hS (lv_sub hv ps hl)
end MQ2
end
section
set_option maxHeartbeats 4000000 in
set_option maxRecDepth 100000 in
theorem s_isIn {l : Launch} {G : GT} {L : List Nat} {E : Nat → va_E} (x lo hi : Int32) : Mq l G yX12_isIn cX12_isIn 3 (some .boolean) 0 [.int x, .int lo, .int hi] L E 0 0 (fun v L2 E2 => v = some (.int (inn x lo hi)) ∧ L2 = L ∧ E2 = E) := by
  refine Mq.mk (by decide) (Nat.le_of_ble_eq_true rfl) ?_
  intro p e s m args below meth c A C
  refine q_iload_n (j := 0) C dX12_isIn_0 rfl ?_
  refine q_iload_n (j := 1) C dX12_isIn_1 rfl ?_
  refine q_icmp_lt (tgt := 14) C dX12_isIn_2 (by decide) (fun c1 => ?_) (fun c1 => ?_)
  · refine q_iconst (v := 0) C dX12_isIn_14 (by decide) ?_
    exact q_zret C dX12_isIn_15 rfl (by decide) (Nat.le_of_ble_eq_true rfl) (Nat.le_of_ble_eq_true rfl) ⟨(by refine congrArg (fun z => some (Value.int z)) ?_; unfold inn; (try simp only [i32_lt, i32_le, i32_eq, inn_f, Decidable.not_not, tn_m1, tn_0, tn_1, tn_2, tn_3, tn_4, tn_5, tn_6, tn_7, tn_8, tn_10, tn_30, tn_31, tn_32, tn_36, tn_40, tn_50, tn_100, tn_126, tn_200, tn_255, tn_500, tn_512, tn_3000, tn_5000] at c1); split <;> rename_i hz <;> (try simp only [i32_lt, i32_le, i32_eq, inn_f, Decidable.not_not, tn_m1, tn_0, tn_1, tn_2, tn_3, tn_4, tn_5, tn_6, tn_7, tn_8, tn_10, tn_30, tn_31, tn_32, tn_36, tn_40, tn_50, tn_100, tn_126, tn_200, tn_255, tn_500, tn_512, tn_3000, tn_5000] at hz) <;> first | rfl | (exfalso; omega)), rfl, rfl⟩
  · refine q_iload_n (j := 0) C dX12_isIn_5 rfl ?_
    refine q_iload_n (j := 2) C dX12_isIn_6 rfl ?_
    refine q_icmp_gt (tgt := 14) C dX12_isIn_7 (by decide) (fun c2 => ?_) (fun c2 => ?_)
    · refine q_iconst (v := 0) C dX12_isIn_14 (by decide) ?_
      exact q_zret C dX12_isIn_15 rfl (by decide) (Nat.le_of_ble_eq_true rfl) (Nat.le_of_ble_eq_true rfl) ⟨(by refine congrArg (fun z => some (Value.int z)) ?_; unfold inn; (try simp only [i32_lt, i32_le, i32_eq, inn_f, Decidable.not_not, tn_m1, tn_0, tn_1, tn_2, tn_3, tn_4, tn_5, tn_6, tn_7, tn_8, tn_10, tn_30, tn_31, tn_32, tn_36, tn_40, tn_50, tn_100, tn_126, tn_200, tn_255, tn_500, tn_512, tn_3000, tn_5000] at c1); (try simp only [i32_lt, i32_le, i32_eq, inn_f, Decidable.not_not, tn_m1, tn_0, tn_1, tn_2, tn_3, tn_4, tn_5, tn_6, tn_7, tn_8, tn_10, tn_30, tn_31, tn_32, tn_36, tn_40, tn_50, tn_100, tn_126, tn_200, tn_255, tn_500, tn_512, tn_3000, tn_5000] at c2); split <;> rename_i hz <;> (try simp only [i32_lt, i32_le, i32_eq, inn_f, Decidable.not_not, tn_m1, tn_0, tn_1, tn_2, tn_3, tn_4, tn_5, tn_6, tn_7, tn_8, tn_10, tn_30, tn_31, tn_32, tn_36, tn_40, tn_50, tn_100, tn_126, tn_200, tn_255, tn_500, tn_512, tn_3000, tn_5000] at hz) <;> first | rfl | (exfalso; omega)), rfl, rfl⟩
    · refine q_iconst (v := 1) C dX12_isIn_10 (by decide) ?_
      refine q_goto (tgt := 15) C dX12_isIn_11 (by decide) ?_
      exact q_zret C dX12_isIn_15 rfl (by decide) (Nat.le_of_ble_eq_true rfl) (Nat.le_of_ble_eq_true rfl) ⟨(by refine congrArg (fun z => some (Value.int z)) ?_; unfold inn; (try simp only [i32_lt, i32_le, i32_eq, inn_f, Decidable.not_not, tn_m1, tn_0, tn_1, tn_2, tn_3, tn_4, tn_5, tn_6, tn_7, tn_8, tn_10, tn_30, tn_31, tn_32, tn_36, tn_40, tn_50, tn_100, tn_126, tn_200, tn_255, tn_500, tn_512, tn_3000, tn_5000] at c1); (try simp only [i32_lt, i32_le, i32_eq, inn_f, Decidable.not_not, tn_m1, tn_0, tn_1, tn_2, tn_3, tn_4, tn_5, tn_6, tn_7, tn_8, tn_10, tn_30, tn_31, tn_32, tn_36, tn_40, tn_50, tn_100, tn_126, tn_200, tn_255, tn_500, tn_512, tn_3000, tn_5000] at c2); split <;> rename_i hz <;> (try simp only [i32_lt, i32_le, i32_eq, inn_f, Decidable.not_not, tn_m1, tn_0, tn_1, tn_2, tn_3, tn_4, tn_5, tn_6, tn_7, tn_8, tn_10, tn_30, tn_31, tn_32, tn_36, tn_40, tn_50, tn_100, tn_126, tn_200, tn_255, tn_500, tn_512, tn_3000, tn_5000] at hz) <;> first | rfl | (exfalso; omega)), rfl, rfl⟩
theorem inn_c {x lo hi : Int} (hx : R32 x) (h1 : R32 lo) (h2 : R32 hi) : (lo ≤ x ∧ x ≤ hi ∧ inn (iI x) (iI lo) (iI hi) = iI 1) ∨ (¬ (lo ≤ x ∧ x ≤ hi) ∧ inn (iI x) (iI lo) (iI hi) = iI 0) := by
  unfold inn
  by_cases h : lo ≤ x ∧ x ≤ hi
  · exact Or.inl ⟨h.1, h.2, if_pos ⟨(iI_le h1 hx).mpr h.1, (iI_le hx h2).mpr h.2⟩⟩
  · exact Or.inr ⟨h, if_neg (fun q => h ⟨(iI_le h1 hx).mp q.1, (iI_le hx h2).mp q.2⟩)⟩
def RG (v : Nat → Int) (a : Nat → Nat → Int) : Prop := (∀ k, R32 (v k)) ∧ ∀ k j, R32 (a k j)
def Iln (v : Nat → Int) (a : Nat → Nat → Int) : Prop := (0 ≤ v 36 ∧ v 36 ≤ 200) ∧ ∀ j, -1 ≤ a 34 j ∧ a 34 j ≤ 200
theorem RG.put {v : Nat → Int} {a : Nat → Nat → Int} {k : Nat} {z : Int} (h : RG v a) (hz : R32 z) : RG (va_up v k z) a := ⟨fun j => by unfold va_up; split; exact hz; exact h.1 j, h.2⟩
theorem RG.set {v : Nat → Int} {a : Nat → Nat → Int} {k i : Nat} {z : Int} (h : RG v a) (hz : R32 z) : RG v (up2 a k i z) := ⟨h.1, fun k2 j => by unfold up2; split; split; exact hz; exact h.2 _ _; exact h.2 _ _⟩
set_option maxHeartbeats 4000000 in
set_option maxRecDepth 100000 in
theorem M_lineFault {l : Launch} {G : GT} {h0 : Nat} {ad ln : Nat → Nat} {v : Nat → Int} {a : Nat → Nat → Int} {l0 : Int} (hR : RG v a) (hl : R32 l0) (hI : Iln v a) : Mm l G yX12_lineFault cX12_lineFault 2 (some .int) 1 [.int (iI l0)] h0 ad ln v a 0 0 (fun r v2 a2 => ∃ f : Int, r = some (.int (iI f)) ∧ ((f = 2 ∧ ¬ (0 ≤ l0 ∧ l0 < v 36)) ∨ (f = 1 ∧ 0 ≤ l0 ∧ l0 < v 36 ∧ a 34 l0.toNat < 0) ∨ (f = 0 ∧ 0 ≤ l0 ∧ l0 < v 36 ∧ 0 ≤ a 34 l0.toNat)) ∧ v = v2 ∧ a = a2) := by
  refine Mm.mk (by decide) (Nat.le_of_ble_eq_true rfl) ?_
  intro p e s m args below meth c A C
  have hI1 := hI.1
  refine m_iload_n (j := 1) C dX12_lineFault_0 rfl ?_
  refine m_iconst C dX12_lineFault_1 ?_
  refine m_aload_n (j := 0) C dX12_lineFault_2 rfl ?_
  have rv36 := hR.1 36
  refine m_get (k := 36) C dX12_lineFault_3 w6_95 (by decide) rfl ?_
  refine m_iconst C dX12_lineFault_6 ?_
  refine m_isub C dX12_lineFault_7 ?_
  refine m_callS (As := [.int (iI l0), .int (iI 0), .int (iI ((v 36) - 1))]) (rest := []) C (fun L E => s_isIn (iI l0) (iI 0) (iI ((v 36) - 1))) dX12_lineFault_8 kS_X12_174 rfl rfl (Nat.le_of_ble_eq_true rfl) ⟨Nat.le_of_ble_eq_true rfl, Nat.le_of_ble_eq_true rfl⟩ ⟨Nat.le_of_ble_eq_true rfl, Nat.le_of_ble_eq_true rfl⟩ ?_
  rcases inn_c (x := l0) (lo := 0) (hi := (v 36) - 1) ⟨by omega, by omega⟩ ⟨by decide, by decide⟩ ⟨by omega, by omega⟩ with ⟨h1a, h1b, h1e⟩ | ⟨h1a, h1e⟩
  · refine m_st (st2 := [.int (iI 1)]) (by rw [h1e]) ?_
    refine m_if_ne (tgt := 18) C ⟨by decide, by decide⟩ dX12_lineFault_11 (by decide) (fun _ => ?_) (fun z => absurd z (by omega))
    refine m_aload_n (j := 0) C dX12_lineFault_18 rfl ?_
    refine m_geta (k := 34) C dX12_lineFault_19 w6_93 (by decide) rfl ?_
    refine m_iload_n (j := 1) C dX12_lineFault_22 rfl ?_
    refine m_ald (k := 34) C dX12_lineFault_23 rfl rfl (by decide) (by omega) (by show _ < ((_ : Nat) : Int); simp only [mlen]; omega) (by decide) ?_
    have ra1 := hR.2 34 (l0.toNat)
    refine m_if_ge (tgt := 31) C ⟨by omega, by omega⟩ dX12_lineFault_24 (by decide) (fun c1 => ?_) (fun c1 => ?_)
    · refine m_iconst C dX12_lineFault_31 ?_
      exact m_iret C dX12_lineFault_32 rfl (Nat.le_of_ble_eq_true rfl) (Nat.le_of_ble_eq_true rfl) ⟨0, rfl, (by omega), rfl, rfl⟩
    · refine m_iconst C dX12_lineFault_27 ?_
      refine m_goto (tgt := 32) C dX12_lineFault_28 (by decide) ?_
      exact m_iret C dX12_lineFault_32 rfl (Nat.le_of_ble_eq_true rfl) (Nat.le_of_ble_eq_true rfl) ⟨1, rfl, (by omega), rfl, rfl⟩
  · refine m_st (st2 := [.int (iI 0)]) (by rw [h1e]) ?_
    refine m_if_ne (tgt := 18) C ⟨by decide, by decide⟩ dX12_lineFault_11 (by decide) (fun z => absurd z (by omega)) (fun _ => ?_)
    refine m_iconst C dX12_lineFault_14 ?_
    refine m_goto (tgt := 32) C dX12_lineFault_15 (by decide) ?_
    exact m_iret C dX12_lineFault_32 rfl (Nat.le_of_ble_eq_true rfl) (Nat.le_of_ble_eq_true rfl) ⟨2, rfl, (by omega), rfl, rfl⟩
set_option maxHeartbeats 4000000 in
set_option maxRecDepth 100000 in
theorem s_isSmall {l : Launch} {G : GT} {L : List Nat} {E : Nat → va_E} (x : Int32) : Mq l G yX12_isSmall cX12_isSmall 1 (some .boolean) 0 [.int x] L E 0 0 (fun v L2 E2 => v = some (.int (inn x 97 122)) ∧ L2 = L ∧ E2 = E) := by
  refine Mq.mk (by decide) (Nat.le_of_ble_eq_true rfl) ?_
  intro p e s m args below meth c A C
  refine q_iload_n (j := 0) C dX12_isSmall_0 rfl ?_
  refine q_bipush (v := 97) C dX12_isSmall_1 (by decide) ?_
  refine q_icmp_lt (tgt := 16) C dX12_isSmall_3 (by decide) (fun c1 => ?_) (fun c1 => ?_)
  · refine q_iconst (v := 0) C dX12_isSmall_16 (by decide) ?_
    exact q_zret C dX12_isSmall_17 rfl (by decide) (Nat.le_of_ble_eq_true rfl) (Nat.le_of_ble_eq_true rfl) ⟨(by refine congrArg (fun z => some (Value.int z)) ?_; unfold inn; (try simp only [i32_lt, i32_le, i32_eq, inn_f, Decidable.not_not, tn_m1, tn_0, tn_1, tn_2, tn_3, tn_4, tn_5, tn_6, tn_7, tn_8, tn_10, tn_30, tn_31, tn_32, tn_36, tn_40, tn_50, tn_100, tn_126, tn_200, tn_255, tn_500, tn_512, tn_3000, tn_5000] at c1); split <;> rename_i hz <;> (try simp only [i32_lt, i32_le, i32_eq, inn_f, Decidable.not_not, tn_m1, tn_0, tn_1, tn_2, tn_3, tn_4, tn_5, tn_6, tn_7, tn_8, tn_10, tn_30, tn_31, tn_32, tn_36, tn_40, tn_50, tn_100, tn_126, tn_200, tn_255, tn_500, tn_512, tn_3000, tn_5000] at hz) <;> first | rfl | (exfalso; omega)), rfl, rfl⟩
  · refine q_iload_n (j := 0) C dX12_isSmall_6 rfl ?_
    refine q_bipush (v := 122) C dX12_isSmall_7 (by decide) ?_
    refine q_icmp_gt (tgt := 16) C dX12_isSmall_9 (by decide) (fun c2 => ?_) (fun c2 => ?_)
    · refine q_iconst (v := 0) C dX12_isSmall_16 (by decide) ?_
      exact q_zret C dX12_isSmall_17 rfl (by decide) (Nat.le_of_ble_eq_true rfl) (Nat.le_of_ble_eq_true rfl) ⟨(by refine congrArg (fun z => some (Value.int z)) ?_; unfold inn; (try simp only [i32_lt, i32_le, i32_eq, inn_f, Decidable.not_not, tn_m1, tn_0, tn_1, tn_2, tn_3, tn_4, tn_5, tn_6, tn_7, tn_8, tn_10, tn_30, tn_31, tn_32, tn_36, tn_40, tn_50, tn_100, tn_126, tn_200, tn_255, tn_500, tn_512, tn_3000, tn_5000] at c1); (try simp only [i32_lt, i32_le, i32_eq, inn_f, Decidable.not_not, tn_m1, tn_0, tn_1, tn_2, tn_3, tn_4, tn_5, tn_6, tn_7, tn_8, tn_10, tn_30, tn_31, tn_32, tn_36, tn_40, tn_50, tn_100, tn_126, tn_200, tn_255, tn_500, tn_512, tn_3000, tn_5000] at c2); split <;> rename_i hz <;> (try simp only [i32_lt, i32_le, i32_eq, inn_f, Decidable.not_not, tn_m1, tn_0, tn_1, tn_2, tn_3, tn_4, tn_5, tn_6, tn_7, tn_8, tn_10, tn_30, tn_31, tn_32, tn_36, tn_40, tn_50, tn_100, tn_126, tn_200, tn_255, tn_500, tn_512, tn_3000, tn_5000] at hz) <;> first | rfl | (exfalso; omega)), rfl, rfl⟩
    · refine q_iconst (v := 1) C dX12_isSmall_12 (by decide) ?_
      refine q_goto (tgt := 17) C dX12_isSmall_13 (by decide) ?_
      exact q_zret C dX12_isSmall_17 rfl (by decide) (Nat.le_of_ble_eq_true rfl) (Nat.le_of_ble_eq_true rfl) ⟨(by refine congrArg (fun z => some (Value.int z)) ?_; unfold inn; (try simp only [i32_lt, i32_le, i32_eq, inn_f, Decidable.not_not, tn_m1, tn_0, tn_1, tn_2, tn_3, tn_4, tn_5, tn_6, tn_7, tn_8, tn_10, tn_30, tn_31, tn_32, tn_36, tn_40, tn_50, tn_100, tn_126, tn_200, tn_255, tn_500, tn_512, tn_3000, tn_5000] at c1); (try simp only [i32_lt, i32_le, i32_eq, inn_f, Decidable.not_not, tn_m1, tn_0, tn_1, tn_2, tn_3, tn_4, tn_5, tn_6, tn_7, tn_8, tn_10, tn_30, tn_31, tn_32, tn_36, tn_40, tn_50, tn_100, tn_126, tn_200, tn_255, tn_500, tn_512, tn_3000, tn_5000] at c2); split <;> rename_i hz <;> (try simp only [i32_lt, i32_le, i32_eq, inn_f, Decidable.not_not, tn_m1, tn_0, tn_1, tn_2, tn_3, tn_4, tn_5, tn_6, tn_7, tn_8, tn_10, tn_30, tn_31, tn_32, tn_36, tn_40, tn_50, tn_100, tn_126, tn_200, tn_255, tn_500, tn_512, tn_3000, tn_5000] at hz) <;> first | rfl | (exfalso; omega)), rfl, rfl⟩
set_option maxHeartbeats 4000000 in
set_option maxRecDepth 100000 in
theorem s_isDigit {l : Launch} {G : GT} {L : List Nat} {E : Nat → va_E} (x : Int32) : Mq l G yX12_isDigit cX12_isDigit 1 (some .boolean) 0 [.int x] L E 0 0 (fun v L2 E2 => v = some (.int (inn x 48 57)) ∧ L2 = L ∧ E2 = E) := by
  refine Mq.mk (by decide) (Nat.le_of_ble_eq_true rfl) ?_
  intro p e s m args below meth c A C
  refine q_iload_n (j := 0) C dX12_isDigit_0 rfl ?_
  refine q_bipush (v := 48) C dX12_isDigit_1 (by decide) ?_
  refine q_icmp_lt (tgt := 16) C dX12_isDigit_3 (by decide) (fun c1 => ?_) (fun c1 => ?_)
  · refine q_iconst (v := 0) C dX12_isDigit_16 (by decide) ?_
    exact q_zret C dX12_isDigit_17 rfl (by decide) (Nat.le_of_ble_eq_true rfl) (Nat.le_of_ble_eq_true rfl) ⟨(by refine congrArg (fun z => some (Value.int z)) ?_; unfold inn; (try simp only [i32_lt, i32_le, i32_eq, inn_f, Decidable.not_not, tn_m1, tn_0, tn_1, tn_2, tn_3, tn_4, tn_5, tn_6, tn_7, tn_8, tn_10, tn_30, tn_31, tn_32, tn_36, tn_40, tn_50, tn_100, tn_126, tn_200, tn_255, tn_500, tn_512, tn_3000, tn_5000] at c1); split <;> rename_i hz <;> (try simp only [i32_lt, i32_le, i32_eq, inn_f, Decidable.not_not, tn_m1, tn_0, tn_1, tn_2, tn_3, tn_4, tn_5, tn_6, tn_7, tn_8, tn_10, tn_30, tn_31, tn_32, tn_36, tn_40, tn_50, tn_100, tn_126, tn_200, tn_255, tn_500, tn_512, tn_3000, tn_5000] at hz) <;> first | rfl | (exfalso; omega)), rfl, rfl⟩
  · refine q_iload_n (j := 0) C dX12_isDigit_6 rfl ?_
    refine q_bipush (v := 57) C dX12_isDigit_7 (by decide) ?_
    refine q_icmp_gt (tgt := 16) C dX12_isDigit_9 (by decide) (fun c2 => ?_) (fun c2 => ?_)
    · refine q_iconst (v := 0) C dX12_isDigit_16 (by decide) ?_
      exact q_zret C dX12_isDigit_17 rfl (by decide) (Nat.le_of_ble_eq_true rfl) (Nat.le_of_ble_eq_true rfl) ⟨(by refine congrArg (fun z => some (Value.int z)) ?_; unfold inn; (try simp only [i32_lt, i32_le, i32_eq, inn_f, Decidable.not_not, tn_m1, tn_0, tn_1, tn_2, tn_3, tn_4, tn_5, tn_6, tn_7, tn_8, tn_10, tn_30, tn_31, tn_32, tn_36, tn_40, tn_50, tn_100, tn_126, tn_200, tn_255, tn_500, tn_512, tn_3000, tn_5000] at c1); (try simp only [i32_lt, i32_le, i32_eq, inn_f, Decidable.not_not, tn_m1, tn_0, tn_1, tn_2, tn_3, tn_4, tn_5, tn_6, tn_7, tn_8, tn_10, tn_30, tn_31, tn_32, tn_36, tn_40, tn_50, tn_100, tn_126, tn_200, tn_255, tn_500, tn_512, tn_3000, tn_5000] at c2); split <;> rename_i hz <;> (try simp only [i32_lt, i32_le, i32_eq, inn_f, Decidable.not_not, tn_m1, tn_0, tn_1, tn_2, tn_3, tn_4, tn_5, tn_6, tn_7, tn_8, tn_10, tn_30, tn_31, tn_32, tn_36, tn_40, tn_50, tn_100, tn_126, tn_200, tn_255, tn_500, tn_512, tn_3000, tn_5000] at hz) <;> first | rfl | (exfalso; omega)), rfl, rfl⟩
    · refine q_iconst (v := 1) C dX12_isDigit_12 (by decide) ?_
      refine q_goto (tgt := 17) C dX12_isDigit_13 (by decide) ?_
      exact q_zret C dX12_isDigit_17 rfl (by decide) (Nat.le_of_ble_eq_true rfl) (Nat.le_of_ble_eq_true rfl) ⟨(by refine congrArg (fun z => some (Value.int z)) ?_; unfold inn; (try simp only [i32_lt, i32_le, i32_eq, inn_f, Decidable.not_not, tn_m1, tn_0, tn_1, tn_2, tn_3, tn_4, tn_5, tn_6, tn_7, tn_8, tn_10, tn_30, tn_31, tn_32, tn_36, tn_40, tn_50, tn_100, tn_126, tn_200, tn_255, tn_500, tn_512, tn_3000, tn_5000] at c1); (try simp only [i32_lt, i32_le, i32_eq, inn_f, Decidable.not_not, tn_m1, tn_0, tn_1, tn_2, tn_3, tn_4, tn_5, tn_6, tn_7, tn_8, tn_10, tn_30, tn_31, tn_32, tn_36, tn_40, tn_50, tn_100, tn_126, tn_200, tn_255, tn_500, tn_512, tn_3000, tn_5000] at c2); split <;> rename_i hz <;> (try simp only [i32_lt, i32_le, i32_eq, inn_f, Decidable.not_not, tn_m1, tn_0, tn_1, tn_2, tn_3, tn_4, tn_5, tn_6, tn_7, tn_8, tn_10, tn_30, tn_31, tn_32, tn_36, tn_40, tn_50, tn_100, tn_126, tn_200, tn_255, tn_500, tn_512, tn_3000, tn_5000] at hz) <;> first | rfl | (exfalso; omega)), rfl, rfl⟩
set_option maxHeartbeats 4000000 in
set_option maxRecDepth 100000 in
theorem s_isGreat {l : Launch} {G : GT} {L : List Nat} {E : Nat → va_E} (x : Int32) : Mq l G yX12_isGreat cX12_isGreat 1 (some .boolean) 0 [.int x] L E 0 0 (fun v L2 E2 => v = some (.int (inn x 65 90)) ∧ L2 = L ∧ E2 = E) := by
  refine Mq.mk (by decide) (Nat.le_of_ble_eq_true rfl) ?_
  intro p e s m args below meth c A C
  refine q_iload_n (j := 0) C dX12_isGreat_0 rfl ?_
  refine q_bipush (v := 65) C dX12_isGreat_1 (by decide) ?_
  refine q_icmp_lt (tgt := 16) C dX12_isGreat_3 (by decide) (fun c1 => ?_) (fun c1 => ?_)
  · refine q_iconst (v := 0) C dX12_isGreat_16 (by decide) ?_
    exact q_zret C dX12_isGreat_17 rfl (by decide) (Nat.le_of_ble_eq_true rfl) (Nat.le_of_ble_eq_true rfl) ⟨(by refine congrArg (fun z => some (Value.int z)) ?_; unfold inn; (try simp only [i32_lt, i32_le, i32_eq, inn_f, Decidable.not_not, tn_m1, tn_0, tn_1, tn_2, tn_3, tn_4, tn_5, tn_6, tn_7, tn_8, tn_10, tn_30, tn_31, tn_32, tn_36, tn_40, tn_50, tn_100, tn_126, tn_200, tn_255, tn_500, tn_512, tn_3000, tn_5000] at c1); split <;> rename_i hz <;> (try simp only [i32_lt, i32_le, i32_eq, inn_f, Decidable.not_not, tn_m1, tn_0, tn_1, tn_2, tn_3, tn_4, tn_5, tn_6, tn_7, tn_8, tn_10, tn_30, tn_31, tn_32, tn_36, tn_40, tn_50, tn_100, tn_126, tn_200, tn_255, tn_500, tn_512, tn_3000, tn_5000] at hz) <;> first | rfl | (exfalso; omega)), rfl, rfl⟩
  · refine q_iload_n (j := 0) C dX12_isGreat_6 rfl ?_
    refine q_bipush (v := 90) C dX12_isGreat_7 (by decide) ?_
    refine q_icmp_gt (tgt := 16) C dX12_isGreat_9 (by decide) (fun c2 => ?_) (fun c2 => ?_)
    · refine q_iconst (v := 0) C dX12_isGreat_16 (by decide) ?_
      exact q_zret C dX12_isGreat_17 rfl (by decide) (Nat.le_of_ble_eq_true rfl) (Nat.le_of_ble_eq_true rfl) ⟨(by refine congrArg (fun z => some (Value.int z)) ?_; unfold inn; (try simp only [i32_lt, i32_le, i32_eq, inn_f, Decidable.not_not, tn_m1, tn_0, tn_1, tn_2, tn_3, tn_4, tn_5, tn_6, tn_7, tn_8, tn_10, tn_30, tn_31, tn_32, tn_36, tn_40, tn_50, tn_100, tn_126, tn_200, tn_255, tn_500, tn_512, tn_3000, tn_5000] at c1); (try simp only [i32_lt, i32_le, i32_eq, inn_f, Decidable.not_not, tn_m1, tn_0, tn_1, tn_2, tn_3, tn_4, tn_5, tn_6, tn_7, tn_8, tn_10, tn_30, tn_31, tn_32, tn_36, tn_40, tn_50, tn_100, tn_126, tn_200, tn_255, tn_500, tn_512, tn_3000, tn_5000] at c2); split <;> rename_i hz <;> (try simp only [i32_lt, i32_le, i32_eq, inn_f, Decidable.not_not, tn_m1, tn_0, tn_1, tn_2, tn_3, tn_4, tn_5, tn_6, tn_7, tn_8, tn_10, tn_30, tn_31, tn_32, tn_36, tn_40, tn_50, tn_100, tn_126, tn_200, tn_255, tn_500, tn_512, tn_3000, tn_5000] at hz) <;> first | rfl | (exfalso; omega)), rfl, rfl⟩
    · refine q_iconst (v := 1) C dX12_isGreat_12 (by decide) ?_
      refine q_goto (tgt := 17) C dX12_isGreat_13 (by decide) ?_
      exact q_zret C dX12_isGreat_17 rfl (by decide) (Nat.le_of_ble_eq_true rfl) (Nat.le_of_ble_eq_true rfl) ⟨(by refine congrArg (fun z => some (Value.int z)) ?_; unfold inn; (try simp only [i32_lt, i32_le, i32_eq, inn_f, Decidable.not_not, tn_m1, tn_0, tn_1, tn_2, tn_3, tn_4, tn_5, tn_6, tn_7, tn_8, tn_10, tn_30, tn_31, tn_32, tn_36, tn_40, tn_50, tn_100, tn_126, tn_200, tn_255, tn_500, tn_512, tn_3000, tn_5000] at c1); (try simp only [i32_lt, i32_le, i32_eq, inn_f, Decidable.not_not, tn_m1, tn_0, tn_1, tn_2, tn_3, tn_4, tn_5, tn_6, tn_7, tn_8, tn_10, tn_30, tn_31, tn_32, tn_36, tn_40, tn_50, tn_100, tn_126, tn_200, tn_255, tn_500, tn_512, tn_3000, tn_5000] at c2); split <;> rename_i hz <;> (try simp only [i32_lt, i32_le, i32_eq, inn_f, Decidable.not_not, tn_m1, tn_0, tn_1, tn_2, tn_3, tn_4, tn_5, tn_6, tn_7, tn_8, tn_10, tn_30, tn_31, tn_32, tn_36, tn_40, tn_50, tn_100, tn_126, tn_200, tn_255, tn_500, tn_512, tn_3000, tn_5000] at hz) <;> first | rfl | (exfalso; omega)), rfl, rfl⟩
end
section
set_option maxHeartbeats 4000000 in
set_option maxRecDepth 100000 in
theorem M_newLine {l : Launch} {G : GT} {h0 : Nat} {ad ln : Nat → Nat} {v : Nat → Int} {a : Nat → Nat → Int} (hR : RG v a) (h39 : 0 ≤ v 39 ∧ v 39 ≤ 200) : Mm l G yX12_newLine cX12_newLine 1 (some .boolean) 0 [] h0 ad ln v a 0 0 (fun r v2 a2 => ∃ f : Int, r = some (.int (iI f)) ∧ ((f = 1 ∧ v 39 < 200 ∧ v2 = va_up v 39 (v 39 + 1) ∧ a2 = up2 a 37 (v 39).toNat 0) ∨ (f = 0 ∧ v 39 = 200 ∧ v = v2 ∧ a = a2))) := by
  refine Mm.mk (by decide) (Nat.le_of_ble_eq_true rfl) ?_
  intro p e s m args below meth c A C
  refine m_aload_n (j := 0) C dX12_newLine_0 rfl ?_
  have rv39 := hR.1 39
  refine m_get (k := 39) C dX12_newLine_1 w6_98 (by decide) rfl ?_
  refine m_sipush (z := 200) C dX12_newLine_4 (by decide) ?_
  refine m_icmp_ne (tgt := 12) C ⟨by omega, by omega⟩ ⟨by decide, by decide⟩ dX12_newLine_7 (by decide) (fun c1 => ?_) (fun c1 => ?_)
  · refine m_aload_n (j := 0) C dX12_newLine_12 rfl ?_
    refine m_geta (k := 37) C dX12_newLine_13 w6_96 (by decide) rfl ?_
    refine m_aload_n (j := 0) C dX12_newLine_16 rfl ?_
    refine m_get (k := 39) C dX12_newLine_17 w6_98 (by decide) rfl ?_
    refine m_iconst C dX12_newLine_20 ?_
    refine m_ast (k := 37) C dX12_newLine_21 rfl rfl (by decide) (by omega) (by show _ < ((_ : Nat) : Int); simp only [mlen]; omega) (by decide) ?_
    refine m_aload_n (j := 0) C dX12_newLine_22 rfl ?_
    refine m_dup C dX12_newLine_23 rfl ?_
    refine m_get (k := 39) C dX12_newLine_24 w6_98 (by decide) rfl ?_
    refine m_iconst C dX12_newLine_27 ?_
    refine m_iadd C dX12_newLine_28 ?_
    refine m_put (k := 39) (z := (v 39) + 1) C dX12_newLine_29 w6_98 (by decide) rfl rfl rfl ?_
    refine m_iconst C dX12_newLine_32 ?_
    exact m_zret C dX12_newLine_33 rfl (Or.inr rfl) (Nat.le_of_ble_eq_true rfl) (Nat.le_of_ble_eq_true rfl) ⟨1, rfl, Or.inl ⟨rfl, by omega, rfl, rfl⟩⟩
  · refine m_iconst C dX12_newLine_10 ?_
    exact m_zret C dX12_newLine_11 rfl (Or.inl rfl) (Nat.le_of_ble_eq_true rfl) (Nat.le_of_ble_eq_true rfl) ⟨0, rfl, Or.inr ⟨rfl, by omega, rfl, rfl⟩⟩
set_option maxHeartbeats 4000000 in
set_option maxRecDepth 100000 in
theorem M_putCell {l : Launch} {G : GT} {h0 : Nat} {ad ln : Nat → Nat} {v : Nat → Int} {a : Nat → Nat → Int} {x : Int} (hR : RG v a) (h39 : 1 ≤ v 39 ∧ v 39 ≤ 200) (h37 : 0 ≤ a 37 (v 39 - 1).toNat ∧ a 37 (v 39 - 1).toNat < 200) : Mm l G yX12_putCell cX12_putCell 3 none 0 [.int (iI x)] h0 ad ln v a 0 0 (fun r v2 a2 => r = none ∧ v = v2 ∧ a2 = up2 (up2 a 38 (200 * (v 39 - 1) + a 37 (v 39 - 1).toNat).toNat x) 37 (v 39 - 1).toNat (a 37 (v 39 - 1).toNat + 1)) := by
  refine Mm.mk (by decide) (Nat.le_of_ble_eq_true rfl) ?_
  intro p e s m args below meth c A C
  refine m_aload_n (j := 0) C dX12_putCell_0 rfl ?_
  have rv39 := hR.1 39
  refine m_get (k := 39) C dX12_putCell_1 w6_98 (by decide) rfl ?_
  refine m_iconst C dX12_putCell_4 ?_
  refine m_isub C dX12_putCell_5 ?_
  refine m_istore_n (lv2 := [(2, .int (iI ((v 39) - 1))), (0, .ref h0), (1, .int (iI x))]) C dX12_putCell_6 (by decide) rfl ?_
  refine m_aload_n (j := 1) C dX12_putCell_7 rfl ?_
  refine m_geta (k := 38) C dX12_putCell_8 w6_97 (by decide) rfl ?_
  refine m_sipush (z := 200) C dX12_putCell_11 (by decide) ?_
  refine m_iload_n (j := 0) C dX12_putCell_14 rfl ?_
  refine m_imul C dX12_putCell_15 ?_
  refine m_aload_n (j := 1) C dX12_putCell_16 rfl ?_
  refine m_geta (k := 37) C dX12_putCell_17 w6_96 (by decide) rfl ?_
  refine m_iload_n (j := 0) C dX12_putCell_20 rfl ?_
  refine m_ald (k := 37) C dX12_putCell_21 rfl rfl (by decide) (by omega) (by show _ < ((_ : Nat) : Int); simp only [mlen]; omega) (by decide) ?_
  have ra1 := hR.2 37 (((v 39) - 1).toNat)
  refine m_iadd C dX12_putCell_22 ?_
  refine m_iload_n (j := 2) C dX12_putCell_23 rfl ?_
  refine m_ast (k := 38) C dX12_putCell_24 rfl rfl (by decide) (by omega) (by show _ < ((_ : Nat) : Int); simp only [mlen]; omega) (by decide) ?_
  refine m_aload_n (j := 1) C dX12_putCell_25 rfl ?_
  refine m_geta (k := 37) C dX12_putCell_26 w6_96 (by decide) rfl ?_
  refine m_iload_n (j := 0) C dX12_putCell_29 rfl ?_
  refine m_dup2 C dX12_putCell_30 rfl rfl ?_
  refine m_ald (k := 37) C dX12_putCell_31 rfl rfl (by decide) (by omega) (by show _ < ((_ : Nat) : Int); simp only [mlen]; omega) (by decide) ?_
  refine m_st (st2 := [.int (iI (a 37 (v 39 - 1).toNat)), .int (iI ((v 39) - 1)), .ref (ad 37)]) rfl ?_
  refine m_iconst C dX12_putCell_32 ?_
  refine m_iadd C dX12_putCell_33 ?_
  refine m_ast (k := 37) C dX12_putCell_34 rfl rfl (by decide) (by omega) (by show _ < ((_ : Nat) : Int); simp only [mlen]; omega) (by decide) ?_
  exact m_vret C dX12_putCell_35 rfl (Nat.le_of_ble_eq_true rfl) (Nat.le_of_ble_eq_true rfl) ⟨rfl, rfl, rfl⟩
set_option maxHeartbeats 4000000 in
set_option maxRecDepth 100000 in
theorem M_next {l : Launch} {G : GT} {h0 : Nat} {ad ln : Nat → Nat} {v : Nat → Int} {a : Nat → Nat → Int} {r q : Int} (hR : RG v a) (hr : 0 ≤ r ∧ r < 12016) (hq : q = 0 ∨ q = 1) : Mm l G yX12_next cX12_next 3 (some .int) 0 [.int (iI r), .int (iI q)] h0 ad ln v a 0 0 (fun r2 v2 a2 => ∃ f : Int, r2 = some (.int (iI f)) ∧ (f = 0 ∨ f = 1) ∧ v = v2 ∧ a = a2) := by
  refine Mm.mk (by decide) (Nat.le_of_ble_eq_true rfl) ?_
  intro p e s m args below meth c A C
  refine m_aload_n (j := 0) C dX12_next_0 rfl ?_
  refine m_geta (k := 44) C dX12_next_1 w6_103 (by decide) rfl ?_
  refine m_iload_n (j := 1) C dX12_next_4 rfl ?_
  refine m_ald (k := 44) C dX12_next_5 rfl rfl (by decide) (by omega) (by show _ < ((_ : Nat) : Int); simp only [mlen]; omega) (by decide) ?_
  have ra1 := hR.2 44 (r.toNat)
  refine m_bipush (z := (-3)) C dX12_next_6 (by decide) ?_
  refine m_icmp_ne (tgt := 15) C ⟨by omega, by omega⟩ ⟨by decide, by decide⟩ dX12_next_8 (by decide) (fun c1 => ?_) (fun c1 => ?_)
  · refine m_aload_n (j := 0) C dX12_next_15 rfl ?_
    refine m_geta (k := 44) C dX12_next_16 w6_103 (by decide) rfl ?_
    refine m_iload_n (j := 1) C dX12_next_19 rfl ?_
    refine m_ald (k := 44) C dX12_next_20 rfl rfl (by decide) (by omega) (by show _ < ((_ : Nat) : Int); simp only [mlen]; omega) (by decide) ?_
    have ra2 := hR.2 44 (r.toNat)
    refine m_bipush (z := (-4)) C dX12_next_21 (by decide) ?_
    refine m_icmp_ne (tgt := 30) C ⟨by omega, by omega⟩ ⟨by decide, by decide⟩ dX12_next_23 (by decide) (fun c2 => ?_) (fun c2 => ?_)
    · refine m_iload_n (j := 2) C dX12_next_30 rfl ?_
      exact m_iret C dX12_next_31 rfl (Nat.le_of_ble_eq_true rfl) (Nat.le_of_ble_eq_true rfl) ⟨q, rfl, (by omega), rfl, rfl⟩
    · refine m_iconst C dX12_next_26 ?_
      refine m_goto (tgt := 31) C dX12_next_27 (by decide) ?_
      exact m_iret C dX12_next_31 rfl (Nat.le_of_ble_eq_true rfl) (Nat.le_of_ble_eq_true rfl) ⟨0, rfl, (by omega), rfl, rfl⟩
  · refine m_iconst C dX12_next_11 ?_
    refine m_goto (tgt := 31) C dX12_next_12 (by decide) ?_
    exact m_iret C dX12_next_31 rfl (Nat.le_of_ble_eq_true rfl) (Nat.le_of_ble_eq_true rfl) ⟨1, rfl, (by omega), rfl, rfl⟩
set_option maxHeartbeats 4000000 in
set_option maxRecDepth 100000 in
theorem M_isSmallRule {l : Launch} {G : GT} {h0 : Nat} {ad ln : Nat → Nat} {v : Nat → Int} {a : Nat → Nat → Int} {r : Int} (hR : RG v a) (hr : 0 ≤ r ∧ r < 12016) (h44 : a 44 r.toNat < 6000) : Mm l G yX12_isSmallRule cX12_isSmallRule 2 (some .boolean) 1 [.int (iI r)] h0 ad ln v a 0 0 (fun r2 v2 a2 => ∃ f : Int, r2 = some (.int (iI f)) ∧ (f = 0 ∨ f = 1) ∧ v = v2 ∧ a = a2) := by
  refine Mm.mk (by decide) (Nat.le_of_ble_eq_true rfl) ?_
  intro p e s m args below meth c A C
  refine m_aload_n (j := 0) C dX12_isSmallRule_0 rfl ?_
  refine m_geta (k := 44) C dX12_isSmallRule_1 w6_103 (by decide) rfl ?_
  refine m_iload_n (j := 1) C dX12_isSmallRule_4 rfl ?_
  refine m_ald (k := 44) C dX12_isSmallRule_5 rfl rfl (by decide) (by omega) (by show _ < ((_ : Nat) : Int); simp only [mlen]; omega) (by decide) ?_
  have ra1 := hR.2 44 (r.toNat)
  refine m_if_lt (tgt := 33) C ⟨by omega, by omega⟩ dX12_isSmallRule_6 (by decide) (fun c1 => ?_) (fun c1 => ?_)
  · refine m_iconst C dX12_isSmallRule_33 ?_
    exact m_zret C dX12_isSmallRule_34 rfl (Or.inl rfl) (Nat.le_of_ble_eq_true rfl) (Nat.le_of_ble_eq_true rfl) ⟨0, rfl, (by omega), rfl, rfl⟩
  · refine m_aload_n (j := 0) C dX12_isSmallRule_9 rfl ?_
    refine m_geta (k := 14) C dX12_isSmallRule_10 w6_73 (by decide) rfl ?_
    refine m_bipush (z := 8) C dX12_isSmallRule_13 (by decide) ?_
    refine m_aload_n (j := 0) C dX12_isSmallRule_15 rfl ?_
    refine m_geta (k := 44) C dX12_isSmallRule_16 w6_103 (by decide) rfl ?_
    refine m_iload_n (j := 1) C dX12_isSmallRule_19 rfl ?_
    refine m_ald (k := 44) C dX12_isSmallRule_20 rfl rfl (by decide) (by omega) (by show _ < ((_ : Nat) : Int); simp only [mlen]; omega) (by decide) ?_
    have ra2 := hR.2 44 (r.toNat)
    refine m_imul C dX12_isSmallRule_21 ?_
    refine m_ald (k := 14) C dX12_isSmallRule_22 rfl rfl (by decide) (by omega) (by show _ < ((_ : Nat) : Int); simp only [mlen]; omega) (by decide) ?_
    have ra3 := hR.2 14 ((8 * (a 44 r.toNat)).toNat)
    refine m_callS (As := [.int (iI (a 14 (8 * (a 44 r.toNat)).toNat))]) (rest := []) C (fun L E => s_isSmall (iI (a 14 (8 * (a 44 r.toNat)).toNat))) dX12_isSmallRule_23 kS_X12_208 rfl rfl (Nat.le_of_ble_eq_true rfl) ⟨Nat.le_of_ble_eq_true rfl, Nat.le_of_ble_eq_true rfl⟩ ⟨Nat.le_of_ble_eq_true rfl, Nat.le_of_ble_eq_true rfl⟩ ?_
    rcases inn_c (x := a 14 (8 * (a 44 r.toNat)).toNat) (lo := 97) (hi := 122) ⟨by omega, by omega⟩ ⟨by decide, by decide⟩ ⟨by decide, by decide⟩ with ⟨h1a, h1b, h1e⟩ | ⟨h1a, h1e⟩
    · refine m_st (st2 := [.int (iI 1)]) (by rw [show inn (iI (a 14 (8 * (a 44 r.toNat)).toNat)) 97 122 = iI 1 from h1e]) ?_
      refine m_if_eq (tgt := 33) C ⟨by decide, by decide⟩ dX12_isSmallRule_26 (by decide) (fun z => absurd z (by omega)) (fun _ => ?_)
      refine m_iconst C dX12_isSmallRule_29 ?_
      refine m_goto (tgt := 34) C dX12_isSmallRule_30 (by decide) ?_
      exact m_zret C dX12_isSmallRule_34 rfl (Or.inr rfl) (Nat.le_of_ble_eq_true rfl) (Nat.le_of_ble_eq_true rfl) ⟨1, rfl, (by omega), rfl, rfl⟩
    · refine m_st (st2 := [.int (iI 0)]) (by rw [show inn (iI (a 14 (8 * (a 44 r.toNat)).toNat)) 97 122 = iI 0 from h1e]) ?_
      refine m_if_eq (tgt := 33) C ⟨by decide, by decide⟩ dX12_isSmallRule_26 (by decide) (fun _ => ?_) (fun z => absurd z (by omega))
      refine m_iconst C dX12_isSmallRule_33 ?_
      exact m_zret C dX12_isSmallRule_34 rfl (Or.inl rfl) (Nat.le_of_ble_eq_true rfl) (Nat.le_of_ble_eq_true rfl) ⟨0, rfl, (by omega), rfl, rfl⟩
set_option maxHeartbeats 4000000 in
set_option maxRecDepth 100000 in
theorem M_rowCell {l : Launch} {G : GT} {h0 : Nat} {ad ln : Nat → Nat} {v : Nat → Int} {a : Nat → Nat → Int} {r k : Int} (hR : RG v a) (hr : 0 ≤ r ∧ r < 12016) (h45 : 0 ≤ a 45 r.toNat + k ∧ (0 ≤ a 44 r.toNat → a 45 r.toNat + k < 24000) ∧ (a 44 r.toNat < 0 → a 45 r.toNat + k < 480)) : Mm l G yX12_rowCell cX12_rowCell 3 (some .int) 0 [.int (iI r), .int (iI k)] h0 ad ln v a 0 0 (fun r2 v2 a2 => ∃ f : Int, r2 = some (.int (iI f)) ∧ R32 f ∧ v = v2 ∧ a = a2) := by
  refine Mm.mk (by decide) (Nat.le_of_ble_eq_true rfl) ?_
  intro p e s m args below meth c A C
  refine m_aload_n (j := 0) C dX12_rowCell_0 rfl ?_
  refine m_geta (k := 44) C dX12_rowCell_1 w6_103 (by decide) rfl ?_
  refine m_iload_n (j := 1) C dX12_rowCell_4 rfl ?_
  refine m_ald (k := 44) C dX12_rowCell_5 rfl rfl (by decide) (by omega) (by show _ < ((_ : Nat) : Int); simp only [mlen]; omega) (by decide) ?_
  have ra1 := hR.2 44 (r.toNat)
  refine m_if_lt (tgt := 25) C ⟨by omega, by omega⟩ dX12_rowCell_6 (by decide) (fun c1 => ?_) (fun c1 => ?_)
  · refine m_aload_n (j := 0) C dX12_rowCell_25 rfl ?_
    refine m_geta (k := 17) C dX12_rowCell_26 w6_76 (by decide) rfl ?_
    refine m_aload_n (j := 0) C dX12_rowCell_29 rfl ?_
    refine m_geta (k := 45) C dX12_rowCell_30 w6_104 (by decide) rfl ?_
    refine m_iload_n (j := 1) C dX12_rowCell_33 rfl ?_
    refine m_ald (k := 45) C dX12_rowCell_34 rfl rfl (by decide) (by omega) (by show _ < ((_ : Nat) : Int); simp only [mlen]; omega) (by decide) ?_
    have ra2 := hR.2 45 (r.toNat)
    refine m_iload_n (j := 2) C dX12_rowCell_35 rfl ?_
    refine m_iadd C dX12_rowCell_36 ?_
    refine m_ald (k := 17) C dX12_rowCell_37 rfl rfl (by decide) (by omega) (by show _ < ((_ : Nat) : Int); simp only [mlen]; omega) (by decide) ?_
    have ra3 := hR.2 17 (((a 45 r.toNat) + k).toNat)
    exact m_iret C dX12_rowCell_38 rfl (Nat.le_of_ble_eq_true rfl) (Nat.le_of_ble_eq_true rfl) ⟨a 17 ((a 45 r.toNat) + k).toNat, rfl, hR.2 _ _, rfl, rfl⟩
  · refine m_aload_n (j := 0) C dX12_rowCell_9 rfl ?_
    refine m_geta (k := 15) C dX12_rowCell_10 w6_74 (by decide) rfl ?_
    refine m_aload_n (j := 0) C dX12_rowCell_13 rfl ?_
    refine m_geta (k := 45) C dX12_rowCell_14 w6_104 (by decide) rfl ?_
    refine m_iload_n (j := 1) C dX12_rowCell_17 rfl ?_
    refine m_ald (k := 45) C dX12_rowCell_18 rfl rfl (by decide) (by omega) (by show _ < ((_ : Nat) : Int); simp only [mlen]; omega) (by decide) ?_
    have ra4 := hR.2 45 (r.toNat)
    refine m_iload_n (j := 2) C dX12_rowCell_19 rfl ?_
    refine m_iadd C dX12_rowCell_20 ?_
    refine m_ald (k := 15) C dX12_rowCell_21 rfl rfl (by decide) (by omega) (by show _ < ((_ : Nat) : Int); simp only [mlen]; omega) (by decide) ?_
    have ra5 := hR.2 15 (((a 45 r.toNat) + k).toNat)
    refine m_goto (tgt := 38) C dX12_rowCell_22 (by decide) ?_
    exact m_iret C dX12_rowCell_38 rfl (Nat.le_of_ble_eq_true rfl) (Nat.le_of_ble_eq_true rfl) ⟨a 15 ((a 45 r.toNat) + k).toNat, rfl, hR.2 _ _, rfl, rfl⟩
set_option maxHeartbeats 4000000 in
set_option maxRecDepth 100000 in
theorem Lp_lineEnd {p : Program} {l : Launch} {e : Env} {s : State} {m : MethodId} {args : Array Value} {below : List Frame} {meth : Method} {c : Code} {G : GT} {A : Nat → Prop} {h0 : Nat} {ad ln : Nat → Nat} {v : Nat → Int} {a : Nat → Nat → Int} {q : Int} (hR : RG v a) (ht : 0 ≤ v 30 ∧ v 30 ≤ 500) (hq : 0 ≤ q ∧ q ≤ 1000) (C : Cq p s m args meth c cX12_lineEnd yX12_lineEnd (some .int) G A 3) : ∀ (n : Nat) (k : Int), 1001 - k < (n : Int) → (q ≤ k ∧ k ≤ 1000 ∧ (k = q ∨ k ≤ v 30)) → mw p l e (rmq 0 0 0) s m args below meth c G A 3 (MQ below (Qm G A (fun rq Lq Eq => ∃ (vq : Nat → Int) (aq : Nat → Nat → Int), mI G h0 ad ln vq aq Lq Eq ∧ (fun r v2 a2 => ∃ f : Int, r = some (.int (iI f)) ∧ (q ≤ f ∧ (f = q ∨ f ≤ v 30)) ∧ v = v2 ∧ a = a2) rq vq aq)) args s 0 0 A) h0 ad ln v a 0 0 2 [(2, .int (iI k)), (0, .ref h0), (1, .int (iI q))] [] := by
  intro n
  induction n with
  | zero =>
    intro k   hm hk
    exact absurd hm (by omega)
  | succ n ih =>
    intro k   hm hk
    refine m_iload_n (j := 0) C dX12_lineEnd_2 rfl ?_
    refine m_aload_n (j := 1) C dX12_lineEnd_3 rfl ?_
    have rv30 := hR.1 30
    refine m_get (k := 30) C dX12_lineEnd_4 w6_89 (by decide) rfl ?_
    refine m_icmp_ge (tgt := 27) C ⟨by omega, by omega⟩ ⟨by omega, by omega⟩ dX12_lineEnd_7 (by decide) (fun c1 => ?_) (fun c1 => ?_)
    · refine m_iload_n (j := 0) C dX12_lineEnd_27 rfl ?_
      exact m_iret C dX12_lineEnd_28 rfl (Nat.le_of_ble_eq_true rfl) (Nat.le_of_ble_eq_true rfl) ⟨k, rfl, (by omega), rfl, rfl⟩
    · refine m_aload_n (j := 1) C dX12_lineEnd_10 rfl ?_
      refine m_geta (k := 29) C dX12_lineEnd_11 w6_88 (by decide) rfl ?_
      refine m_iload_n (j := 0) C dX12_lineEnd_14 rfl ?_
      refine m_ald (k := 29) C dX12_lineEnd_15 rfl rfl (by decide) (by omega) (by show _ < ((_ : Nat) : Int); simp only [mlen]; omega) (by decide) ?_
      have ra1 := hR.2 29 (k.toNat)
      refine m_bipush (z := 10) C dX12_lineEnd_16 (by decide) ?_
      refine m_icmp_eq (tgt := 27) C ⟨by omega, by omega⟩ ⟨by decide, by decide⟩ dX12_lineEnd_18 (by decide) (fun c2 => ?_) (fun c2 => ?_)
      · refine m_iload_n (j := 0) C dX12_lineEnd_27 rfl ?_
        exact m_iret C dX12_lineEnd_28 rfl (Nat.le_of_ble_eq_true rfl) (Nat.le_of_ble_eq_true rfl) ⟨k, rfl, (by omega), rfl, rfl⟩
      · refine m_iinc (z := k) (j := 0) (lv2 := [(2, .int (iI (k + 1))), (0, .ref h0), (1, .int (iI q))]) C dX12_lineEnd_21 rfl (by decide) rfl ?_
        refine m_goto (tgt := 2) C dX12_lineEnd_24 (by decide) ?_
        refine m_lv (lv2 := [(2, .int (iI (k + 1))), (0, .ref h0), (1, .int (iI q))]) [0, 1, 2] rfl ?_
        exact ih (k + 1) (by omega) (by omega)
set_option maxHeartbeats 4000000 in
set_option maxRecDepth 100000 in
theorem M_lineEnd {l : Launch} {G : GT} {h0 : Nat} {ad ln : Nat → Nat} {v : Nat → Int} {a : Nat → Nat → Int} {q : Int} (hR : RG v a) (ht : 0 ≤ v 30 ∧ v 30 ≤ 500) (hq : 0 ≤ q ∧ q ≤ 1000) : Mm l G yX12_lineEnd cX12_lineEnd 3 (some .int) 0 [.int (iI q)] h0 ad ln v a 0 0 (fun r v2 a2 => ∃ f : Int, r = some (.int (iI f)) ∧ (q ≤ f ∧ (f = q ∨ f ≤ v 30)) ∧ v = v2 ∧ a = a2) := by
  refine Mm.mk (by decide) (Nat.le_of_ble_eq_true rfl) ?_
  intro p e s m args below meth c A C
  refine m_iload_n (j := 1) C dX12_lineEnd_0 rfl ?_
  refine m_istore_n (lv2 := [(2, .int (iI q)), (0, .ref h0), (1, .int (iI q))]) C dX12_lineEnd_1 (by decide) rfl ?_
  refine m_lv (lv2 := [(2, .int (iI q)), (0, .ref h0), (1, .int (iI q))]) [0, 1, 2] rfl ?_
  exact Lp_lineEnd hR ht hq C 1002 q  (by omega) (by omega)
end
