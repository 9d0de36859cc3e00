def RX0 : String := "DotPress$Change"
def TX0 : u_T := fun k => match k with
  | 0 => ("DotPress$Change", "what", "I", true)
  | 1 => ("DotPress$Change", "table", "LDotPress$Table;", true)
  | 2 => ("DotPress$Change", "row", "LDotPress$Row;", true)
  | _ => ("DotPress$Change", "number", "I", true)
def tyX0 : Nat → FieldType := fun k => match k with
  | 0 => .int
  | 1 => .object "DotPress$Table"
  | 2 => .object "DotPress$Row"
  | _ => .int
abbrev wsX00 : List Cond := u_ws RX0 TX0 4
theorem nmX0 : ∀ a, a < 4 → ∀ b, b < 4 → a ≠ b → (TX0 a).2.1 ≠ (TX0 b).2.1 := by decide +kernel
theorem tyX0_ok : ∀ k, k < 4 → parseFieldDescriptor (TX0 k).2.2.1 = some (tyX0 k) := by decide +kernel
abbrev cX0_init : ByteArray := prog_2_method_1_code
def yX0_init : MethodName := ⟨RX0, "<init>", "(ILDotPress$Table;LDotPress$Row;I)V"⟩
def RX1 : String := "DotPress$Ints"
def TX1 : u_T := fun k => match k with
  | 0 => ("DotPress$Ints", "limit", "I", true)
  | 1 => ("DotPress$Ints", "items", "[I", false)
  | _ => ("DotPress$Ints", "size", "I", false)
def tyX1 : Nat → FieldType := fun k => match k with
  | 0 => .int
  | 1 => .array .int
  | _ => .int
abbrev wsX10 : List Cond := u_ws RX1 TX1 3
theorem nmX1 : ∀ a, a < 3 → ∀ b, b < 3 → a ≠ b → (TX1 a).2.1 ≠ (TX1 b).2.1 := by decide +kernel
theorem tyX1_ok : ∀ k, k < 3 → parseFieldDescriptor (TX1 k).2.2.1 = some (tyX1 k) := by decide +kernel
abbrev cX1_init : ByteArray := prog_3_method_1_code
def yX1_init : MethodName := ⟨RX1, "<init>", "(I)V"⟩
abbrev cX1_add : ByteArray := prog_3_method_2_code
def yX1_add : MethodName := ⟨RX1, "add", "(I)V"⟩
abbrev cX1_addAll : ByteArray := prog_3_method_3_code
def yX1_addAll : MethodName := ⟨RX1, "addAll", "(LDotPress$Ints;)V"⟩
abbrev cX1_at : ByteArray := prog_3_method_4_code
def yX1_at : MethodName := ⟨RX1, "at", "(I)I"⟩
abbrev cX1_clear : ByteArray := prog_3_method_5_code
def yX1_clear : MethodName := ⟨RX1, "clear", "()V"⟩
abbrev cX1_keep : ByteArray := prog_3_method_6_code
def yX1_keep : MethodName := ⟨RX1, "keep", "(I)V"⟩
abbrev cX1_isWithin : ByteArray := prog_3_method_7_code
def yX1_isWithin : MethodName := ⟨RX1, "isWithin", "(IIII)Z"⟩
abbrev cX1_slice : ByteArray := prog_3_method_8_code
def yX1_slice : MethodName := ⟨RX1, "slice", "(II)[I"⟩
def RX2 : String := "DotPress$Line"
def TX2 : u_T := fun k => match k with
  | 0 => ("DotPress$Line", "cells", "[I", true)
  | 1 => ("DotPress$Line", "size", "I", false)
  | _ => ("DotPress$Line", "lacking", "Z", false)
def tyX2 : Nat → FieldType := fun k => match k with
  | 0 => .array .int
  | 1 => .int
  | _ => .boolean
abbrev wsX20 : List Cond := u_ws RX2 TX2 3
theorem nmX2 : ∀ a, a < 3 → ∀ b, b < 3 → a ≠ b → (TX2 a).2.1 ≠ (TX2 b).2.1 := by decide +kernel
theorem tyX2_ok : ∀ k, k < 3 → parseFieldDescriptor (TX2 k).2.2.1 = some (tyX2 k) := by decide +kernel
abbrev cX2_init : ByteArray := prog_4_method_1_code
def yX2_init : MethodName := ⟨RX2, "<init>", "()V"⟩
abbrev cX2_clear : ByteArray := prog_4_method_2_code
def yX2_clear : MethodName := ⟨RX2, "clear", "()V"⟩
abbrev cX2_add : ByteArray := prog_4_method_3_code
def yX2_add : MethodName := ⟨RX2, "add", "(I)V"⟩
abbrev cX2_addPart : ByteArray := prog_4_method_4_code
def yX2_addPart : MethodName := ⟨RX2, "addPart", "(LDotPress$Setting;II)V"⟩
abbrev cX2_resize : ByteArray := prog_4_method_5_code
def yX2_resize : MethodName := ⟨RX2, "resize", "(I)V"⟩
abbrev cX2_indent : ByteArray := prog_4_method_6_code
def yX2_indent : MethodName := ⟨RX2, "indent", "(I)V"⟩
abbrev cX2_become : ByteArray := prog_4_method_7_code
def yX2_become : MethodName := ⟨RX2, "become", "(LDotPress$Line;)V"⟩
abbrev cX2_hasCells : ByteArray := prog_4_method_8_code
def yX2_hasCells : MethodName := ⟨RX2, "hasCells", "(II)Z"⟩
abbrev cX2_endsWith : ByteArray := prog_4_method_9_code
def yX2_endsWith : MethodName := ⟨RX2, "endsWith", "(I)Z"⟩
abbrev cX2_dots : ByteArray := prog_4_method_10_code
def yX2_dots : MethodName := ⟨RX2, "dots", "()I"⟩
def RX3 : String := "DotPress$Reader"
def TX3 : u_T := fun k => match k with
  | 0 => ("DotPress$Reader", "first", "Ljava/util/ArrayList;", true)
  | 1 => ("DotPress$Reader", "second", "Ljava/util/ArrayList;", true)
  | 2 => ("DotPress$Reader", "firstBegins", "LDotPress$Ints;", true)
  | 3 => ("DotPress$Reader", "secondBegins", "LDotPress$Ints;", true)
  | 4 => ("DotPress$Reader", "cells", "LDotPress$Ints;", true)
  | 5 => ("DotPress$Reader", "places", "LDotPress$Ints;", true)
  | 6 => ("DotPress$Reader", "bytes", "LDotPress$Ints;", true)
  | _ => ("DotPress$Reader", "wrong", "I", false)
def tyX3 : Nat → FieldType := fun k => match k with
  | 0 => .object "java/util/ArrayList"
  | 1 => .object "java/util/ArrayList"
  | 2 => .object "DotPress$Ints"
  | 3 => .object "DotPress$Ints"
  | 4 => .object "DotPress$Ints"
  | 5 => .object "DotPress$Ints"
  | 6 => .object "DotPress$Ints"
  | _ => .int
abbrev wsX30 : List Cond := u_ws RX3 TX3 8
theorem nmX3 : ∀ a, a < 8 → ∀ b, b < 8 → a ≠ b → (TX3 a).2.1 ≠ (TX3 b).2.1 := by decide +kernel
theorem tyX3_ok : ∀ k, k < 8 → parseFieldDescriptor (TX3 k).2.2.1 = some (tyX3 k) := by decide +kernel
abbrev cX3_init : ByteArray := prog_5_method_1_code
def yX3_init : MethodName := ⟨RX3, "<init>", "()V"⟩
abbrev cX3_gather : ByteArray := prog_5_method_2_code
def yX3_gather : MethodName := ⟨RX3, "gather", "(LDotPress$Table;)V"⟩
abbrev cX3_markBegins : ByteArray := prog_5_method_3_code
def yX3_markBegins : MethodName := ⟨RX3, "markBegins", "(Ljava/util/ArrayList;LDotPress$Ints;)V"⟩
abbrev cX3_gatherPart : ByteArray := prog_5_method_4_code
def yX3_gatherPart : MethodName := ⟨RX3, "gatherPart", "(Ljava/util/ArrayList;LDotPress$Table;)V"⟩
abbrev cX3_addIndicator : ByteArray := prog_5_method_5_code
def yX3_addIndicator : MethodName := ⟨RX3, "addIndicator", "(Ljava/util/ArrayList;LDotPress$Row;)V"⟩
abbrev cX3_rowsOf : ByteArray := prog_5_method_6_code
def yX3_rowsOf : MethodName := ⟨RX3, "rowsOf", "(Z)Ljava/util/ArrayList;"⟩
abbrev cX3_isReadable : ByteArray := prog_5_method_7_code
def yX3_isReadable : MethodName := ⟨RX3, "isReadable", "(Ljava/util/ArrayList;I)Z"⟩
abbrev cX3_clearCells : ByteArray := prog_5_method_8_code
def yX3_clearCells : MethodName := ⟨RX3, "clearCells", "()V"⟩
abbrev cX3_addCell : ByteArray := prog_5_method_9_code
def yX3_addCell : MethodName := ⟨RX3, "addCell", "(II)V"⟩
abbrev cX3_chain : ByteArray := prog_5_method_10_code
def yX3_chain : MethodName := ⟨RX3, "chain", "(LDotPress$Line;IIZ)V"⟩
abbrev cX3_decode : ByteArray := prog_5_method_11_code
def yX3_decode : MethodName := ⟨RX3, "decode", "()Z"⟩
abbrev cX3_decodeWord : ByteArray := prog_5_method_12_code
def yX3_decodeWord : MethodName := ⟨RX3, "decodeWord", "(I)I"⟩
abbrev cX3_longestAt : ByteArray := prog_5_method_13_code
def yX3_longestAt : MethodName := ⟨RX3, "longestAt", "(ZI)LDotPress$Row;"⟩
abbrev cX3_placeOfWrong : ByteArray := prog_5_method_14_code
def yX3_placeOfWrong : MethodName := ⟨RX3, "placeOfWrong", "()I"⟩
def RX4 : String := "DotPress$Readings"
def TX4 : u_T := fun k => match k with
  | 0 => ("DotPress$Readings", "canEnd", "[Z", true)
  | 1 => ("DotPress$Readings", "nodes", "[I", true)
  | 2 => ("DotPress$Readings", "choices", "[I", true)
  | 3 => ("DotPress$Readings", "ends", "[I", true)
  | 4 => ("DotPress$Readings", "bytes", "LDotPress$Ints;", true)
  | 5 => ("DotPress$Readings", "count", "I", false)
  | 6 => ("DotPress$Readings", "leftSome", "Z", false)
  | 7 => ("DotPress$Readings", "rows", "LDotPress$Reader;", true)
  | 8 => ("DotPress$Readings", "cells", "[I", true)
  | 9 => ("DotPress$Readings", "size", "I", false)
  | _ => ("DotPress$Readings", "seen", "I", false)
def tyX4 : Nat → FieldType := fun k => match k with
  | 0 => .array .boolean
  | 1 => .array .int
  | 2 => .array .int
  | 3 => .array .int
  | 4 => .object "DotPress$Ints"
  | 5 => .int
  | 6 => .boolean
  | 7 => .object "DotPress$Reader"
  | 8 => .array .int
  | 9 => .int
  | _ => .int
abbrev wsX40 : List Cond := u_ws RX4 TX4 11
theorem nmX4 : ∀ a, a < 11 → ∀ b, b < 11 → a ≠ b → (TX4 a).2.1 ≠ (TX4 b).2.1 := by decide +kernel
theorem tyX4_ok : ∀ k, k < 11 → parseFieldDescriptor (TX4 k).2.2.1 = some (tyX4 k) := by decide +kernel
abbrev cX4_init : ByteArray := prog_6_method_1_code
def yX4_init : MethodName := ⟨RX4, "<init>", "(LDotPress$Reader;)V"⟩
abbrev cX4_byteOf : ByteArray := prog_6_method_2_code
def yX4_byteOf : MethodName := ⟨RX4, "byteOf", "(II)I"⟩
abbrev cX4_collect : ByteArray := prog_6_method_3_code
def yX4_collect : MethodName := ⟨RX4, "collect", "(LDotPress$Line;II)V"⟩
abbrev cX4_markEnds : ByteArray := prog_6_method_4_code
def yX4_markEnds : MethodName := ⟨RX4, "markEnds", "()V"⟩
abbrev cX4_walk : ByteArray := prog_6_method_5_code
def yX4_walk : MethodName := ⟨RX4, "walk", "(I)V"⟩
abbrev cX4_nextChoice : ByteArray := prog_6_method_6_code
def yX4_nextChoice : MethodName := ⟨RX4, "nextChoice", "(II)I"⟩
abbrev cX4_nodeBehind : ByteArray := prog_6_method_7_code
def yX4_nodeBehind : MethodName := ⟨RX4, "nodeBehind", "(II)I"⟩
abbrev cX4_looksLike : ByteArray := prog_6_method_8_code
def yX4_looksLike : MethodName := ⟨RX4, "looksLike", "(II)Z"⟩
abbrev cX4_looksLikeRow : ByteArray := prog_6_method_9_code
def yX4_looksLikeRow : MethodName := ⟨RX4, "looksLikeRow", "(LDotPress$Row;I)Z"⟩
abbrev cX4_write : ByteArray := prog_6_method_10_code
def yX4_write : MethodName := ⟨RX4, "write", "(I)V"⟩
def RX5 : String := "DotPress$Row"
def TX5 : u_T := fun k => match k with
  | 0 => ("DotPress$Row", "role", "I", true)
  | 1 => ("DotPress$Row", "letters", "[I", true)
  | 2 => ("DotPress$Row", "cells", "[I", true)
  | _ => ("DotPress$Row", "condition", "I", false)
def tyX5 : Nat → FieldType := fun k => match k with
  | 0 => .int
  | 1 => .array .int
  | 2 => .array .int
  | _ => .int
abbrev wsX50 : List Cond := u_ws RX5 TX5 4
theorem nmX5 : ∀ a, a < 4 → ∀ b, b < 4 → a ≠ b → (TX5 a).2.1 ≠ (TX5 b).2.1 := by decide +kernel
theorem tyX5_ok : ∀ k, k < 4 → parseFieldDescriptor (TX5 k).2.2.1 = some (tyX5 k) := by decide +kernel
abbrev cX5_init : ByteArray := prog_7_method_1_code
def yX5_init : MethodName := ⟨RX5, "<init>", "(I[I[I)V"⟩
abbrev cX5_beginsSmall : ByteArray := prog_7_method_2_code
def yX5_beginsSmall : MethodName := ⟨RX5, "beginsSmall", "()Z"⟩
abbrev cX5_alike : ByteArray := prog_7_method_3_code
def yX5_alike : MethodName := ⟨RX5, "alike", "(LDotPress$Row;)I"⟩
abbrev cX5_isAtBeginOf : ByteArray := prog_7_method_4_code
def yX5_isAtBeginOf : MethodName := ⟨RX5, "isAtBeginOf", "(LDotPress$Row;)Z"⟩
abbrev cX5_endsWith : ByteArray := prog_7_method_5_code
def yX5_endsWith : MethodName := ⟨RX5, "endsWith", "(I)Z"⟩
abbrev cX5_standsAt : ByteArray := prog_7_method_6_code
def yX5_standsAt : MethodName := ⟨RX5, "standsAt", "(LDotPress$Ints;I)Z"⟩
abbrev cX5_writeLetters : ByteArray := prog_7_method_7_code
def yX5_writeLetters : MethodName := ⟨RX5, "writeLetters", "(LDotPress$Ints;Z)V"⟩
def RX6 : String := "DotPress$Setting"
def TX6 : u_T := fun k => match k with
  | 0 => ("DotPress$Setting", "letters", "[I", true)
  | 1 => ("DotPress$Setting", "places", "[I", true)
  | 2 => ("DotPress$Setting", "breaks", "[Z", true)
  | 3 => ("DotPress$Setting", "starts", "[I", true)
  | 4 => ("DotPress$Setting", "size", "I", false)
  | 5 => ("DotPress$Setting", "breakComes", "Z", false)
  | 6 => ("DotPress$Setting", "cells", "[I", true)
  | 7 => ("DotPress$Setting", "count", "I", false)
  | 8 => ("DotPress$Setting", "finds", "[I", true)
  | 9 => ("DotPress$Setting", "unknown", "I", false)
  | 10 => ("DotPress$Setting", "partBegin", "I", false)
  | _ => ("DotPress$Setting", "partEnd", "I", false)
def tyX6 : Nat → FieldType := fun k => match k with
  | 0 => .array .int
  | 1 => .array .int
  | 2 => .array .boolean
  | 3 => .array .int
  | 4 => .int
  | 5 => .boolean
  | 6 => .array .int
  | 7 => .int
  | 8 => .array .int
  | 9 => .int
  | 10 => .int
  | _ => .int
abbrev wsX60 : List Cond := u_ws RX6 TX6 12
theorem nmX6 : ∀ a, a < 12 → ∀ b, b < 12 → a ≠ b → (TX6 a).2.1 ≠ (TX6 b).2.1 := by decide +kernel
theorem tyX6_ok : ∀ k, k < 12 → parseFieldDescriptor (TX6 k).2.2.1 = some (tyX6 k) := by decide +kernel
abbrev cX6_init : ByteArray := prog_8_method_1_code
def yX6_init : MethodName := ⟨RX6, "<init>", "()V"⟩
abbrev cX6_clear : ByteArray := prog_8_method_2_code
def yX6_clear : MethodName := ⟨RX6, "clear", "()V"⟩
abbrev cX6_put : ByteArray := prog_8_method_3_code
def yX6_put : MethodName := ⟨RX6, "put", "(II)V"⟩
abbrev cX6_putBreak : ByteArray := prog_8_method_4_code
def yX6_putBreak : MethodName := ⟨RX6, "putBreak", "()V"⟩
abbrev cX6_placeOfUnknown : ByteArray := prog_8_method_5_code
def yX6_placeOfUnknown : MethodName := ⟨RX6, "placeOfUnknown", "()I"⟩
abbrev cX6_findsOf : ByteArray := prog_8_method_6_code
def yX6_findsOf : MethodName := ⟨RX6, "findsOf", "(I)I"⟩
abbrev cX6_hasLetters : ByteArray := prog_8_method_7_code
def yX6_hasLetters : MethodName := ⟨RX6, "hasLetters", "(LDotPress$Ints;)Z"⟩
abbrev cX6_writeLetters : ByteArray := prog_8_method_8_code
def yX6_writeLetters : MethodName := ⟨RX6, "writeLetters", "(LDotPress$Ints;)V"⟩
abbrev cX6_setBy : ByteArray := prog_8_method_9_code
def yX6_setBy : MethodName := ⟨RX6, "setBy", "(LDotPress$Table;)I"⟩
abbrev cX6_setTurn : ByteArray := prog_8_method_10_code
def yX6_setTurn : MethodName := ⟨RX6, "setTurn", "(LDotPress$Row;I)I"⟩
abbrev cX6_setPart : ByteArray := prog_8_method_11_code
def yX6_setPart : MethodName := ⟨RX6, "setPart", "(LDotPress$Table;II)I"⟩
abbrev cX6_markStart : ByteArray := prog_8_method_12_code
def yX6_markStart : MethodName := ⟨RX6, "markStart", "(II)V"⟩
abbrev cX6_numberAhead : ByteArray := prog_8_method_13_code
def yX6_numberAhead : MethodName := ⟨RX6, "numberAhead", "(LDotPress$Table;I)LDotPress$Row;"⟩
abbrev cX6_push : ByteArray := prog_8_method_14_code
def yX6_push : MethodName := ⟨RX6, "push", "(LDotPress$Row;)V"⟩
abbrev cX6_find : ByteArray := prog_8_method_15_code
def yX6_find : MethodName := ⟨RX6, "find", "(LDotPress$Table;II)LDotPress$Row;"⟩
abbrev cX6_countFind : ByteArray := prog_8_method_16_code
def yX6_countFind : MethodName := ⟨RX6, "countFind", "(I)V"⟩
abbrev cX6_findOwn : ByteArray := prog_8_method_17_code
def yX6_findOwn : MethodName := ⟨RX6, "findOwn", "(LDotPress$Table;IILDotPress$Row;)LDotPress$Row;"⟩
abbrev cX6_fits : ByteArray := prog_8_method_18_code
def yX6_fits : MethodName := ⟨RX6, "fits", "(LDotPress$Row;I)Z"⟩
abbrev cX6_isSign : ByteArray := prog_8_method_19_code
def yX6_isSign : MethodName := ⟨RX6, "isSign", "(I)Z"⟩
abbrev cX6_lastBreak : ByteArray := prog_8_method_20_code
def yX6_lastBreak : MethodName := ⟨RX6, "lastBreak", "(III)I"⟩
def RX7 : String := "DotPress$Sheet"
def TX7 : u_T := fun k => match k with
  | 0 => ("DotPress$Sheet", "rows", "[LDotPress$Line;", true)
  | 1 => ("DotPress$Sheet", "count", "I", false)
  | _ => ("DotPress$Sheet", "textBegin", "I", false)
def tyX7 : Nat → FieldType := fun k => match k with
  | 0 => .array (.object "DotPress$Line")
  | 1 => .int
  | _ => .int
abbrev wsX70 : List Cond := u_ws RX7 TX7 3
theorem nmX7 : ∀ a, a < 3 → ∀ b, b < 3 → a ≠ b → (TX7 a).2.1 ≠ (TX7 b).2.1 := by decide +kernel
theorem tyX7_ok : ∀ k, k < 3 → parseFieldDescriptor (TX7 k).2.2.1 = some (tyX7 k) := by decide +kernel
abbrev cX7_init : ByteArray := prog_9_method_1_code
def yX7_init : MethodName := ⟨RX7, "<init>", "()V"⟩
abbrev cX7_clear : ByteArray := prog_9_method_2_code
def yX7_clear : MethodName := ⟨RX7, "clear", "()V"⟩
abbrev cX7_at : ByteArray := prog_9_method_3_code
def yX7_at : MethodName := ⟨RX7, "at", "(I)LDotPress$Line;"⟩
abbrev cX7_present : ByteArray := prog_9_method_4_code
def yX7_present : MethodName := ⟨RX7, "present", "(I)LDotPress$Line;"⟩
abbrev cX7_whyNone : ByteArray := prog_9_method_5_code
def yX7_whyNone : MethodName := ⟨RX7, "whyNone", "(I)I"⟩
abbrev cX7_begin : ByteArray := prog_9_method_6_code
def yX7_begin : MethodName := ⟨RX7, "begin", "()Z"⟩
abbrev cX7_take : ByteArray := prog_9_method_7_code
def yX7_take : MethodName := ⟨RX7, "take", "(LDotPress$Setting;III)Z"⟩
abbrev cX7_beginText : ByteArray := prog_9_method_8_code
def yX7_beginText : MethodName := ⟨RX7, "beginText", "()Z"⟩
abbrev cX7_endText : ByteArray := prog_9_method_9_code
def yX7_endText : MethodName := ⟨RX7, "endText", "(ZI)V"⟩
abbrev cX7_goOver : ByteArray := prog_9_method_10_code
def yX7_goOver : MethodName := ⟨RX7, "goOver", "(I)I"⟩
def RX8 : String := "DotPress$Source"
def TX8 : u_T := fun k => match k with
  | 0 => ("DotPress$Source", "at", "I", false)
  | 1 => ("DotPress$Source", "inLine", "Z", false)
  | 2 => ("DotPress$Source", "centred", "Z", false)
  | 3 => ("DotPress$Source", "isSpelt", "[Z", true)
  | 4 => ("DotPress$Source", "alphabet", "[I", true)
  | 5 => ("DotPress$Source", "alphabetSize", "I", false)
  | 6 => ("DotPress$Source", "turns", "[I", true)
  | _ => ("DotPress$Source", "spelling", "I", false)
def tyX8 : Nat → FieldType := fun k => match k with
  | 0 => .int
  | 1 => .boolean
  | 2 => .boolean
  | 3 => .array .boolean
  | 4 => .array .int
  | 5 => .int
  | 6 => .array .int
  | _ => .int
abbrev wsX80 : List Cond := u_ws RX8 TX8 8
theorem nmX8 : ∀ a, a < 8 → ∀ b, b < 8 → a ≠ b → (TX8 a).2.1 ≠ (TX8 b).2.1 := by decide +kernel
theorem tyX8_ok : ∀ k, k < 8 → parseFieldDescriptor (TX8 k).2.2.1 = some (tyX8 k) := by decide +kernel
abbrev cX8_init : ByteArray := prog_10_method_1_code
def yX8_init : MethodName := ⟨RX8, "<init>", "()V"⟩
abbrev cX8_restart : ByteArray := prog_10_method_2_code
def yX8_restart : MethodName := ⟨RX8, "restart", "()V"⟩
abbrev cX8_step : ByteArray := prog_10_method_3_code
def yX8_step : MethodName := ⟨RX8, "step", "(LDotPress$Ints;LDotPress$Setting;)I"⟩
abbrev cX8_enterLine : ByteArray := prog_10_method_4_code
def yX8_enterLine : MethodName := ⟨RX8, "enterLine", "(LDotPress$Ints;)I"⟩
abbrev cX8_gatherAlphabet : ByteArray := prog_10_method_5_code
def yX8_gatherAlphabet : MethodName := ⟨RX8, "gatherAlphabet", "(LDotPress$Reader;Z)V"⟩
abbrev cX8_markLetters : ByteArray := prog_10_method_6_code
def yX8_markLetters : MethodName := ⟨RX8, "markLetters", "(Ljava/util/ArrayList;)V"⟩
abbrev cX8_startSpelling : ByteArray := prog_10_method_7_code
def yX8_startSpelling : MethodName := ⟨RX8, "startSpelling", "(I)Z"⟩
abbrev cX8_lengthen : ByteArray := prog_10_method_8_code
def yX8_lengthen : MethodName := ⟨RX8, "lengthen", "(I)Z"⟩
abbrev cX8_spell : ByteArray := prog_10_method_9_code
def yX8_spell : MethodName := ⟨RX8, "spell", "(LDotPress$Setting;)V"⟩
abbrev cX8_spellNext : ByteArray := prog_10_method_10_code
def yX8_spellNext : MethodName := ⟨RX8, "spellNext", "(I)Z"⟩
def RX9 : String := "DotPress$Table"
def TX9 : u_T := fun k => match k with
  | 0 => ("DotPress$Table", "kind", "I", true)
  | 1 => ("DotPress$Table", "dots", "I", true)
  | 2 => ("DotPress$Table", "base", "LDotPress$Table;", true)
  | 3 => ("DotPress$Table", "second", "LDotPress$Table;", true)
  | 4 => ("DotPress$Table", "rules", "Ljava/util/ArrayList;", true)
  | 5 => ("DotPress$Table", "initials", "LDotPress$Ints;", true)
  | 6 => ("DotPress$Table", "indicators", "[LDotPress$Row;", true)
  | _ => ("DotPress$Table", "dropped", "Z", false)
def tyX9 : Nat → FieldType := fun k => match k with
  | 0 => .int
  | 1 => .int
  | 2 => .object "DotPress$Table"
  | 3 => .object "DotPress$Table"
  | 4 => .object "java/util/ArrayList"
  | 5 => .object "DotPress$Ints"
  | 6 => .array (.object "DotPress$Row")
  | _ => .boolean
abbrev wsX90 : List Cond := u_ws RX9 TX9 8
theorem nmX9 : ∀ a, a < 8 → ∀ b, b < 8 → a ≠ b → (TX9 a).2.1 ≠ (TX9 b).2.1 := by decide +kernel
theorem tyX9_ok : ∀ k, k < 8 → parseFieldDescriptor (TX9 k).2.2.1 = some (tyX9 k) := by decide +kernel
abbrev cX9_init : ByteArray := prog_11_method_1_code
def yX9_init : MethodName := ⟨RX9, "<init>", "(IILDotPress$Table;LDotPress$Table;)V"⟩
abbrev cX9_append : ByteArray := prog_11_method_2_code
def yX9_append : MethodName := ⟨RX9, "append", "(LDotPress$Row;)V"⟩
abbrev cX9_removeLast : ByteArray := prog_11_method_3_code
def yX9_removeLast : MethodName := ⟨RX9, "removeLast", "()V"⟩
abbrev cX9_mayHave : ByteArray := prog_11_method_4_code
def yX9_mayHave : MethodName := ⟨RX9, "mayHave", "(I)Z"⟩
abbrev cX9_isWhole : ByteArray := prog_11_method_5_code
def yX9_isWhole : MethodName := ⟨RX9, "isWhole", "()Z"⟩
abbrev cX9_isUpright : ByteArray := prog_11_method_6_code
def yX9_isUpright : MethodName := ⟨RX9, "isUpright", "(LDotPress$Table;)Z"⟩
abbrev cX9_hasShort : ByteArray := prog_11_method_7_code
def yX9_hasShort : MethodName := ⟨RX9, "hasShort", "()Z"⟩
abbrev cX9_isOverShort : ByteArray := prog_11_method_8_code
def yX9_isOverShort : MethodName := ⟨RX9, "isOverShort", "(LDotPress$Table;)Z"⟩
def RX10 : String := "DotPress$Tables"
def TX10 : u_T := fun k => match k with
  | 0 => ("DotPress$Tables", "made", "Ljava/util/ArrayList;", true)
  | _ => ("DotPress$Tables", "changes", "Ljava/util/ArrayList;", true)
def tyX10 : Nat → FieldType := fun k => match k with
  | 0 => .object "java/util/ArrayList"
  | _ => .object "java/util/ArrayList"
abbrev wsX100 : List Cond := u_ws RX10 TX10 2
theorem nmX10 : ∀ a, a < 2 → ∀ b, b < 2 → a ≠ b → (TX10 a).2.1 ≠ (TX10 b).2.1 := by decide +kernel
theorem tyX10_ok : ∀ k, k < 2 → parseFieldDescriptor (TX10 k).2.2.1 = some (tyX10 k) := by decide +kernel
abbrev cX10_init : ByteArray := prog_12_method_1_code
def yX10_init : MethodName := ⟨RX10, "<init>", "()V"⟩
abbrev cX10_isFull : ByteArray := prog_12_method_2_code
def yX10_isFull : MethodName := ⟨RX10, "isFull", "()Z"⟩
abbrev cX10_alive : ByteArray := prog_12_method_3_code
def yX10_alive : MethodName := ⟨RX10, "alive", "(I)LDotPress$Table;"⟩
abbrev cX10_whole : ByteArray := prog_12_method_4_code
def yX10_whole : MethodName := ⟨RX10, "whole", "(I)LDotPress$Table;"⟩
abbrev cX10_make : ByteArray := prog_12_method_5_code
def yX10_make : MethodName := ⟨RX10, "make", "(LDotPress$Table;)I"⟩
abbrev cX10_remember : ByteArray := prog_12_method_6_code
def yX10_remember : MethodName := ⟨RX10, "remember", "(LDotPress$Change;)V"⟩
abbrev cX10_takeBack : ByteArray := prog_12_method_7_code
def yX10_takeBack : MethodName := ⟨RX10, "takeBack", "()Z"⟩
def RX11 : String := "DotPress"
def TX11 : u_T := fun k => match k with
  | 0 => ("DotPress", "tape", "LDotPress$Ints;", true)
  | 1 => ("DotPress", "written", "LDotPress$Ints;", true)
  | 2 => ("DotPress", "bytesRead", "LDotPress$Ints;", true)
  | 3 => ("DotPress", "header", "LDotPress$Ints;", true)
  | 4 => ("DotPress", "tables", "LDotPress$Tables;", true)
  | 5 => ("DotPress", "source", "LDotPress$Source;", true)
  | 6 => ("DotPress", "word", "LDotPress$Setting;", true)
  | 7 => ("DotPress", "reader", "LDotPress$Reader;", true)
  | 8 => ("DotPress", "found", "LDotPress$Readings;", true)
  | 9 => ("DotPress", "sheet", "LDotPress$Sheet;", false)
  | 10 => ("DotPress", "draft", "LDotPress$Sheet;", false)
  | 11 => ("DotPress", "width", "I", false)
  | 12 => ("DotPress", "height", "I", false)
  | 13 => ("DotPress", "hyphen", "I", false)
  | 14 => ("DotPress", "failedDots", "I", false)
  | 15 => ("DotPress", "linesCopied", "I", false)
  | 16 => ("DotPress", "linesClosed", "I", false)
  | 17 => ("DotPress", "latestStatus", "I", false)
  | _ => ("DotPress", "latestPlace", "I", false)
def tyX11 : Nat → FieldType := fun k => match k with
  | 0 => .object "DotPress$Ints"
  | 1 => .object "DotPress$Ints"
  | 2 => .object "DotPress$Ints"
  | 3 => .object "DotPress$Ints"
  | 4 => .object "DotPress$Tables"
  | 5 => .object "DotPress$Source"
  | 6 => .object "DotPress$Setting"
  | 7 => .object "DotPress$Reader"
  | 8 => .object "DotPress$Readings"
  | 9 => .object "DotPress$Sheet"
  | 10 => .object "DotPress$Sheet"
  | 11 => .int
  | 12 => .int
  | 13 => .int
  | 14 => .int
  | 15 => .int
  | 16 => .int
  | 17 => .int
  | _ => .int
abbrev wsX110 : List Cond := u_ws RX11 TX11 19
theorem nmX11 : ∀ a, a < 19 → ∀ b, b < 19 → a ≠ b → (TX11 a).2.1 ≠ (TX11 b).2.1 := by decide +kernel
theorem tyX11_ok : ∀ k, k < 19 → parseFieldDescriptor (TX11 k).2.2.1 = some (tyX11 k) := by decide +kernel
abbrev cX11_init : ByteArray := prog_1_method_1_code
def yX11_init : MethodName := ⟨RX11, "<init>", "()V"⟩
abbrev cX11_feed : ByteArray := prog_1_method_2_code
def yX11_feed : MethodName := ⟨RX11, "feed", "(IIIII)I"⟩
abbrev cX11_feedFour : ByteArray := prog_1_method_3_code
def yX11_feedFour : MethodName := ⟨RX11, "feedFour", "(I)V"⟩
abbrev cX11_end : ByteArray := prog_1_method_4_code
def yX11_end : MethodName := ⟨RX11, "end", "(I)I"⟩
abbrev cX11_table : ByteArray := prog_1_method_5_code
def yX11_table : MethodName := ⟨RX11, "table", "(III)I"⟩
abbrev cX11_join : ByteArray := prog_1_method_6_code
def yX11_join : MethodName := ⟨RX11, "join", "(II)I"⟩
abbrev cX11_drop : ByteArray := prog_1_method_7_code
def yX11_drop : MethodName := ⟨RX11, "drop", "(I)I"⟩
abbrev cX11_rule : ByteArray := prog_1_method_8_code
def yX11_rule : MethodName := ⟨RX11, "rule", "(III)I"⟩
abbrev cX11_addRule : ByteArray := prog_1_method_9_code
def yX11_addRule : MethodName := ⟨RX11, "addRule", "(III)I"⟩
abbrev cX11_isCondition : ByteArray := prog_1_method_10_code
def yX11_isCondition : MethodName := ⟨RX11, "isCondition", "(I)Z"⟩
abbrev cX11_isRowOfCells : ByteArray := prog_1_method_11_code
def yX11_isRowOfCells : MethodName := ⟨RX11, "isRowOfCells", "(II)Z"⟩
abbrev cX11_condition : ByteArray := prog_1_method_12_code
def yX11_condition : MethodName := ⟨RX11, "condition", "(III)I"⟩
abbrev cX11_indicator : ByteArray := prog_1_method_13_code
def yX11_indicator : MethodName := ⟨RX11, "indicator", "(II)I"⟩
abbrev cX11_changeIndicator : ByteArray := prog_1_method_14_code
def yX11_changeIndicator : MethodName := ⟨RX11, "changeIndicator", "(II)I"⟩
abbrev cX11_undo : ByteArray := prog_1_method_15_code
def yX11_undo : MethodName := ⟨RX11, "undo", "()I"⟩
abbrev cX11_text : ByteArray := prog_1_method_16_code
def yX11_text : MethodName := ⟨RX11, "text", "()I"⟩
abbrev cX11_addText : ByteArray := prog_1_method_17_code
def yX11_addText : MethodName := ⟨RX11, "addText", "()I"⟩
abbrev cX11_measure : ByteArray := prog_1_method_18_code
def yX11_measure : MethodName := ⟨RX11, "measure", "(III)I"⟩
abbrev cX11_set : ByteArray := prog_1_method_19_code
def yX11_set : MethodName := ⟨RX11, "set", "(I)I"⟩
abbrev cX11_publish : ByteArray := prog_1_method_20_code
def yX11_publish : MethodName := ⟨RX11, "publish", "()I"⟩
abbrev cX11_head : ByteArray := prog_1_method_21_code
def yX11_head : MethodName := ⟨RX11, "head", "(I)I"⟩
abbrev cX11_lines : ByteArray := prog_1_method_22_code
def yX11_lines : MethodName := ⟨RX11, "lines", "()I"⟩
abbrev cX11_pages : ByteArray := prog_1_method_23_code
def yX11_pages : MethodName := ⟨RX11, "pages", "()I"⟩
abbrev cX11_pagesHaveHeader : ByteArray := prog_1_method_24_code
def yX11_pagesHaveHeader : MethodName := ⟨RX11, "pagesHaveHeader", "()Z"⟩
abbrev cX11_linesOfPage : ByteArray := prog_1_method_25_code
def yX11_linesOfPage : MethodName := ⟨RX11, "linesOfPage", "()I"⟩
abbrev cX11_length : ByteArray := prog_1_method_26_code
def yX11_length : MethodName := ⟨RX11, "length", "(I)I"⟩
abbrev cX11_cell : ByteArray := prog_1_method_27_code
def yX11_cell : MethodName := ⟨RX11, "cell", "(II)I"⟩
abbrev cX11_cellOfLine : ByteArray := prog_1_method_28_code
def yX11_cellOfLine : MethodName := ⟨RX11, "cellOfLine", "(II)I"⟩
abbrev cX11_page : ByteArray := prog_1_method_29_code
def yX11_page : MethodName := ⟨RX11, "page", "(III)I"⟩
abbrev cX11_cut : ByteArray := prog_1_method_30_code
def yX11_cut : MethodName := ⟨RX11, "cut", "(II)I"⟩
abbrev cX11_lose : ByteArray := prog_1_method_31_code
def yX11_lose : MethodName := ⟨RX11, "lose", "(I)I"⟩
abbrev cX11_copyRow : ByteArray := prog_1_method_32_code
def yX11_copyRow : MethodName := ⟨RX11, "copyRow", "(IIIII)I"⟩
abbrev cX11_copyLines : ByteArray := prog_1_method_33_code
def yX11_copyLines : MethodName := ⟨RX11, "copyLines", "(III)I"⟩
abbrev cX11_copied : ByteArray := prog_1_method_34_code
def yX11_copied : MethodName := ⟨RX11, "copied", "()I"⟩
abbrev cX11_emboss : ByteArray := prog_1_method_35_code
def yX11_emboss : MethodName := ⟨RX11, "emboss", "(II)I"⟩
abbrev cX11_closed : ByteArray := prog_1_method_36_code
def yX11_closed : MethodName := ⟨RX11, "closed", "()I"⟩
abbrev cX11_read : ByteArray := prog_1_method_37_code
def yX11_read : MethodName := ⟨RX11, "read", "(III)I"⟩
abbrev cX11_chainLines : ByteArray := prog_1_method_38_code
def yX11_chainLines : MethodName := ⟨RX11, "chainLines", "(II)V"⟩
abbrev cX11_letter : ByteArray := prog_1_method_39_code
def yX11_letter : MethodName := ⟨RX11, "letter", "(I)I"⟩
abbrev cX11_failed : ByteArray := prog_1_method_40_code
def yX11_failed : MethodName := ⟨RX11, "failed", "(IZ)I"⟩
abbrev cX11_readings : ByteArray := prog_1_method_41_code
def yX11_readings : MethodName := ⟨RX11, "readings", "(III)I"⟩
abbrev cX11_more : ByteArray := prog_1_method_42_code
def yX11_more : MethodName := ⟨RX11, "more", "()I"⟩
abbrev cX11_reading : ByteArray := prog_1_method_43_code
def yX11_reading : MethodName := ⟨RX11, "reading", "(II)I"⟩
abbrev cX11_judge : ByteArray := prog_1_method_44_code
def yX11_judge : MethodName := ⟨RX11, "judge", "(I)I"⟩
abbrev cX11_parts : ByteArray := prog_1_method_45_code
def yX11_parts : MethodName := ⟨RX11, "parts", "(III)I"⟩
abbrev cX11_unreadable : ByteArray := prog_1_method_46_code
def yX11_unreadable : MethodName := ⟨RX11, "unreadable", "(III)I"⟩
abbrev cX11_isReadBack : ByteArray := prog_1_method_47_code
def yX11_isReadBack : MethodName := ⟨RX11, "isReadBack", "()Z"⟩
abbrev cX11_saved : ByteArray := prog_1_method_48_code
def yX11_saved : MethodName := ⟨RX11, "saved", "(II)I"⟩
abbrev cX11_place : ByteArray := prog_1_method_49_code
def yX11_place : MethodName := ⟨RX11, "place", "()I"⟩
abbrev cX11_finds : ByteArray := prog_1_method_50_code
def yX11_finds : MethodName := ⟨RX11, "finds", "(I)I"⟩
abbrev cX11_status : ByteArray := prog_1_method_51_code
def yX11_status : MethodName := ⟨RX11, "status", "()I"⟩
abbrev cX11_digest : ByteArray := prog_1_method_52_code
def yX11_digest : MethodName := ⟨RX11, "digest", "()I"⟩
abbrev cX11_done : ByteArray := prog_1_method_53_code
def yX11_done : MethodName := ⟨RX11, "done", "(I)I"⟩
abbrev cX11_refuse : ByteArray := prog_1_method_54_code
def yX11_refuse : MethodName := ⟨RX11, "refuse", "(I)I"⟩
abbrev cX11_refuseAt : ByteArray := prog_1_method_55_code
def yX11_refuseAt : MethodName := ⟨RX11, "refuseAt", "(II)I"⟩
abbrev cX11_isDigit : ByteArray := prog_1_method_56_code
def yX11_isDigit : MethodName := ⟨RX11, "isDigit", "(I)Z"⟩
abbrev cX11_isGreat : ByteArray := prog_1_method_57_code
def yX11_isGreat : MethodName := ⟨RX11, "isGreat", "(I)Z"⟩
abbrev cX11_isSmall : ByteArray := prog_1_method_58_code
def yX11_isSmall : MethodName := ⟨RX11, "isSmall", "(I)Z"⟩
def RX12 : String := "DotPressModel"
def TX12 : u_T := fun k => match k with
  | 0 => ("DotPressModel", "status", "I", false)
  | 1 => ("DotPressModel", "place", "I", false)
  | 2 => ("DotPressModel", "tape", "[I", true)
  | 3 => ("DotPressModel", "taped", "I", false)
  | 4 => ("DotPressModel", "tables", "I", false)
  | 5 => ("DotPressModel", "isThere", "[Z", true)
  | 6 => ("DotPressModel", "kind", "[I", true)
  | 7 => ("DotPressModel", "dots", "[I", true)
  | 8 => ("DotPressModel", "base", "[I", true)
  | 9 => ("DotPressModel", "second", "[I", true)
  | 10 => ("DotPressModel", "ruleMany", "[I", true)
  | 11 => ("DotPressModel", "conditions", "[I", true)
  | 12 => ("DotPressModel", "letterMany", "[I", true)
  | 13 => ("DotPressModel", "cellMany", "[I", true)
  | 14 => ("DotPressModel", "letters", "[I", true)
  | 15 => ("DotPressModel", "cells", "[I", true)
  | 16 => ("DotPressModel", "indicatorMany", "[I", true)
  | 17 => ("DotPressModel", "indicatorCells", "[I", true)
  | 18 => ("DotPressModel", "steps", "[I", false)
  | 19 => ("DotPressModel", "stepMany", "I", false)
  | 20 => ("DotPressModel", "word", "[I", true)
  | 21 => ("DotPressModel", "wordPlace", "[I", true)
  | 22 => ("DotPressModel", "mayBreak", "[Z", true)
  | 23 => ("DotPressModel", "wordLong", "I", false)
  | 24 => ("DotPressModel", "made", "[I", true)
  | 25 => ("DotPressModel", "madeMany", "I", false)
  | 26 => ("DotPressModel", "begins", "[I", true)
  | 27 => ("DotPressModel", "finds", "[I", true)
  | 28 => ("DotPressModel", "unknown", "I", false)
  | 29 => ("DotPressModel", "text", "[I", true)
  | 30 => ("DotPressModel", "textLong", "I", false)
  | 31 => ("DotPressModel", "width", "I", false)
  | 32 => ("DotPressModel", "height", "I", false)
  | 33 => ("DotPressModel", "hyphen", "I", false)
  | 34 => ("DotPressModel", "long0", "[I", true)
  | 35 => ("DotPressModel", "lineCells", "[I", true)
  | 36 => ("DotPressModel", "lines", "I", false)
  | 37 => ("DotPressModel", "newLong", "[I", true)
  | 38 => ("DotPressModel", "newCells", "[I", true)
  | 39 => ("DotPressModel", "newMany", "I", false)
  | 40 => ("DotPressModel", "head", "[I", true)
  | 41 => ("DotPressModel", "headMany", "I", false)
  | 42 => ("DotPressModel", "copied", "I", false)
  | 43 => ("DotPressModel", "closed", "I", false)
  | 44 => ("DotPressModel", "rowIs", "[I", true)
  | 45 => ("DotPressModel", "rowAt", "[I", true)
  | 46 => ("DotPressModel", "rowLong", "[I", true)
  | 47 => ("DotPressModel", "rowMany", "[I", true)
  | 48 => ("DotPressModel", "row", "[I", true)
  | 49 => ("DotPressModel", "rowPlace", "[I", true)
  | 50 => ("DotPressModel", "rowEnd", "I", false)
  | 51 => ("DotPressModel", "out", "[I", true)
  | 52 => ("DotPressModel", "outs", "I", false)
  | 53 => ("DotPressModel", "wrongAt", "I", false)
  | 54 => ("DotPressModel", "was", "[I", true)
  | 55 => ("DotPressModel", "wasMany", "I", false)
  | 56 => ("DotPressModel", "failed", "I", false)
  | 57 => ("DotPressModel", "can", "[Z", true)
  | 58 => ("DotPressModel", "kept", "[I", true)
  | 59 => ("DotPressModel", "keptLong", "[I", true)
  | 60 => ("DotPressModel", "keptMany", "I", false)
  | 61 => ("DotPressModel", "more", "I", false)
  | 62 => ("DotPressModel", "now", "[I", true)
  | 63 => ("DotPressModel", "nowLong", "I", false)
  | 64 => ("DotPressModel", "wanted", "I", false)
  | 65 => ("DotPressModel", "signs", "[I", true)
  | _ => ("DotPressModel", "signMany", "I", false)
def tyX12 : Nat → FieldType := fun k => match k with
  | 0 => .int
  | 1 => .int
  | 2 => .array .int
  | 3 => .int
  | 4 => .int
  | 5 => .array .boolean
  | 6 => .array .int
  | 7 => .array .int
  | 8 => .array .int
  | 9 => .array .int
  | 10 => .array .int
  | 11 => .array .int
  | 12 => .array .int
  | 13 => .array .int
  | 14 => .array .int
  | 15 => .array .int
  | 16 => .array .int
  | 17 => .array .int
  | 18 => .array .int
  | 19 => .int
  | 20 => .array .int
  | 21 => .array .int
  | 22 => .array .boolean
  | 23 => .int
  | 24 => .array .int
  | 25 => .int
  | 26 => .array .int
  | 27 => .array .int
  | 28 => .int
  | 29 => .array .int
  | 30 => .int
  | 31 => .int
  | 32 => .int
  | 33 => .int
  | 34 => .array .int
  | 35 => .array .int
  | 36 => .int
  | 37 => .array .int
  | 38 => .array .int
  | 39 => .int
  | 40 => .array .int
  | 41 => .int
  | 42 => .int
  | 43 => .int
  | 44 => .array .int
  | 45 => .array .int
  | 46 => .array .int
  | 47 => .array .int
  | 48 => .array .int
  | 49 => .array .int
  | 50 => .int
  | 51 => .array .int
  | 52 => .int
  | 53 => .int
  | 54 => .array .int
  | 55 => .int
  | 56 => .int
  | 57 => .array .boolean
  | 58 => .array .int
  | 59 => .array .int
  | 60 => .int
  | 61 => .int
  | 62 => .array .int
  | 63 => .int
  | 64 => .int
  | 65 => .array .int
  | _ => .int
abbrev wsX120 : List Cond := u_ws RX12 TX12 67
theorem nmX12 : ∀ a, a < 67 → ∀ b, b < 67 → a ≠ b → (TX12 a).2.1 ≠ (TX12 b).2.1 := by decide +kernel
theorem tyX12_ok : ∀ k, k < 67 → parseFieldDescriptor (TX12 k).2.2.1 = some (tyX12 k) := by decide +kernel
abbrev cX12_init : ByteArray := prog_14_method_1_code
def yX12_init : MethodName := ⟨RX12, "<init>", "()V"⟩
abbrev cX12_fine : ByteArray := prog_14_method_2_code
def yX12_fine : MethodName := ⟨RX12, "fine", "(I)I"⟩
abbrev cX12_bad : ByteArray := prog_14_method_3_code
def yX12_bad : MethodName := ⟨RX12, "bad", "(I)I"⟩
abbrev cX12_badAt : ByteArray := prog_14_method_4_code
def yX12_badAt : MethodName := ⟨RX12, "badAt", "(II)I"⟩
abbrev cX12_feed : ByteArray := prog_14_method_5_code
def yX12_feed : MethodName := ⟨RX12, "feed", "(IIIII)I"⟩
abbrev cX12_end : ByteArray := prog_14_method_6_code
def yX12_end : MethodName := ⟨RX12, "end", "(I)I"⟩
abbrev cX12_taken : ByteArray := prog_14_method_7_code
def yX12_taken : MethodName := ⟨RX12, "taken", "()I"⟩
abbrev cX12_step : ByteArray := prog_14_method_8_code
def yX12_step : MethodName := ⟨RX12, "step", "(IIII)V"⟩
abbrev cX12_isTable : ByteArray := prog_14_method_9_code
def yX12_isTable : MethodName := ⟨RX12, "isTable", "(I)Z"⟩
abbrev cX12_isWhole : ByteArray := prog_14_method_10_code
def yX12_isWhole : MethodName := ⟨RX12, "isWhole", "(I)Z"⟩
abbrev cX12_isIn : ByteArray := prog_14_method_11_code
def yX12_isIn : MethodName := ⟨RX12, "isIn", "(III)Z"⟩
abbrev cX12_table : ByteArray := prog_14_method_12_code
def yX12_table : MethodName := ⟨RX12, "table", "(III)I"⟩
abbrev cX12_newTable : ByteArray := prog_14_method_13_code
def yX12_newTable : MethodName := ⟨RX12, "newTable", "(IIII)I"⟩
abbrev cX12_join : ByteArray := prog_14_method_14_code
def yX12_join : MethodName := ⟨RX12, "join", "(II)I"⟩
abbrev cX12_drop : ByteArray := prog_14_method_15_code
def yX12_drop : MethodName := ⟨RX12, "drop", "(I)I"⟩
abbrev cX12_isLetter : ByteArray := prog_14_method_16_code
def yX12_isLetter : MethodName := ⟨RX12, "isLetter", "(I)Z"⟩
abbrev cX12_areCells : ByteArray := prog_14_method_17_code
def yX12_areCells : MethodName := ⟨RX12, "areCells", "(III)Z"⟩
abbrev cX12_rule : ByteArray := prog_14_method_18_code
def yX12_rule : MethodName := ⟨RX12, "rule", "(III)I"⟩
abbrev cX12_condition : ByteArray := prog_14_method_19_code
def yX12_condition : MethodName := ⟨RX12, "condition", "(III)I"⟩
abbrev cX12_indicator : ByteArray := prog_14_method_20_code
def yX12_indicator : MethodName := ⟨RX12, "indicator", "(II)I"⟩
abbrev cX12_undo : ByteArray := prog_14_method_21_code
def yX12_undo : MethodName := ⟨RX12, "undo", "()I"⟩
abbrev cX12_finds : ByteArray := prog_14_method_22_code
def yX12_finds : MethodName := ⟨RX12, "finds", "(I)I"⟩
abbrev cX12_isDigit : ByteArray := prog_14_method_23_code
def yX12_isDigit : MethodName := ⟨RX12, "isDigit", "(I)Z"⟩
abbrev cX12_isGreat : ByteArray := prog_14_method_24_code
def yX12_isGreat : MethodName := ⟨RX12, "isGreat", "(I)Z"⟩
abbrev cX12_isSmall : ByteArray := prog_14_method_25_code
def yX12_isSmall : MethodName := ⟨RX12, "isSmall", "(I)Z"⟩
abbrev cX12_fits : ByteArray := prog_14_method_26_code
def yX12_fits : MethodName := ⟨RX12, "fits", "(IIII)Z"⟩
abbrev cX12_own : ByteArray := prog_14_method_27_code
def yX12_own : MethodName := ⟨RX12, "own", "(IIII)I"⟩
abbrev cX12_find : ByteArray := prog_14_method_28_code
def yX12_find : MethodName := ⟨RX12, "find", "(IIII)I"⟩
abbrev cX12_contracted : ByteArray := prog_14_method_29_code
def yX12_contracted : MethodName := ⟨RX12, "contracted", "(IIII)I"⟩
abbrev cX12_putIndicator : ByteArray := prog_14_method_30_code
def yX12_putIndicator : MethodName := ⟨RX12, "putIndicator", "(II)V"⟩
abbrev cX12_setPart : ByteArray := prog_14_method_31_code
def yX12_setPart : MethodName := ⟨RX12, "setPart", "(III)Z"⟩
abbrev cX12_setWord : ByteArray := prog_14_method_32_code
def yX12_setWord : MethodName := ⟨RX12, "setWord", "(I)Z"⟩
abbrev cX12_notSet : ByteArray := prog_14_method_33_code
def yX12_notSet : MethodName := ⟨RX12, "notSet", "()I"⟩
abbrev cX12_text : ByteArray := prog_14_method_34_code
def yX12_text : MethodName := ⟨RX12, "text", "()I"⟩
abbrev cX12_measure : ByteArray := prog_14_method_35_code
def yX12_measure : MethodName := ⟨RX12, "measure", "(III)I"⟩
abbrev cX12_takeWord : ByteArray := prog_14_method_36_code
def yX12_takeWord : MethodName := ⟨RX12, "takeWord", "(II)I"⟩
abbrev cX12_lineEnd : ByteArray := prog_14_method_37_code
def yX12_lineEnd : MethodName := ⟨RX12, "lineEnd", "(I)I"⟩
abbrev cX12_newLine : ByteArray := prog_14_method_38_code
def yX12_newLine : MethodName := ⟨RX12, "newLine", "()Z"⟩
abbrev cX12_putCell : ByteArray := prog_14_method_39_code
def yX12_putCell : MethodName := ⟨RX12, "putCell", "(I)V"⟩
abbrev cX12_breakOf : ByteArray := prog_14_method_40_code
def yX12_breakOf : MethodName := ⟨RX12, "breakOf", "(III)I"⟩
abbrev cX12_flow : ByteArray := prog_14_method_41_code
def yX12_flow : MethodName := ⟨RX12, "flow", "(I)Z"⟩
abbrev cX12_centre : ByteArray := prog_14_method_42_code
def yX12_centre : MethodName := ⟨RX12, "centre", "(I)V"⟩
abbrev cX12_set : ByteArray := prog_14_method_43_code
def yX12_set : MethodName := ⟨RX12, "set", "(I)I"⟩
abbrev cX12_head : ByteArray := prog_14_method_44_code
def yX12_head : MethodName := ⟨RX12, "head", "(I)I"⟩
abbrev cX12_lines : ByteArray := prog_14_method_45_code
def yX12_lines : MethodName := ⟨RX12, "lines", "()I"⟩
abbrev cX12_hasHead : ByteArray := prog_14_method_46_code
def yX12_hasHead : MethodName := ⟨RX12, "hasHead", "()Z"⟩
abbrev cX12_onPage : ByteArray := prog_14_method_47_code
def yX12_onPage : MethodName := ⟨RX12, "onPage", "()I"⟩
abbrev cX12_pages : ByteArray := prog_14_method_48_code
def yX12_pages : MethodName := ⟨RX12, "pages", "()I"⟩
abbrev cX12_lineFault : ByteArray := prog_14_method_49_code
def yX12_lineFault : MethodName := ⟨RX12, "lineFault", "(I)I"⟩
abbrev cX12_length : ByteArray := prog_14_method_50_code
def yX12_length : MethodName := ⟨RX12, "length", "(I)I"⟩
abbrev cX12_cell : ByteArray := prog_14_method_51_code
def yX12_cell : MethodName := ⟨RX12, "cell", "(II)I"⟩
abbrev cX12_page : ByteArray := prog_14_method_52_code
def yX12_page : MethodName := ⟨RX12, "page", "(III)I"⟩
abbrev cX12_cut : ByteArray := prog_14_method_53_code
def yX12_cut : MethodName := ⟨RX12, "cut", "(II)I"⟩
abbrev cX12_lose : ByteArray := prog_14_method_54_code
def yX12_lose : MethodName := ⟨RX12, "lose", "(I)I"⟩
abbrev cX12_copyRow : ByteArray := prog_14_method_55_code
def yX12_copyRow : MethodName := ⟨RX12, "copyRow", "(IIIII)I"⟩
abbrev cX12_copyLines : ByteArray := prog_14_method_56_code
def yX12_copyLines : MethodName := ⟨RX12, "copyLines", "(III)I"⟩
abbrev cX12_copied : ByteArray := prog_14_method_57_code
def yX12_copied : MethodName := ⟨RX12, "copied", "()I"⟩
abbrev cX12_emboss : ByteArray := prog_14_method_58_code
def yX12_emboss : MethodName := ⟨RX12, "emboss", "(II)I"⟩
abbrev cX12_closed : ByteArray := prog_14_method_59_code
def yX12_closed : MethodName := ⟨RX12, "closed", "()I"⟩
abbrev cX12_saved : ByteArray := prog_14_method_60_code
def yX12_saved : MethodName := ⟨RX12, "saved", "(II)I"⟩
abbrev cX12_addRow : ByteArray := prog_14_method_61_code
def yX12_addRow : MethodName := ⟨RX12, "addRow", "(IIII)V"⟩
abbrev cX12_addIndicator : ByteArray := prog_14_method_62_code
def yX12_addIndicator : MethodName := ⟨RX12, "addIndicator", "(III)V"⟩
abbrev cX12_addRows : ByteArray := prog_14_method_63_code
def yX12_addRows : MethodName := ⟨RX12, "addRows", "(II)V"⟩
abbrev cX12_gather : ByteArray := prog_14_method_64_code
def yX12_gather : MethodName := ⟨RX12, "gather", "(I)V"⟩
abbrev cX12_rowCell : ByteArray := prog_14_method_65_code
def yX12_rowCell : MethodName := ⟨RX12, "rowCell", "(II)I"⟩
abbrev cX12_isSmallRule : ByteArray := prog_14_method_66_code
def yX12_isSmallRule : MethodName := ⟨RX12, "isSmallRule", "(I)Z"⟩
abbrev cX12_stands : ByteArray := prog_14_method_67_code
def yX12_stands : MethodName := ⟨RX12, "stands", "(III)Z"⟩
abbrev cX12_longest : ByteArray := prog_14_method_68_code
def yX12_longest : MethodName := ⟨RX12, "longest", "(III)I"⟩
abbrev cX12_tell : ByteArray := prog_14_method_69_code
def yX12_tell : MethodName := ⟨RX12, "tell", "(I)Z"⟩
abbrev cX12_readAll : ByteArray := prog_14_method_70_code
def yX12_readAll : MethodName := ⟨RX12, "readAll", "()I"⟩
abbrev cX12_readWord : ByteArray := prog_14_method_71_code
def yX12_readWord : MethodName := ⟨RX12, "readWord", "(II)I"⟩
abbrev cX12_read : ByteArray := prog_14_method_72_code
def yX12_read : MethodName := ⟨RX12, "read", "(III)I"⟩
abbrev cX12_putRow : ByteArray := prog_14_method_73_code
def yX12_putRow : MethodName := ⟨RX12, "putRow", "(II)V"⟩
abbrev cX12_letter : ByteArray := prog_14_method_74_code
def yX12_letter : MethodName := ⟨RX12, "letter", "(I)I"⟩
abbrev cX12_failed : ByteArray := prog_14_method_75_code
def yX12_failed : MethodName := ⟨RX12, "failed", "(IZ)I"⟩
abbrev cX12_looksLike : ByteArray := prog_14_method_76_code
def yX12_looksLike : MethodName := ⟨RX12, "looksLike", "(II)Z"⟩
abbrev cX12_next : ByteArray := prog_14_method_77_code
def yX12_next : MethodName := ⟨RX12, "next", "(II)I"⟩
abbrev cX12_state : ByteArray := prog_14_method_78_code
def yX12_state : MethodName := ⟨RX12, "state", "(IIZ)I"⟩
abbrev cX12_may : ByteArray := prog_14_method_79_code
def yX12_may : MethodName := ⟨RX12, "may", "(IIIZ)Z"⟩
abbrev cX12_mayBlank : ByteArray := prog_14_method_80_code
def yX12_mayBlank : MethodName := ⟨RX12, "mayBlank", "(IZ)Z"⟩
abbrev cX12_findCan : ByteArray := prog_14_method_81_code
def yX12_findCan : MethodName := ⟨RX12, "findCan", "()V"⟩
abbrev cX12_go : ByteArray := prog_14_method_82_code
def yX12_go : MethodName := ⟨RX12, "go", "(IIZ)V"⟩
abbrev cX12_keep : ByteArray := prog_14_method_83_code
def yX12_keep : MethodName := ⟨RX12, "keep", "()V"⟩
abbrev cX12_readings : ByteArray := prog_14_method_84_code
def yX12_readings : MethodName := ⟨RX12, "readings", "(III)I"⟩
abbrev cX12_more : ByteArray := prog_14_method_85_code
def yX12_more : MethodName := ⟨RX12, "more", "()I"⟩
abbrev cX12_reading : ByteArray := prog_14_method_86_code
def yX12_reading : MethodName := ⟨RX12, "reading", "(II)I"⟩
abbrev cX12_isShort : ByteArray := prog_14_method_87_code
def yX12_isShort : MethodName := ⟨RX12, "isShort", "(I)Z"⟩
abbrev cX12_alike : ByteArray := prog_14_method_88_code
def yX12_alike : MethodName := ⟨RX12, "alike", "(II)I"⟩
abbrev cX12_isReadable : ByteArray := prog_14_method_89_code
def yX12_isReadable : MethodName := ⟨RX12, "isReadable", "(I)Z"⟩
abbrev cX12_judge : ByteArray := prog_14_method_90_code
def yX12_judge : MethodName := ⟨RX12, "judge", "(I)I"⟩
abbrev cX12_parts : ByteArray := prog_14_method_91_code
def yX12_parts : MethodName := ⟨RX12, "parts", "(III)I"⟩
abbrev cX12_gatherSigns : ByteArray := prog_14_method_92_code
def yX12_gatherSigns : MethodName := ⟨RX12, "gatherSigns", "(I)V"⟩
abbrev cX12_isUnreadable : ByteArray := prog_14_method_93_code
def yX12_isUnreadable : MethodName := ⟨RX12, "isUnreadable", "(I)Z"⟩
abbrev cX12_unreadable : ByteArray := prog_14_method_94_code
def yX12_unreadable : MethodName := ⟨RX12, "unreadable", "(III)I"⟩
abbrev cX12_putBack : ByteArray := prog_14_method_95_code
def yX12_putBack : MethodName := ⟨RX12, "putBack", "()V"⟩
abbrev cX12_place : ByteArray := prog_14_method_96_code
def yX12_place : MethodName := ⟨RX12, "place", "()I"⟩
abbrev cX12_status : ByteArray := prog_14_method_97_code
def yX12_status : MethodName := ⟨RX12, "status", "()I"⟩
abbrev cX12_digest : ByteArray := prog_14_method_98_code
def yX12_digest : MethodName := ⟨RX12, "digest", "()I"⟩
def RJx145de : String := "java/io/Serializable"
def TJx145de : u_T := fun k => match k with
  | _ => ("", "", "", false)
def tyJx145de : Nat → FieldType := fun k => match k with
  | _ => .int
abbrev wsJx145de0 : List Cond := u_ws RJx145de TJx145de 0
theorem nmJx145de : ∀ a, a < 0 → ∀ b, b < 0 → a ≠ b → (TJx145de a).2.1 ≠ (TJx145de b).2.1 := by decide +kernel
theorem tyJx145de_ok : ∀ k, k < 0 → parseFieldDescriptor (TJx145de k).2.2.1 = some (tyJx145de k) := by decide +kernel
def RJx8e188 : String := "java/lang/Cloneable"
def TJx8e188 : u_T := fun k => match k with
  | _ => ("", "", "", false)
def tyJx8e188 : Nat → FieldType := fun k => match k with
  | _ => .int
abbrev wsJx8e1880 : List Cond := u_ws RJx8e188 TJx8e188 0
theorem nmJx8e188 : ∀ a, a < 0 → ∀ b, b < 0 → a ≠ b → (TJx8e188 a).2.1 ≠ (TJx8e188 b).2.1 := by decide +kernel
theorem tyJx8e188_ok : ∀ k, k < 0 → parseFieldDescriptor (TJx8e188 k).2.2.1 = some (tyJx8e188 k) := by decide +kernel
def RJ6 : String := "java/lang/Integer"
def TJ6 : u_T := fun k => match k with
  | _ => ("", "", "", false)
def tyJ6 : Nat → FieldType := fun k => match k with
  | _ => .int
abbrev wsJ60 : List Cond := u_ws RJ6 TJ6 0
theorem nmJ6 : ∀ a, a < 0 → ∀ b, b < 0 → a ≠ b → (TJ6 a).2.1 ≠ (TJ6 b).2.1 := by decide +kernel
theorem tyJ6_ok : ∀ k, k < 0 → parseFieldDescriptor (TJ6 k).2.2.1 = some (tyJ6 k) := by decide +kernel
abbrev cJ6_bitCount_0f7a4 : ByteArray := prog_17_method_49_code
def yJ6_bitCount_0f7a4 : MethodName := ⟨RJ6, "bitCount", "(I)I"⟩
def RJxab1ab : String := "java/lang/Iterable"
def TJxab1ab : u_T := fun k => match k with
  | _ => ("", "", "", false)
def tyJxab1ab : Nat → FieldType := fun k => match k with
  | _ => .int
abbrev wsJxab1ab0 : List Cond := u_ws RJxab1ab TJxab1ab 0
theorem nmJxab1ab : ∀ a, a < 0 → ∀ b, b < 0 → a ≠ b → (TJxab1ab a).2.1 ≠ (TJxab1ab b).2.1 := by decide +kernel
theorem tyJxab1ab_ok : ∀ k, k < 0 → parseFieldDescriptor (TJxab1ab k).2.2.1 = some (tyJxab1ab k) := by decide +kernel
def RJ9 : String := "java/lang/Math"
def TJ9 : u_T := fun k => match k with
  | _ => ("", "", "", false)
def tyJ9 : Nat → FieldType := fun k => match k with
  | _ => .int
abbrev wsJ90 : List Cond := u_ws RJ9 TJ9 0
theorem nmJ9 : ∀ a, a < 0 → ∀ b, b < 0 → a ≠ b → (TJ9 a).2.1 ≠ (TJ9 b).2.1 := by decide +kernel
theorem tyJ9_ok : ∀ k, k < 0 → parseFieldDescriptor (TJ9 k).2.2.1 = some (tyJ9 k) := by decide +kernel
abbrev cJ9_max_7cf53 : ByteArray := prog_19_method_65_code
def yJ9_max_7cf53 : MethodName := ⟨RJ9, "max", "(II)I"⟩
abbrev cJ9_min_7cf53 : ByteArray := prog_19_method_69_code
def yJ9_min_7cf53 : MethodName := ⟨RJ9, "min", "(II)I"⟩
def RJ10 : String := "java/lang/System"
def TJ10 : u_T := fun k => match k with
  | _ => ("", "", "", false)
def tyJ10 : Nat → FieldType := fun k => match k with
  | _ => .int
abbrev wsJ100 : List Cond := u_ws RJ10 TJ10 0
theorem nmJ10 : ∀ a, a < 0 → ∀ b, b < 0 → a ≠ b → (TJ10 a).2.1 ≠ (TJ10 b).2.1 := by decide +kernel
theorem tyJ10_ok : ∀ k, k < 0 → parseFieldDescriptor (TJ10 k).2.2.1 = some (tyJ10 k) := by decide +kernel
def RJxa1e45 : String := "java/util/AbstractCollection"
def TJxa1e45 : u_T := fun k => match k with
  | _ => ("", "", "", false)
def tyJxa1e45 : Nat → FieldType := fun k => match k with
  | _ => .int
abbrev wsJxa1e450 : List Cond := u_ws RJxa1e45 TJxa1e45 0
theorem nmJxa1e45 : ∀ a, a < 0 → ∀ b, b < 0 → a ≠ b → (TJxa1e45 a).2.1 ≠ (TJxa1e45 b).2.1 := by decide +kernel
theorem tyJxa1e45_ok : ∀ k, k < 0 → parseFieldDescriptor (TJxa1e45 k).2.2.1 = some (tyJxa1e45 k) := by decide +kernel
abbrev cJxa1e45_init_da8c8 : ByteArray := prog_21_method_1_code
def yJxa1e45_init_da8c8 : MethodName := ⟨RJxa1e45, "<init>", "()V"⟩
def RJxc12de : String := "java/util/AbstractList"
def TJxc12de : u_T := fun k => match k with
  | _ => ("", "", "", false)
def tyJxc12de : Nat → FieldType := fun k => match k with
  | _ => .int
abbrev wsJxc12de0 : List Cond := u_ws RJxc12de TJxc12de 0
theorem nmJxc12de : ∀ a, a < 0 → ∀ b, b < 0 → a ≠ b → (TJxc12de a).2.1 ≠ (TJxc12de b).2.1 := by decide +kernel
theorem tyJxc12de_ok : ∀ k, k < 0 → parseFieldDescriptor (TJxc12de k).2.2.1 = some (tyJxc12de k) := by decide +kernel
abbrev cJxc12de_init_da8c8 : ByteArray := prog_22_method_1_code
def yJxc12de_init_da8c8 : MethodName := ⟨RJxc12de, "<init>", "()V"⟩
def RJx4a65c : String := "java/util/ArrayList"
def TJx4a65c : u_T := fun k => match k with
  | 0 => ("java/util/AbstractList", "modCount", "I", false)
  | 1 => ("java/util/ArrayList", "elementData", "[Ljava/lang/Object;", false)
  | _ => ("java/util/ArrayList", "size", "I", false)
def tyJx4a65c : Nat → FieldType := fun k => match k with
  | 0 => .int
  | 1 => .array (.object "java/lang/Object")
  | _ => .int
abbrev wsJx4a65c0 : List Cond := u_ws RJx4a65c TJx4a65c 3
theorem nmJx4a65c : ∀ a, a < 3 → ∀ b, b < 3 → a ≠ b → (TJx4a65c a).2.1 ≠ (TJx4a65c b).2.1 := by decide +kernel
theorem tyJx4a65c_ok : ∀ k, k < 3 → parseFieldDescriptor (TJx4a65c k).2.2.1 = some (tyJx4a65c k) := by decide +kernel
abbrev cJx4a65c_init_da8c8 : ByteArray := prog_23_method_2_code
def yJx4a65c_init_da8c8 : MethodName := ⟨RJx4a65c, "<init>", "()V"⟩
abbrev cJx4a65c_grow_92f84 : ByteArray := prog_23_method_6_code
def yJx4a65c_grow_92f84 : MethodName := ⟨RJx4a65c, "grow", "(I)[Ljava/lang/Object;"⟩
abbrev cJx4a65c_grow_d5877 : ByteArray := prog_23_method_7_code
def yJx4a65c_grow_d5877 : MethodName := ⟨RJx4a65c, "grow", "()[Ljava/lang/Object;"⟩
abbrev cJx4a65c_size_8abf5 : ByteArray := prog_23_method_8_code
def yJx4a65c_size_8abf5 : MethodName := ⟨RJx4a65c, "size", "()I"⟩
abbrev cJx4a65c_isEmpty_aae02 : ByteArray := prog_23_method_9_code
def yJx4a65c_isEmpty_aae02 : MethodName := ⟨RJx4a65c, "isEmpty", "()Z"⟩
abbrev cJx4a65c_elementData_915e3 : ByteArray := prog_23_method_18_code
def yJx4a65c_elementData_915e3 : MethodName := ⟨RJx4a65c, "elementData", "(I)Ljava/lang/Object;"⟩
abbrev cJx4a65c_get_915e3 : ByteArray := prog_23_method_20_code
def yJx4a65c_get_915e3 : MethodName := ⟨RJx4a65c, "get", "(I)Ljava/lang/Object;"⟩
abbrev cJx4a65c_add_72be8 : ByteArray := prog_23_method_24_code
def yJx4a65c_add_72be8 : MethodName := ⟨RJx4a65c, "add", "(Ljava/lang/Object;[Ljava/lang/Object;I)V"⟩
abbrev cJx4a65c_add_9ea2d : ByteArray := prog_23_method_25_code
def yJx4a65c_add_9ea2d : MethodName := ⟨RJx4a65c, "add", "(Ljava/lang/Object;)Z"⟩
abbrev cJx4a65c_remove_915e3 : ByteArray := prog_23_method_29_code
def yJx4a65c_remove_915e3 : MethodName := ⟨RJx4a65c, "remove", "(I)Ljava/lang/Object;"⟩
abbrev cJx4a65c_fastRemove_b59b0 : ByteArray := prog_23_method_39_code
def yJx4a65c_fastRemove_b59b0 : MethodName := ⟨RJx4a65c, "fastRemove", "([Ljava/lang/Object;I)V"⟩
abbrev cJx4a65c_clear_da8c8 : ByteArray := prog_23_method_40_code
def yJx4a65c_clear_da8c8 : MethodName := ⟨RJx4a65c, "clear", "()V"⟩
def RJ7 : String := "java/util/Arrays"
def TJ7 : u_T := fun k => match k with
  | _ => ("", "", "", false)
def tyJ7 : Nat → FieldType := fun k => match k with
  | _ => .int
abbrev wsJ70 : List Cond := u_ws RJ7 TJ7 0
theorem nmJ7 : ∀ a, a < 0 → ∀ b, b < 0 → a ≠ b → (TJ7 a).2.1 ≠ (TJ7 b).2.1 := by decide +kernel
theorem tyJ7_ok : ∀ k, k < 0 → parseFieldDescriptor (TJ7 k).2.2.1 = some (tyJ7 k) := by decide +kernel
abbrev cJ7_fill_53178 : ByteArray := prog_24_method_103_code
def yJ7_fill_53178 : MethodName := ⟨RJ7, "fill", "([II)V"⟩
abbrev cJ7_copyOf_1904c : ByteArray := prog_24_method_119_code
def yJ7_copyOf_1904c : MethodName := ⟨RJ7, "copyOf", "([Ljava/lang/Object;I)[Ljava/lang/Object;"⟩
abbrev cJ7_copyOf_6403c : ByteArray := prog_24_method_120_code
def yJ7_copyOf_6403c : MethodName := ⟨RJ7, "copyOf", "([Ljava/lang/Object;ILjava/lang/Class;)[Ljava/lang/Object;"⟩
abbrev cJ7_copyOf_59c91 : ByteArray := prog_24_method_123_code
def yJ7_copyOf_59c91 : MethodName := ⟨RJ7, "copyOf", "([II)[I"⟩
def RJx5ef63 : String := "java/util/Collection"
def TJx5ef63 : u_T := fun k => match k with
  | _ => ("", "", "", false)
def tyJx5ef63 : Nat → FieldType := fun k => match k with
  | _ => .int
abbrev wsJx5ef630 : List Cond := u_ws RJx5ef63 TJx5ef63 0
theorem nmJx5ef63 : ∀ a, a < 0 → ∀ b, b < 0 → a ≠ b → (TJx5ef63 a).2.1 ≠ (TJx5ef63 b).2.1 := by decide +kernel
theorem tyJx5ef63_ok : ∀ k, k < 0 → parseFieldDescriptor (TJx5ef63 k).2.2.1 = some (tyJx5ef63 k) := by decide +kernel
def RJxbd725 : String := "java/util/List"
def TJxbd725 : u_T := fun k => match k with
  | _ => ("", "", "", false)
def tyJxbd725 : Nat → FieldType := fun k => match k with
  | _ => .int
abbrev wsJxbd7250 : List Cond := u_ws RJxbd725 TJxbd725 0
theorem nmJxbd725 : ∀ a, a < 0 → ∀ b, b < 0 → a ≠ b → (TJxbd725 a).2.1 ≠ (TJxbd725 b).2.1 := by decide +kernel
theorem tyJxbd725_ok : ∀ k, k < 0 → parseFieldDescriptor (TJxbd725 k).2.2.1 = some (tyJxbd725 k) := by decide +kernel
def RJ15 : String := "java/util/Objects"
def TJ15 : u_T := fun k => match k with
  | _ => ("", "", "", false)
def tyJ15 : Nat → FieldType := fun k => match k with
  | _ => .int
abbrev wsJ150 : List Cond := u_ws RJ15 TJ15 0
theorem nmJ15 : ∀ a, a < 0 → ∀ b, b < 0 → a ≠ b → (TJ15 a).2.1 ≠ (TJ15 b).2.1 := by decide +kernel
theorem tyJ15_ok : ∀ k, k < 0 → parseFieldDescriptor (TJ15 k).2.2.1 = some (tyJ15 k) := by decide +kernel
abbrev cJ15_checkIndex_7cf53 : ByteArray := prog_27_method_17_code
def yJ15_checkIndex_7cf53 : MethodName := ⟨RJ15, "checkIndex", "(II)I"⟩
def RJxf0a74 : String := "java/util/RandomAccess"
def TJxf0a74 : u_T := fun k => match k with
  | _ => ("", "", "", false)
def tyJxf0a74 : Nat → FieldType := fun k => match k with
  | _ => .int
abbrev wsJxf0a740 : List Cond := u_ws RJxf0a74 TJxf0a74 0
theorem nmJxf0a74 : ∀ a, a < 0 → ∀ b, b < 0 → a ≠ b → (TJxf0a74 a).2.1 ≠ (TJxf0a74 b).2.1 := by decide +kernel
theorem tyJxf0a74_ok : ∀ k, k < 0 → parseFieldDescriptor (TJxf0a74 k).2.2.1 = some (tyJxf0a74 k) := by decide +kernel
def RJxa66e6 : String := "java/util/SequencedCollection"
def TJxa66e6 : u_T := fun k => match k with
  | _ => ("", "", "", false)
def tyJxa66e6 : Nat → FieldType := fun k => match k with
  | _ => .int
abbrev wsJxa66e60 : List Cond := u_ws RJxa66e6 TJxa66e6 0
theorem nmJxa66e6 : ∀ a, a < 0 → ∀ b, b < 0 → a ≠ b → (TJxa66e6 a).2.1 ≠ (TJxa66e6 b).2.1 := by decide +kernel
theorem tyJxa66e6_ok : ∀ k, k < 0 → parseFieldDescriptor (TJxa66e6 k).2.2.1 = some (tyJxa66e6 k) := by decide +kernel
def RJ8 : String := "jdk/internal/util/ArraysSupport"
def TJ8 : u_T := fun k => match k with
  | _ => ("", "", "", false)
def tyJ8 : Nat → FieldType := fun k => match k with
  | _ => .int
abbrev wsJ80 : List Cond := u_ws RJ8 TJ8 0
theorem nmJ8 : ∀ a, a < 0 → ∀ b, b < 0 → a ≠ b → (TJ8 a).2.1 ≠ (TJ8 b).2.1 := by decide +kernel
theorem tyJ8_ok : ∀ k, k < 0 → parseFieldDescriptor (TJ8 k).2.2.1 = some (tyJ8 k) := by decide +kernel
abbrev cJ8_newLength_cabcc : ByteArray := prog_30_method_27_code
def yJ8_newLength_cabcc : MethodName := ⟨RJ8, "newLength", "(III)I"⟩
abbrev cJ8_hugeLength_7cf53 : ByteArray := prog_30_method_28_code
def yJ8_hugeLength_7cf53 : MethodName := ⟨RJ8, "hugeLength", "(II)I"⟩
def RJ3 : String := "jdk/internal/util/Preconditions"
def TJ3 : u_T := fun k => match k with
  | _ => ("", "", "", false)
def tyJ3 : Nat → FieldType := fun k => match k with
  | _ => .int
abbrev wsJ30 : List Cond := u_ws RJ3 TJ3 0
theorem nmJ3 : ∀ a, a < 0 → ∀ b, b < 0 → a ≠ b → (TJ3 a).2.1 ≠ (TJ3 b).2.1 := by decide +kernel
theorem tyJ3_ok : ∀ k, k < 0 → parseFieldDescriptor (TJ3 k).2.2.1 = some (tyJ3 k) := by decide +kernel
abbrev cJ3_checkIndex_8e157 : ByteArray := prog_31_method_11_code
def yJ3_checkIndex_8e157 : MethodName := ⟨RJ3, "checkIndex", "(IILjava/util/function/BiFunction;)I"⟩
def RL : String := "DotPressLaw"
abbrev cL_law : ByteArray := code
def yL_law : MethodName := ⟨RL, "law", "([I)Z"⟩
theorem dX0_init_0 : decode cX0_init 0 = .ok (.aload_n 0, 1) := by decide +kernel
theorem dX0_init_1 : decode cX0_init 1 = .ok (.invokespecial 1, 3) := by decide +kernel
theorem dX0_init_4 : decode cX0_init 4 = .ok (.aload_n 0, 1) := by decide +kernel
theorem dX0_init_5 : decode cX0_init 5 = .ok (.iload_n 1, 1) := by decide +kernel
theorem dX0_init_6 : decode cX0_init 6 = .ok (.putfield 7, 3) := by decide +kernel
theorem dX0_init_9 : decode cX0_init 9 = .ok (.aload_n 0, 1) := by decide +kernel
theorem dX0_init_10 : decode cX0_init 10 = .ok (.aload_n 2, 1) := by decide +kernel
theorem dX0_init_11 : decode cX0_init 11 = .ok (.putfield 13, 3) := by decide +kernel
theorem dX0_init_14 : decode cX0_init 14 = .ok (.aload_n 0, 1) := by decide +kernel
theorem dX0_init_15 : decode cX0_init 15 = .ok (.aload_n 3, 1) := by decide +kernel
theorem dX0_init_16 : decode cX0_init 16 = .ok (.putfield 17, 3) := by decide +kernel
theorem dX0_init_19 : decode cX0_init 19 = .ok (.aload_n 0, 1) := by decide +kernel
theorem dX0_init_20 : decode cX0_init 20 = .ok (.iload 4, 2) := by decide +kernel
theorem dX0_init_22 : decode cX0_init 22 = .ok (.putfield 21, 3) := by decide +kernel
theorem dX0_init_25 : decode cX0_init 25 = .ok (.return_, 1) := by decide +kernel
theorem dX1_init_0 : decode cX1_init 0 = .ok (.aload_n 0, 1) := by decide +kernel
theorem dX1_init_1 : decode cX1_init 1 = .ok (.invokespecial 1, 3) := by decide +kernel
theorem dX1_init_4 : decode cX1_init 4 = .ok (.aload_n 0, 1) := by decide +kernel
theorem dX1_init_5 : decode cX1_init 5 = .ok (.iconst 0, 1) := by decide +kernel
theorem dX1_init_6 : decode cX1_init 6 = .ok (.putfield 7, 3) := by decide +kernel
theorem dX1_init_9 : decode cX1_init 9 = .ok (.aload_n 0, 1) := by decide +kernel
theorem dX1_init_10 : decode cX1_init 10 = .ok (.iload_n 1, 1) := by decide +kernel
theorem dX1_init_11 : decode cX1_init 11 = .ok (.putfield 13, 3) := by decide +kernel
theorem dX1_init_14 : decode cX1_init 14 = .ok (.aload_n 0, 1) := by decide +kernel
theorem dX1_init_15 : decode cX1_init 15 = .ok (.bipush 16, 2) := by decide +kernel
theorem dX1_init_17 : decode cX1_init 17 = .ok (.newarray .int, 2) := by decide +kernel
theorem dX1_init_19 : decode cX1_init 19 = .ok (.putfield 16, 3) := by decide +kernel
theorem dX1_init_22 : decode cX1_init 22 = .ok (.return_, 1) := by decide +kernel
theorem dX1_add_0 : decode cX1_add 0 = .ok (.aload_n 0, 1) := by decide +kernel
theorem dX1_add_1 : decode cX1_add 1 = .ok (.getfield 7, 3) := by decide +kernel
theorem dX1_add_4 : decode cX1_add 4 = .ok (.aload_n 0, 1) := by decide +kernel
theorem dX1_add_5 : decode cX1_add 5 = .ok (.getfield 13, 3) := by decide +kernel
theorem dX1_add_8 : decode cX1_add 8 = .ok (.if_icmp .lt 4, 3) := by decide +kernel
theorem dX1_add_11 : decode cX1_add 11 = .ok (.return_, 1) := by decide +kernel
theorem dX1_add_12 : decode cX1_add 12 = .ok (.aload_n 0, 1) := by decide +kernel
theorem dX1_add_13 : decode cX1_add 13 = .ok (.getfield 7, 3) := by decide +kernel
theorem dX1_add_16 : decode cX1_add 16 = .ok (.aload_n 0, 1) := by decide +kernel
theorem dX1_add_17 : decode cX1_add 17 = .ok (.getfield 16, 3) := by decide +kernel
theorem dX1_add_20 : decode cX1_add 20 = .ok (.arraylength, 1) := by decide +kernel
theorem dX1_add_21 : decode cX1_add 21 = .ok (.if_icmp .lt 21, 3) := by decide +kernel
theorem dX1_add_24 : decode cX1_add 24 = .ok (.aload_n 0, 1) := by decide +kernel
theorem dX1_add_25 : decode cX1_add 25 = .ok (.aload_n 0, 1) := by decide +kernel
theorem dX1_add_26 : decode cX1_add 26 = .ok (.getfield 16, 3) := by decide +kernel
theorem dX1_add_29 : decode cX1_add 29 = .ok (.aload_n 0, 1) := by decide +kernel
theorem dX1_add_30 : decode cX1_add 30 = .ok (.getfield 16, 3) := by decide +kernel
theorem dX1_add_33 : decode cX1_add 33 = .ok (.arraylength, 1) := by decide +kernel
theorem dX1_add_34 : decode cX1_add 34 = .ok (.iconst 2, 1) := by decide +kernel
theorem dX1_add_35 : decode cX1_add 35 = .ok (.imul, 1) := by decide +kernel
theorem dX1_add_36 : decode cX1_add 36 = .ok (.invokestatic 20, 3) := by decide +kernel
theorem dX1_add_39 : decode cX1_add 39 = .ok (.putfield 16, 3) := by decide +kernel
theorem dX1_add_42 : decode cX1_add 42 = .ok (.aload_n 0, 1) := by decide +kernel
theorem dX1_add_43 : decode cX1_add 43 = .ok (.getfield 16, 3) := by decide +kernel
theorem dX1_add_46 : decode cX1_add 46 = .ok (.aload_n 0, 1) := by decide +kernel
theorem dX1_add_47 : decode cX1_add 47 = .ok (.getfield 7, 3) := by decide +kernel
theorem dX1_add_50 : decode cX1_add 50 = .ok (.iload_n 1, 1) := by decide +kernel
theorem dX1_add_51 : decode cX1_add 51 = .ok (.iastore, 1) := by decide +kernel
theorem dX1_add_52 : decode cX1_add 52 = .ok (.aload_n 0, 1) := by decide +kernel
theorem dX1_add_53 : decode cX1_add 53 = .ok (.dup, 1) := by decide +kernel
theorem dX1_add_54 : decode cX1_add 54 = .ok (.getfield 7, 3) := by decide +kernel
theorem dX1_add_57 : decode cX1_add 57 = .ok (.iconst 1, 1) := by decide +kernel
theorem dX1_add_58 : decode cX1_add 58 = .ok (.iadd, 1) := by decide +kernel
theorem dX1_add_59 : decode cX1_add 59 = .ok (.putfield 7, 3) := by decide +kernel
theorem dX1_add_62 : decode cX1_add 62 = .ok (.return_, 1) := by decide +kernel
theorem dX1_addAll_0 : decode cX1_addAll 0 = .ok (.iconst 0, 1) := by decide +kernel
theorem dX1_addAll_1 : decode cX1_addAll 1 = .ok (.istore_n 2, 1) := by decide +kernel
theorem dX1_addAll_2 : decode cX1_addAll 2 = .ok (.iload_n 2, 1) := by decide +kernel
theorem dX1_addAll_3 : decode cX1_addAll 3 = .ok (.aload_n 1, 1) := by decide +kernel
theorem dX1_addAll_4 : decode cX1_addAll 4 = .ok (.getfield 7, 3) := by decide +kernel
theorem dX1_addAll_7 : decode cX1_addAll 7 = .ok (.if_icmp .ge 19, 3) := by decide +kernel
theorem dX1_addAll_10 : decode cX1_addAll 10 = .ok (.aload_n 0, 1) := by decide +kernel
theorem dX1_addAll_11 : decode cX1_addAll 11 = .ok (.aload_n 1, 1) := by decide +kernel
theorem dX1_addAll_12 : decode cX1_addAll 12 = .ok (.getfield 16, 3) := by decide +kernel
theorem dX1_addAll_15 : decode cX1_addAll 15 = .ok (.iload_n 2, 1) := by decide +kernel
theorem dX1_addAll_16 : decode cX1_addAll 16 = .ok (.iaload, 1) := by decide +kernel
theorem dX1_addAll_17 : decode cX1_addAll 17 = .ok (.invokevirtual 26, 3) := by decide +kernel
theorem dX1_addAll_20 : decode cX1_addAll 20 = .ok (.iinc 2 1, 3) := by decide +kernel
theorem dX1_addAll_23 : decode cX1_addAll 23 = .ok (.goto (-21), 3) := by decide +kernel
theorem dX1_addAll_26 : decode cX1_addAll 26 = .ok (.return_, 1) := by decide +kernel
theorem dX1_clear_0 : decode cX1_clear 0 = .ok (.aload_n 0, 1) := by decide +kernel
theorem dX1_clear_1 : decode cX1_clear 1 = .ok (.iconst 0, 1) := by decide +kernel
theorem dX1_clear_2 : decode cX1_clear 2 = .ok (.putfield 7, 3) := by decide +kernel
theorem dX1_clear_5 : decode cX1_clear 5 = .ok (.return_, 1) := by decide +kernel
theorem dX1_keep_0 : decode cX1_keep 0 = .ok (.aload_n 0, 1) := by decide +kernel
theorem dX1_keep_1 : decode cX1_keep 1 = .ok (.iconst 0, 1) := by decide +kernel
theorem dX1_keep_2 : decode cX1_keep 2 = .ok (.aload_n 0, 1) := by decide +kernel
theorem dX1_keep_3 : decode cX1_keep 3 = .ok (.getfield 7, 3) := by decide +kernel
theorem dX1_keep_6 : decode cX1_keep 6 = .ok (.iload_n 1, 1) := by decide +kernel
theorem dX1_keep_7 : decode cX1_keep 7 = .ok (.invokestatic 30, 3) := by decide +kernel
theorem dX1_keep_10 : decode cX1_keep 10 = .ok (.invokestatic 36, 3) := by decide +kernel
theorem dX1_keep_13 : decode cX1_keep 13 = .ok (.putfield 7, 3) := by decide +kernel
theorem dX1_keep_16 : decode cX1_keep 16 = .ok (.return_, 1) := by decide +kernel
theorem dX1_isWithin_0 : decode cX1_isWithin 0 = .ok (.iload_n 1, 1) := by decide +kernel
theorem dX1_isWithin_1 : decode cX1_isWithin 1 = .ok (.istore 5, 2) := by decide +kernel
theorem dX1_isWithin_3 : decode cX1_isWithin 3 = .ok (.iload 5, 2) := by decide +kernel
theorem dX1_isWithin_5 : decode cX1_isWithin 5 = .ok (.iload_n 2, 1) := by decide +kernel
theorem dX1_isWithin_6 : decode cX1_isWithin 6 = .ok (.if_icmp .ge 32, 3) := by decide +kernel
theorem dX1_isWithin_9 : decode cX1_isWithin 9 = .ok (.aload_n 0, 1) := by decide +kernel
theorem dX1_isWithin_10 : decode cX1_isWithin 10 = .ok (.iload 5, 2) := by decide +kernel
theorem dX1_isWithin_12 : decode cX1_isWithin 12 = .ok (.invokevirtual 39, 3) := by decide +kernel
theorem dX1_isWithin_15 : decode cX1_isWithin 15 = .ok (.iload_n 3, 1) := by decide +kernel
theorem dX1_isWithin_16 : decode cX1_isWithin 16 = .ok (.if_icmp .lt 14, 3) := by decide +kernel
theorem dX1_isWithin_19 : decode cX1_isWithin 19 = .ok (.aload_n 0, 1) := by decide +kernel
theorem dX1_isWithin_20 : decode cX1_isWithin 20 = .ok (.iload 5, 2) := by decide +kernel
theorem dX1_isWithin_22 : decode cX1_isWithin 22 = .ok (.invokevirtual 39, 3) := by decide +kernel
theorem dX1_isWithin_25 : decode cX1_isWithin 25 = .ok (.iload 4, 2) := by decide +kernel
theorem dX1_isWithin_27 : decode cX1_isWithin 27 = .ok (.if_icmp .le 5, 3) := by decide +kernel
theorem dX1_isWithin_30 : decode cX1_isWithin 30 = .ok (.iconst 0, 1) := by decide +kernel
theorem dX1_isWithin_31 : decode cX1_isWithin 31 = .ok (.ireturn, 1) := by decide +kernel
theorem dX1_isWithin_32 : decode cX1_isWithin 32 = .ok (.iinc 5 1, 3) := by decide +kernel
theorem dX1_isWithin_35 : decode cX1_isWithin 35 = .ok (.goto (-32), 3) := by decide +kernel
theorem dX1_isWithin_38 : decode cX1_isWithin 38 = .ok (.iconst 1, 1) := by decide +kernel
theorem dX1_isWithin_39 : decode cX1_isWithin 39 = .ok (.ireturn, 1) := by decide +kernel
theorem dX3_init_0 : decode cX3_init 0 = .ok (.aload_n 0, 1) := by decide +kernel
theorem dX3_init_1 : decode cX3_init 1 = .ok (.invokespecial 3, 3) := by decide +kernel
theorem dX3_init_4 : decode cX3_init 4 = .ok (.aload_n 0, 1) := by decide +kernel
theorem dX3_init_5 : decode cX3_init 5 = .ok (.new 9, 3) := by decide +kernel
theorem dX3_init_8 : decode cX3_init 8 = .ok (.dup, 1) := by decide +kernel
theorem dX3_init_9 : decode cX3_init 9 = .ok (.invokespecial 11, 3) := by decide +kernel
theorem dX3_init_12 : decode cX3_init 12 = .ok (.putfield 12, 3) := by decide +kernel
theorem dX3_init_15 : decode cX3_init 15 = .ok (.aload_n 0, 1) := by decide +kernel
theorem dX3_init_16 : decode cX3_init 16 = .ok (.new 9, 3) := by decide +kernel
theorem dX3_init_19 : decode cX3_init 19 = .ok (.dup, 1) := by decide +kernel
theorem dX3_init_20 : decode cX3_init 20 = .ok (.invokespecial 11, 3) := by decide +kernel
theorem dX3_init_23 : decode cX3_init 23 = .ok (.putfield 18, 3) := by decide +kernel
theorem dX3_init_26 : decode cX3_init 26 = .ok (.aload_n 0, 1) := by decide +kernel
theorem dX3_init_27 : decode cX3_init 27 = .ok (.new 21, 3) := by decide +kernel
theorem dX3_init_30 : decode cX3_init 30 = .ok (.dup, 1) := by decide +kernel
theorem dX3_init_31 : decode cX3_init 31 = .ok (.sipush 6003, 3) := by decide +kernel
theorem dX3_init_34 : decode cX3_init 34 = .ok (.invokespecial 23, 3) := by decide +kernel
theorem dX3_init_37 : decode cX3_init 37 = .ok (.putfield 26, 3) := by decide +kernel
theorem dX3_init_40 : decode cX3_init 40 = .ok (.aload_n 0, 1) := by decide +kernel
theorem dX3_init_41 : decode cX3_init 41 = .ok (.new 21, 3) := by decide +kernel
theorem dX3_init_44 : decode cX3_init 44 = .ok (.dup, 1) := by decide +kernel
theorem dX3_init_45 : decode cX3_init 45 = .ok (.sipush 6003, 3) := by decide +kernel
theorem dX3_init_48 : decode cX3_init 48 = .ok (.invokespecial 23, 3) := by decide +kernel
theorem dX3_init_51 : decode cX3_init 51 = .ok (.putfield 30, 3) := by decide +kernel
theorem dX3_init_54 : decode cX3_init 54 = .ok (.aload_n 0, 1) := by decide +kernel
theorem dX3_init_55 : decode cX3_init 55 = .ok (.new 21, 3) := by decide +kernel
theorem dX3_init_58 : decode cX3_init 58 = .ok (.dup, 1) := by decide +kernel
theorem dX3_init_59 : decode cX3_init 59 = .ok (.ldc 33, 2) := by decide +kernel
theorem dX3_init_61 : decode cX3_init 61 = .ok (.invokespecial 23, 3) := by decide +kernel
theorem dX3_init_64 : decode cX3_init 64 = .ok (.putfield 34, 3) := by decide +kernel
theorem dX3_init_67 : decode cX3_init 67 = .ok (.aload_n 0, 1) := by decide +kernel
theorem dX3_init_68 : decode cX3_init 68 = .ok (.new 21, 3) := by decide +kernel
theorem dX3_init_71 : decode cX3_init 71 = .ok (.dup, 1) := by decide +kernel
theorem dX3_init_72 : decode cX3_init 72 = .ok (.ldc 33, 2) := by decide +kernel
theorem dX3_init_74 : decode cX3_init 74 = .ok (.invokespecial 23, 3) := by decide +kernel
theorem dX3_init_77 : decode cX3_init 77 = .ok (.putfield 37, 3) := by decide +kernel
theorem dX3_init_80 : decode cX3_init 80 = .ok (.aload_n 0, 1) := by decide +kernel
theorem dX3_init_81 : decode cX3_init 81 = .ok (.new 21, 3) := by decide +kernel
theorem dX3_init_84 : decode cX3_init 84 = .ok (.dup, 1) := by decide +kernel
theorem dX3_init_85 : decode cX3_init 85 = .ok (.sipush 4001, 3) := by decide +kernel
theorem dX3_init_88 : decode cX3_init 88 = .ok (.invokespecial 23, 3) := by decide +kernel
theorem dX3_init_91 : decode cX3_init 91 = .ok (.putfield 40, 3) := by decide +kernel
theorem dX3_init_94 : decode cX3_init 94 = .ok (.aload_n 0, 1) := by decide +kernel
theorem dX3_init_95 : decode cX3_init 95 = .ok (.iconst 0, 1) := by decide +kernel
theorem dX3_init_96 : decode cX3_init 96 = .ok (.putfield 43, 3) := by decide +kernel
theorem dX3_init_99 : decode cX3_init 99 = .ok (.return_, 1) := by decide +kernel
theorem dX4_init_0 : decode cX4_init 0 = .ok (.aload_n 0, 1) := by decide +kernel
theorem dX4_init_1 : decode cX4_init 1 = .ok (.invokespecial 3, 3) := by decide +kernel
theorem dX4_init_4 : decode cX4_init 4 = .ok (.aload_n 0, 1) := by decide +kernel
theorem dX4_init_5 : decode cX4_init 5 = .ok (.sipush 404, 3) := by decide +kernel
theorem dX4_init_8 : decode cX4_init 8 = .ok (.newarray .boolean, 2) := by decide +kernel
theorem dX4_init_10 : decode cX4_init 10 = .ok (.putfield 9, 3) := by decide +kernel
theorem dX4_init_13 : decode cX4_init 13 = .ok (.aload_n 0, 1) := by decide +kernel
theorem dX4_init_14 : decode cX4_init 14 = .ok (.bipush 101, 2) := by decide +kernel
theorem dX4_init_16 : decode cX4_init 16 = .ok (.newarray .int, 2) := by decide +kernel
theorem dX4_init_18 : decode cX4_init 18 = .ok (.putfield 15, 3) := by decide +kernel
theorem dX4_init_21 : decode cX4_init 21 = .ok (.aload_n 0, 1) := by decide +kernel
theorem dX4_init_22 : decode cX4_init 22 = .ok (.bipush 101, 2) := by decide +kernel
theorem dX4_init_24 : decode cX4_init 24 = .ok (.newarray .int, 2) := by decide +kernel
theorem dX4_init_26 : decode cX4_init 26 = .ok (.putfield 19, 3) := by decide +kernel
theorem dX4_init_29 : decode cX4_init 29 = .ok (.aload_n 0, 1) := by decide +kernel
theorem dX4_init_30 : decode cX4_init 30 = .ok (.bipush 50, 2) := by decide +kernel
theorem dX4_init_32 : decode cX4_init 32 = .ok (.newarray .int, 2) := by decide +kernel
theorem dX4_init_34 : decode cX4_init 34 = .ok (.putfield 22, 3) := by decide +kernel
theorem dX4_init_37 : decode cX4_init 37 = .ok (.aload_n 0, 1) := by decide +kernel
theorem dX4_init_38 : decode cX4_init 38 = .ok (.new 25, 3) := by decide +kernel
theorem dX4_init_41 : decode cX4_init 41 = .ok (.dup, 1) := by decide +kernel
theorem dX4_init_42 : decode cX4_init 42 = .ok (.ldc 27, 2) := by decide +kernel
theorem dX4_init_44 : decode cX4_init 44 = .ok (.invokespecial 28, 3) := by decide +kernel
theorem dX4_init_47 : decode cX4_init 47 = .ok (.putfield 31, 3) := by decide +kernel
theorem dX4_init_50 : decode cX4_init 50 = .ok (.aload_n 0, 1) := by decide +kernel
theorem dX4_init_51 : decode cX4_init 51 = .ok (.iconst 0, 1) := by decide +kernel
theorem dX4_init_52 : decode cX4_init 52 = .ok (.putfield 35, 3) := by decide +kernel
theorem dX4_init_55 : decode cX4_init 55 = .ok (.aload_n 0, 1) := by decide +kernel
theorem dX4_init_56 : decode cX4_init 56 = .ok (.iconst 0, 1) := by decide +kernel
theorem dX4_init_57 : decode cX4_init 57 = .ok (.putfield 39, 3) := by decide +kernel
theorem dX4_init_60 : decode cX4_init 60 = .ok (.aload_n 0, 1) := by decide +kernel
theorem dX4_init_61 : decode cX4_init 61 = .ok (.bipush 100, 2) := by decide +kernel
theorem dX4_init_63 : decode cX4_init 63 = .ok (.newarray .int, 2) := by decide +kernel
theorem dX4_init_65 : decode cX4_init 65 = .ok (.putfield 43, 3) := by decide +kernel
theorem dX4_init_68 : decode cX4_init 68 = .ok (.aload_n 0, 1) := by decide +kernel
theorem dX4_init_69 : decode cX4_init 69 = .ok (.iconst 0, 1) := by decide +kernel
theorem dX4_init_70 : decode cX4_init 70 = .ok (.putfield 46, 3) := by decide +kernel
theorem dX4_init_73 : decode cX4_init 73 = .ok (.aload_n 0, 1) := by decide +kernel
theorem dX4_init_74 : decode cX4_init 74 = .ok (.iconst 0, 1) := by decide +kernel
theorem dX4_init_75 : decode cX4_init 75 = .ok (.putfield 49, 3) := by decide +kernel
theorem dX4_init_78 : decode cX4_init 78 = .ok (.aload_n 0, 1) := by decide +kernel
theorem dX4_init_79 : decode cX4_init 79 = .ok (.aload_n 1, 1) := by decide +kernel
theorem dX4_init_80 : decode cX4_init 80 = .ok (.putfield 52, 3) := by decide +kernel
theorem dX4_init_83 : decode cX4_init 83 = .ok (.return_, 1) := by decide +kernel
theorem dX4_byteOf_0 : decode cX4_byteOf 0 = .ok (.iload_n 1, 1) := by decide +kernel
theorem dX4_byteOf_1 : decode cX4_byteOf 1 = .ok (.ifCond .lt 11, 3) := by decide +kernel
theorem dX4_byteOf_4 : decode cX4_byteOf 4 = .ok (.iload_n 1, 1) := by decide +kernel
theorem dX4_byteOf_5 : decode cX4_byteOf 5 = .ok (.aload_n 0, 1) := by decide +kernel
theorem dX4_byteOf_6 : decode cX4_byteOf 6 = .ok (.getfield 35, 3) := by decide +kernel
theorem dX4_byteOf_9 : decode cX4_byteOf 9 = .ok (.if_icmp .lt 5, 3) := by decide +kernel
theorem dX4_byteOf_12 : decode cX4_byteOf 12 = .ok (.iconst (-1), 1) := by decide +kernel
theorem dX4_byteOf_13 : decode cX4_byteOf 13 = .ok (.ireturn, 1) := by decide +kernel
theorem dX4_byteOf_14 : decode cX4_byteOf 14 = .ok (.iload_n 1, 1) := by decide +kernel
theorem dX4_byteOf_15 : decode cX4_byteOf 15 = .ok (.ifCond .ne 7, 3) := by decide +kernel
theorem dX4_byteOf_18 : decode cX4_byteOf 18 = .ok (.iconst 0, 1) := by decide +kernel
theorem dX4_byteOf_19 : decode cX4_byteOf 19 = .ok (.goto 11, 3) := by decide +kernel
theorem dX4_byteOf_22 : decode cX4_byteOf 22 = .ok (.aload_n 0, 1) := by decide +kernel
theorem dX4_byteOf_23 : decode cX4_byteOf 23 = .ok (.getfield 22, 3) := by decide +kernel
theorem dX4_byteOf_26 : decode cX4_byteOf 26 = .ok (.iload_n 1, 1) := by decide +kernel
theorem dX4_byteOf_27 : decode cX4_byteOf 27 = .ok (.iconst 1, 1) := by decide +kernel
theorem dX4_byteOf_28 : decode cX4_byteOf 28 = .ok (.isub, 1) := by decide +kernel
theorem dX4_byteOf_29 : decode cX4_byteOf 29 = .ok (.iaload, 1) := by decide +kernel
theorem dX4_byteOf_30 : decode cX4_byteOf 30 = .ok (.istore_n 3, 1) := by decide +kernel
theorem dX4_byteOf_31 : decode cX4_byteOf 31 = .ok (.iload_n 2, 1) := by decide +kernel
theorem dX4_byteOf_32 : decode cX4_byteOf 32 = .ok (.ifCond .lt 15, 3) := by decide +kernel
theorem dX4_byteOf_35 : decode cX4_byteOf 35 = .ok (.iload_n 2, 1) := by decide +kernel
theorem dX4_byteOf_36 : decode cX4_byteOf 36 = .ok (.aload_n 0, 1) := by decide +kernel
theorem dX4_byteOf_37 : decode cX4_byteOf 37 = .ok (.getfield 22, 3) := by decide +kernel
theorem dX4_byteOf_40 : decode cX4_byteOf 40 = .ok (.iload_n 1, 1) := by decide +kernel
theorem dX4_byteOf_41 : decode cX4_byteOf 41 = .ok (.iaload, 1) := by decide +kernel
theorem dX4_byteOf_42 : decode cX4_byteOf 42 = .ok (.iload_n 3, 1) := by decide +kernel
theorem dX4_byteOf_43 : decode cX4_byteOf 43 = .ok (.isub, 1) := by decide +kernel
theorem dX4_byteOf_44 : decode cX4_byteOf 44 = .ok (.if_icmp .lt 7, 3) := by decide +kernel
theorem dX4_byteOf_47 : decode cX4_byteOf 47 = .ok (.iconst (-1), 1) := by decide +kernel
theorem dX4_byteOf_48 : decode cX4_byteOf 48 = .ok (.goto 13, 3) := by decide +kernel
theorem dX4_byteOf_51 : decode cX4_byteOf 51 = .ok (.aload_n 0, 1) := by decide +kernel
theorem dX4_byteOf_52 : decode cX4_byteOf 52 = .ok (.getfield 31, 3) := by decide +kernel
theorem dX4_byteOf_55 : decode cX4_byteOf 55 = .ok (.iload_n 3, 1) := by decide +kernel
theorem dX4_byteOf_56 : decode cX4_byteOf 56 = .ok (.iload_n 2, 1) := by decide +kernel
theorem dX4_byteOf_57 : decode cX4_byteOf 57 = .ok (.iadd, 1) := by decide +kernel
theorem dX4_byteOf_58 : decode cX4_byteOf 58 = .ok (.invokevirtual 56, 3) := by decide +kernel
theorem dX4_byteOf_61 : decode cX4_byteOf 61 = .ok (.ireturn, 1) := by decide +kernel
theorem dX6_init_0 : decode cX6_init 0 = .ok (.aload_n 0, 1) := by decide +kernel
theorem dX6_init_1 : decode cX6_init 1 = .ok (.invokespecial 3, 3) := by decide +kernel
theorem dX6_init_4 : decode cX6_init 4 = .ok (.aload_n 0, 1) := by decide +kernel
theorem dX6_init_5 : decode cX6_init 5 = .ok (.sipush 500, 3) := by decide +kernel
theorem dX6_init_8 : decode cX6_init 8 = .ok (.newarray .int, 2) := by decide +kernel
theorem dX6_init_10 : decode cX6_init 10 = .ok (.putfield 9, 3) := by decide +kernel
theorem dX6_init_13 : decode cX6_init 13 = .ok (.aload_n 0, 1) := by decide +kernel
theorem dX6_init_14 : decode cX6_init 14 = .ok (.sipush 500, 3) := by decide +kernel
theorem dX6_init_17 : decode cX6_init 17 = .ok (.newarray .int, 2) := by decide +kernel
theorem dX6_init_19 : decode cX6_init 19 = .ok (.putfield 15, 3) := by decide +kernel
theorem dX6_init_22 : decode cX6_init 22 = .ok (.aload_n 0, 1) := by decide +kernel
theorem dX6_init_23 : decode cX6_init 23 = .ok (.sipush 500, 3) := by decide +kernel
theorem dX6_init_26 : decode cX6_init 26 = .ok (.newarray .boolean, 2) := by decide +kernel
theorem dX6_init_28 : decode cX6_init 28 = .ok (.putfield 18, 3) := by decide +kernel
theorem dX6_init_31 : decode cX6_init 31 = .ok (.aload_n 0, 1) := by decide +kernel
theorem dX6_init_32 : decode cX6_init 32 = .ok (.sipush 500, 3) := by decide +kernel
theorem dX6_init_35 : decode cX6_init 35 = .ok (.newarray .int, 2) := by decide +kernel
theorem dX6_init_37 : decode cX6_init 37 = .ok (.putfield 22, 3) := by decide +kernel
theorem dX6_init_40 : decode cX6_init 40 = .ok (.aload_n 0, 1) := by decide +kernel
theorem dX6_init_41 : decode cX6_init 41 = .ok (.iconst 0, 1) := by decide +kernel
theorem dX6_init_42 : decode cX6_init 42 = .ok (.putfield 25, 3) := by decide +kernel
theorem dX6_init_45 : decode cX6_init 45 = .ok (.aload_n 0, 1) := by decide +kernel
theorem dX6_init_46 : decode cX6_init 46 = .ok (.iconst 0, 1) := by decide +kernel
theorem dX6_init_47 : decode cX6_init 47 = .ok (.putfield 29, 3) := by decide +kernel
theorem dX6_init_50 : decode cX6_init 50 = .ok (.aload_n 0, 1) := by decide +kernel
theorem dX6_init_51 : decode cX6_init 51 = .ok (.sipush 200, 3) := by decide +kernel
theorem dX6_init_54 : decode cX6_init 54 = .ok (.newarray .int, 2) := by decide +kernel
theorem dX6_init_56 : decode cX6_init 56 = .ok (.putfield 33, 3) := by decide +kernel
theorem dX6_init_59 : decode cX6_init 59 = .ok (.aload_n 0, 1) := by decide +kernel
theorem dX6_init_60 : decode cX6_init 60 = .ok (.iconst 0, 1) := by decide +kernel
theorem dX6_init_61 : decode cX6_init 61 = .ok (.putfield 36, 3) := by decide +kernel
theorem dX6_init_64 : decode cX6_init 64 = .ok (.aload_n 0, 1) := by decide +kernel
theorem dX6_init_65 : decode cX6_init 65 = .ok (.iconst 5, 1) := by decide +kernel
theorem dX6_init_66 : decode cX6_init 66 = .ok (.newarray .int, 2) := by decide +kernel
theorem dX6_init_68 : decode cX6_init 68 = .ok (.putfield 39, 3) := by decide +kernel
theorem dX6_init_71 : decode cX6_init 71 = .ok (.aload_n 0, 1) := by decide +kernel
theorem dX6_init_72 : decode cX6_init 72 = .ok (.iconst 0, 1) := by decide +kernel
theorem dX6_init_73 : decode cX6_init 73 = .ok (.putfield 42, 3) := by decide +kernel
theorem dX6_init_76 : decode cX6_init 76 = .ok (.aload_n 0, 1) := by decide +kernel
theorem dX6_init_77 : decode cX6_init 77 = .ok (.iconst 0, 1) := by decide +kernel
theorem dX6_init_78 : decode cX6_init 78 = .ok (.putfield 45, 3) := by decide +kernel
theorem dX6_init_81 : decode cX6_init 81 = .ok (.aload_n 0, 1) := by decide +kernel
theorem dX6_init_82 : decode cX6_init 82 = .ok (.iconst 0, 1) := by decide +kernel
theorem dX6_init_83 : decode cX6_init 83 = .ok (.putfield 48, 3) := by decide +kernel
theorem dX6_init_86 : decode cX6_init 86 = .ok (.return_, 1) := by decide +kernel
theorem dX6_clear_0 : decode cX6_clear 0 = .ok (.aload_n 0, 1) := by decide +kernel
theorem dX6_clear_1 : decode cX6_clear 1 = .ok (.iconst 0, 1) := by decide +kernel
theorem dX6_clear_2 : decode cX6_clear 2 = .ok (.putfield 25, 3) := by decide +kernel
theorem dX6_clear_5 : decode cX6_clear 5 = .ok (.aload_n 0, 1) := by decide +kernel
theorem dX6_clear_6 : decode cX6_clear 6 = .ok (.iconst 0, 1) := by decide +kernel
theorem dX6_clear_7 : decode cX6_clear 7 = .ok (.putfield 29, 3) := by decide +kernel
theorem dX6_clear_10 : decode cX6_clear 10 = .ok (.return_, 1) := by decide +kernel
theorem dX6_findsOf_0 : decode cX6_findsOf 0 = .ok (.iload_n 1, 1) := by decide +kernel
theorem dX6_findsOf_1 : decode cX6_findsOf 1 = .ok (.ifCond .lt 21, 3) := by decide +kernel
theorem dX6_findsOf_4 : decode cX6_findsOf 4 = .ok (.iload_n 1, 1) := by decide +kernel
theorem dX6_findsOf_5 : decode cX6_findsOf 5 = .ok (.aload_n 0, 1) := by decide +kernel
theorem dX6_findsOf_6 : decode cX6_findsOf 6 = .ok (.getfield 39, 3) := by decide +kernel
theorem dX6_findsOf_9 : decode cX6_findsOf 9 = .ok (.arraylength, 1) := by decide +kernel
theorem dX6_findsOf_10 : decode cX6_findsOf 10 = .ok (.if_icmp .ge 12, 3) := by decide +kernel
theorem dX6_findsOf_13 : decode cX6_findsOf 13 = .ok (.aload_n 0, 1) := by decide +kernel
theorem dX6_findsOf_14 : decode cX6_findsOf 14 = .ok (.getfield 39, 3) := by decide +kernel
theorem dX6_findsOf_17 : decode cX6_findsOf 17 = .ok (.iload_n 1, 1) := by decide +kernel
theorem dX6_findsOf_18 : decode cX6_findsOf 18 = .ok (.iaload, 1) := by decide +kernel
theorem dX6_findsOf_19 : decode cX6_findsOf 19 = .ok (.goto 4, 3) := by decide +kernel
theorem dX6_findsOf_22 : decode cX6_findsOf 22 = .ok (.iconst 0, 1) := by decide +kernel
theorem dX6_findsOf_23 : decode cX6_findsOf 23 = .ok (.ireturn, 1) := by decide +kernel
theorem dX7_init_0 : decode cX7_init 0 = .ok (.aload_n 0, 1) := by decide +kernel
theorem dX7_init_1 : decode cX7_init 1 = .ok (.invokespecial 3, 3) := by decide +kernel
theorem dX7_init_4 : decode cX7_init 4 = .ok (.aload_n 0, 1) := by decide +kernel
theorem dX7_init_5 : decode cX7_init 5 = .ok (.sipush 200, 3) := by decide +kernel
theorem dX7_init_8 : decode cX7_init 8 = .ok (.anewarray 9, 3) := by decide +kernel
theorem dX7_init_11 : decode cX7_init 11 = .ok (.putfield 11, 3) := by decide +kernel
theorem dX7_init_14 : decode cX7_init 14 = .ok (.aload_n 0, 1) := by decide +kernel
theorem dX7_init_15 : decode cX7_init 15 = .ok (.iconst 0, 1) := by decide +kernel
theorem dX7_init_16 : decode cX7_init 16 = .ok (.putfield 17, 3) := by decide +kernel
theorem dX7_init_19 : decode cX7_init 19 = .ok (.aload_n 0, 1) := by decide +kernel
theorem dX7_init_20 : decode cX7_init 20 = .ok (.iconst 0, 1) := by decide +kernel
theorem dX7_init_21 : decode cX7_init 21 = .ok (.putfield 21, 3) := by decide +kernel
theorem dX7_init_24 : decode cX7_init 24 = .ok (.return_, 1) := by decide +kernel
theorem dX7_at_0 : decode cX7_at 0 = .ok (.iload_n 1, 1) := by decide +kernel
theorem dX7_at_1 : decode cX7_at 1 = .ok (.ifCond .lt 20, 3) := by decide +kernel
theorem dX7_at_4 : decode cX7_at 4 = .ok (.iload_n 1, 1) := by decide +kernel
theorem dX7_at_5 : decode cX7_at 5 = .ok (.aload_n 0, 1) := by decide +kernel
theorem dX7_at_6 : decode cX7_at 6 = .ok (.getfield 17, 3) := by decide +kernel
theorem dX7_at_9 : decode cX7_at 9 = .ok (.if_icmp .ge 12, 3) := by decide +kernel
theorem dX7_at_12 : decode cX7_at 12 = .ok (.aload_n 0, 1) := by decide +kernel
theorem dX7_at_13 : decode cX7_at 13 = .ok (.getfield 11, 3) := by decide +kernel
theorem dX7_at_16 : decode cX7_at 16 = .ok (.iload_n 1, 1) := by decide +kernel
theorem dX7_at_17 : decode cX7_at 17 = .ok (.aaload, 1) := by decide +kernel
theorem dX7_at_18 : decode cX7_at 18 = .ok (.goto 4, 3) := by decide +kernel
theorem dX7_at_21 : decode cX7_at 21 = .ok (.aconst_null, 1) := by decide +kernel
theorem dX7_at_22 : decode cX7_at 22 = .ok (.areturn, 1) := by decide +kernel
theorem dX7_present_0 : decode cX7_present 0 = .ok (.aload_n 0, 1) := by decide +kernel
theorem dX7_present_1 : decode cX7_present 1 = .ok (.iload_n 1, 1) := by decide +kernel
theorem dX7_present_2 : decode cX7_present 2 = .ok (.invokevirtual 24, 3) := by decide +kernel
theorem dX7_present_5 : decode cX7_present 5 = .ok (.astore_n 2, 1) := by decide +kernel
theorem dX7_present_6 : decode cX7_present 6 = .ok (.aload_n 2, 1) := by decide +kernel
theorem dX7_present_7 : decode cX7_present 7 = .ok (.ifnull 10, 3) := by decide +kernel
theorem dX7_present_10 : decode cX7_present 10 = .ok (.aload_n 2, 1) := by decide +kernel
theorem dX7_present_11 : decode cX7_present 11 = .ok (.getfield 28, 3) := by decide +kernel
theorem dX7_present_14 : decode cX7_present 14 = .ok (.ifCond .eq 7, 3) := by decide +kernel
theorem dX7_present_17 : decode cX7_present 17 = .ok (.aconst_null, 1) := by decide +kernel
theorem dX7_present_18 : decode cX7_present 18 = .ok (.goto 4, 3) := by decide +kernel
theorem dX7_present_21 : decode cX7_present 21 = .ok (.aload_n 2, 1) := by decide +kernel
theorem dX7_present_22 : decode cX7_present 22 = .ok (.areturn, 1) := by decide +kernel
theorem dX7_whyNone_0 : decode cX7_whyNone 0 = .ok (.aload_n 0, 1) := by decide +kernel
theorem dX7_whyNone_1 : decode cX7_whyNone 1 = .ok (.iload_n 1, 1) := by decide +kernel
theorem dX7_whyNone_2 : decode cX7_whyNone 2 = .ok (.invokevirtual 24, 3) := by decide +kernel
theorem dX7_whyNone_5 : decode cX7_whyNone 5 = .ok (.ifnonnull 7, 3) := by decide +kernel
theorem dX7_whyNone_8 : decode cX7_whyNone 8 = .ok (.iconst 2, 1) := by decide +kernel
theorem dX7_whyNone_9 : decode cX7_whyNone 9 = .ok (.goto 4, 3) := by decide +kernel
theorem dX7_whyNone_12 : decode cX7_whyNone 12 = .ok (.iconst 1, 1) := by decide +kernel
theorem dX7_whyNone_13 : decode cX7_whyNone 13 = .ok (.ireturn, 1) := by decide +kernel
theorem dX7_goOver_0 : decode cX7_goOver 0 = .ok (.iload_n 1, 1) := by decide +kernel
theorem dX7_goOver_1 : decode cX7_goOver 1 = .ok (.istore_n 2, 1) := by decide +kernel
theorem dX7_goOver_2 : decode cX7_goOver 2 = .ok (.iconst 0, 1) := by decide +kernel
theorem dX7_goOver_3 : decode cX7_goOver 3 = .ok (.istore_n 3, 1) := by decide +kernel
theorem dX7_goOver_4 : decode cX7_goOver 4 = .ok (.iload_n 3, 1) := by decide +kernel
theorem dX7_goOver_5 : decode cX7_goOver 5 = .ok (.aload_n 0, 1) := by decide +kernel
theorem dX7_goOver_6 : decode cX7_goOver 6 = .ok (.getfield 17, 3) := by decide +kernel
theorem dX7_goOver_9 : decode cX7_goOver 9 = .ok (.if_icmp .ge 74, 3) := by decide +kernel
theorem dX7_goOver_12 : decode cX7_goOver 12 = .ok (.aload_n 0, 1) := by decide +kernel
theorem dX7_goOver_13 : decode cX7_goOver 13 = .ok (.iload_n 3, 1) := by decide +kernel
theorem dX7_goOver_14 : decode cX7_goOver 14 = .ok (.invokevirtual 61, 3) := by decide +kernel
theorem dX7_goOver_17 : decode cX7_goOver 17 = .ok (.astore 4, 2) := by decide +kernel
theorem dX7_goOver_19 : decode cX7_goOver 19 = .ok (.iload_n 2, 1) := by decide +kernel
theorem dX7_goOver_20 : decode cX7_goOver 20 = .ok (.bipush 31, 2) := by decide +kernel
theorem dX7_goOver_22 : decode cX7_goOver 22 = .ok (.imul, 1) := by decide +kernel
theorem dX7_goOver_23 : decode cX7_goOver 23 = .ok (.aload 4, 2) := by decide +kernel
theorem dX7_goOver_25 : decode cX7_goOver 25 = .ok (.ifnonnull 7, 3) := by decide +kernel
theorem dX7_goOver_28 : decode cX7_goOver 28 = .ok (.iconst (-1), 1) := by decide +kernel
theorem dX7_goOver_29 : decode cX7_goOver 29 = .ok (.goto 8, 3) := by decide +kernel
theorem dX7_goOver_32 : decode cX7_goOver 32 = .ok (.aload 4, 2) := by decide +kernel
theorem dX7_goOver_34 : decode cX7_goOver 34 = .ok (.getfield 36, 3) := by decide +kernel
theorem dX7_goOver_37 : decode cX7_goOver 37 = .ok (.iadd, 1) := by decide +kernel
theorem dX7_goOver_38 : decode cX7_goOver 38 = .ok (.istore_n 2, 1) := by decide +kernel
theorem dX7_goOver_39 : decode cX7_goOver 39 = .ok (.iconst 0, 1) := by decide +kernel
theorem dX7_goOver_40 : decode cX7_goOver 40 = .ok (.istore 5, 2) := by decide +kernel
theorem dX7_goOver_42 : decode cX7_goOver 42 = .ok (.aload 4, 2) := by decide +kernel
theorem dX7_goOver_44 : decode cX7_goOver 44 = .ok (.ifnull 33, 3) := by decide +kernel
theorem dX7_goOver_47 : decode cX7_goOver 47 = .ok (.iload 5, 2) := by decide +kernel
theorem dX7_goOver_49 : decode cX7_goOver 49 = .ok (.aload 4, 2) := by decide +kernel
theorem dX7_goOver_51 : decode cX7_goOver 51 = .ok (.getfield 36, 3) := by decide +kernel
theorem dX7_goOver_54 : decode cX7_goOver 54 = .ok (.if_icmp .ge 23, 3) := by decide +kernel
theorem dX7_goOver_57 : decode cX7_goOver 57 = .ok (.iload_n 2, 1) := by decide +kernel
theorem dX7_goOver_58 : decode cX7_goOver 58 = .ok (.bipush 31, 2) := by decide +kernel
theorem dX7_goOver_60 : decode cX7_goOver 60 = .ok (.imul, 1) := by decide +kernel
theorem dX7_goOver_61 : decode cX7_goOver 61 = .ok (.aload 4, 2) := by decide +kernel
theorem dX7_goOver_63 : decode cX7_goOver 63 = .ok (.getfield 64, 3) := by decide +kernel
theorem dX7_goOver_66 : decode cX7_goOver 66 = .ok (.iload 5, 2) := by decide +kernel
theorem dX7_goOver_68 : decode cX7_goOver 68 = .ok (.iaload, 1) := by decide +kernel
theorem dX7_goOver_69 : decode cX7_goOver 69 = .ok (.iadd, 1) := by decide +kernel
theorem dX7_goOver_70 : decode cX7_goOver 70 = .ok (.istore_n 2, 1) := by decide +kernel
theorem dX7_goOver_71 : decode cX7_goOver 71 = .ok (.iinc 5 1, 3) := by decide +kernel
theorem dX7_goOver_74 : decode cX7_goOver 74 = .ok (.goto (-32), 3) := by decide +kernel
theorem dX7_goOver_77 : decode cX7_goOver 77 = .ok (.iinc 3 1, 3) := by decide +kernel
theorem dX7_goOver_80 : decode cX7_goOver 80 = .ok (.goto (-76), 3) := by decide +kernel
theorem dX7_goOver_83 : decode cX7_goOver 83 = .ok (.iload_n 2, 1) := by decide +kernel
theorem dX7_goOver_84 : decode cX7_goOver 84 = .ok (.ireturn, 1) := by decide +kernel
theorem dX8_init_0 : decode cX8_init 0 = .ok (.aload_n 0, 1) := by decide +kernel
theorem dX8_init_1 : decode cX8_init 1 = .ok (.invokespecial 3, 3) := by decide +kernel
theorem dX8_init_4 : decode cX8_init 4 = .ok (.aload_n 0, 1) := by decide +kernel
theorem dX8_init_5 : decode cX8_init 5 = .ok (.iconst 0, 1) := by decide +kernel
theorem dX8_init_6 : decode cX8_init 6 = .ok (.putfield 9, 3) := by decide +kernel
theorem dX8_init_9 : decode cX8_init 9 = .ok (.aload_n 0, 1) := by decide +kernel
theorem dX8_init_10 : decode cX8_init 10 = .ok (.iconst 0, 1) := by decide +kernel
theorem dX8_init_11 : decode cX8_init 11 = .ok (.putfield 15, 3) := by decide +kernel
theorem dX8_init_14 : decode cX8_init 14 = .ok (.aload_n 0, 1) := by decide +kernel
theorem dX8_init_15 : decode cX8_init 15 = .ok (.iconst 0, 1) := by decide +kernel
theorem dX8_init_16 : decode cX8_init 16 = .ok (.putfield 19, 3) := by decide +kernel
theorem dX8_init_19 : decode cX8_init 19 = .ok (.aload_n 0, 1) := by decide +kernel
theorem dX8_init_20 : decode cX8_init 20 = .ok (.bipush 126, 2) := by decide +kernel
theorem dX8_init_22 : decode cX8_init 22 = .ok (.newarray .boolean, 2) := by decide +kernel
theorem dX8_init_24 : decode cX8_init 24 = .ok (.putfield 22, 3) := by decide +kernel
theorem dX8_init_27 : decode cX8_init 27 = .ok (.aload_n 0, 1) := by decide +kernel
theorem dX8_init_28 : decode cX8_init 28 = .ok (.bipush 126, 2) := by decide +kernel
theorem dX8_init_30 : decode cX8_init 30 = .ok (.newarray .int, 2) := by decide +kernel
theorem dX8_init_32 : decode cX8_init 32 = .ok (.putfield 26, 3) := by decide +kernel
theorem dX8_init_35 : decode cX8_init 35 = .ok (.aload_n 0, 1) := by decide +kernel
theorem dX8_init_36 : decode cX8_init 36 = .ok (.iconst 0, 1) := by decide +kernel
theorem dX8_init_37 : decode cX8_init 37 = .ok (.putfield 30, 3) := by decide +kernel
theorem dX8_init_40 : decode cX8_init 40 = .ok (.aload_n 0, 1) := by decide +kernel
theorem dX8_init_41 : decode cX8_init 41 = .ok (.bipush 6, 2) := by decide +kernel
theorem dX8_init_43 : decode cX8_init 43 = .ok (.newarray .int, 2) := by decide +kernel
theorem dX8_init_45 : decode cX8_init 45 = .ok (.putfield 33, 3) := by decide +kernel
theorem dX8_init_48 : decode cX8_init 48 = .ok (.aload_n 0, 1) := by decide +kernel
theorem dX8_init_49 : decode cX8_init 49 = .ok (.iconst 0, 1) := by decide +kernel
theorem dX8_init_50 : decode cX8_init 50 = .ok (.putfield 36, 3) := by decide +kernel
theorem dX8_init_53 : decode cX8_init 53 = .ok (.return_, 1) := by decide +kernel
theorem dX9_init_0 : decode cX9_init 0 = .ok (.aload_n 0, 1) := by decide +kernel
theorem dX9_init_1 : decode cX9_init 1 = .ok (.invokespecial 3, 3) := by decide +kernel
theorem dX9_init_4 : decode cX9_init 4 = .ok (.aload_n 0, 1) := by decide +kernel
theorem dX9_init_5 : decode cX9_init 5 = .ok (.new 9, 3) := by decide +kernel
theorem dX9_init_8 : decode cX9_init 8 = .ok (.dup, 1) := by decide +kernel
theorem dX9_init_9 : decode cX9_init 9 = .ok (.invokespecial 11, 3) := by decide +kernel
theorem dX9_init_12 : decode cX9_init 12 = .ok (.putfield 12, 3) := by decide +kernel
theorem dX9_init_15 : decode cX9_init 15 = .ok (.aload_n 0, 1) := by decide +kernel
theorem dX9_init_16 : decode cX9_init 16 = .ok (.new 18, 3) := by decide +kernel
theorem dX9_init_19 : decode cX9_init 19 = .ok (.dup, 1) := by decide +kernel
theorem dX9_init_20 : decode cX9_init 20 = .ok (.sipush 200, 3) := by decide +kernel
theorem dX9_init_23 : decode cX9_init 23 = .ok (.invokespecial 20, 3) := by decide +kernel
theorem dX9_init_26 : decode cX9_init 26 = .ok (.putfield 23, 3) := by decide +kernel
theorem dX9_init_29 : decode cX9_init 29 = .ok (.aload_n 0, 1) := by decide +kernel
theorem dX9_init_30 : decode cX9_init 30 = .ok (.iconst 4, 1) := by decide +kernel
theorem dX9_init_31 : decode cX9_init 31 = .ok (.anewarray 27, 3) := by decide +kernel
theorem dX9_init_34 : decode cX9_init 34 = .ok (.putfield 29, 3) := by decide +kernel
theorem dX9_init_37 : decode cX9_init 37 = .ok (.aload_n 0, 1) := by decide +kernel
theorem dX9_init_38 : decode cX9_init 38 = .ok (.iconst 0, 1) := by decide +kernel
theorem dX9_init_39 : decode cX9_init 39 = .ok (.putfield 33, 3) := by decide +kernel
theorem dX9_init_42 : decode cX9_init 42 = .ok (.aload_n 0, 1) := by decide +kernel
theorem dX9_init_43 : decode cX9_init 43 = .ok (.iload_n 1, 1) := by decide +kernel
theorem dX9_init_44 : decode cX9_init 44 = .ok (.putfield 37, 3) := by decide +kernel
theorem dX9_init_47 : decode cX9_init 47 = .ok (.aload_n 0, 1) := by decide +kernel
theorem dX9_init_48 : decode cX9_init 48 = .ok (.iload_n 2, 1) := by decide +kernel
theorem dX9_init_49 : decode cX9_init 49 = .ok (.putfield 41, 3) := by decide +kernel
theorem dX9_init_52 : decode cX9_init 52 = .ok (.aload_n 0, 1) := by decide +kernel
theorem dX9_init_53 : decode cX9_init 53 = .ok (.aload_n 3, 1) := by decide +kernel
theorem dX9_init_54 : decode cX9_init 54 = .ok (.putfield 44, 3) := by decide +kernel
theorem dX9_init_57 : decode cX9_init 57 = .ok (.aload_n 0, 1) := by decide +kernel
theorem dX9_init_58 : decode cX9_init 58 = .ok (.aload 4, 2) := by decide +kernel
theorem dX9_init_60 : decode cX9_init 60 = .ok (.putfield 48, 3) := by decide +kernel
theorem dX9_init_63 : decode cX9_init 63 = .ok (.return_, 1) := by decide +kernel
theorem dX10_init_0 : decode cX10_init 0 = .ok (.aload_n 0, 1) := by decide +kernel
theorem dX10_init_1 : decode cX10_init 1 = .ok (.invokespecial 3, 3) := by decide +kernel
theorem dX10_init_4 : decode cX10_init 4 = .ok (.aload_n 0, 1) := by decide +kernel
theorem dX10_init_5 : decode cX10_init 5 = .ok (.new 9, 3) := by decide +kernel
theorem dX10_init_8 : decode cX10_init 8 = .ok (.dup, 1) := by decide +kernel
theorem dX10_init_9 : decode cX10_init 9 = .ok (.invokespecial 11, 3) := by decide +kernel
theorem dX10_init_12 : decode cX10_init 12 = .ok (.putfield 12, 3) := by decide +kernel
theorem dX10_init_15 : decode cX10_init 15 = .ok (.aload_n 0, 1) := by decide +kernel
theorem dX10_init_16 : decode cX10_init 16 = .ok (.new 9, 3) := by decide +kernel
theorem dX10_init_19 : decode cX10_init 19 = .ok (.dup, 1) := by decide +kernel
theorem dX10_init_20 : decode cX10_init 20 = .ok (.invokespecial 11, 3) := by decide +kernel
theorem dX10_init_23 : decode cX10_init 23 = .ok (.putfield 18, 3) := by decide +kernel
theorem dX10_init_26 : decode cX10_init 26 = .ok (.return_, 1) := by decide +kernel
theorem dX10_isFull_0 : decode cX10_isFull 0 = .ok (.aload_n 0, 1) := by decide +kernel
theorem dX10_isFull_1 : decode cX10_isFull 1 = .ok (.getfield 12, 3) := by decide +kernel
theorem dX10_isFull_4 : decode cX10_isFull 4 = .ok (.invokevirtual 21, 3) := by decide +kernel
theorem dX10_isFull_7 : decode cX10_isFull 7 = .ok (.bipush 30, 2) := by decide +kernel
theorem dX10_isFull_9 : decode cX10_isFull 9 = .ok (.if_icmp .lt 7, 3) := by decide +kernel
theorem dX10_isFull_12 : decode cX10_isFull 12 = .ok (.iconst 1, 1) := by decide +kernel
theorem dX10_isFull_13 : decode cX10_isFull 13 = .ok (.goto 4, 3) := by decide +kernel
theorem dX10_isFull_16 : decode cX10_isFull 16 = .ok (.iconst 0, 1) := by decide +kernel
theorem dX10_isFull_17 : decode cX10_isFull 17 = .ok (.ireturn, 1) := by decide +kernel
theorem dX10_alive_0 : decode cX10_alive 0 = .ok (.iload_n 1, 1) := by decide +kernel
theorem dX10_alive_1 : decode cX10_alive 1 = .ok (.ifCond .lt 14, 3) := by decide +kernel
theorem dX10_alive_4 : decode cX10_alive 4 = .ok (.iload_n 1, 1) := by decide +kernel
theorem dX10_alive_5 : decode cX10_alive 5 = .ok (.aload_n 0, 1) := by decide +kernel
theorem dX10_alive_6 : decode cX10_alive 6 = .ok (.getfield 12, 3) := by decide +kernel
theorem dX10_alive_9 : decode cX10_alive 9 = .ok (.invokevirtual 21, 3) := by decide +kernel
theorem dX10_alive_12 : decode cX10_alive 12 = .ok (.if_icmp .lt 5, 3) := by decide +kernel
theorem dX10_alive_15 : decode cX10_alive 15 = .ok (.aconst_null, 1) := by decide +kernel
theorem dX10_alive_16 : decode cX10_alive 16 = .ok (.areturn, 1) := by decide +kernel
theorem dX10_alive_17 : decode cX10_alive 17 = .ok (.aload_n 0, 1) := by decide +kernel
theorem dX10_alive_18 : decode cX10_alive 18 = .ok (.getfield 12, 3) := by decide +kernel
theorem dX10_alive_21 : decode cX10_alive 21 = .ok (.iload_n 1, 1) := by decide +kernel
theorem dX10_alive_22 : decode cX10_alive 22 = .ok (.invokevirtual 25, 3) := by decide +kernel
theorem dX10_alive_25 : decode cX10_alive 25 = .ok (.checkcast 29, 3) := by decide +kernel
theorem dX10_alive_28 : decode cX10_alive 28 = .ok (.astore_n 2, 1) := by decide +kernel
theorem dX10_alive_29 : decode cX10_alive 29 = .ok (.aload_n 2, 1) := by decide +kernel
theorem dX10_alive_30 : decode cX10_alive 30 = .ok (.getfield 31, 3) := by decide +kernel
theorem dX10_alive_33 : decode cX10_alive 33 = .ok (.ifCond .eq 7, 3) := by decide +kernel
theorem dX10_alive_36 : decode cX10_alive 36 = .ok (.aconst_null, 1) := by decide +kernel
theorem dX10_alive_37 : decode cX10_alive 37 = .ok (.goto 4, 3) := by decide +kernel
theorem dX10_alive_40 : decode cX10_alive 40 = .ok (.aload_n 2, 1) := by decide +kernel
theorem dX10_alive_41 : decode cX10_alive 41 = .ok (.areturn, 1) := by decide +kernel
theorem dX10_whole_0 : decode cX10_whole 0 = .ok (.aload_n 0, 1) := by decide +kernel
theorem dX10_whole_1 : decode cX10_whole 1 = .ok (.iload_n 1, 1) := by decide +kernel
theorem dX10_whole_2 : decode cX10_whole 2 = .ok (.invokevirtual 35, 3) := by decide +kernel
theorem dX10_whole_5 : decode cX10_whole 5 = .ok (.astore_n 2, 1) := by decide +kernel
theorem dX10_whole_6 : decode cX10_whole 6 = .ok (.aload_n 2, 1) := by decide +kernel
theorem dX10_whole_7 : decode cX10_whole 7 = .ok (.ifnull 14, 3) := by decide +kernel
theorem dX10_whole_10 : decode cX10_whole 10 = .ok (.aload_n 2, 1) := by decide +kernel
theorem dX10_whole_11 : decode cX10_whole 11 = .ok (.invokevirtual 39, 3) := by decide +kernel
theorem dX10_whole_14 : decode cX10_whole 14 = .ok (.ifCond .eq 7, 3) := by decide +kernel
theorem dX10_whole_17 : decode cX10_whole 17 = .ok (.aload_n 2, 1) := by decide +kernel
theorem dX10_whole_18 : decode cX10_whole 18 = .ok (.goto 4, 3) := by decide +kernel
theorem dX10_whole_21 : decode cX10_whole 21 = .ok (.aconst_null, 1) := by decide +kernel
theorem dX10_whole_22 : decode cX10_whole 22 = .ok (.areturn, 1) := by decide +kernel
theorem dX10_make_0 : decode cX10_make 0 = .ok (.aload_n 0, 1) := by decide +kernel
theorem dX10_make_1 : decode cX10_make 1 = .ok (.getfield 12, 3) := by decide +kernel
theorem dX10_make_4 : decode cX10_make 4 = .ok (.aload_n 1, 1) := by decide +kernel
theorem dX10_make_5 : decode cX10_make 5 = .ok (.invokevirtual 43, 3) := by decide +kernel
theorem dX10_make_8 : decode cX10_make 8 = .ok (.pop, 1) := by decide +kernel
theorem dX10_make_9 : decode cX10_make 9 = .ok (.aload_n 0, 1) := by decide +kernel
theorem dX10_make_10 : decode cX10_make 10 = .ok (.new 47, 3) := by decide +kernel
theorem dX10_make_13 : decode cX10_make 13 = .ok (.dup, 1) := by decide +kernel
theorem dX10_make_14 : decode cX10_make 14 = .ok (.iconst 0, 1) := by decide +kernel
theorem dX10_make_15 : decode cX10_make 15 = .ok (.aload_n 1, 1) := by decide +kernel
theorem dX10_make_16 : decode cX10_make 16 = .ok (.aconst_null, 1) := by decide +kernel
theorem dX10_make_17 : decode cX10_make 17 = .ok (.iconst 0, 1) := by decide +kernel
theorem dX10_make_18 : decode cX10_make 18 = .ok (.invokespecial 49, 3) := by decide +kernel
theorem dX10_make_21 : decode cX10_make 21 = .ok (.invokevirtual 52, 3) := by decide +kernel
theorem dX10_make_24 : decode cX10_make 24 = .ok (.aload_n 0, 1) := by decide +kernel
theorem dX10_make_25 : decode cX10_make 25 = .ok (.getfield 12, 3) := by decide +kernel
theorem dX10_make_28 : decode cX10_make 28 = .ok (.invokevirtual 21, 3) := by decide +kernel
theorem dX10_make_31 : decode cX10_make 31 = .ok (.iconst 1, 1) := by decide +kernel
theorem dX10_make_32 : decode cX10_make 32 = .ok (.isub, 1) := by decide +kernel
theorem dX10_make_33 : decode cX10_make 33 = .ok (.ireturn, 1) := by decide +kernel
theorem dX10_remember_0 : decode cX10_remember 0 = .ok (.aload_n 0, 1) := by decide +kernel
theorem dX10_remember_1 : decode cX10_remember 1 = .ok (.getfield 18, 3) := by decide +kernel
theorem dX10_remember_4 : decode cX10_remember 4 = .ok (.invokevirtual 21, 3) := by decide +kernel
theorem dX10_remember_7 : decode cX10_remember 7 = .ok (.sipush 512, 3) := by decide +kernel
theorem dX10_remember_10 : decode cX10_remember 10 = .ok (.if_icmp .lt 12, 3) := by decide +kernel
theorem dX10_remember_13 : decode cX10_remember 13 = .ok (.aload_n 0, 1) := by decide +kernel
theorem dX10_remember_14 : decode cX10_remember 14 = .ok (.getfield 18, 3) := by decide +kernel
theorem dX10_remember_17 : decode cX10_remember 17 = .ok (.iconst 0, 1) := by decide +kernel
theorem dX10_remember_18 : decode cX10_remember 18 = .ok (.invokevirtual 56, 3) := by decide +kernel
theorem dX10_remember_21 : decode cX10_remember 21 = .ok (.pop, 1) := by decide +kernel
theorem dX10_remember_22 : decode cX10_remember 22 = .ok (.aload_n 0, 1) := by decide +kernel
theorem dX10_remember_23 : decode cX10_remember 23 = .ok (.getfield 18, 3) := by decide +kernel
theorem dX10_remember_26 : decode cX10_remember 26 = .ok (.aload_n 1, 1) := by decide +kernel
theorem dX10_remember_27 : decode cX10_remember 27 = .ok (.invokevirtual 43, 3) := by decide +kernel
theorem dX10_remember_30 : decode cX10_remember 30 = .ok (.pop, 1) := by decide +kernel
theorem dX10_remember_31 : decode cX10_remember 31 = .ok (.return_, 1) := by decide +kernel
theorem dX10_takeBack_0 : decode cX10_takeBack 0 = .ok (.aload_n 0, 1) := by decide +kernel
theorem dX10_takeBack_1 : decode cX10_takeBack 1 = .ok (.getfield 18, 3) := by decide +kernel
theorem dX10_takeBack_4 : decode cX10_takeBack 4 = .ok (.invokevirtual 59, 3) := by decide +kernel
theorem dX10_takeBack_7 : decode cX10_takeBack 7 = .ok (.ifCond .eq 5, 3) := by decide +kernel
theorem dX10_takeBack_10 : decode cX10_takeBack 10 = .ok (.iconst 0, 1) := by decide +kernel
theorem dX10_takeBack_11 : decode cX10_takeBack 11 = .ok (.ireturn, 1) := by decide +kernel
theorem dX10_takeBack_12 : decode cX10_takeBack 12 = .ok (.aload_n 0, 1) := by decide +kernel
theorem dX10_takeBack_13 : decode cX10_takeBack 13 = .ok (.getfield 18, 3) := by decide +kernel
theorem dX10_takeBack_16 : decode cX10_takeBack 16 = .ok (.aload_n 0, 1) := by decide +kernel
theorem dX10_takeBack_17 : decode cX10_takeBack 17 = .ok (.getfield 18, 3) := by decide +kernel
theorem dX10_takeBack_20 : decode cX10_takeBack 20 = .ok (.invokevirtual 21, 3) := by decide +kernel
theorem dX10_takeBack_23 : decode cX10_takeBack 23 = .ok (.iconst 1, 1) := by decide +kernel
theorem dX10_takeBack_24 : decode cX10_takeBack 24 = .ok (.isub, 1) := by decide +kernel
theorem dX10_takeBack_25 : decode cX10_takeBack 25 = .ok (.invokevirtual 56, 3) := by decide +kernel
theorem dX10_takeBack_28 : decode cX10_takeBack 28 = .ok (.checkcast 47, 3) := by decide +kernel
theorem dX10_takeBack_31 : decode cX10_takeBack 31 = .ok (.astore_n 1, 1) := by decide +kernel
theorem dX10_takeBack_32 : decode cX10_takeBack 32 = .ok (.aload_n 1, 1) := by decide +kernel
theorem dX10_takeBack_33 : decode cX10_takeBack 33 = .ok (.getfield 62, 3) := by decide +kernel
theorem dX10_takeBack_36 : decode cX10_takeBack 36 = .ok (.tableswitch 104 0 3 #[32, 62, 73, 83], 32) := by decide +kernel
theorem dX10_takeBack_68 : decode cX10_takeBack 68 = .ok (.aload_n 0, 1) := by decide +kernel
theorem dX10_takeBack_69 : decode cX10_takeBack 69 = .ok (.getfield 12, 3) := by decide +kernel
theorem dX10_takeBack_72 : decode cX10_takeBack 72 = .ok (.invokevirtual 59, 3) := by decide +kernel
theorem dX10_takeBack_75 : decode cX10_takeBack 75 = .ok (.ifCond .ne 96, 3) := by decide +kernel
theorem dX10_takeBack_78 : decode cX10_takeBack 78 = .ok (.aload_n 0, 1) := by decide +kernel
theorem dX10_takeBack_79 : decode cX10_takeBack 79 = .ok (.getfield 12, 3) := by decide +kernel
theorem dX10_takeBack_82 : decode cX10_takeBack 82 = .ok (.aload_n 0, 1) := by decide +kernel
theorem dX10_takeBack_83 : decode cX10_takeBack 83 = .ok (.getfield 12, 3) := by decide +kernel
theorem dX10_takeBack_86 : decode cX10_takeBack 86 = .ok (.invokevirtual 21, 3) := by decide +kernel
theorem dX10_takeBack_89 : decode cX10_takeBack 89 = .ok (.iconst 1, 1) := by decide +kernel
theorem dX10_takeBack_90 : decode cX10_takeBack 90 = .ok (.isub, 1) := by decide +kernel
theorem dX10_takeBack_91 : decode cX10_takeBack 91 = .ok (.invokevirtual 56, 3) := by decide +kernel
theorem dX10_takeBack_94 : decode cX10_takeBack 94 = .ok (.pop, 1) := by decide +kernel
theorem dX10_takeBack_95 : decode cX10_takeBack 95 = .ok (.goto 76, 3) := by decide +kernel
theorem dX10_takeBack_98 : decode cX10_takeBack 98 = .ok (.aload_n 1, 1) := by decide +kernel
theorem dX10_takeBack_99 : decode cX10_takeBack 99 = .ok (.getfield 66, 3) := by decide +kernel
theorem dX10_takeBack_102 : decode cX10_takeBack 102 = .ok (.iconst 0, 1) := by decide +kernel
theorem dX10_takeBack_103 : decode cX10_takeBack 103 = .ok (.putfield 31, 3) := by decide +kernel
theorem dX10_takeBack_106 : decode cX10_takeBack 106 = .ok (.goto 65, 3) := by decide +kernel
theorem dX10_takeBack_109 : decode cX10_takeBack 109 = .ok (.aload_n 1, 1) := by decide +kernel
theorem dX10_takeBack_110 : decode cX10_takeBack 110 = .ok (.getfield 66, 3) := by decide +kernel
theorem dX10_takeBack_113 : decode cX10_takeBack 113 = .ok (.invokevirtual 70, 3) := by decide +kernel
theorem dX10_takeBack_116 : decode cX10_takeBack 116 = .ok (.goto 55, 3) := by decide +kernel
theorem dX10_takeBack_119 : decode cX10_takeBack 119 = .ok (.aload_n 1, 1) := by decide +kernel
theorem dX10_takeBack_120 : decode cX10_takeBack 120 = .ok (.getfield 73, 3) := by decide +kernel
theorem dX10_takeBack_123 : decode cX10_takeBack 123 = .ok (.ifnull 48, 3) := by decide +kernel
theorem dX10_takeBack_126 : decode cX10_takeBack 126 = .ok (.aload_n 1, 1) := by decide +kernel
theorem dX10_takeBack_127 : decode cX10_takeBack 127 = .ok (.getfield 73, 3) := by decide +kernel
theorem dX10_takeBack_130 : decode cX10_takeBack 130 = .ok (.aload_n 1, 1) := by decide +kernel
theorem dX10_takeBack_131 : decode cX10_takeBack 131 = .ok (.getfield 77, 3) := by decide +kernel
theorem dX10_takeBack_134 : decode cX10_takeBack 134 = .ok (.putfield 80, 3) := by decide +kernel
theorem dX10_takeBack_137 : decode cX10_takeBack 137 = .ok (.goto 34, 3) := by decide +kernel
theorem dX10_takeBack_140 : decode cX10_takeBack 140 = .ok (.aload_n 1, 1) := by decide +kernel
theorem dX10_takeBack_141 : decode cX10_takeBack 141 = .ok (.getfield 77, 3) := by decide +kernel
theorem dX10_takeBack_144 : decode cX10_takeBack 144 = .ok (.ifCond .lt 27, 3) := by decide +kernel
theorem dX10_takeBack_147 : decode cX10_takeBack 147 = .ok (.aload_n 1, 1) := by decide +kernel
theorem dX10_takeBack_148 : decode cX10_takeBack 148 = .ok (.getfield 77, 3) := by decide +kernel
theorem dX10_takeBack_151 : decode cX10_takeBack 151 = .ok (.iconst 3, 1) := by decide +kernel
theorem dX10_takeBack_152 : decode cX10_takeBack 152 = .ok (.if_icmp .gt 19, 3) := by decide +kernel
theorem dX10_takeBack_155 : decode cX10_takeBack 155 = .ok (.aload_n 1, 1) := by decide +kernel
theorem dX10_takeBack_156 : decode cX10_takeBack 156 = .ok (.getfield 66, 3) := by decide +kernel
theorem dX10_takeBack_159 : decode cX10_takeBack 159 = .ok (.getfield 85, 3) := by decide +kernel
theorem dX10_takeBack_162 : decode cX10_takeBack 162 = .ok (.aload_n 1, 1) := by decide +kernel
theorem dX10_takeBack_163 : decode cX10_takeBack 163 = .ok (.getfield 77, 3) := by decide +kernel
theorem dX10_takeBack_166 : decode cX10_takeBack 166 = .ok (.aload_n 1, 1) := by decide +kernel
theorem dX10_takeBack_167 : decode cX10_takeBack 167 = .ok (.getfield 73, 3) := by decide +kernel
theorem dX10_takeBack_170 : decode cX10_takeBack 170 = .ok (.aastore, 1) := by decide +kernel
theorem dX10_takeBack_171 : decode cX10_takeBack 171 = .ok (.iconst 1, 1) := by decide +kernel
theorem dX10_takeBack_172 : decode cX10_takeBack 172 = .ok (.ireturn, 1) := by decide +kernel
theorem dX11_init_0 : decode cX11_init 0 = .ok (.aload_n 0, 1) := by decide +kernel
theorem dX11_init_1 : decode cX11_init 1 = .ok (.invokespecial 1, 3) := by decide +kernel
theorem dX11_init_4 : decode cX11_init 4 = .ok (.aload_n 0, 1) := by decide +kernel
theorem dX11_init_5 : decode cX11_init 5 = .ok (.new 7, 3) := by decide +kernel
theorem dX11_init_8 : decode cX11_init 8 = .ok (.dup, 1) := by decide +kernel
theorem dX11_init_9 : decode cX11_init 9 = .ok (.sipush 3000, 3) := by decide +kernel
theorem dX11_init_12 : decode cX11_init 12 = .ok (.invokespecial 11, 3) := by decide +kernel
theorem dX11_init_15 : decode cX11_init 15 = .ok (.putfield 14, 3) := by decide +kernel
theorem dX11_init_18 : decode cX11_init 18 = .ok (.aload_n 0, 1) := by decide +kernel
theorem dX11_init_19 : decode cX11_init 19 = .ok (.new 7, 3) := by decide +kernel
theorem dX11_init_22 : decode cX11_init 22 = .ok (.dup, 1) := by decide +kernel
theorem dX11_init_23 : decode cX11_init 23 = .ok (.sipush 500, 3) := by decide +kernel
theorem dX11_init_26 : decode cX11_init 26 = .ok (.invokespecial 11, 3) := by decide +kernel
theorem dX11_init_29 : decode cX11_init 29 = .ok (.putfield 18, 3) := by decide +kernel
theorem dX11_init_32 : decode cX11_init 32 = .ok (.aload_n 0, 1) := by decide +kernel
theorem dX11_init_33 : decode cX11_init 33 = .ok (.new 7, 3) := by decide +kernel
theorem dX11_init_36 : decode cX11_init 36 = .ok (.dup, 1) := by decide +kernel
theorem dX11_init_37 : decode cX11_init 37 = .ok (.sipush 4000, 3) := by decide +kernel
theorem dX11_init_40 : decode cX11_init 40 = .ok (.invokespecial 11, 3) := by decide +kernel
theorem dX11_init_43 : decode cX11_init 43 = .ok (.putfield 21, 3) := by decide +kernel
theorem dX11_init_46 : decode cX11_init 46 = .ok (.aload_n 0, 1) := by decide +kernel
theorem dX11_init_47 : decode cX11_init 47 = .ok (.new 7, 3) := by decide +kernel
theorem dX11_init_50 : decode cX11_init 50 = .ok (.dup, 1) := by decide +kernel
theorem dX11_init_51 : decode cX11_init 51 = .ok (.sipush 200, 3) := by decide +kernel
theorem dX11_init_54 : decode cX11_init 54 = .ok (.invokespecial 11, 3) := by decide +kernel
theorem dX11_init_57 : decode cX11_init 57 = .ok (.putfield 24, 3) := by decide +kernel
theorem dX11_init_60 : decode cX11_init 60 = .ok (.aload_n 0, 1) := by decide +kernel
theorem dX11_init_61 : decode cX11_init 61 = .ok (.new 27, 3) := by decide +kernel
theorem dX11_init_64 : decode cX11_init 64 = .ok (.dup, 1) := by decide +kernel
theorem dX11_init_65 : decode cX11_init 65 = .ok (.invokespecial 29, 3) := by decide +kernel
theorem dX11_init_68 : decode cX11_init 68 = .ok (.putfield 30, 3) := by decide +kernel
theorem dX11_init_71 : decode cX11_init 71 = .ok (.aload_n 0, 1) := by decide +kernel
theorem dX11_init_72 : decode cX11_init 72 = .ok (.new 34, 3) := by decide +kernel
theorem dX11_init_75 : decode cX11_init 75 = .ok (.dup, 1) := by decide +kernel
theorem dX11_init_76 : decode cX11_init 76 = .ok (.invokespecial 36, 3) := by decide +kernel
theorem dX11_init_79 : decode cX11_init 79 = .ok (.putfield 37, 3) := by decide +kernel
theorem dX11_init_82 : decode cX11_init 82 = .ok (.aload_n 0, 1) := by decide +kernel
theorem dX11_init_83 : decode cX11_init 83 = .ok (.new 41, 3) := by decide +kernel
theorem dX11_init_86 : decode cX11_init 86 = .ok (.dup, 1) := by decide +kernel
theorem dX11_init_87 : decode cX11_init 87 = .ok (.invokespecial 43, 3) := by decide +kernel
theorem dX11_init_90 : decode cX11_init 90 = .ok (.putfield 44, 3) := by decide +kernel
theorem dX11_init_93 : decode cX11_init 93 = .ok (.aload_n 0, 1) := by decide +kernel
theorem dX11_init_94 : decode cX11_init 94 = .ok (.new 48, 3) := by decide +kernel
theorem dX11_init_97 : decode cX11_init 97 = .ok (.dup, 1) := by decide +kernel
theorem dX11_init_98 : decode cX11_init 98 = .ok (.invokespecial 50, 3) := by decide +kernel
theorem dX11_init_101 : decode cX11_init 101 = .ok (.putfield 51, 3) := by decide +kernel
theorem dX11_init_104 : decode cX11_init 104 = .ok (.aload_n 0, 1) := by decide +kernel
theorem dX11_init_105 : decode cX11_init 105 = .ok (.new 55, 3) := by decide +kernel
theorem dX11_init_108 : decode cX11_init 108 = .ok (.dup, 1) := by decide +kernel
theorem dX11_init_109 : decode cX11_init 109 = .ok (.aload_n 0, 1) := by decide +kernel
theorem dX11_init_110 : decode cX11_init 110 = .ok (.getfield 51, 3) := by decide +kernel
theorem dX11_init_113 : decode cX11_init 113 = .ok (.invokespecial 57, 3) := by decide +kernel
theorem dX11_init_116 : decode cX11_init 116 = .ok (.putfield 60, 3) := by decide +kernel
theorem dX11_init_119 : decode cX11_init 119 = .ok (.aload_n 0, 1) := by decide +kernel
theorem dX11_init_120 : decode cX11_init 120 = .ok (.new 64, 3) := by decide +kernel
theorem dX11_init_123 : decode cX11_init 123 = .ok (.dup, 1) := by decide +kernel
theorem dX11_init_124 : decode cX11_init 124 = .ok (.invokespecial 66, 3) := by decide +kernel
theorem dX11_init_127 : decode cX11_init 127 = .ok (.putfield 67, 3) := by decide +kernel
theorem dX11_init_130 : decode cX11_init 130 = .ok (.aload_n 0, 1) := by decide +kernel
theorem dX11_init_131 : decode cX11_init 131 = .ok (.new 64, 3) := by decide +kernel
theorem dX11_init_134 : decode cX11_init 134 = .ok (.dup, 1) := by decide +kernel
theorem dX11_init_135 : decode cX11_init 135 = .ok (.invokespecial 66, 3) := by decide +kernel
theorem dX11_init_138 : decode cX11_init 138 = .ok (.putfield 71, 3) := by decide +kernel
theorem dX11_init_141 : decode cX11_init 141 = .ok (.aload_n 0, 1) := by decide +kernel
theorem dX11_init_142 : decode cX11_init 142 = .ok (.bipush 32, 2) := by decide +kernel
theorem dX11_init_144 : decode cX11_init 144 = .ok (.putfield 74, 3) := by decide +kernel
theorem dX11_init_147 : decode cX11_init 147 = .ok (.aload_n 0, 1) := by decide +kernel
theorem dX11_init_148 : decode cX11_init 148 = .ok (.bipush 25, 2) := by decide +kernel
theorem dX11_init_150 : decode cX11_init 150 = .ok (.putfield 78, 3) := by decide +kernel
theorem dX11_init_153 : decode cX11_init 153 = .ok (.aload_n 0, 1) := by decide +kernel
theorem dX11_init_154 : decode cX11_init 154 = .ok (.bipush 36, 2) := by decide +kernel
theorem dX11_init_156 : decode cX11_init 156 = .ok (.putfield 81, 3) := by decide +kernel
theorem dX11_init_159 : decode cX11_init 159 = .ok (.aload_n 0, 1) := by decide +kernel
theorem dX11_init_160 : decode cX11_init 160 = .ok (.iconst 0, 1) := by decide +kernel
theorem dX11_init_161 : decode cX11_init 161 = .ok (.putfield 84, 3) := by decide +kernel
theorem dX11_init_164 : decode cX11_init 164 = .ok (.aload_n 0, 1) := by decide +kernel
theorem dX11_init_165 : decode cX11_init 165 = .ok (.iconst 0, 1) := by decide +kernel
theorem dX11_init_166 : decode cX11_init 166 = .ok (.putfield 87, 3) := by decide +kernel
theorem dX11_init_169 : decode cX11_init 169 = .ok (.aload_n 0, 1) := by decide +kernel
theorem dX11_init_170 : decode cX11_init 170 = .ok (.iconst 0, 1) := by decide +kernel
theorem dX11_init_171 : decode cX11_init 171 = .ok (.putfield 90, 3) := by decide +kernel
theorem dX11_init_174 : decode cX11_init 174 = .ok (.aload_n 0, 1) := by decide +kernel
theorem dX11_init_175 : decode cX11_init 175 = .ok (.iconst 0, 1) := by decide +kernel
theorem dX11_init_176 : decode cX11_init 176 = .ok (.putfield 93, 3) := by decide +kernel
theorem dX11_init_179 : decode cX11_init 179 = .ok (.aload_n 0, 1) := by decide +kernel
theorem dX11_init_180 : decode cX11_init 180 = .ok (.iconst (-1), 1) := by decide +kernel
theorem dX11_init_181 : decode cX11_init 181 = .ok (.putfield 96, 3) := by decide +kernel
theorem dX11_init_184 : decode cX11_init 184 = .ok (.return_, 1) := by decide +kernel
theorem dX11_feed_0 : decode cX11_feed 0 = .ok (.aload_n 0, 1) := by decide +kernel
theorem dX11_feed_1 : decode cX11_feed 1 = .ok (.getfield 14, 3) := by decide +kernel
theorem dX11_feed_4 : decode cX11_feed 4 = .ok (.getfield 99, 3) := by decide +kernel
theorem dX11_feed_7 : decode cX11_feed 7 = .ok (.bipush 20, 2) := by decide +kernel
theorem dX11_feed_9 : decode cX11_feed 9 = .ok (.iadd, 1) := by decide +kernel
theorem dX11_feed_10 : decode cX11_feed 10 = .ok (.sipush 3000, 3) := by decide +kernel
theorem dX11_feed_13 : decode cX11_feed 13 = .ok (.if_icmp .le 10, 3) := by decide +kernel
theorem dX11_feed_16 : decode cX11_feed 16 = .ok (.aload_n 0, 1) := by decide +kernel
theorem dX11_feed_17 : decode cX11_feed 17 = .ok (.bipush 6, 2) := by decide +kernel
theorem dX11_feed_19 : decode cX11_feed 19 = .ok (.invokevirtual 102, 3) := by decide +kernel
theorem dX11_feed_22 : decode cX11_feed 22 = .ok (.ireturn, 1) := by decide +kernel
theorem dX11_feed_23 : decode cX11_feed 23 = .ok (.aload_n 0, 1) := by decide +kernel
theorem dX11_feed_24 : decode cX11_feed 24 = .ok (.iload_n 1, 1) := by decide +kernel
theorem dX11_feed_25 : decode cX11_feed 25 = .ok (.invokevirtual 106, 3) := by decide +kernel
theorem dX11_feed_28 : decode cX11_feed 28 = .ok (.aload_n 0, 1) := by decide +kernel
theorem dX11_feed_29 : decode cX11_feed 29 = .ok (.iload_n 2, 1) := by decide +kernel
theorem dX11_feed_30 : decode cX11_feed 30 = .ok (.invokevirtual 106, 3) := by decide +kernel
theorem dX11_feed_33 : decode cX11_feed 33 = .ok (.aload_n 0, 1) := by decide +kernel
theorem dX11_feed_34 : decode cX11_feed 34 = .ok (.iload_n 3, 1) := by decide +kernel
theorem dX11_feed_35 : decode cX11_feed 35 = .ok (.invokevirtual 106, 3) := by decide +kernel
theorem dX11_feed_38 : decode cX11_feed 38 = .ok (.aload_n 0, 1) := by decide +kernel
theorem dX11_feed_39 : decode cX11_feed 39 = .ok (.iload 4, 2) := by decide +kernel
theorem dX11_feed_41 : decode cX11_feed 41 = .ok (.invokevirtual 106, 3) := by decide +kernel
theorem dX11_feed_44 : decode cX11_feed 44 = .ok (.aload_n 0, 1) := by decide +kernel
theorem dX11_feed_45 : decode cX11_feed 45 = .ok (.iload 5, 2) := by decide +kernel
theorem dX11_feed_47 : decode cX11_feed 47 = .ok (.invokevirtual 106, 3) := by decide +kernel
theorem dX11_feed_50 : decode cX11_feed 50 = .ok (.aload_n 0, 1) := by decide +kernel
theorem dX11_feed_51 : decode cX11_feed 51 = .ok (.aload_n 0, 1) := by decide +kernel
theorem dX11_feed_52 : decode cX11_feed 52 = .ok (.getfield 14, 3) := by decide +kernel
theorem dX11_feed_55 : decode cX11_feed 55 = .ok (.getfield 99, 3) := by decide +kernel
theorem dX11_feed_58 : decode cX11_feed 58 = .ok (.invokevirtual 109, 3) := by decide +kernel
theorem dX11_feed_61 : decode cX11_feed 61 = .ok (.ireturn, 1) := by decide +kernel
theorem dX11_feedFour_0 : decode cX11_feedFour 0 = .ok (.bipush 24, 2) := by decide +kernel
theorem dX11_feedFour_2 : decode cX11_feedFour 2 = .ok (.istore_n 2, 1) := by decide +kernel
theorem dX11_feedFour_3 : decode cX11_feedFour 3 = .ok (.iload_n 2, 1) := by decide +kernel
theorem dX11_feedFour_4 : decode cX11_feedFour 4 = .ok (.ifCond .lt 23, 3) := by decide +kernel
theorem dX11_feedFour_7 : decode cX11_feedFour 7 = .ok (.aload_n 0, 1) := by decide +kernel
theorem dX11_feedFour_8 : decode cX11_feedFour 8 = .ok (.getfield 14, 3) := by decide +kernel
theorem dX11_feedFour_11 : decode cX11_feedFour 11 = .ok (.iload_n 1, 1) := by decide +kernel
theorem dX11_feedFour_12 : decode cX11_feedFour 12 = .ok (.iload_n 2, 1) := by decide +kernel
theorem dX11_feedFour_13 : decode cX11_feedFour 13 = .ok (.iushr, 1) := by decide +kernel
theorem dX11_feedFour_14 : decode cX11_feedFour 14 = .ok (.sipush 255, 3) := by decide +kernel
theorem dX11_feedFour_17 : decode cX11_feedFour 17 = .ok (.iand, 1) := by decide +kernel
theorem dX11_feedFour_18 : decode cX11_feedFour 18 = .ok (.invokevirtual 112, 3) := by decide +kernel
theorem dX11_feedFour_21 : decode cX11_feedFour 21 = .ok (.iinc 2 (-8), 3) := by decide +kernel
theorem dX11_feedFour_24 : decode cX11_feedFour 24 = .ok (.goto (-21), 3) := by decide +kernel
theorem dX11_feedFour_27 : decode cX11_feedFour 27 = .ok (.return_, 1) := by decide +kernel
theorem dX11_end_0 : decode cX11_end 0 = .ok (.iload_n 1, 1) := by decide +kernel
theorem dX11_end_1 : decode cX11_end 1 = .ok (.ifCond .ge 9, 3) := by decide +kernel
theorem dX11_end_4 : decode cX11_end 4 = .ok (.aload_n 0, 1) := by decide +kernel
theorem dX11_end_5 : decode cX11_end 5 = .ok (.iconst 5, 1) := by decide +kernel
theorem dX11_end_6 : decode cX11_end 6 = .ok (.invokevirtual 102, 3) := by decide +kernel
theorem dX11_end_9 : decode cX11_end 9 = .ok (.ireturn, 1) := by decide +kernel
theorem dX11_end_10 : decode cX11_end 10 = .ok (.iload_n 1, 1) := by decide +kernel
theorem dX11_end_11 : decode cX11_end 11 = .ok (.aload_n 0, 1) := by decide +kernel
theorem dX11_end_12 : decode cX11_end 12 = .ok (.getfield 14, 3) := by decide +kernel
theorem dX11_end_15 : decode cX11_end 15 = .ok (.getfield 99, 3) := by decide +kernel
theorem dX11_end_18 : decode cX11_end 18 = .ok (.if_icmp .le 10, 3) := by decide +kernel
theorem dX11_end_21 : decode cX11_end 21 = .ok (.aload_n 0, 1) := by decide +kernel
theorem dX11_end_22 : decode cX11_end 22 = .ok (.bipush 6, 2) := by decide +kernel
theorem dX11_end_24 : decode cX11_end 24 = .ok (.invokevirtual 102, 3) := by decide +kernel
theorem dX11_end_27 : decode cX11_end 27 = .ok (.ireturn, 1) := by decide +kernel
theorem dX11_end_28 : decode cX11_end 28 = .ok (.aload_n 0, 1) := by decide +kernel
theorem dX11_end_29 : decode cX11_end 29 = .ok (.getfield 14, 3) := by decide +kernel
theorem dX11_end_32 : decode cX11_end 32 = .ok (.iload_n 1, 1) := by decide +kernel
theorem dX11_end_33 : decode cX11_end 33 = .ok (.invokevirtual 115, 3) := by decide +kernel
theorem dX11_end_36 : decode cX11_end 36 = .ok (.aload_n 0, 1) := by decide +kernel
theorem dX11_end_37 : decode cX11_end 37 = .ok (.iload_n 1, 1) := by decide +kernel
theorem dX11_end_38 : decode cX11_end 38 = .ok (.invokevirtual 109, 3) := by decide +kernel
theorem dX11_end_41 : decode cX11_end 41 = .ok (.ireturn, 1) := by decide +kernel
theorem dX11_table_0 : decode cX11_table 0 = .ok (.iload_n 1, 1) := by decide +kernel
theorem dX11_table_1 : decode cX11_table 1 = .ok (.ifCond .lt 30, 3) := by decide +kernel
theorem dX11_table_4 : decode cX11_table 4 = .ok (.iload_n 1, 1) := by decide +kernel
theorem dX11_table_5 : decode cX11_table 5 = .ok (.iconst 4, 1) := by decide +kernel
theorem dX11_table_6 : decode cX11_table 6 = .ok (.if_icmp .gt 25, 3) := by decide +kernel
theorem dX11_table_9 : decode cX11_table 9 = .ok (.iload_n 2, 1) := by decide +kernel
theorem dX11_table_10 : decode cX11_table 10 = .ok (.bipush 6, 2) := by decide +kernel
theorem dX11_table_12 : decode cX11_table 12 = .ok (.if_icmp .eq 9, 3) := by decide +kernel
theorem dX11_table_15 : decode cX11_table 15 = .ok (.iload_n 2, 1) := by decide +kernel
theorem dX11_table_16 : decode cX11_table 16 = .ok (.bipush 8, 2) := by decide +kernel
theorem dX11_table_18 : decode cX11_table 18 = .ok (.if_icmp .ne 13, 3) := by decide +kernel
theorem dX11_table_21 : decode cX11_table 21 = .ok (.aload_n 0, 1) := by decide +kernel
theorem dX11_table_22 : decode cX11_table 22 = .ok (.getfield 30, 3) := by decide +kernel
theorem dX11_table_25 : decode cX11_table 25 = .ok (.invokevirtual 118, 3) := by decide +kernel
theorem dX11_table_28 : decode cX11_table 28 = .ok (.ifCond .eq 10, 3) := by decide +kernel
theorem dX11_table_31 : decode cX11_table 31 = .ok (.aload_n 0, 1) := by decide +kernel
theorem dX11_table_32 : decode cX11_table 32 = .ok (.bipush 6, 2) := by decide +kernel
theorem dX11_table_34 : decode cX11_table 34 = .ok (.invokevirtual 102, 3) := by decide +kernel
theorem dX11_table_37 : decode cX11_table 37 = .ok (.ireturn, 1) := by decide +kernel
theorem dX11_table_38 : decode cX11_table 38 = .ok (.iload_n 1, 1) := by decide +kernel
theorem dX11_table_39 : decode cX11_table 39 = .ok (.ifCond .eq 8, 3) := by decide +kernel
theorem dX11_table_42 : decode cX11_table 42 = .ok (.iload_n 1, 1) := by decide +kernel
theorem dX11_table_43 : decode cX11_table 43 = .ok (.iconst 4, 1) := by decide +kernel
theorem dX11_table_44 : decode cX11_table 44 = .ok (.if_icmp .ne 26, 3) := by decide +kernel
theorem dX11_table_47 : decode cX11_table 47 = .ok (.aload_n 0, 1) := by decide +kernel
theorem dX11_table_48 : decode cX11_table 48 = .ok (.aload_n 0, 1) := by decide +kernel
theorem dX11_table_49 : decode cX11_table 49 = .ok (.getfield 30, 3) := by decide +kernel
theorem dX11_table_52 : decode cX11_table 52 = .ok (.new 122, 3) := by decide +kernel
theorem dX11_table_55 : decode cX11_table 55 = .ok (.dup, 1) := by decide +kernel
theorem dX11_table_56 : decode cX11_table 56 = .ok (.iload_n 1, 1) := by decide +kernel
theorem dX11_table_57 : decode cX11_table 57 = .ok (.iload_n 2, 1) := by decide +kernel
theorem dX11_table_58 : decode cX11_table 58 = .ok (.aconst_null, 1) := by decide +kernel
theorem dX11_table_59 : decode cX11_table 59 = .ok (.aconst_null, 1) := by decide +kernel
theorem dX11_table_60 : decode cX11_table 60 = .ok (.invokespecial 124, 3) := by decide +kernel
theorem dX11_table_63 : decode cX11_table 63 = .ok (.invokevirtual 127, 3) := by decide +kernel
theorem dX11_table_66 : decode cX11_table 66 = .ok (.invokevirtual 109, 3) := by decide +kernel
theorem dX11_table_69 : decode cX11_table 69 = .ok (.ireturn, 1) := by decide +kernel
theorem dX11_table_70 : decode cX11_table 70 = .ok (.aload_n 0, 1) := by decide +kernel
theorem dX11_table_71 : decode cX11_table 71 = .ok (.getfield 30, 3) := by decide +kernel
theorem dX11_table_74 : decode cX11_table 74 = .ok (.iload_n 3, 1) := by decide +kernel
theorem dX11_table_75 : decode cX11_table 75 = .ok (.invokevirtual 131, 3) := by decide +kernel
theorem dX11_table_78 : decode cX11_table 78 = .ok (.astore 4, 2) := by decide +kernel
theorem dX11_table_80 : decode cX11_table 80 = .ok (.aload 4, 2) := by decide +kernel
theorem dX11_table_82 : decode cX11_table 82 = .ok (.ifnull 12, 3) := by decide +kernel
theorem dX11_table_85 : decode cX11_table 85 = .ok (.aload 4, 2) := by decide +kernel
theorem dX11_table_87 : decode cX11_table 87 = .ok (.getfield 135, 3) := by decide +kernel
theorem dX11_table_90 : decode cX11_table 90 = .ok (.iconst 3, 1) := by decide +kernel
theorem dX11_table_91 : decode cX11_table 91 = .ok (.if_icmp .le 18, 3) := by decide +kernel
theorem dX11_table_94 : decode cX11_table 94 = .ok (.aload_n 0, 1) := by decide +kernel
theorem dX11_table_95 : decode cX11_table 95 = .ok (.aload 4, 2) := by decide +kernel
theorem dX11_table_97 : decode cX11_table 97 = .ok (.ifnonnull 7, 3) := by decide +kernel
theorem dX11_table_100 : decode cX11_table 100 = .ok (.iconst 3, 1) := by decide +kernel
theorem dX11_table_101 : decode cX11_table 101 = .ok (.goto 4, 3) := by decide +kernel
theorem dX11_table_104 : decode cX11_table 104 = .ok (.iconst 4, 1) := by decide +kernel
theorem dX11_table_105 : decode cX11_table 105 = .ok (.invokevirtual 102, 3) := by decide +kernel
theorem dX11_table_108 : decode cX11_table 108 = .ok (.ireturn, 1) := by decide +kernel
theorem dX11_table_109 : decode cX11_table 109 = .ok (.aload_n 0, 1) := by decide +kernel
theorem dX11_table_110 : decode cX11_table 110 = .ok (.aload_n 0, 1) := by decide +kernel
theorem dX11_table_111 : decode cX11_table 111 = .ok (.getfield 30, 3) := by decide +kernel
theorem dX11_table_114 : decode cX11_table 114 = .ok (.new 122, 3) := by decide +kernel
theorem dX11_table_117 : decode cX11_table 117 = .ok (.dup, 1) := by decide +kernel
theorem dX11_table_118 : decode cX11_table 118 = .ok (.iload_n 1, 1) := by decide +kernel
theorem dX11_table_119 : decode cX11_table 119 = .ok (.iload_n 2, 1) := by decide +kernel
theorem dX11_table_120 : decode cX11_table 120 = .ok (.aload 4, 2) := by decide +kernel
theorem dX11_table_122 : decode cX11_table 122 = .ok (.aconst_null, 1) := by decide +kernel
theorem dX11_table_123 : decode cX11_table 123 = .ok (.invokespecial 124, 3) := by decide +kernel
theorem dX11_table_126 : decode cX11_table 126 = .ok (.invokevirtual 127, 3) := by decide +kernel
theorem dX11_table_129 : decode cX11_table 129 = .ok (.invokevirtual 109, 3) := by decide +kernel
theorem dX11_table_132 : decode cX11_table 132 = .ok (.ireturn, 1) := by decide +kernel
theorem dX11_join_0 : decode cX11_join 0 = .ok (.aload_n 0, 1) := by decide +kernel
theorem dX11_join_1 : decode cX11_join 1 = .ok (.getfield 30, 3) := by decide +kernel
theorem dX11_join_4 : decode cX11_join 4 = .ok (.iload_n 1, 1) := by decide +kernel
theorem dX11_join_5 : decode cX11_join 5 = .ok (.invokevirtual 131, 3) := by decide +kernel
theorem dX11_join_8 : decode cX11_join 8 = .ok (.astore_n 3, 1) := by decide +kernel
theorem dX11_join_9 : decode cX11_join 9 = .ok (.aload_n 3, 1) := by decide +kernel
theorem dX11_join_10 : decode cX11_join 10 = .ok (.ifnull 11, 3) := by decide +kernel
theorem dX11_join_13 : decode cX11_join 13 = .ok (.aload_n 3, 1) := by decide +kernel
theorem dX11_join_14 : decode cX11_join 14 = .ok (.getfield 135, 3) := by decide +kernel
theorem dX11_join_17 : decode cX11_join 17 = .ok (.iconst 3, 1) := by decide +kernel
theorem dX11_join_18 : decode cX11_join 18 = .ok (.if_icmp .le 17, 3) := by decide +kernel
theorem dX11_join_21 : decode cX11_join 21 = .ok (.aload_n 0, 1) := by decide +kernel
theorem dX11_join_22 : decode cX11_join 22 = .ok (.aload_n 3, 1) := by decide +kernel
theorem dX11_join_23 : decode cX11_join 23 = .ok (.ifnonnull 7, 3) := by decide +kernel
theorem dX11_join_26 : decode cX11_join 26 = .ok (.iconst 3, 1) := by decide +kernel
theorem dX11_join_27 : decode cX11_join 27 = .ok (.goto 4, 3) := by decide +kernel
theorem dX11_join_30 : decode cX11_join 30 = .ok (.iconst 4, 1) := by decide +kernel
theorem dX11_join_31 : decode cX11_join 31 = .ok (.invokevirtual 102, 3) := by decide +kernel
theorem dX11_join_34 : decode cX11_join 34 = .ok (.ireturn, 1) := by decide +kernel
theorem dX11_join_35 : decode cX11_join 35 = .ok (.aload_n 0, 1) := by decide +kernel
theorem dX11_join_36 : decode cX11_join 36 = .ok (.getfield 30, 3) := by decide +kernel
theorem dX11_join_39 : decode cX11_join 39 = .ok (.iload_n 2, 1) := by decide +kernel
theorem dX11_join_40 : decode cX11_join 40 = .ok (.invokevirtual 131, 3) := by decide +kernel
theorem dX11_join_43 : decode cX11_join 43 = .ok (.astore 4, 2) := by decide +kernel
theorem dX11_join_45 : decode cX11_join 45 = .ok (.aload 4, 2) := by decide +kernel
theorem dX11_join_47 : decode cX11_join 47 = .ok (.ifnull 12, 3) := by decide +kernel
theorem dX11_join_50 : decode cX11_join 50 = .ok (.aload 4, 2) := by decide +kernel
theorem dX11_join_52 : decode cX11_join 52 = .ok (.getfield 135, 3) := by decide +kernel
theorem dX11_join_55 : decode cX11_join 55 = .ok (.iconst 3, 1) := by decide +kernel
theorem dX11_join_56 : decode cX11_join 56 = .ok (.if_icmp .le 18, 3) := by decide +kernel
theorem dX11_join_59 : decode cX11_join 59 = .ok (.aload_n 0, 1) := by decide +kernel
theorem dX11_join_60 : decode cX11_join 60 = .ok (.aload 4, 2) := by decide +kernel
theorem dX11_join_62 : decode cX11_join 62 = .ok (.ifnonnull 7, 3) := by decide +kernel
theorem dX11_join_65 : decode cX11_join 65 = .ok (.iconst 3, 1) := by decide +kernel
theorem dX11_join_66 : decode cX11_join 66 = .ok (.goto 4, 3) := by decide +kernel
theorem dX11_join_69 : decode cX11_join 69 = .ok (.iconst 4, 1) := by decide +kernel
theorem dX11_join_70 : decode cX11_join 70 = .ok (.invokevirtual 102, 3) := by decide +kernel
theorem dX11_join_73 : decode cX11_join 73 = .ok (.ireturn, 1) := by decide +kernel
theorem dX11_join_74 : decode cX11_join 74 = .ok (.aload_n 0, 1) := by decide +kernel
theorem dX11_join_75 : decode cX11_join 75 = .ok (.getfield 30, 3) := by decide +kernel
theorem dX11_join_78 : decode cX11_join 78 = .ok (.invokevirtual 118, 3) := by decide +kernel
theorem dX11_join_81 : decode cX11_join 81 = .ok (.ifCond .eq 10, 3) := by decide +kernel
theorem dX11_join_84 : decode cX11_join 84 = .ok (.aload_n 0, 1) := by decide +kernel
theorem dX11_join_85 : decode cX11_join 85 = .ok (.bipush 6, 2) := by decide +kernel
theorem dX11_join_87 : decode cX11_join 87 = .ok (.invokevirtual 102, 3) := by decide +kernel
theorem dX11_join_90 : decode cX11_join 90 = .ok (.ireturn, 1) := by decide +kernel
theorem dX11_join_91 : decode cX11_join 91 = .ok (.aload_n 0, 1) := by decide +kernel
theorem dX11_join_92 : decode cX11_join 92 = .ok (.aload_n 0, 1) := by decide +kernel
theorem dX11_join_93 : decode cX11_join 93 = .ok (.getfield 30, 3) := by decide +kernel
theorem dX11_join_96 : decode cX11_join 96 = .ok (.new 122, 3) := by decide +kernel
theorem dX11_join_99 : decode cX11_join 99 = .ok (.dup, 1) := by decide +kernel
theorem dX11_join_100 : decode cX11_join 100 = .ok (.iconst 5, 1) := by decide +kernel
theorem dX11_join_101 : decode cX11_join 101 = .ok (.aload_n 3, 1) := by decide +kernel
theorem dX11_join_102 : decode cX11_join 102 = .ok (.getfield 138, 3) := by decide +kernel
theorem dX11_join_105 : decode cX11_join 105 = .ok (.aload 4, 2) := by decide +kernel
theorem dX11_join_107 : decode cX11_join 107 = .ok (.getfield 138, 3) := by decide +kernel
theorem dX11_join_110 : decode cX11_join 110 = .ok (.invokestatic 141, 3) := by decide +kernel
theorem dX11_join_113 : decode cX11_join 113 = .ok (.aload_n 3, 1) := by decide +kernel
theorem dX11_join_114 : decode cX11_join 114 = .ok (.aload 4, 2) := by decide +kernel
theorem dX11_join_116 : decode cX11_join 116 = .ok (.invokespecial 124, 3) := by decide +kernel
theorem dX11_join_119 : decode cX11_join 119 = .ok (.invokevirtual 127, 3) := by decide +kernel
theorem dX11_join_122 : decode cX11_join 122 = .ok (.invokevirtual 109, 3) := by decide +kernel
theorem dX11_join_125 : decode cX11_join 125 = .ok (.ireturn, 1) := by decide +kernel
theorem dX11_drop_0 : decode cX11_drop 0 = .ok (.aload_n 0, 1) := by decide +kernel
theorem dX11_drop_1 : decode cX11_drop 1 = .ok (.getfield 30, 3) := by decide +kernel
theorem dX11_drop_4 : decode cX11_drop 4 = .ok (.iload_n 1, 1) := by decide +kernel
theorem dX11_drop_5 : decode cX11_drop 5 = .ok (.invokevirtual 131, 3) := by decide +kernel
theorem dX11_drop_8 : decode cX11_drop 8 = .ok (.astore_n 2, 1) := by decide +kernel
theorem dX11_drop_9 : decode cX11_drop 9 = .ok (.aload_n 2, 1) := by decide +kernel
theorem dX11_drop_10 : decode cX11_drop 10 = .ok (.ifnonnull 9, 3) := by decide +kernel
theorem dX11_drop_13 : decode cX11_drop 13 = .ok (.aload_n 0, 1) := by decide +kernel
theorem dX11_drop_14 : decode cX11_drop 14 = .ok (.iconst 3, 1) := by decide +kernel
theorem dX11_drop_15 : decode cX11_drop 15 = .ok (.invokevirtual 102, 3) := by decide +kernel
theorem dX11_drop_18 : decode cX11_drop 18 = .ok (.ireturn, 1) := by decide +kernel
theorem dX11_drop_19 : decode cX11_drop 19 = .ok (.aload_n 0, 1) := by decide +kernel
theorem dX11_drop_20 : decode cX11_drop 20 = .ok (.getfield 30, 3) := by decide +kernel
theorem dX11_drop_23 : decode cX11_drop 23 = .ok (.new 147, 3) := by decide +kernel
theorem dX11_drop_26 : decode cX11_drop 26 = .ok (.dup, 1) := by decide +kernel
theorem dX11_drop_27 : decode cX11_drop 27 = .ok (.iconst 1, 1) := by decide +kernel
theorem dX11_drop_28 : decode cX11_drop 28 = .ok (.aload_n 2, 1) := by decide +kernel
theorem dX11_drop_29 : decode cX11_drop 29 = .ok (.aconst_null, 1) := by decide +kernel
theorem dX11_drop_30 : decode cX11_drop 30 = .ok (.iconst 0, 1) := by decide +kernel
theorem dX11_drop_31 : decode cX11_drop 31 = .ok (.invokespecial 149, 3) := by decide +kernel
theorem dX11_drop_34 : decode cX11_drop 34 = .ok (.invokevirtual 152, 3) := by decide +kernel
theorem dX11_drop_37 : decode cX11_drop 37 = .ok (.aload_n 2, 1) := by decide +kernel
theorem dX11_drop_38 : decode cX11_drop 38 = .ok (.iconst 1, 1) := by decide +kernel
theorem dX11_drop_39 : decode cX11_drop 39 = .ok (.putfield 156, 3) := by decide +kernel
theorem dX11_drop_42 : decode cX11_drop 42 = .ok (.aload_n 0, 1) := by decide +kernel
theorem dX11_drop_43 : decode cX11_drop 43 = .ok (.iconst 1, 1) := by decide +kernel
theorem dX11_drop_44 : decode cX11_drop 44 = .ok (.invokevirtual 109, 3) := by decide +kernel
theorem dX11_drop_47 : decode cX11_drop 47 = .ok (.ireturn, 1) := by decide +kernel
theorem dX11_rule_0 : decode cX11_rule 0 = .ok (.aload_n 0, 1) := by decide +kernel
theorem dX11_rule_1 : decode cX11_rule 1 = .ok (.iload_n 1, 1) := by decide +kernel
theorem dX11_rule_2 : decode cX11_rule 2 = .ok (.iload_n 2, 1) := by decide +kernel
theorem dX11_rule_3 : decode cX11_rule 3 = .ok (.iload_n 3, 1) := by decide +kernel
theorem dX11_rule_4 : decode cX11_rule 4 = .ok (.invokevirtual 160, 3) := by decide +kernel
theorem dX11_rule_7 : decode cX11_rule 7 = .ok (.istore 4, 2) := by decide +kernel
theorem dX11_rule_9 : decode cX11_rule 9 = .ok (.aload_n 0, 1) := by decide +kernel
theorem dX11_rule_10 : decode cX11_rule 10 = .ok (.getfield 14, 3) := by decide +kernel
theorem dX11_rule_13 : decode cX11_rule 13 = .ok (.invokevirtual 164, 3) := by decide +kernel
theorem dX11_rule_16 : decode cX11_rule 16 = .ok (.iload 4, 2) := by decide +kernel
theorem dX11_rule_18 : decode cX11_rule 18 = .ok (.ireturn, 1) := by decide +kernel
theorem dX11_addRule_0 : decode cX11_addRule 0 = .ok (.aload_n 0, 1) := by decide +kernel
theorem dX11_addRule_1 : decode cX11_addRule 1 = .ok (.getfield 30, 3) := by decide +kernel
theorem dX11_addRule_4 : decode cX11_addRule 4 = .ok (.iload_n 1, 1) := by decide +kernel
theorem dX11_addRule_5 : decode cX11_addRule 5 = .ok (.invokevirtual 131, 3) := by decide +kernel
theorem dX11_addRule_8 : decode cX11_addRule 8 = .ok (.astore 4, 2) := by decide +kernel
theorem dX11_addRule_10 : decode cX11_addRule 10 = .ok (.aload 4, 2) := by decide +kernel
theorem dX11_addRule_12 : decode cX11_addRule 12 = .ok (.ifnonnull 9, 3) := by decide +kernel
theorem dX11_addRule_15 : decode cX11_addRule 15 = .ok (.aload_n 0, 1) := by decide +kernel
theorem dX11_addRule_16 : decode cX11_addRule 16 = .ok (.iconst 3, 1) := by decide +kernel
theorem dX11_addRule_17 : decode cX11_addRule 17 = .ok (.invokevirtual 102, 3) := by decide +kernel
theorem dX11_addRule_20 : decode cX11_addRule 20 = .ok (.ireturn, 1) := by decide +kernel
theorem dX11_addRule_21 : decode cX11_addRule 21 = .ok (.aload 4, 2) := by decide +kernel
theorem dX11_addRule_23 : decode cX11_addRule 23 = .ok (.getfield 135, 3) := by decide +kernel
theorem dX11_addRule_26 : decode cX11_addRule 26 = .ok (.iconst 5, 1) := by decide +kernel
theorem dX11_addRule_27 : decode cX11_addRule 27 = .ok (.if_icmp .ne 9, 3) := by decide +kernel
theorem dX11_addRule_30 : decode cX11_addRule 30 = .ok (.aload_n 0, 1) := by decide +kernel
theorem dX11_addRule_31 : decode cX11_addRule 31 = .ok (.iconst 4, 1) := by decide +kernel
theorem dX11_addRule_32 : decode cX11_addRule 32 = .ok (.invokevirtual 102, 3) := by decide +kernel
theorem dX11_addRule_35 : decode cX11_addRule 35 = .ok (.ireturn, 1) := by decide +kernel
theorem dX11_addRule_36 : decode cX11_addRule 36 = .ok (.iload_n 3, 1) := by decide +kernel
theorem dX11_addRule_37 : decode cX11_addRule 37 = .ok (.ifCond .ge 9, 3) := by decide +kernel
theorem dX11_addRule_40 : decode cX11_addRule 40 = .ok (.aload_n 0, 1) := by decide +kernel
theorem dX11_addRule_41 : decode cX11_addRule 41 = .ok (.iconst 5, 1) := by decide +kernel
theorem dX11_addRule_42 : decode cX11_addRule 42 = .ok (.invokevirtual 102, 3) := by decide +kernel
theorem dX11_addRule_45 : decode cX11_addRule 45 = .ok (.ireturn, 1) := by decide +kernel
theorem dX11_addRule_46 : decode cX11_addRule 46 = .ok (.iload_n 2, 1) := by decide +kernel
theorem dX11_addRule_47 : decode cX11_addRule 47 = .ok (.invokestatic 167, 3) := by decide +kernel
theorem dX11_addRule_50 : decode cX11_addRule 50 = .ok (.ifCond .eq 68, 3) := by decide +kernel
theorem dX11_addRule_53 : decode cX11_addRule 53 = .ok (.iload_n 3, 1) := by decide +kernel
theorem dX11_addRule_54 : decode cX11_addRule 54 = .ok (.iconst 1, 1) := by decide +kernel
theorem dX11_addRule_55 : decode cX11_addRule 55 = .ok (.if_icmp .lt 63, 3) := by decide +kernel
theorem dX11_addRule_58 : decode cX11_addRule 58 = .ok (.iload_n 3, 1) := by decide +kernel
theorem dX11_addRule_59 : decode cX11_addRule 59 = .ok (.bipush 8, 2) := by decide +kernel
theorem dX11_addRule_61 : decode cX11_addRule 61 = .ok (.if_icmp .gt 57, 3) := by decide +kernel
theorem dX11_addRule_64 : decode cX11_addRule 64 = .ok (.iload_n 3, 1) := by decide +kernel
theorem dX11_addRule_65 : decode cX11_addRule 65 = .ok (.aload_n 0, 1) := by decide +kernel
theorem dX11_addRule_66 : decode cX11_addRule 66 = .ok (.getfield 14, 3) := by decide +kernel
theorem dX11_addRule_69 : decode cX11_addRule 69 = .ok (.getfield 99, 3) := by decide +kernel
theorem dX11_addRule_72 : decode cX11_addRule 72 = .ok (.if_icmp .ge 46, 3) := by decide +kernel
theorem dX11_addRule_75 : decode cX11_addRule 75 = .ok (.aload_n 0, 1) := by decide +kernel
theorem dX11_addRule_76 : decode cX11_addRule 76 = .ok (.getfield 14, 3) := by decide +kernel
theorem dX11_addRule_79 : decode cX11_addRule 79 = .ok (.iconst 0, 1) := by decide +kernel
theorem dX11_addRule_80 : decode cX11_addRule 80 = .ok (.iload_n 3, 1) := by decide +kernel
theorem dX11_addRule_81 : decode cX11_addRule 81 = .ok (.bipush 33, 2) := by decide +kernel
theorem dX11_addRule_83 : decode cX11_addRule 83 = .ok (.bipush 125, 2) := by decide +kernel
theorem dX11_addRule_85 : decode cX11_addRule 85 = .ok (.invokevirtual 171, 3) := by decide +kernel
theorem dX11_addRule_88 : decode cX11_addRule 88 = .ok (.ifCond .eq 30, 3) := by decide +kernel
theorem dX11_addRule_91 : decode cX11_addRule 91 = .ok (.aload_n 0, 1) := by decide +kernel
theorem dX11_addRule_92 : decode cX11_addRule 92 = .ok (.iload_n 3, 1) := by decide +kernel
theorem dX11_addRule_93 : decode cX11_addRule 93 = .ok (.aload 4, 2) := by decide +kernel
theorem dX11_addRule_95 : decode cX11_addRule 95 = .ok (.getfield 138, 3) := by decide +kernel
theorem dX11_addRule_98 : decode cX11_addRule 98 = .ok (.invokevirtual 175, 3) := by decide +kernel
theorem dX11_addRule_101 : decode cX11_addRule 101 = .ok (.ifCond .eq 17, 3) := by decide +kernel
theorem dX11_addRule_104 : decode cX11_addRule 104 = .ok (.aload 4, 2) := by decide +kernel
theorem dX11_addRule_106 : decode cX11_addRule 106 = .ok (.getfield 179, 3) := by decide +kernel
theorem dX11_addRule_109 : decode cX11_addRule 109 = .ok (.invokevirtual 183, 3) := by decide +kernel
theorem dX11_addRule_112 : decode cX11_addRule 112 = .ok (.sipush 200, 3) := by decide +kernel
theorem dX11_addRule_115 : decode cX11_addRule 115 = .ok (.if_icmp .lt 10, 3) := by decide +kernel
theorem dX11_addRule_118 : decode cX11_addRule 118 = .ok (.aload_n 0, 1) := by decide +kernel
theorem dX11_addRule_119 : decode cX11_addRule 119 = .ok (.bipush 6, 2) := by decide +kernel
theorem dX11_addRule_121 : decode cX11_addRule 121 = .ok (.invokevirtual 102, 3) := by decide +kernel
theorem dX11_addRule_124 : decode cX11_addRule 124 = .ok (.ireturn, 1) := by decide +kernel
theorem dX11_addRule_125 : decode cX11_addRule 125 = .ok (.new 188, 3) := by decide +kernel
theorem dX11_addRule_128 : decode cX11_addRule 128 = .ok (.dup, 1) := by decide +kernel
theorem dX11_addRule_129 : decode cX11_addRule 129 = .ok (.iconst 4, 1) := by decide +kernel
theorem dX11_addRule_130 : decode cX11_addRule 130 = .ok (.aload_n 0, 1) := by decide +kernel
theorem dX11_addRule_131 : decode cX11_addRule 131 = .ok (.getfield 14, 3) := by decide +kernel
theorem dX11_addRule_134 : decode cX11_addRule 134 = .ok (.iconst 0, 1) := by decide +kernel
theorem dX11_addRule_135 : decode cX11_addRule 135 = .ok (.iload_n 3, 1) := by decide +kernel
theorem dX11_addRule_136 : decode cX11_addRule 136 = .ok (.invokevirtual 190, 3) := by decide +kernel
theorem dX11_addRule_139 : decode cX11_addRule 139 = .ok (.aload_n 0, 1) := by decide +kernel
theorem dX11_addRule_140 : decode cX11_addRule 140 = .ok (.getfield 14, 3) := by decide +kernel
theorem dX11_addRule_143 : decode cX11_addRule 143 = .ok (.iload_n 3, 1) := by decide +kernel
theorem dX11_addRule_144 : decode cX11_addRule 144 = .ok (.aload_n 0, 1) := by decide +kernel
theorem dX11_addRule_145 : decode cX11_addRule 145 = .ok (.getfield 14, 3) := by decide +kernel
theorem dX11_addRule_148 : decode cX11_addRule 148 = .ok (.getfield 99, 3) := by decide +kernel
theorem dX11_addRule_151 : decode cX11_addRule 151 = .ok (.invokevirtual 190, 3) := by decide +kernel
theorem dX11_addRule_154 : decode cX11_addRule 154 = .ok (.invokespecial 194, 3) := by decide +kernel
theorem dX11_addRule_157 : decode cX11_addRule 157 = .ok (.astore 5, 2) := by decide +kernel
theorem dX11_addRule_159 : decode cX11_addRule 159 = .ok (.aload 5, 2) := by decide +kernel
theorem dX11_addRule_161 : decode cX11_addRule 161 = .ok (.iload_n 2, 1) := by decide +kernel
theorem dX11_addRule_162 : decode cX11_addRule 162 = .ok (.putfield 197, 3) := by decide +kernel
theorem dX11_addRule_165 : decode cX11_addRule 165 = .ok (.aload 4, 2) := by decide +kernel
theorem dX11_addRule_167 : decode cX11_addRule 167 = .ok (.aload 5, 2) := by decide +kernel
theorem dX11_addRule_169 : decode cX11_addRule 169 = .ok (.invokevirtual 200, 3) := by decide +kernel
theorem dX11_addRule_172 : decode cX11_addRule 172 = .ok (.aload_n 0, 1) := by decide +kernel
theorem dX11_addRule_173 : decode cX11_addRule 173 = .ok (.getfield 30, 3) := by decide +kernel
theorem dX11_addRule_176 : decode cX11_addRule 176 = .ok (.new 147, 3) := by decide +kernel
theorem dX11_addRule_179 : decode cX11_addRule 179 = .ok (.dup, 1) := by decide +kernel
theorem dX11_addRule_180 : decode cX11_addRule 180 = .ok (.iconst 2, 1) := by decide +kernel
theorem dX11_addRule_181 : decode cX11_addRule 181 = .ok (.aload 4, 2) := by decide +kernel
theorem dX11_addRule_183 : decode cX11_addRule 183 = .ok (.aload 5, 2) := by decide +kernel
theorem dX11_addRule_185 : decode cX11_addRule 185 = .ok (.iconst 0, 1) := by decide +kernel
theorem dX11_addRule_186 : decode cX11_addRule 186 = .ok (.invokespecial 149, 3) := by decide +kernel
theorem dX11_addRule_189 : decode cX11_addRule 189 = .ok (.invokevirtual 152, 3) := by decide +kernel
theorem dX11_addRule_192 : decode cX11_addRule 192 = .ok (.aload_n 0, 1) := by decide +kernel
theorem dX11_addRule_193 : decode cX11_addRule 193 = .ok (.aload 4, 2) := by decide +kernel
theorem dX11_addRule_195 : decode cX11_addRule 195 = .ok (.getfield 179, 3) := by decide +kernel
theorem dX11_addRule_198 : decode cX11_addRule 198 = .ok (.invokevirtual 183, 3) := by decide +kernel
theorem dX11_addRule_201 : decode cX11_addRule 201 = .ok (.iconst 1, 1) := by decide +kernel
theorem dX11_addRule_202 : decode cX11_addRule 202 = .ok (.isub, 1) := by decide +kernel
theorem dX11_addRule_203 : decode cX11_addRule 203 = .ok (.invokevirtual 109, 3) := by decide +kernel
theorem dX11_addRule_206 : decode cX11_addRule 206 = .ok (.ireturn, 1) := by decide +kernel
theorem dX11_condition_0 : decode cX11_condition 0 = .ok (.aload_n 0, 1) := by decide +kernel
theorem dX11_condition_1 : decode cX11_condition 1 = .ok (.getfield 30, 3) := by decide +kernel
theorem dX11_condition_4 : decode cX11_condition 4 = .ok (.iload_n 1, 1) := by decide +kernel
theorem dX11_condition_5 : decode cX11_condition 5 = .ok (.invokevirtual 131, 3) := by decide +kernel
theorem dX11_condition_8 : decode cX11_condition 8 = .ok (.astore 4, 2) := by decide +kernel
theorem dX11_condition_10 : decode cX11_condition 10 = .ok (.aload 4, 2) := by decide +kernel
theorem dX11_condition_12 : decode cX11_condition 12 = .ok (.ifnonnull 9, 3) := by decide +kernel
theorem dX11_condition_15 : decode cX11_condition 15 = .ok (.aload_n 0, 1) := by decide +kernel
theorem dX11_condition_16 : decode cX11_condition 16 = .ok (.iconst 3, 1) := by decide +kernel
theorem dX11_condition_17 : decode cX11_condition 17 = .ok (.invokevirtual 102, 3) := by decide +kernel
theorem dX11_condition_20 : decode cX11_condition 20 = .ok (.ireturn, 1) := by decide +kernel
theorem dX11_condition_21 : decode cX11_condition 21 = .ok (.aload 4, 2) := by decide +kernel
theorem dX11_condition_23 : decode cX11_condition 23 = .ok (.getfield 135, 3) := by decide +kernel
theorem dX11_condition_26 : decode cX11_condition 26 = .ok (.iconst 5, 1) := by decide +kernel
theorem dX11_condition_27 : decode cX11_condition 27 = .ok (.if_icmp .ne 9, 3) := by decide +kernel
theorem dX11_condition_30 : decode cX11_condition 30 = .ok (.aload_n 0, 1) := by decide +kernel
theorem dX11_condition_31 : decode cX11_condition 31 = .ok (.iconst 4, 1) := by decide +kernel
theorem dX11_condition_32 : decode cX11_condition 32 = .ok (.invokevirtual 102, 3) := by decide +kernel
theorem dX11_condition_35 : decode cX11_condition 35 = .ok (.ireturn, 1) := by decide +kernel
theorem dX11_condition_36 : decode cX11_condition 36 = .ok (.iload_n 2, 1) := by decide +kernel
theorem dX11_condition_37 : decode cX11_condition 37 = .ok (.ifCond .lt 15, 3) := by decide +kernel
theorem dX11_condition_40 : decode cX11_condition 40 = .ok (.iload_n 2, 1) := by decide +kernel
theorem dX11_condition_41 : decode cX11_condition 41 = .ok (.aload 4, 2) := by decide +kernel
theorem dX11_condition_43 : decode cX11_condition 43 = .ok (.getfield 179, 3) := by decide +kernel
theorem dX11_condition_46 : decode cX11_condition 46 = .ok (.invokevirtual 183, 3) := by decide +kernel
theorem dX11_condition_49 : decode cX11_condition 49 = .ok (.if_icmp .lt 9, 3) := by decide +kernel
theorem dX11_condition_52 : decode cX11_condition 52 = .ok (.aload_n 0, 1) := by decide +kernel
theorem dX11_condition_53 : decode cX11_condition 53 = .ok (.iconst 2, 1) := by decide +kernel
theorem dX11_condition_54 : decode cX11_condition 54 = .ok (.invokevirtual 102, 3) := by decide +kernel
theorem dX11_condition_57 : decode cX11_condition 57 = .ok (.ireturn, 1) := by decide +kernel
theorem dX11_condition_58 : decode cX11_condition 58 = .ok (.iload_n 3, 1) := by decide +kernel
theorem dX11_condition_59 : decode cX11_condition 59 = .ok (.invokestatic 167, 3) := by decide +kernel
theorem dX11_condition_62 : decode cX11_condition 62 = .ok (.ifCond .ne 10, 3) := by decide +kernel
theorem dX11_condition_65 : decode cX11_condition 65 = .ok (.aload_n 0, 1) := by decide +kernel
theorem dX11_condition_66 : decode cX11_condition 66 = .ok (.bipush 6, 2) := by decide +kernel
theorem dX11_condition_68 : decode cX11_condition 68 = .ok (.invokevirtual 102, 3) := by decide +kernel
theorem dX11_condition_71 : decode cX11_condition 71 = .ok (.ireturn, 1) := by decide +kernel
theorem dX11_condition_72 : decode cX11_condition 72 = .ok (.aload 4, 2) := by decide +kernel
theorem dX11_condition_74 : decode cX11_condition 74 = .ok (.getfield 179, 3) := by decide +kernel
theorem dX11_condition_77 : decode cX11_condition 77 = .ok (.iload_n 2, 1) := by decide +kernel
theorem dX11_condition_78 : decode cX11_condition 78 = .ok (.invokevirtual 204, 3) := by decide +kernel
theorem dX11_condition_81 : decode cX11_condition 81 = .ok (.checkcast 188, 3) := by decide +kernel
theorem dX11_condition_84 : decode cX11_condition 84 = .ok (.astore 5, 2) := by decide +kernel
theorem dX11_condition_86 : decode cX11_condition 86 = .ok (.aload 5, 2) := by decide +kernel
theorem dX11_condition_88 : decode cX11_condition 88 = .ok (.getfield 197, 3) := by decide +kernel
theorem dX11_condition_91 : decode cX11_condition 91 = .ok (.istore 6, 2) := by decide +kernel
theorem dX11_condition_93 : decode cX11_condition 93 = .ok (.aload_n 0, 1) := by decide +kernel
theorem dX11_condition_94 : decode cX11_condition 94 = .ok (.getfield 30, 3) := by decide +kernel
theorem dX11_condition_97 : decode cX11_condition 97 = .ok (.new 147, 3) := by decide +kernel
theorem dX11_condition_100 : decode cX11_condition 100 = .ok (.dup, 1) := by decide +kernel
theorem dX11_condition_101 : decode cX11_condition 101 = .ok (.iconst 3, 1) := by decide +kernel
theorem dX11_condition_102 : decode cX11_condition 102 = .ok (.aload 4, 2) := by decide +kernel
theorem dX11_condition_104 : decode cX11_condition 104 = .ok (.aload 5, 2) := by decide +kernel
theorem dX11_condition_106 : decode cX11_condition 106 = .ok (.iload 6, 2) := by decide +kernel
theorem dX11_condition_108 : decode cX11_condition 108 = .ok (.invokespecial 149, 3) := by decide +kernel
theorem dX11_condition_111 : decode cX11_condition 111 = .ok (.invokevirtual 152, 3) := by decide +kernel
theorem dX11_condition_114 : decode cX11_condition 114 = .ok (.aload 5, 2) := by decide +kernel
theorem dX11_condition_116 : decode cX11_condition 116 = .ok (.iload_n 3, 1) := by decide +kernel
theorem dX11_condition_117 : decode cX11_condition 117 = .ok (.putfield 197, 3) := by decide +kernel
theorem dX11_condition_120 : decode cX11_condition 120 = .ok (.aload_n 0, 1) := by decide +kernel
theorem dX11_condition_121 : decode cX11_condition 121 = .ok (.iload 6, 2) := by decide +kernel
theorem dX11_condition_123 : decode cX11_condition 123 = .ok (.invokevirtual 109, 3) := by decide +kernel
theorem dX11_condition_126 : decode cX11_condition 126 = .ok (.ireturn, 1) := by decide +kernel
theorem dX11_indicator_0 : decode cX11_indicator 0 = .ok (.aload_n 0, 1) := by decide +kernel
theorem dX11_indicator_1 : decode cX11_indicator 1 = .ok (.iload_n 1, 1) := by decide +kernel
theorem dX11_indicator_2 : decode cX11_indicator 2 = .ok (.iload_n 2, 1) := by decide +kernel
theorem dX11_indicator_3 : decode cX11_indicator 3 = .ok (.invokevirtual 208, 3) := by decide +kernel
theorem dX11_indicator_6 : decode cX11_indicator 6 = .ok (.istore_n 3, 1) := by decide +kernel
theorem dX11_indicator_7 : decode cX11_indicator 7 = .ok (.aload_n 0, 1) := by decide +kernel
theorem dX11_indicator_8 : decode cX11_indicator 8 = .ok (.getfield 14, 3) := by decide +kernel
theorem dX11_indicator_11 : decode cX11_indicator 11 = .ok (.invokevirtual 164, 3) := by decide +kernel
theorem dX11_indicator_14 : decode cX11_indicator 14 = .ok (.iload_n 3, 1) := by decide +kernel
theorem dX11_indicator_15 : decode cX11_indicator 15 = .ok (.ireturn, 1) := by decide +kernel
theorem dX11_changeIndicator_0 : decode cX11_changeIndicator 0 = .ok (.iload_n 2, 1) := by decide +kernel
theorem dX11_changeIndicator_1 : decode cX11_changeIndicator 1 = .ok (.ifCond .lt 8, 3) := by decide +kernel
theorem dX11_changeIndicator_4 : decode cX11_changeIndicator 4 = .ok (.iload_n 2, 1) := by decide +kernel
theorem dX11_changeIndicator_5 : decode cX11_changeIndicator 5 = .ok (.iconst 3, 1) := by decide +kernel
theorem dX11_changeIndicator_6 : decode cX11_changeIndicator 6 = .ok (.if_icmp .le 10, 3) := by decide +kernel
theorem dX11_changeIndicator_9 : decode cX11_changeIndicator 9 = .ok (.aload_n 0, 1) := by decide +kernel
theorem dX11_changeIndicator_10 : decode cX11_changeIndicator 10 = .ok (.bipush 6, 2) := by decide +kernel
theorem dX11_changeIndicator_12 : decode cX11_changeIndicator 12 = .ok (.invokevirtual 102, 3) := by decide +kernel
theorem dX11_changeIndicator_15 : decode cX11_changeIndicator 15 = .ok (.ireturn, 1) := by decide +kernel
theorem dX11_changeIndicator_16 : decode cX11_changeIndicator 16 = .ok (.aload_n 0, 1) := by decide +kernel
theorem dX11_changeIndicator_17 : decode cX11_changeIndicator 17 = .ok (.getfield 30, 3) := by decide +kernel
theorem dX11_changeIndicator_20 : decode cX11_changeIndicator 20 = .ok (.iload_n 1, 1) := by decide +kernel
theorem dX11_changeIndicator_21 : decode cX11_changeIndicator 21 = .ok (.invokevirtual 131, 3) := by decide +kernel
theorem dX11_changeIndicator_24 : decode cX11_changeIndicator 24 = .ok (.astore_n 3, 1) := by decide +kernel
theorem dX11_changeIndicator_25 : decode cX11_changeIndicator 25 = .ok (.aload_n 3, 1) := by decide +kernel
theorem dX11_changeIndicator_26 : decode cX11_changeIndicator 26 = .ok (.ifnonnull 9, 3) := by decide +kernel
theorem dX11_changeIndicator_29 : decode cX11_changeIndicator 29 = .ok (.aload_n 0, 1) := by decide +kernel
theorem dX11_changeIndicator_30 : decode cX11_changeIndicator 30 = .ok (.iconst 3, 1) := by decide +kernel
theorem dX11_changeIndicator_31 : decode cX11_changeIndicator 31 = .ok (.invokevirtual 102, 3) := by decide +kernel
theorem dX11_changeIndicator_34 : decode cX11_changeIndicator 34 = .ok (.ireturn, 1) := by decide +kernel
theorem dX11_changeIndicator_35 : decode cX11_changeIndicator 35 = .ok (.aload_n 3, 1) := by decide +kernel
theorem dX11_changeIndicator_36 : decode cX11_changeIndicator 36 = .ok (.iload_n 2, 1) := by decide +kernel
theorem dX11_changeIndicator_37 : decode cX11_changeIndicator 37 = .ok (.invokevirtual 211, 3) := by decide +kernel
theorem dX11_changeIndicator_40 : decode cX11_changeIndicator 40 = .ok (.ifCond .ne 9, 3) := by decide +kernel
theorem dX11_changeIndicator_43 : decode cX11_changeIndicator 43 = .ok (.aload_n 0, 1) := by decide +kernel
theorem dX11_changeIndicator_44 : decode cX11_changeIndicator 44 = .ok (.iconst 4, 1) := by decide +kernel
theorem dX11_changeIndicator_45 : decode cX11_changeIndicator 45 = .ok (.invokevirtual 102, 3) := by decide +kernel
theorem dX11_changeIndicator_48 : decode cX11_changeIndicator 48 = .ok (.ireturn, 1) := by decide +kernel
theorem dX11_changeIndicator_49 : decode cX11_changeIndicator 49 = .ok (.aload_n 0, 1) := by decide +kernel
theorem dX11_changeIndicator_50 : decode cX11_changeIndicator 50 = .ok (.iconst 0, 1) := by decide +kernel
theorem dX11_changeIndicator_51 : decode cX11_changeIndicator 51 = .ok (.aload_n 3, 1) := by decide +kernel
theorem dX11_changeIndicator_52 : decode cX11_changeIndicator 52 = .ok (.getfield 138, 3) := by decide +kernel
theorem dX11_changeIndicator_55 : decode cX11_changeIndicator 55 = .ok (.invokevirtual 175, 3) := by decide +kernel
theorem dX11_changeIndicator_58 : decode cX11_changeIndicator 58 = .ok (.ifCond .ne 10, 3) := by decide +kernel
theorem dX11_changeIndicator_61 : decode cX11_changeIndicator 61 = .ok (.aload_n 0, 1) := by decide +kernel
theorem dX11_changeIndicator_62 : decode cX11_changeIndicator 62 = .ok (.bipush 6, 2) := by decide +kernel
theorem dX11_changeIndicator_64 : decode cX11_changeIndicator 64 = .ok (.invokevirtual 102, 3) := by decide +kernel
theorem dX11_changeIndicator_67 : decode cX11_changeIndicator 67 = .ok (.ireturn, 1) := by decide +kernel
theorem dX11_changeIndicator_68 : decode cX11_changeIndicator 68 = .ok (.aload_n 0, 1) := by decide +kernel
theorem dX11_changeIndicator_69 : decode cX11_changeIndicator 69 = .ok (.getfield 30, 3) := by decide +kernel
theorem dX11_changeIndicator_72 : decode cX11_changeIndicator 72 = .ok (.new 147, 3) := by decide +kernel
theorem dX11_changeIndicator_75 : decode cX11_changeIndicator 75 = .ok (.dup, 1) := by decide +kernel
theorem dX11_changeIndicator_76 : decode cX11_changeIndicator 76 = .ok (.iconst 4, 1) := by decide +kernel
theorem dX11_changeIndicator_77 : decode cX11_changeIndicator 77 = .ok (.aload_n 3, 1) := by decide +kernel
theorem dX11_changeIndicator_78 : decode cX11_changeIndicator 78 = .ok (.aload_n 3, 1) := by decide +kernel
theorem dX11_changeIndicator_79 : decode cX11_changeIndicator 79 = .ok (.getfield 214, 3) := by decide +kernel
theorem dX11_changeIndicator_82 : decode cX11_changeIndicator 82 = .ok (.iload_n 2, 1) := by decide +kernel
theorem dX11_changeIndicator_83 : decode cX11_changeIndicator 83 = .ok (.aaload, 1) := by decide +kernel
theorem dX11_changeIndicator_84 : decode cX11_changeIndicator 84 = .ok (.iload_n 2, 1) := by decide +kernel
theorem dX11_changeIndicator_85 : decode cX11_changeIndicator 85 = .ok (.invokespecial 149, 3) := by decide +kernel
theorem dX11_changeIndicator_88 : decode cX11_changeIndicator 88 = .ok (.invokevirtual 152, 3) := by decide +kernel
theorem dX11_changeIndicator_91 : decode cX11_changeIndicator 91 = .ok (.aload_n 3, 1) := by decide +kernel
theorem dX11_changeIndicator_92 : decode cX11_changeIndicator 92 = .ok (.getfield 214, 3) := by decide +kernel
theorem dX11_changeIndicator_95 : decode cX11_changeIndicator 95 = .ok (.iload_n 2, 1) := by decide +kernel
theorem dX11_changeIndicator_96 : decode cX11_changeIndicator 96 = .ok (.aload_n 0, 1) := by decide +kernel
theorem dX11_changeIndicator_97 : decode cX11_changeIndicator 97 = .ok (.getfield 14, 3) := by decide +kernel
theorem dX11_changeIndicator_100 : decode cX11_changeIndicator 100 = .ok (.getfield 99, 3) := by decide +kernel
theorem dX11_changeIndicator_103 : decode cX11_changeIndicator 103 = .ok (.ifCond .ne 7, 3) := by decide +kernel
theorem dX11_changeIndicator_106 : decode cX11_changeIndicator 106 = .ok (.aconst_null, 1) := by decide +kernel
theorem dX11_changeIndicator_107 : decode cX11_changeIndicator 107 = .ok (.goto 35, 3) := by decide +kernel
theorem dX11_changeIndicator_110 : decode cX11_changeIndicator 110 = .ok (.new 188, 3) := by decide +kernel
theorem dX11_changeIndicator_113 : decode cX11_changeIndicator 113 = .ok (.dup, 1) := by decide +kernel
theorem dX11_changeIndicator_114 : decode cX11_changeIndicator 114 = .ok (.iload_n 2, 1) := by decide +kernel
theorem dX11_changeIndicator_115 : decode cX11_changeIndicator 115 = .ok (.aload_n 0, 1) := by decide +kernel
theorem dX11_changeIndicator_116 : decode cX11_changeIndicator 116 = .ok (.getfield 14, 3) := by decide +kernel
theorem dX11_changeIndicator_119 : decode cX11_changeIndicator 119 = .ok (.iconst 0, 1) := by decide +kernel
theorem dX11_changeIndicator_120 : decode cX11_changeIndicator 120 = .ok (.iconst 0, 1) := by decide +kernel
theorem dX11_changeIndicator_121 : decode cX11_changeIndicator 121 = .ok (.invokevirtual 190, 3) := by decide +kernel
theorem dX11_changeIndicator_124 : decode cX11_changeIndicator 124 = .ok (.aload_n 0, 1) := by decide +kernel
theorem dX11_changeIndicator_125 : decode cX11_changeIndicator 125 = .ok (.getfield 14, 3) := by decide +kernel
theorem dX11_changeIndicator_128 : decode cX11_changeIndicator 128 = .ok (.iconst 0, 1) := by decide +kernel
theorem dX11_changeIndicator_129 : decode cX11_changeIndicator 129 = .ok (.aload_n 0, 1) := by decide +kernel
theorem dX11_changeIndicator_130 : decode cX11_changeIndicator 130 = .ok (.getfield 14, 3) := by decide +kernel
theorem dX11_changeIndicator_133 : decode cX11_changeIndicator 133 = .ok (.getfield 99, 3) := by decide +kernel
theorem dX11_changeIndicator_136 : decode cX11_changeIndicator 136 = .ok (.invokevirtual 190, 3) := by decide +kernel
theorem dX11_changeIndicator_139 : decode cX11_changeIndicator 139 = .ok (.invokespecial 194, 3) := by decide +kernel
theorem dX11_changeIndicator_142 : decode cX11_changeIndicator 142 = .ok (.aastore, 1) := by decide +kernel
theorem dX11_changeIndicator_143 : decode cX11_changeIndicator 143 = .ok (.aload_n 0, 1) := by decide +kernel
theorem dX11_changeIndicator_144 : decode cX11_changeIndicator 144 = .ok (.aload_n 0, 1) := by decide +kernel
theorem dX11_changeIndicator_145 : decode cX11_changeIndicator 145 = .ok (.getfield 14, 3) := by decide +kernel
theorem dX11_changeIndicator_148 : decode cX11_changeIndicator 148 = .ok (.getfield 99, 3) := by decide +kernel
theorem dX11_changeIndicator_151 : decode cX11_changeIndicator 151 = .ok (.invokevirtual 109, 3) := by decide +kernel
theorem dX11_changeIndicator_154 : decode cX11_changeIndicator 154 = .ok (.ireturn, 1) := by decide +kernel
theorem dX11_undo_0 : decode cX11_undo 0 = .ok (.aload_n 0, 1) := by decide +kernel
theorem dX11_undo_1 : decode cX11_undo 1 = .ok (.aload_n 0, 1) := by decide +kernel
theorem dX11_undo_2 : decode cX11_undo 2 = .ok (.getfield 30, 3) := by decide +kernel
theorem dX11_undo_5 : decode cX11_undo 5 = .ok (.invokevirtual 218, 3) := by decide +kernel
theorem dX11_undo_8 : decode cX11_undo 8 = .ok (.ifCond .eq 7, 3) := by decide +kernel
theorem dX11_undo_11 : decode cX11_undo 11 = .ok (.iconst 1, 1) := by decide +kernel
theorem dX11_undo_12 : decode cX11_undo 12 = .ok (.goto 4, 3) := by decide +kernel
theorem dX11_undo_15 : decode cX11_undo 15 = .ok (.iconst 0, 1) := by decide +kernel
theorem dX11_undo_16 : decode cX11_undo 16 = .ok (.invokevirtual 109, 3) := by decide +kernel
theorem dX11_undo_19 : decode cX11_undo 19 = .ok (.ireturn, 1) := by decide +kernel
theorem dX11_text_0 : decode cX11_text 0 = .ok (.aload_n 0, 1) := by decide +kernel
theorem dX11_text_1 : decode cX11_text 1 = .ok (.invokevirtual 221, 3) := by decide +kernel
theorem dX11_text_4 : decode cX11_text 4 = .ok (.istore_n 1, 1) := by decide +kernel
theorem dX11_text_5 : decode cX11_text 5 = .ok (.aload_n 0, 1) := by decide +kernel
theorem dX11_text_6 : decode cX11_text 6 = .ok (.getfield 14, 3) := by decide +kernel
theorem dX11_text_9 : decode cX11_text 9 = .ok (.invokevirtual 164, 3) := by decide +kernel
theorem dX11_text_12 : decode cX11_text 12 = .ok (.iload_n 1, 1) := by decide +kernel
theorem dX11_text_13 : decode cX11_text 13 = .ok (.ireturn, 1) := by decide +kernel
theorem dX11_addText_0 : decode cX11_addText 0 = .ok (.iconst 0, 1) := by decide +kernel
theorem dX11_addText_1 : decode cX11_addText 1 = .ok (.istore_n 1, 1) := by decide +kernel
theorem dX11_addText_2 : decode cX11_addText 2 = .ok (.iload_n 1, 1) := by decide +kernel
theorem dX11_addText_3 : decode cX11_addText 3 = .ok (.aload_n 0, 1) := by decide +kernel
theorem dX11_addText_4 : decode cX11_addText 4 = .ok (.getfield 14, 3) := by decide +kernel
theorem dX11_addText_7 : decode cX11_addText 7 = .ok (.getfield 99, 3) := by decide +kernel
theorem dX11_addText_10 : decode cX11_addText 10 = .ok (.if_icmp .ge 43, 3) := by decide +kernel
theorem dX11_addText_13 : decode cX11_addText 13 = .ok (.aload_n 0, 1) := by decide +kernel
theorem dX11_addText_14 : decode cX11_addText 14 = .ok (.getfield 14, 3) := by decide +kernel
theorem dX11_addText_17 : decode cX11_addText 17 = .ok (.iload_n 1, 1) := by decide +kernel
theorem dX11_addText_18 : decode cX11_addText 18 = .ok (.invokevirtual 224, 3) := by decide +kernel
theorem dX11_addText_21 : decode cX11_addText 21 = .ok (.istore_n 2, 1) := by decide +kernel
theorem dX11_addText_22 : decode cX11_addText 22 = .ok (.iload_n 2, 1) := by decide +kernel
theorem dX11_addText_23 : decode cX11_addText 23 = .ok (.bipush 10, 2) := by decide +kernel
theorem dX11_addText_25 : decode cX11_addText 25 = .ok (.if_icmp .eq 22, 3) := by decide +kernel
theorem dX11_addText_28 : decode cX11_addText 28 = .ok (.iload_n 2, 1) := by decide +kernel
theorem dX11_addText_29 : decode cX11_addText 29 = .ok (.bipush 32, 2) := by decide +kernel
theorem dX11_addText_31 : decode cX11_addText 31 = .ok (.if_icmp .lt 9, 3) := by decide +kernel
theorem dX11_addText_34 : decode cX11_addText 34 = .ok (.iload_n 2, 1) := by decide +kernel
theorem dX11_addText_35 : decode cX11_addText 35 = .ok (.bipush 126, 2) := by decide +kernel
theorem dX11_addText_37 : decode cX11_addText 37 = .ok (.if_icmp .le 10, 3) := by decide +kernel
theorem dX11_addText_40 : decode cX11_addText 40 = .ok (.aload_n 0, 1) := by decide +kernel
theorem dX11_addText_41 : decode cX11_addText 41 = .ok (.bipush 6, 2) := by decide +kernel
theorem dX11_addText_43 : decode cX11_addText 43 = .ok (.invokevirtual 102, 3) := by decide +kernel
theorem dX11_addText_46 : decode cX11_addText 46 = .ok (.ireturn, 1) := by decide +kernel
theorem dX11_addText_47 : decode cX11_addText 47 = .ok (.iinc 1 1, 3) := by decide +kernel
theorem dX11_addText_50 : decode cX11_addText 50 = .ok (.goto (-48), 3) := by decide +kernel
theorem dX11_addText_53 : decode cX11_addText 53 = .ok (.aload_n 0, 1) := by decide +kernel
theorem dX11_addText_54 : decode cX11_addText 54 = .ok (.getfield 18, 3) := by decide +kernel
theorem dX11_addText_57 : decode cX11_addText 57 = .ok (.getfield 99, 3) := by decide +kernel
theorem dX11_addText_60 : decode cX11_addText 60 = .ok (.aload_n 0, 1) := by decide +kernel
theorem dX11_addText_61 : decode cX11_addText 61 = .ok (.getfield 14, 3) := by decide +kernel
theorem dX11_addText_64 : decode cX11_addText 64 = .ok (.getfield 99, 3) := by decide +kernel
theorem dX11_addText_67 : decode cX11_addText 67 = .ok (.iadd, 1) := by decide +kernel
theorem dX11_addText_68 : decode cX11_addText 68 = .ok (.sipush 500, 3) := by decide +kernel
theorem dX11_addText_71 : decode cX11_addText 71 = .ok (.if_icmp .le 10, 3) := by decide +kernel
theorem dX11_addText_74 : decode cX11_addText 74 = .ok (.aload_n 0, 1) := by decide +kernel
theorem dX11_addText_75 : decode cX11_addText 75 = .ok (.bipush 6, 2) := by decide +kernel
theorem dX11_addText_77 : decode cX11_addText 77 = .ok (.invokevirtual 102, 3) := by decide +kernel
theorem dX11_addText_80 : decode cX11_addText 80 = .ok (.ireturn, 1) := by decide +kernel
theorem dX11_addText_81 : decode cX11_addText 81 = .ok (.aload_n 0, 1) := by decide +kernel
theorem dX11_addText_82 : decode cX11_addText 82 = .ok (.getfield 14, 3) := by decide +kernel
theorem dX11_addText_85 : decode cX11_addText 85 = .ok (.getfield 99, 3) := by decide +kernel
theorem dX11_addText_88 : decode cX11_addText 88 = .ok (.ifCond .ne 10, 3) := by decide +kernel
theorem dX11_addText_91 : decode cX11_addText 91 = .ok (.aload_n 0, 1) := by decide +kernel
theorem dX11_addText_92 : decode cX11_addText 92 = .ok (.getfield 18, 3) := by decide +kernel
theorem dX11_addText_95 : decode cX11_addText 95 = .ok (.invokevirtual 164, 3) := by decide +kernel
theorem dX11_addText_98 : decode cX11_addText 98 = .ok (.aload_n 0, 1) := by decide +kernel
theorem dX11_addText_99 : decode cX11_addText 99 = .ok (.getfield 18, 3) := by decide +kernel
theorem dX11_addText_102 : decode cX11_addText 102 = .ok (.aload_n 0, 1) := by decide +kernel
theorem dX11_addText_103 : decode cX11_addText 103 = .ok (.getfield 14, 3) := by decide +kernel
theorem dX11_addText_106 : decode cX11_addText 106 = .ok (.invokevirtual 227, 3) := by decide +kernel
theorem dX11_addText_109 : decode cX11_addText 109 = .ok (.aload_n 0, 1) := by decide +kernel
theorem dX11_addText_110 : decode cX11_addText 110 = .ok (.aload_n 0, 1) := by decide +kernel
theorem dX11_addText_111 : decode cX11_addText 111 = .ok (.getfield 18, 3) := by decide +kernel
theorem dX11_addText_114 : decode cX11_addText 114 = .ok (.getfield 99, 3) := by decide +kernel
theorem dX11_addText_117 : decode cX11_addText 117 = .ok (.invokevirtual 109, 3) := by decide +kernel
theorem dX11_addText_120 : decode cX11_addText 120 = .ok (.ireturn, 1) := by decide +kernel
theorem dX11_measure_0 : decode cX11_measure 0 = .ok (.iload_n 1, 1) := by decide +kernel
theorem dX11_measure_1 : decode cX11_measure 1 = .ok (.iconst 1, 1) := by decide +kernel
theorem dX11_measure_2 : decode cX11_measure 2 = .ok (.if_icmp .lt 32, 3) := by decide +kernel
theorem dX11_measure_5 : decode cX11_measure 5 = .ok (.iload_n 1, 1) := by decide +kernel
theorem dX11_measure_6 : decode cX11_measure 6 = .ok (.bipush 100, 2) := by decide +kernel
theorem dX11_measure_8 : decode cX11_measure 8 = .ok (.if_icmp .gt 26, 3) := by decide +kernel
theorem dX11_measure_11 : decode cX11_measure 11 = .ok (.iload_n 2, 1) := by decide +kernel
theorem dX11_measure_12 : decode cX11_measure 12 = .ok (.iconst 1, 1) := by decide +kernel
theorem dX11_measure_13 : decode cX11_measure 13 = .ok (.if_icmp .lt 21, 3) := by decide +kernel
theorem dX11_measure_16 : decode cX11_measure 16 = .ok (.iload_n 2, 1) := by decide +kernel
theorem dX11_measure_17 : decode cX11_measure 17 = .ok (.bipush 50, 2) := by decide +kernel
theorem dX11_measure_19 : decode cX11_measure 19 = .ok (.if_icmp .gt 15, 3) := by decide +kernel
theorem dX11_measure_22 : decode cX11_measure 22 = .ok (.iload_n 3, 1) := by decide +kernel
theorem dX11_measure_23 : decode cX11_measure 23 = .ok (.iconst 1, 1) := by decide +kernel
theorem dX11_measure_24 : decode cX11_measure 24 = .ok (.if_icmp .lt 10, 3) := by decide +kernel
theorem dX11_measure_27 : decode cX11_measure 27 = .ok (.iload_n 3, 1) := by decide +kernel
theorem dX11_measure_28 : decode cX11_measure 28 = .ok (.sipush 255, 3) := by decide +kernel
theorem dX11_measure_31 : decode cX11_measure 31 = .ok (.if_icmp .le 10, 3) := by decide +kernel
theorem dX11_measure_34 : decode cX11_measure 34 = .ok (.aload_n 0, 1) := by decide +kernel
theorem dX11_measure_35 : decode cX11_measure 35 = .ok (.bipush 6, 2) := by decide +kernel
theorem dX11_measure_37 : decode cX11_measure 37 = .ok (.invokevirtual 102, 3) := by decide +kernel
theorem dX11_measure_40 : decode cX11_measure 40 = .ok (.ireturn, 1) := by decide +kernel
theorem dX11_measure_41 : decode cX11_measure 41 = .ok (.aload_n 0, 1) := by decide +kernel
theorem dX11_measure_42 : decode cX11_measure 42 = .ok (.iload_n 1, 1) := by decide +kernel
theorem dX11_measure_43 : decode cX11_measure 43 = .ok (.putfield 74, 3) := by decide +kernel
theorem dX11_measure_46 : decode cX11_measure 46 = .ok (.aload_n 0, 1) := by decide +kernel
theorem dX11_measure_47 : decode cX11_measure 47 = .ok (.iload_n 2, 1) := by decide +kernel
theorem dX11_measure_48 : decode cX11_measure 48 = .ok (.putfield 78, 3) := by decide +kernel
theorem dX11_measure_51 : decode cX11_measure 51 = .ok (.aload_n 0, 1) := by decide +kernel
theorem dX11_measure_52 : decode cX11_measure 52 = .ok (.iload_n 3, 1) := by decide +kernel
theorem dX11_measure_53 : decode cX11_measure 53 = .ok (.putfield 81, 3) := by decide +kernel
theorem dX11_measure_56 : decode cX11_measure 56 = .ok (.aload_n 0, 1) := by decide +kernel
theorem dX11_measure_57 : decode cX11_measure 57 = .ok (.iconst 1, 1) := by decide +kernel
theorem dX11_measure_58 : decode cX11_measure 58 = .ok (.invokevirtual 109, 3) := by decide +kernel
theorem dX11_measure_61 : decode cX11_measure 61 = .ok (.ireturn, 1) := by decide +kernel
theorem dX11_set_0 : decode cX11_set 0 = .ok (.aload_n 0, 1) := by decide +kernel
theorem dX11_set_1 : decode cX11_set 1 = .ok (.getfield 30, 3) := by decide +kernel
theorem dX11_set_4 : decode cX11_set 4 = .ok (.iload_n 1, 1) := by decide +kernel
theorem dX11_set_5 : decode cX11_set 5 = .ok (.invokevirtual 231, 3) := by decide +kernel
theorem dX11_set_8 : decode cX11_set 8 = .ok (.astore_n 2, 1) := by decide +kernel
theorem dX11_set_9 : decode cX11_set 9 = .ok (.aload_n 2, 1) := by decide +kernel
theorem dX11_set_10 : decode cX11_set 10 = .ok (.ifnonnull 9, 3) := by decide +kernel
theorem dX11_set_13 : decode cX11_set 13 = .ok (.aload_n 0, 1) := by decide +kernel
theorem dX11_set_14 : decode cX11_set 14 = .ok (.iconst 3, 1) := by decide +kernel
theorem dX11_set_15 : decode cX11_set 15 = .ok (.invokevirtual 102, 3) := by decide +kernel
theorem dX11_set_18 : decode cX11_set 18 = .ok (.ireturn, 1) := by decide +kernel
theorem dX11_set_19 : decode cX11_set 19 = .ok (.aload_n 0, 1) := by decide +kernel
theorem dX11_set_20 : decode cX11_set 20 = .ok (.getfield 71, 3) := by decide +kernel
theorem dX11_set_23 : decode cX11_set 23 = .ok (.invokevirtual 234, 3) := by decide +kernel
theorem dX11_set_26 : decode cX11_set 26 = .ok (.aload_n 0, 1) := by decide +kernel
theorem dX11_set_27 : decode cX11_set 27 = .ok (.getfield 37, 3) := by decide +kernel
theorem dX11_set_30 : decode cX11_set 30 = .ok (.invokevirtual 235, 3) := by decide +kernel
theorem dX11_set_33 : decode cX11_set 33 = .ok (.iconst 0, 1) := by decide +kernel
theorem dX11_set_34 : decode cX11_set 34 = .ok (.istore_n 3, 1) := by decide +kernel
theorem dX11_set_35 : decode cX11_set 35 = .ok (.aload_n 0, 1) := by decide +kernel
theorem dX11_set_36 : decode cX11_set 36 = .ok (.getfield 37, 3) := by decide +kernel
theorem dX11_set_39 : decode cX11_set 39 = .ok (.aload_n 0, 1) := by decide +kernel
theorem dX11_set_40 : decode cX11_set 40 = .ok (.getfield 18, 3) := by decide +kernel
theorem dX11_set_43 : decode cX11_set 43 = .ok (.aload_n 0, 1) := by decide +kernel
theorem dX11_set_44 : decode cX11_set 44 = .ok (.getfield 44, 3) := by decide +kernel
theorem dX11_set_47 : decode cX11_set 47 = .ok (.invokevirtual 238, 3) := by decide +kernel
theorem dX11_set_50 : decode cX11_set 50 = .ok (.istore 4, 2) := by decide +kernel
theorem dX11_set_52 : decode cX11_set 52 = .ok (.iconst 0, 1) := by decide +kernel
theorem dX11_set_53 : decode cX11_set 53 = .ok (.istore 5, 2) := by decide +kernel
theorem dX11_set_55 : decode cX11_set 55 = .ok (.iload_n 3, 1) := by decide +kernel
theorem dX11_set_56 : decode cX11_set 56 = .ok (.ifCond .ne 147, 3) := by decide +kernel
theorem dX11_set_59 : decode cX11_set 59 = .ok (.iload 4, 2) := by decide +kernel
theorem dX11_set_61 : decode cX11_set 61 = .ok (.ifCond .eq 142, 3) := by decide +kernel
theorem dX11_set_64 : decode cX11_set 64 = .ok (.iload 5, 2) := by decide +kernel
theorem dX11_set_66 : decode cX11_set 66 = .ok (.ldc 242, 2) := by decide +kernel
theorem dX11_set_68 : decode cX11_set 68 = .ok (.if_icmp .ge 135, 3) := by decide +kernel
theorem dX11_set_71 : decode cX11_set 71 = .ok (.iconst 1, 1) := by decide +kernel
theorem dX11_set_72 : decode cX11_set 72 = .ok (.istore 6, 2) := by decide +kernel
theorem dX11_set_74 : decode cX11_set 74 = .ok (.iload 4, 2) := by decide +kernel
theorem dX11_set_76 : decode cX11_set 76 = .ok (.iconst 1, 1) := by decide +kernel
theorem dX11_set_77 : decode cX11_set 77 = .ok (.if_icmp .ne 15, 3) := by decide +kernel
theorem dX11_set_80 : decode cX11_set 80 = .ok (.aload_n 0, 1) := by decide +kernel
theorem dX11_set_81 : decode cX11_set 81 = .ok (.getfield 71, 3) := by decide +kernel
theorem dX11_set_84 : decode cX11_set 84 = .ok (.invokevirtual 243, 3) := by decide +kernel
theorem dX11_set_87 : decode cX11_set 87 = .ok (.istore 6, 2) := by decide +kernel
theorem dX11_set_89 : decode cX11_set 89 = .ok (.goto 76, 3) := by decide +kernel
theorem dX11_set_92 : decode cX11_set 92 = .ok (.iload 4, 2) := by decide +kernel
theorem dX11_set_94 : decode cX11_set 94 = .ok (.iconst 3, 1) := by decide +kernel
theorem dX11_set_95 : decode cX11_set 95 = .ok (.if_icmp .ne 24, 3) := by decide +kernel
theorem dX11_set_98 : decode cX11_set 98 = .ok (.aload_n 0, 1) := by decide +kernel
theorem dX11_set_99 : decode cX11_set 99 = .ok (.getfield 71, 3) := by decide +kernel
theorem dX11_set_102 : decode cX11_set 102 = .ok (.aload_n 0, 1) := by decide +kernel
theorem dX11_set_103 : decode cX11_set 103 = .ok (.getfield 37, 3) := by decide +kernel
theorem dX11_set_106 : decode cX11_set 106 = .ok (.getfield 246, 3) := by decide +kernel
theorem dX11_set_109 : decode cX11_set 109 = .ok (.aload_n 0, 1) := by decide +kernel
theorem dX11_set_110 : decode cX11_set 110 = .ok (.getfield 74, 3) := by decide +kernel
theorem dX11_set_113 : decode cX11_set 113 = .ok (.invokevirtual 249, 3) := by decide +kernel
theorem dX11_set_116 : decode cX11_set 116 = .ok (.goto 49, 3) := by decide +kernel
theorem dX11_set_119 : decode cX11_set 119 = .ok (.aload_n 0, 1) := by decide +kernel
theorem dX11_set_120 : decode cX11_set 120 = .ok (.getfield 44, 3) := by decide +kernel
theorem dX11_set_123 : decode cX11_set 123 = .ok (.aload_n 2, 1) := by decide +kernel
theorem dX11_set_124 : decode cX11_set 124 = .ok (.invokevirtual 253, 3) := by decide +kernel
theorem dX11_set_127 : decode cX11_set 127 = .ok (.istore_n 3, 1) := by decide +kernel
theorem dX11_set_128 : decode cX11_set 128 = .ok (.iload_n 3, 1) := by decide +kernel
theorem dX11_set_129 : decode cX11_set 129 = .ok (.ifCond .ne 29, 3) := by decide +kernel
theorem dX11_set_132 : decode cX11_set 132 = .ok (.aload_n 0, 1) := by decide +kernel
theorem dX11_set_133 : decode cX11_set 133 = .ok (.getfield 71, 3) := by decide +kernel
theorem dX11_set_136 : decode cX11_set 136 = .ok (.aload_n 0, 1) := by decide +kernel
theorem dX11_set_137 : decode cX11_set 137 = .ok (.getfield 44, 3) := by decide +kernel
theorem dX11_set_140 : decode cX11_set 140 = .ok (.aload_n 2, 1) := by decide +kernel
theorem dX11_set_141 : decode cX11_set 141 = .ok (.getfield 135, 3) := by decide +kernel
theorem dX11_set_144 : decode cX11_set 144 = .ok (.aload_n 0, 1) := by decide +kernel
theorem dX11_set_145 : decode cX11_set 145 = .ok (.getfield 74, 3) := by decide +kernel
theorem dX11_set_148 : decode cX11_set 148 = .ok (.aload_n 0, 1) := by decide +kernel
theorem dX11_set_149 : decode cX11_set 149 = .ok (.getfield 81, 3) := by decide +kernel
theorem dX11_set_152 : decode cX11_set 152 = .ok (.invokevirtual 256, 3) := by decide +kernel
theorem dX11_set_155 : decode cX11_set 155 = .ok (.ifCond .eq 7, 3) := by decide +kernel
theorem dX11_set_158 : decode cX11_set 158 = .ok (.iconst 1, 1) := by decide +kernel
theorem dX11_set_159 : decode cX11_set 159 = .ok (.goto 4, 3) := by decide +kernel
theorem dX11_set_162 : decode cX11_set 162 = .ok (.iconst 0, 1) := by decide +kernel
theorem dX11_set_163 : decode cX11_set 163 = .ok (.istore 6, 2) := by decide +kernel
theorem dX11_set_165 : decode cX11_set 165 = .ok (.iload 6, 2) := by decide +kernel
theorem dX11_set_167 : decode cX11_set 167 = .ok (.ifCond .ne 9, 3) := by decide +kernel
theorem dX11_set_170 : decode cX11_set 170 = .ok (.bipush 6, 2) := by decide +kernel
theorem dX11_set_172 : decode cX11_set 172 = .ok (.istore_n 3, 1) := by decide +kernel
theorem dX11_set_173 : decode cX11_set 173 = .ok (.goto 24, 3) := by decide +kernel
theorem dX11_set_176 : decode cX11_set 176 = .ok (.iload_n 3, 1) := by decide +kernel
theorem dX11_set_177 : decode cX11_set 177 = .ok (.ifCond .ne 20, 3) := by decide +kernel
theorem dX11_set_180 : decode cX11_set 180 = .ok (.aload_n 0, 1) := by decide +kernel
theorem dX11_set_181 : decode cX11_set 181 = .ok (.getfield 37, 3) := by decide +kernel
theorem dX11_set_184 : decode cX11_set 184 = .ok (.aload_n 0, 1) := by decide +kernel
theorem dX11_set_185 : decode cX11_set 185 = .ok (.getfield 18, 3) := by decide +kernel
theorem dX11_set_188 : decode cX11_set 188 = .ok (.aload_n 0, 1) := by decide +kernel
theorem dX11_set_189 : decode cX11_set 189 = .ok (.getfield 44, 3) := by decide +kernel
theorem dX11_set_192 : decode cX11_set 192 = .ok (.invokevirtual 238, 3) := by decide +kernel
theorem dX11_set_195 : decode cX11_set 195 = .ok (.istore 4, 2) := by decide +kernel
theorem dX11_set_197 : decode cX11_set 197 = .ok (.iinc 5 1, 3) := by decide +kernel
theorem dX11_set_200 : decode cX11_set 200 = .ok (.goto (-145), 3) := by decide +kernel
theorem dX11_set_203 : decode cX11_set 203 = .ok (.iload_n 3, 1) := by decide +kernel
theorem dX11_set_204 : decode cX11_set 204 = .ok (.ifCond .ne 10, 3) := by decide +kernel
theorem dX11_set_207 : decode cX11_set 207 = .ok (.aload_n 0, 1) := by decide +kernel
theorem dX11_set_208 : decode cX11_set 208 = .ok (.invokevirtual 260, 3) := by decide +kernel
theorem dX11_set_211 : decode cX11_set 211 = .ok (.goto 15, 3) := by decide +kernel
theorem dX11_set_214 : decode cX11_set 214 = .ok (.aload_n 0, 1) := by decide +kernel
theorem dX11_set_215 : decode cX11_set 215 = .ok (.iload_n 3, 1) := by decide +kernel
theorem dX11_set_216 : decode cX11_set 216 = .ok (.aload_n 0, 1) := by decide +kernel
theorem dX11_set_217 : decode cX11_set 217 = .ok (.getfield 44, 3) := by decide +kernel
theorem dX11_set_220 : decode cX11_set 220 = .ok (.invokevirtual 263, 3) := by decide +kernel
theorem dX11_set_223 : decode cX11_set 223 = .ok (.invokevirtual 266, 3) := by decide +kernel
theorem dX11_set_226 : decode cX11_set 226 = .ok (.ireturn, 1) := by decide +kernel
theorem dX11_head_0 : decode cX11_head 0 = .ok (.aload_n 0, 1) := by decide +kernel
theorem dX11_head_1 : decode cX11_head 1 = .ok (.getfield 14, 3) := by decide +kernel
theorem dX11_head_4 : decode cX11_head 4 = .ok (.getfield 99, 3) := by decide +kernel
theorem dX11_head_7 : decode cX11_head 7 = .ok (.bipush 40, 2) := by decide +kernel
theorem dX11_head_9 : decode cX11_head 9 = .ok (.if_icmp .gt 29, 3) := by decide +kernel
theorem dX11_head_12 : decode cX11_head 12 = .ok (.aload_n 0, 1) := by decide +kernel
theorem dX11_head_13 : decode cX11_head 13 = .ok (.getfield 14, 3) := by decide +kernel
theorem dX11_head_16 : decode cX11_head 16 = .ok (.iconst 0, 1) := by decide +kernel
theorem dX11_head_17 : decode cX11_head 17 = .ok (.aload_n 0, 1) := by decide +kernel
theorem dX11_head_18 : decode cX11_head 18 = .ok (.getfield 14, 3) := by decide +kernel
theorem dX11_head_21 : decode cX11_head 21 = .ok (.getfield 99, 3) := by decide +kernel
theorem dX11_head_24 : decode cX11_head 24 = .ok (.bipush 33, 2) := by decide +kernel
theorem dX11_head_26 : decode cX11_head 26 = .ok (.bipush 125, 2) := by decide +kernel
theorem dX11_head_28 : decode cX11_head 28 = .ok (.invokevirtual 171, 3) := by decide +kernel
theorem dX11_head_31 : decode cX11_head 31 = .ok (.ifCond .eq 7, 3) := by decide +kernel
theorem dX11_head_34 : decode cX11_head 34 = .ok (.iconst 1, 1) := by decide +kernel
theorem dX11_head_35 : decode cX11_head 35 = .ok (.goto 4, 3) := by decide +kernel
theorem dX11_head_38 : decode cX11_head 38 = .ok (.iconst 0, 1) := by decide +kernel
theorem dX11_head_39 : decode cX11_head 39 = .ok (.istore_n 2, 1) := by decide +kernel
theorem dX11_head_40 : decode cX11_head 40 = .ok (.aload_n 0, 1) := by decide +kernel
theorem dX11_head_41 : decode cX11_head 41 = .ok (.getfield 44, 3) := by decide +kernel
theorem dX11_head_44 : decode cX11_head 44 = .ok (.invokevirtual 272, 3) := by decide +kernel
theorem dX11_head_47 : decode cX11_head 47 = .ok (.iconst 0, 1) := by decide +kernel
theorem dX11_head_48 : decode cX11_head 48 = .ok (.istore_n 3, 1) := by decide +kernel
theorem dX11_head_49 : decode cX11_head 49 = .ok (.iload_n 2, 1) := by decide +kernel
theorem dX11_head_50 : decode cX11_head 50 = .ok (.ifCond .eq 36, 3) := by decide +kernel
theorem dX11_head_53 : decode cX11_head 53 = .ok (.iload_n 3, 1) := by decide +kernel
theorem dX11_head_54 : decode cX11_head 54 = .ok (.aload_n 0, 1) := by decide +kernel
theorem dX11_head_55 : decode cX11_head 55 = .ok (.getfield 14, 3) := by decide +kernel
theorem dX11_head_58 : decode cX11_head 58 = .ok (.getfield 99, 3) := by decide +kernel
theorem dX11_head_61 : decode cX11_head 61 = .ok (.if_icmp .ge 25, 3) := by decide +kernel
theorem dX11_head_64 : decode cX11_head 64 = .ok (.aload_n 0, 1) := by decide +kernel
theorem dX11_head_65 : decode cX11_head 65 = .ok (.getfield 44, 3) := by decide +kernel
theorem dX11_head_68 : decode cX11_head 68 = .ok (.aload_n 0, 1) := by decide +kernel
theorem dX11_head_69 : decode cX11_head 69 = .ok (.getfield 14, 3) := by decide +kernel
theorem dX11_head_72 : decode cX11_head 72 = .ok (.iload_n 3, 1) := by decide +kernel
theorem dX11_head_73 : decode cX11_head 73 = .ok (.invokevirtual 224, 3) := by decide +kernel
theorem dX11_head_76 : decode cX11_head 76 = .ok (.iload_n 3, 1) := by decide +kernel
theorem dX11_head_77 : decode cX11_head 77 = .ok (.invokevirtual 273, 3) := by decide +kernel
theorem dX11_head_80 : decode cX11_head 80 = .ok (.iinc 3 1, 3) := by decide +kernel
theorem dX11_head_83 : decode cX11_head 83 = .ok (.goto (-34), 3) := by decide +kernel
theorem dX11_head_86 : decode cX11_head 86 = .ok (.aload_n 0, 1) := by decide +kernel
theorem dX11_head_87 : decode cX11_head 87 = .ok (.getfield 14, 3) := by decide +kernel
theorem dX11_head_90 : decode cX11_head 90 = .ok (.invokevirtual 164, 3) := by decide +kernel
theorem dX11_head_93 : decode cX11_head 93 = .ok (.iload_n 2, 1) := by decide +kernel
theorem dX11_head_94 : decode cX11_head 94 = .ok (.ifCond .ne 10, 3) := by decide +kernel
theorem dX11_head_97 : decode cX11_head 97 = .ok (.aload_n 0, 1) := by decide +kernel
theorem dX11_head_98 : decode cX11_head 98 = .ok (.bipush 6, 2) := by decide +kernel
theorem dX11_head_100 : decode cX11_head 100 = .ok (.invokevirtual 102, 3) := by decide +kernel
theorem dX11_head_103 : decode cX11_head 103 = .ok (.ireturn, 1) := by decide +kernel
theorem dX11_head_104 : decode cX11_head 104 = .ok (.aload_n 0, 1) := by decide +kernel
theorem dX11_head_105 : decode cX11_head 105 = .ok (.getfield 30, 3) := by decide +kernel
theorem dX11_head_108 : decode cX11_head 108 = .ok (.iload_n 1, 1) := by decide +kernel
theorem dX11_head_109 : decode cX11_head 109 = .ok (.invokevirtual 231, 3) := by decide +kernel
theorem dX11_head_112 : decode cX11_head 112 = .ok (.astore_n 3, 1) := by decide +kernel
theorem dX11_head_113 : decode cX11_head 113 = .ok (.aload_n 3, 1) := by decide +kernel
theorem dX11_head_114 : decode cX11_head 114 = .ok (.ifnonnull 9, 3) := by decide +kernel
theorem dX11_head_117 : decode cX11_head 117 = .ok (.aload_n 0, 1) := by decide +kernel
theorem dX11_head_118 : decode cX11_head 118 = .ok (.iconst 3, 1) := by decide +kernel
theorem dX11_head_119 : decode cX11_head 119 = .ok (.invokevirtual 102, 3) := by decide +kernel
theorem dX11_head_122 : decode cX11_head 122 = .ok (.ireturn, 1) := by decide +kernel
theorem dX11_head_123 : decode cX11_head 123 = .ok (.aload_n 0, 1) := by decide +kernel
theorem dX11_head_124 : decode cX11_head 124 = .ok (.getfield 44, 3) := by decide +kernel
theorem dX11_head_127 : decode cX11_head 127 = .ok (.aload_n 3, 1) := by decide +kernel
theorem dX11_head_128 : decode cX11_head 128 = .ok (.invokevirtual 253, 3) := by decide +kernel
theorem dX11_head_131 : decode cX11_head 131 = .ok (.istore 4, 2) := by decide +kernel
theorem dX11_head_133 : decode cX11_head 133 = .ok (.iload 4, 2) := by decide +kernel
theorem dX11_head_135 : decode cX11_head 135 = .ok (.ifCond .eq 17, 3) := by decide +kernel
theorem dX11_head_138 : decode cX11_head 138 = .ok (.aload_n 0, 1) := by decide +kernel
theorem dX11_head_139 : decode cX11_head 139 = .ok (.iload 4, 2) := by decide +kernel
theorem dX11_head_141 : decode cX11_head 141 = .ok (.aload_n 0, 1) := by decide +kernel
theorem dX11_head_142 : decode cX11_head 142 = .ok (.getfield 44, 3) := by decide +kernel
theorem dX11_head_145 : decode cX11_head 145 = .ok (.invokevirtual 263, 3) := by decide +kernel
theorem dX11_head_148 : decode cX11_head 148 = .ok (.invokevirtual 266, 3) := by decide +kernel
theorem dX11_head_151 : decode cX11_head 151 = .ok (.ireturn, 1) := by decide +kernel
theorem dX11_head_152 : decode cX11_head 152 = .ok (.aload_n 0, 1) := by decide +kernel
theorem dX11_head_153 : decode cX11_head 153 = .ok (.getfield 24, 3) := by decide +kernel
theorem dX11_head_156 : decode cX11_head 156 = .ok (.invokevirtual 164, 3) := by decide +kernel
theorem dX11_head_159 : decode cX11_head 159 = .ok (.iconst 0, 1) := by decide +kernel
theorem dX11_head_160 : decode cX11_head 160 = .ok (.istore 5, 2) := by decide +kernel
theorem dX11_head_162 : decode cX11_head 162 = .ok (.iload 5, 2) := by decide +kernel
theorem dX11_head_164 : decode cX11_head 164 = .ok (.aload_n 0, 1) := by decide +kernel
theorem dX11_head_165 : decode cX11_head 165 = .ok (.getfield 44, 3) := by decide +kernel
theorem dX11_head_168 : decode cX11_head 168 = .ok (.getfield 277, 3) := by decide +kernel
theorem dX11_head_171 : decode cX11_head 171 = .ok (.if_icmp .ge 35, 3) := by decide +kernel
theorem dX11_head_174 : decode cX11_head 174 = .ok (.iload 5, 2) := by decide +kernel
theorem dX11_head_176 : decode cX11_head 176 = .ok (.aload_n 0, 1) := by decide +kernel
theorem dX11_head_177 : decode cX11_head 177 = .ok (.getfield 74, 3) := by decide +kernel
theorem dX11_head_180 : decode cX11_head 180 = .ok (.if_icmp .ge 26, 3) := by decide +kernel
theorem dX11_head_183 : decode cX11_head 183 = .ok (.aload_n 0, 1) := by decide +kernel
theorem dX11_head_184 : decode cX11_head 184 = .ok (.getfield 24, 3) := by decide +kernel
theorem dX11_head_187 : decode cX11_head 187 = .ok (.aload_n 0, 1) := by decide +kernel
theorem dX11_head_188 : decode cX11_head 188 = .ok (.getfield 44, 3) := by decide +kernel
theorem dX11_head_191 : decode cX11_head 191 = .ok (.getfield 278, 3) := by decide +kernel
theorem dX11_head_194 : decode cX11_head 194 = .ok (.iload 5, 2) := by decide +kernel
theorem dX11_head_196 : decode cX11_head 196 = .ok (.iaload, 1) := by decide +kernel
theorem dX11_head_197 : decode cX11_head 197 = .ok (.invokevirtual 112, 3) := by decide +kernel
theorem dX11_head_200 : decode cX11_head 200 = .ok (.iinc 5 1, 3) := by decide +kernel
theorem dX11_head_203 : decode cX11_head 203 = .ok (.goto (-41), 3) := by decide +kernel
theorem dX11_head_206 : decode cX11_head 206 = .ok (.aload_n 0, 1) := by decide +kernel
theorem dX11_head_207 : decode cX11_head 207 = .ok (.aload_n 0, 1) := by decide +kernel
theorem dX11_head_208 : decode cX11_head 208 = .ok (.getfield 24, 3) := by decide +kernel
theorem dX11_head_211 : decode cX11_head 211 = .ok (.getfield 99, 3) := by decide +kernel
theorem dX11_head_214 : decode cX11_head 214 = .ok (.invokevirtual 109, 3) := by decide +kernel
theorem dX11_head_217 : decode cX11_head 217 = .ok (.ireturn, 1) := by decide +kernel
theorem dX11_lines_0 : decode cX11_lines 0 = .ok (.aload_n 0, 1) := by decide +kernel
theorem dX11_lines_1 : decode cX11_lines 1 = .ok (.getfield 67, 3) := by decide +kernel
theorem dX11_lines_4 : decode cX11_lines 4 = .ok (.getfield 269, 3) := by decide +kernel
theorem dX11_lines_7 : decode cX11_lines 7 = .ok (.ireturn, 1) := by decide +kernel
theorem dX11_pages_0 : decode cX11_pages 0 = .ok (.aload_n 0, 1) := by decide +kernel
theorem dX11_pages_1 : decode cX11_pages 1 = .ok (.invokevirtual 282, 3) := by decide +kernel
theorem dX11_pages_4 : decode cX11_pages 4 = .ok (.istore_n 1, 1) := by decide +kernel
theorem dX11_pages_5 : decode cX11_pages 5 = .ok (.aload_n 0, 1) := by decide +kernel
theorem dX11_pages_6 : decode cX11_pages 6 = .ok (.getfield 67, 3) := by decide +kernel
theorem dX11_pages_9 : decode cX11_pages 9 = .ok (.getfield 269, 3) := by decide +kernel
theorem dX11_pages_12 : decode cX11_pages 12 = .ok (.iload_n 1, 1) := by decide +kernel
theorem dX11_pages_13 : decode cX11_pages 13 = .ok (.iadd, 1) := by decide +kernel
theorem dX11_pages_14 : decode cX11_pages 14 = .ok (.iconst 1, 1) := by decide +kernel
theorem dX11_pages_15 : decode cX11_pages 15 = .ok (.isub, 1) := by decide +kernel
theorem dX11_pages_16 : decode cX11_pages 16 = .ok (.iload_n 1, 1) := by decide +kernel
theorem dX11_pages_17 : decode cX11_pages 17 = .ok (.idiv, 1) := by decide +kernel
theorem dX11_pages_18 : decode cX11_pages 18 = .ok (.ireturn, 1) := by decide +kernel
theorem dX11_pagesHaveHeader_0 : decode cX11_pagesHaveHeader 0 = .ok (.aload_n 0, 1) := by decide +kernel
theorem dX11_pagesHaveHeader_1 : decode cX11_pagesHaveHeader 1 = .ok (.getfield 24, 3) := by decide +kernel
theorem dX11_pagesHaveHeader_4 : decode cX11_pagesHaveHeader 4 = .ok (.getfield 99, 3) := by decide +kernel
theorem dX11_pagesHaveHeader_7 : decode cX11_pagesHaveHeader 7 = .ok (.ifCond .le 15, 3) := by decide +kernel
theorem dX11_pagesHaveHeader_10 : decode cX11_pagesHaveHeader 10 = .ok (.aload_n 0, 1) := by decide +kernel
theorem dX11_pagesHaveHeader_11 : decode cX11_pagesHaveHeader 11 = .ok (.getfield 78, 3) := by decide +kernel
theorem dX11_pagesHaveHeader_14 : decode cX11_pagesHaveHeader 14 = .ok (.iconst 2, 1) := by decide +kernel
theorem dX11_pagesHaveHeader_15 : decode cX11_pagesHaveHeader 15 = .ok (.if_icmp .lt 7, 3) := by decide +kernel
theorem dX11_pagesHaveHeader_18 : decode cX11_pagesHaveHeader 18 = .ok (.iconst 1, 1) := by decide +kernel
theorem dX11_pagesHaveHeader_19 : decode cX11_pagesHaveHeader 19 = .ok (.goto 4, 3) := by decide +kernel
theorem dX11_pagesHaveHeader_22 : decode cX11_pagesHaveHeader 22 = .ok (.iconst 0, 1) := by decide +kernel
theorem dX11_pagesHaveHeader_23 : decode cX11_pagesHaveHeader 23 = .ok (.ireturn, 1) := by decide +kernel
theorem dX11_linesOfPage_0 : decode cX11_linesOfPage 0 = .ok (.iconst 1, 1) := by decide +kernel
theorem dX11_linesOfPage_1 : decode cX11_linesOfPage 1 = .ok (.aload_n 0, 1) := by decide +kernel
theorem dX11_linesOfPage_2 : decode cX11_linesOfPage 2 = .ok (.invokevirtual 285, 3) := by decide +kernel
theorem dX11_linesOfPage_5 : decode cX11_linesOfPage 5 = .ok (.ifCond .eq 12, 3) := by decide +kernel
theorem dX11_linesOfPage_8 : decode cX11_linesOfPage 8 = .ok (.aload_n 0, 1) := by decide +kernel
theorem dX11_linesOfPage_9 : decode cX11_linesOfPage 9 = .ok (.getfield 78, 3) := by decide +kernel
theorem dX11_linesOfPage_12 : decode cX11_linesOfPage 12 = .ok (.iconst 1, 1) := by decide +kernel
theorem dX11_linesOfPage_13 : decode cX11_linesOfPage 13 = .ok (.isub, 1) := by decide +kernel
theorem dX11_linesOfPage_14 : decode cX11_linesOfPage 14 = .ok (.goto 7, 3) := by decide +kernel
theorem dX11_linesOfPage_17 : decode cX11_linesOfPage 17 = .ok (.aload_n 0, 1) := by decide +kernel
theorem dX11_linesOfPage_18 : decode cX11_linesOfPage 18 = .ok (.getfield 78, 3) := by decide +kernel
theorem dX11_linesOfPage_21 : decode cX11_linesOfPage 21 = .ok (.invokestatic 141, 3) := by decide +kernel
theorem dX11_linesOfPage_24 : decode cX11_linesOfPage 24 = .ok (.ireturn, 1) := by decide +kernel
theorem dX11_length_0 : decode cX11_length 0 = .ok (.aload_n 0, 1) := by decide +kernel
theorem dX11_length_1 : decode cX11_length 1 = .ok (.getfield 67, 3) := by decide +kernel
theorem dX11_length_4 : decode cX11_length 4 = .ok (.iload_n 1, 1) := by decide +kernel
theorem dX11_length_5 : decode cX11_length 5 = .ok (.invokevirtual 288, 3) := by decide +kernel
theorem dX11_length_8 : decode cX11_length 8 = .ok (.astore_n 2, 1) := by decide +kernel
theorem dX11_length_9 : decode cX11_length 9 = .ok (.aload_n 2, 1) := by decide +kernel
theorem dX11_length_10 : decode cX11_length 10 = .ok (.ifnonnull 18, 3) := by decide +kernel
theorem dX11_length_13 : decode cX11_length 13 = .ok (.aload_n 0, 1) := by decide +kernel
theorem dX11_length_14 : decode cX11_length 14 = .ok (.aload_n 0, 1) := by decide +kernel
theorem dX11_length_15 : decode cX11_length 15 = .ok (.getfield 67, 3) := by decide +kernel
theorem dX11_length_18 : decode cX11_length 18 = .ok (.iload_n 1, 1) := by decide +kernel
theorem dX11_length_19 : decode cX11_length 19 = .ok (.invokevirtual 292, 3) := by decide +kernel
theorem dX11_length_22 : decode cX11_length 22 = .ok (.invokevirtual 102, 3) := by decide +kernel
theorem dX11_length_25 : decode cX11_length 25 = .ok (.goto 11, 3) := by decide +kernel
theorem dX11_length_28 : decode cX11_length 28 = .ok (.aload_n 0, 1) := by decide +kernel
theorem dX11_length_29 : decode cX11_length 29 = .ok (.aload_n 2, 1) := by decide +kernel
theorem dX11_length_30 : decode cX11_length 30 = .ok (.getfield 295, 3) := by decide +kernel
theorem dX11_length_33 : decode cX11_length 33 = .ok (.invokevirtual 109, 3) := by decide +kernel
theorem dX11_length_36 : decode cX11_length 36 = .ok (.ireturn, 1) := by decide +kernel
theorem dX11_cell_0 : decode cX11_cell 0 = .ok (.aload_n 0, 1) := by decide +kernel
theorem dX11_cell_1 : decode cX11_cell 1 = .ok (.iload_n 1, 1) := by decide +kernel
theorem dX11_cell_2 : decode cX11_cell 2 = .ok (.iload_n 2, 1) := by decide +kernel
theorem dX11_cell_3 : decode cX11_cell 3 = .ok (.invokevirtual 298, 3) := by decide +kernel
theorem dX11_cell_6 : decode cX11_cell 6 = .ok (.ireturn, 1) := by decide +kernel
theorem dX11_cellOfLine_0 : decode cX11_cellOfLine 0 = .ok (.aload_n 0, 1) := by decide +kernel
theorem dX11_cellOfLine_1 : decode cX11_cellOfLine 1 = .ok (.getfield 67, 3) := by decide +kernel
theorem dX11_cellOfLine_4 : decode cX11_cellOfLine 4 = .ok (.iload_n 1, 1) := by decide +kernel
theorem dX11_cellOfLine_5 : decode cX11_cellOfLine 5 = .ok (.invokevirtual 288, 3) := by decide +kernel
theorem dX11_cellOfLine_8 : decode cX11_cellOfLine 8 = .ok (.astore_n 3, 1) := by decide +kernel
theorem dX11_cellOfLine_9 : decode cX11_cellOfLine 9 = .ok (.aload_n 3, 1) := by decide +kernel
theorem dX11_cellOfLine_10 : decode cX11_cellOfLine 10 = .ok (.ifnonnull 16, 3) := by decide +kernel
theorem dX11_cellOfLine_13 : decode cX11_cellOfLine 13 = .ok (.aload_n 0, 1) := by decide +kernel
theorem dX11_cellOfLine_14 : decode cX11_cellOfLine 14 = .ok (.aload_n 0, 1) := by decide +kernel
theorem dX11_cellOfLine_15 : decode cX11_cellOfLine 15 = .ok (.getfield 67, 3) := by decide +kernel
theorem dX11_cellOfLine_18 : decode cX11_cellOfLine 18 = .ok (.iload_n 1, 1) := by decide +kernel
theorem dX11_cellOfLine_19 : decode cX11_cellOfLine 19 = .ok (.invokevirtual 292, 3) := by decide +kernel
theorem dX11_cellOfLine_22 : decode cX11_cellOfLine 22 = .ok (.invokevirtual 102, 3) := by decide +kernel
theorem dX11_cellOfLine_25 : decode cX11_cellOfLine 25 = .ok (.ireturn, 1) := by decide +kernel
theorem dX11_cellOfLine_26 : decode cX11_cellOfLine 26 = .ok (.iload_n 2, 1) := by decide +kernel
theorem dX11_cellOfLine_27 : decode cX11_cellOfLine 27 = .ok (.ifCond .lt 11, 3) := by decide +kernel
theorem dX11_cellOfLine_30 : decode cX11_cellOfLine 30 = .ok (.iload_n 2, 1) := by decide +kernel
theorem dX11_cellOfLine_31 : decode cX11_cellOfLine 31 = .ok (.aload_n 3, 1) := by decide +kernel
theorem dX11_cellOfLine_32 : decode cX11_cellOfLine 32 = .ok (.getfield 295, 3) := by decide +kernel
theorem dX11_cellOfLine_35 : decode cX11_cellOfLine 35 = .ok (.if_icmp .lt 11, 3) := by decide +kernel
theorem dX11_cellOfLine_38 : decode cX11_cellOfLine 38 = .ok (.aload_n 0, 1) := by decide +kernel
theorem dX11_cellOfLine_39 : decode cX11_cellOfLine 39 = .ok (.iconst 2, 1) := by decide +kernel
theorem dX11_cellOfLine_40 : decode cX11_cellOfLine 40 = .ok (.invokevirtual 102, 3) := by decide +kernel
theorem dX11_cellOfLine_43 : decode cX11_cellOfLine 43 = .ok (.goto 13, 3) := by decide +kernel
theorem dX11_cellOfLine_46 : decode cX11_cellOfLine 46 = .ok (.aload_n 0, 1) := by decide +kernel
theorem dX11_cellOfLine_47 : decode cX11_cellOfLine 47 = .ok (.aload_n 3, 1) := by decide +kernel
theorem dX11_cellOfLine_48 : decode cX11_cellOfLine 48 = .ok (.getfield 301, 3) := by decide +kernel
theorem dX11_cellOfLine_51 : decode cX11_cellOfLine 51 = .ok (.iload_n 2, 1) := by decide +kernel
theorem dX11_cellOfLine_52 : decode cX11_cellOfLine 52 = .ok (.iaload, 1) := by decide +kernel
theorem dX11_cellOfLine_53 : decode cX11_cellOfLine 53 = .ok (.invokevirtual 109, 3) := by decide +kernel
theorem dX11_cellOfLine_56 : decode cX11_cellOfLine 56 = .ok (.ireturn, 1) := by decide +kernel
theorem dX11_page_0 : decode cX11_page 0 = .ok (.iload_n 1, 1) := by decide +kernel
theorem dX11_page_1 : decode cX11_page 1 = .ok (.ifCond .lt 23, 3) := by decide +kernel
theorem dX11_page_4 : decode cX11_page 4 = .ok (.iload_n 1, 1) := by decide +kernel
theorem dX11_page_5 : decode cX11_page 5 = .ok (.aload_n 0, 1) := by decide +kernel
theorem dX11_page_6 : decode cX11_page 6 = .ok (.invokevirtual 302, 3) := by decide +kernel
theorem dX11_page_9 : decode cX11_page 9 = .ok (.if_icmp .ge 15, 3) := by decide +kernel
theorem dX11_page_12 : decode cX11_page 12 = .ok (.iload_n 2, 1) := by decide +kernel
theorem dX11_page_13 : decode cX11_page 13 = .ok (.ifCond .lt 11, 3) := by decide +kernel
theorem dX11_page_16 : decode cX11_page 16 = .ok (.iload_n 2, 1) := by decide +kernel
theorem dX11_page_17 : decode cX11_page 17 = .ok (.aload_n 0, 1) := by decide +kernel
theorem dX11_page_18 : decode cX11_page 18 = .ok (.getfield 78, 3) := by decide +kernel
theorem dX11_page_21 : decode cX11_page 21 = .ok (.if_icmp .lt 9, 3) := by decide +kernel
theorem dX11_page_24 : decode cX11_page 24 = .ok (.aload_n 0, 1) := by decide +kernel
theorem dX11_page_25 : decode cX11_page 25 = .ok (.iconst 2, 1) := by decide +kernel
theorem dX11_page_26 : decode cX11_page 26 = .ok (.invokevirtual 102, 3) := by decide +kernel
theorem dX11_page_29 : decode cX11_page 29 = .ok (.ireturn, 1) := by decide +kernel
theorem dX11_page_30 : decode cX11_page 30 = .ok (.aload_n 0, 1) := by decide +kernel
theorem dX11_page_31 : decode cX11_page 31 = .ok (.invokevirtual 285, 3) := by decide +kernel
theorem dX11_page_34 : decode cX11_page 34 = .ok (.ifCond .eq 7, 3) := by decide +kernel
theorem dX11_page_37 : decode cX11_page 37 = .ok (.iconst 1, 1) := by decide +kernel
theorem dX11_page_38 : decode cX11_page 38 = .ok (.goto 4, 3) := by decide +kernel
theorem dX11_page_41 : decode cX11_page 41 = .ok (.iconst 0, 1) := by decide +kernel
theorem dX11_page_42 : decode cX11_page 42 = .ok (.istore 4, 2) := by decide +kernel
theorem dX11_page_44 : decode cX11_page 44 = .ok (.iload_n 2, 1) := by decide +kernel
theorem dX11_page_45 : decode cX11_page 45 = .ok (.iload 4, 2) := by decide +kernel
theorem dX11_page_47 : decode cX11_page 47 = .ok (.if_icmp .ge 39, 3) := by decide +kernel
theorem dX11_page_50 : decode cX11_page 50 = .ok (.iload_n 3, 1) := by decide +kernel
theorem dX11_page_51 : decode cX11_page 51 = .ok (.ifCond .lt 14, 3) := by decide +kernel
theorem dX11_page_54 : decode cX11_page 54 = .ok (.iload_n 3, 1) := by decide +kernel
theorem dX11_page_55 : decode cX11_page 55 = .ok (.aload_n 0, 1) := by decide +kernel
theorem dX11_page_56 : decode cX11_page 56 = .ok (.getfield 24, 3) := by decide +kernel
theorem dX11_page_59 : decode cX11_page 59 = .ok (.getfield 99, 3) := by decide +kernel
theorem dX11_page_62 : decode cX11_page 62 = .ok (.if_icmp .lt 11, 3) := by decide +kernel
theorem dX11_page_65 : decode cX11_page 65 = .ok (.aload_n 0, 1) := by decide +kernel
theorem dX11_page_66 : decode cX11_page 66 = .ok (.iconst 2, 1) := by decide +kernel
theorem dX11_page_67 : decode cX11_page 67 = .ok (.invokevirtual 102, 3) := by decide +kernel
theorem dX11_page_70 : decode cX11_page 70 = .ok (.goto 15, 3) := by decide +kernel
theorem dX11_page_73 : decode cX11_page 73 = .ok (.aload_n 0, 1) := by decide +kernel
theorem dX11_page_74 : decode cX11_page 74 = .ok (.aload_n 0, 1) := by decide +kernel
theorem dX11_page_75 : decode cX11_page 75 = .ok (.getfield 24, 3) := by decide +kernel
theorem dX11_page_78 : decode cX11_page 78 = .ok (.iload_n 3, 1) := by decide +kernel
theorem dX11_page_79 : decode cX11_page 79 = .ok (.invokevirtual 224, 3) := by decide +kernel
theorem dX11_page_82 : decode cX11_page 82 = .ok (.invokevirtual 109, 3) := by decide +kernel
theorem dX11_page_85 : decode cX11_page 85 = .ok (.ireturn, 1) := by decide +kernel
theorem dX11_page_86 : decode cX11_page 86 = .ok (.aload_n 0, 1) := by decide +kernel
theorem dX11_page_87 : decode cX11_page 87 = .ok (.iload_n 1, 1) := by decide +kernel
theorem dX11_page_88 : decode cX11_page 88 = .ok (.aload_n 0, 1) := by decide +kernel
theorem dX11_page_89 : decode cX11_page 89 = .ok (.invokevirtual 282, 3) := by decide +kernel
theorem dX11_page_92 : decode cX11_page 92 = .ok (.imul, 1) := by decide +kernel
theorem dX11_page_93 : decode cX11_page 93 = .ok (.iload_n 2, 1) := by decide +kernel
theorem dX11_page_94 : decode cX11_page 94 = .ok (.iadd, 1) := by decide +kernel
theorem dX11_page_95 : decode cX11_page 95 = .ok (.iload 4, 2) := by decide +kernel
theorem dX11_page_97 : decode cX11_page 97 = .ok (.isub, 1) := by decide +kernel
theorem dX11_page_98 : decode cX11_page 98 = .ok (.iload_n 3, 1) := by decide +kernel
theorem dX11_page_99 : decode cX11_page 99 = .ok (.invokevirtual 298, 3) := by decide +kernel
theorem dX11_page_102 : decode cX11_page 102 = .ok (.ireturn, 1) := by decide +kernel
theorem dX11_cut_0 : decode cX11_cut 0 = .ok (.iload_n 2, 1) := by decide +kernel
theorem dX11_cut_1 : decode cX11_cut 1 = .ok (.sipush 200, 3) := by decide +kernel
theorem dX11_cut_4 : decode cX11_cut 4 = .ok (.if_icmp .le 10, 3) := by decide +kernel
theorem dX11_cut_7 : decode cX11_cut 7 = .ok (.aload_n 0, 1) := by decide +kernel
theorem dX11_cut_8 : decode cX11_cut 8 = .ok (.bipush 6, 2) := by decide +kernel
theorem dX11_cut_10 : decode cX11_cut 10 = .ok (.invokevirtual 102, 3) := by decide +kernel
theorem dX11_cut_13 : decode cX11_cut 13 = .ok (.ireturn, 1) := by decide +kernel
theorem dX11_cut_14 : decode cX11_cut 14 = .ok (.iload_n 2, 1) := by decide +kernel
theorem dX11_cut_15 : decode cX11_cut 15 = .ok (.ifCond .ge 9, 3) := by decide +kernel
theorem dX11_cut_18 : decode cX11_cut 18 = .ok (.aload_n 0, 1) := by decide +kernel
theorem dX11_cut_19 : decode cX11_cut 19 = .ok (.iconst 5, 1) := by decide +kernel
theorem dX11_cut_20 : decode cX11_cut 20 = .ok (.invokevirtual 102, 3) := by decide +kernel
theorem dX11_cut_23 : decode cX11_cut 23 = .ok (.ireturn, 1) := by decide +kernel
theorem dX11_cut_24 : decode cX11_cut 24 = .ok (.aload_n 0, 1) := by decide +kernel
theorem dX11_cut_25 : decode cX11_cut 25 = .ok (.getfield 67, 3) := by decide +kernel
theorem dX11_cut_28 : decode cX11_cut 28 = .ok (.iload_n 1, 1) := by decide +kernel
theorem dX11_cut_29 : decode cX11_cut 29 = .ok (.invokevirtual 288, 3) := by decide +kernel
theorem dX11_cut_32 : decode cX11_cut 32 = .ok (.astore_n 3, 1) := by decide +kernel
theorem dX11_cut_33 : decode cX11_cut 33 = .ok (.aload_n 3, 1) := by decide +kernel
theorem dX11_cut_34 : decode cX11_cut 34 = .ok (.ifnonnull 16, 3) := by decide +kernel
theorem dX11_cut_37 : decode cX11_cut 37 = .ok (.aload_n 0, 1) := by decide +kernel
theorem dX11_cut_38 : decode cX11_cut 38 = .ok (.aload_n 0, 1) := by decide +kernel
theorem dX11_cut_39 : decode cX11_cut 39 = .ok (.getfield 67, 3) := by decide +kernel
theorem dX11_cut_42 : decode cX11_cut 42 = .ok (.iload_n 1, 1) := by decide +kernel
theorem dX11_cut_43 : decode cX11_cut 43 = .ok (.invokevirtual 292, 3) := by decide +kernel
theorem dX11_cut_46 : decode cX11_cut 46 = .ok (.invokevirtual 102, 3) := by decide +kernel
theorem dX11_cut_49 : decode cX11_cut 49 = .ok (.ireturn, 1) := by decide +kernel
theorem dX11_cut_50 : decode cX11_cut 50 = .ok (.aload_n 3, 1) := by decide +kernel
theorem dX11_cut_51 : decode cX11_cut 51 = .ok (.iload_n 2, 1) := by decide +kernel
theorem dX11_cut_52 : decode cX11_cut 52 = .ok (.invokevirtual 305, 3) := by decide +kernel
theorem dX11_cut_55 : decode cX11_cut 55 = .ok (.aload_n 0, 1) := by decide +kernel
theorem dX11_cut_56 : decode cX11_cut 56 = .ok (.iload_n 2, 1) := by decide +kernel
theorem dX11_cut_57 : decode cX11_cut 57 = .ok (.invokevirtual 109, 3) := by decide +kernel
theorem dX11_cut_60 : decode cX11_cut 60 = .ok (.ireturn, 1) := by decide +kernel
theorem dX11_lose_0 : decode cX11_lose 0 = .ok (.aload_n 0, 1) := by decide +kernel
theorem dX11_lose_1 : decode cX11_lose 1 = .ok (.getfield 67, 3) := by decide +kernel
theorem dX11_lose_4 : decode cX11_lose 4 = .ok (.iload_n 1, 1) := by decide +kernel
theorem dX11_lose_5 : decode cX11_lose 5 = .ok (.invokevirtual 308, 3) := by decide +kernel
theorem dX11_lose_8 : decode cX11_lose 8 = .ok (.astore_n 2, 1) := by decide +kernel
theorem dX11_lose_9 : decode cX11_lose 9 = .ok (.aload_n 2, 1) := by decide +kernel
theorem dX11_lose_10 : decode cX11_lose 10 = .ok (.ifnonnull 9, 3) := by decide +kernel
theorem dX11_lose_13 : decode cX11_lose 13 = .ok (.aload_n 0, 1) := by decide +kernel
theorem dX11_lose_14 : decode cX11_lose 14 = .ok (.iconst 2, 1) := by decide +kernel
theorem dX11_lose_15 : decode cX11_lose 15 = .ok (.invokevirtual 102, 3) := by decide +kernel
theorem dX11_lose_18 : decode cX11_lose 18 = .ok (.ireturn, 1) := by decide +kernel
theorem dX11_lose_19 : decode cX11_lose 19 = .ok (.aload_n 2, 1) := by decide +kernel
theorem dX11_lose_20 : decode cX11_lose 20 = .ok (.iconst 1, 1) := by decide +kernel
theorem dX11_lose_21 : decode cX11_lose 21 = .ok (.putfield 310, 3) := by decide +kernel
theorem dX11_lose_24 : decode cX11_lose 24 = .ok (.aload_n 0, 1) := by decide +kernel
theorem dX11_lose_25 : decode cX11_lose 25 = .ok (.iconst 1, 1) := by decide +kernel
theorem dX11_lose_26 : decode cX11_lose 26 = .ok (.invokevirtual 109, 3) := by decide +kernel
theorem dX11_lose_29 : decode cX11_lose 29 = .ok (.ireturn, 1) := by decide +kernel
theorem dX11_copyRow_0 : decode cX11_copyRow 0 = .ok (.aload_n 0, 1) := by decide +kernel
theorem dX11_copyRow_1 : decode cX11_copyRow 1 = .ok (.getfield 67, 3) := by decide +kernel
theorem dX11_copyRow_4 : decode cX11_copyRow 4 = .ok (.iload_n 1, 1) := by decide +kernel
theorem dX11_copyRow_5 : decode cX11_copyRow 5 = .ok (.invokevirtual 308, 3) := by decide +kernel
theorem dX11_copyRow_8 : decode cX11_copyRow 8 = .ok (.astore 6, 2) := by decide +kernel
theorem dX11_copyRow_10 : decode cX11_copyRow 10 = .ok (.aload_n 0, 1) := by decide +kernel
theorem dX11_copyRow_11 : decode cX11_copyRow 11 = .ok (.getfield 67, 3) := by decide +kernel
theorem dX11_copyRow_14 : decode cX11_copyRow 14 = .ok (.iload_n 3, 1) := by decide +kernel
theorem dX11_copyRow_15 : decode cX11_copyRow 15 = .ok (.invokevirtual 308, 3) := by decide +kernel
theorem dX11_copyRow_18 : decode cX11_copyRow 18 = .ok (.astore 7, 2) := by decide +kernel
theorem dX11_copyRow_20 : decode cX11_copyRow 20 = .ok (.aload 6, 2) := by decide +kernel
theorem dX11_copyRow_22 : decode cX11_copyRow 22 = .ok (.ifnull 8, 3) := by decide +kernel
theorem dX11_copyRow_25 : decode cX11_copyRow 25 = .ok (.aload 7, 2) := by decide +kernel
theorem dX11_copyRow_27 : decode cX11_copyRow 27 = .ok (.ifnonnull 9, 3) := by decide +kernel
theorem dX11_copyRow_30 : decode cX11_copyRow 30 = .ok (.aload_n 0, 1) := by decide +kernel
theorem dX11_copyRow_31 : decode cX11_copyRow 31 = .ok (.iconst 2, 1) := by decide +kernel
theorem dX11_copyRow_32 : decode cX11_copyRow 32 = .ok (.invokevirtual 102, 3) := by decide +kernel
theorem dX11_copyRow_35 : decode cX11_copyRow 35 = .ok (.ireturn, 1) := by decide +kernel
theorem dX11_copyRow_36 : decode cX11_copyRow 36 = .ok (.aload 6, 2) := by decide +kernel
theorem dX11_copyRow_38 : decode cX11_copyRow 38 = .ok (.getfield 310, 3) := by decide +kernel
theorem dX11_copyRow_41 : decode cX11_copyRow 41 = .ok (.ifCond .ne 11, 3) := by decide +kernel
theorem dX11_copyRow_44 : decode cX11_copyRow 44 = .ok (.aload 7, 2) := by decide +kernel
theorem dX11_copyRow_46 : decode cX11_copyRow 46 = .ok (.getfield 310, 3) := by decide +kernel
theorem dX11_copyRow_49 : decode cX11_copyRow 49 = .ok (.ifCond .eq 9, 3) := by decide +kernel
theorem dX11_copyRow_52 : decode cX11_copyRow 52 = .ok (.aload_n 0, 1) := by decide +kernel
theorem dX11_copyRow_53 : decode cX11_copyRow 53 = .ok (.iconst 1, 1) := by decide +kernel
theorem dX11_copyRow_54 : decode cX11_copyRow 54 = .ok (.invokevirtual 102, 3) := by decide +kernel
theorem dX11_copyRow_57 : decode cX11_copyRow 57 = .ok (.ireturn, 1) := by decide +kernel
theorem dX11_copyRow_58 : decode cX11_copyRow 58 = .ok (.aload 6, 2) := by decide +kernel
theorem dX11_copyRow_60 : decode cX11_copyRow 60 = .ok (.iload_n 2, 1) := by decide +kernel
theorem dX11_copyRow_61 : decode cX11_copyRow 61 = .ok (.iload 5, 2) := by decide +kernel
theorem dX11_copyRow_63 : decode cX11_copyRow 63 = .ok (.invokevirtual 313, 3) := by decide +kernel
theorem dX11_copyRow_66 : decode cX11_copyRow 66 = .ok (.ifCond .eq 15, 3) := by decide +kernel
theorem dX11_copyRow_69 : decode cX11_copyRow 69 = .ok (.aload 7, 2) := by decide +kernel
theorem dX11_copyRow_71 : decode cX11_copyRow 71 = .ok (.iload 4, 2) := by decide +kernel
theorem dX11_copyRow_73 : decode cX11_copyRow 73 = .ok (.iload 5, 2) := by decide +kernel
theorem dX11_copyRow_75 : decode cX11_copyRow 75 = .ok (.invokevirtual 313, 3) := by decide +kernel
theorem dX11_copyRow_78 : decode cX11_copyRow 78 = .ok (.ifCond .ne 9, 3) := by decide +kernel
theorem dX11_copyRow_81 : decode cX11_copyRow 81 = .ok (.aload_n 0, 1) := by decide +kernel
theorem dX11_copyRow_82 : decode cX11_copyRow 82 = .ok (.iconst 2, 1) := by decide +kernel
theorem dX11_copyRow_83 : decode cX11_copyRow 83 = .ok (.invokevirtual 102, 3) := by decide +kernel
theorem dX11_copyRow_86 : decode cX11_copyRow 86 = .ok (.ireturn, 1) := by decide +kernel
theorem dX11_copyRow_87 : decode cX11_copyRow 87 = .ok (.aload 6, 2) := by decide +kernel
theorem dX11_copyRow_89 : decode cX11_copyRow 89 = .ok (.getfield 301, 3) := by decide +kernel
theorem dX11_copyRow_92 : decode cX11_copyRow 92 = .ok (.iload_n 2, 1) := by decide +kernel
theorem dX11_copyRow_93 : decode cX11_copyRow 93 = .ok (.aload 7, 2) := by decide +kernel
theorem dX11_copyRow_95 : decode cX11_copyRow 95 = .ok (.getfield 301, 3) := by decide +kernel
theorem dX11_copyRow_98 : decode cX11_copyRow 98 = .ok (.iload 4, 2) := by decide +kernel
theorem dX11_copyRow_100 : decode cX11_copyRow 100 = .ok (.iload 5, 2) := by decide +kernel
theorem dX11_copyRow_102 : decode cX11_copyRow 102 = .ok (.invokestatic 316, 3) := by decide +kernel
theorem dX11_copyRow_105 : decode cX11_copyRow 105 = .ok (.aload_n 0, 1) := by decide +kernel
theorem dX11_copyRow_106 : decode cX11_copyRow 106 = .ok (.iload 5, 2) := by decide +kernel
theorem dX11_copyRow_108 : decode cX11_copyRow 108 = .ok (.invokevirtual 109, 3) := by decide +kernel
theorem dX11_copyRow_111 : decode cX11_copyRow 111 = .ok (.ireturn, 1) := by decide +kernel
theorem dX11_copyLines_0 : decode cX11_copyLines 0 = .ok (.iload_n 3, 1) := by decide +kernel
theorem dX11_copyLines_1 : decode cX11_copyLines 1 = .ok (.bipush 10, 2) := by decide +kernel
theorem dX11_copyLines_3 : decode cX11_copyLines 3 = .ok (.if_icmp .le 10, 3) := by decide +kernel
theorem dX11_copyLines_6 : decode cX11_copyLines 6 = .ok (.aload_n 0, 1) := by decide +kernel
theorem dX11_copyLines_7 : decode cX11_copyLines 7 = .ok (.bipush 6, 2) := by decide +kernel
theorem dX11_copyLines_9 : decode cX11_copyLines 9 = .ok (.invokevirtual 102, 3) := by decide +kernel
theorem dX11_copyLines_12 : decode cX11_copyLines 12 = .ok (.ireturn, 1) := by decide +kernel
theorem dX11_copyLines_13 : decode cX11_copyLines 13 = .ok (.iload_n 3, 1) := by decide +kernel
theorem dX11_copyLines_14 : decode cX11_copyLines 14 = .ok (.ifCond .ge 9, 3) := by decide +kernel
theorem dX11_copyLines_17 : decode cX11_copyLines 17 = .ok (.aload_n 0, 1) := by decide +kernel
theorem dX11_copyLines_18 : decode cX11_copyLines 18 = .ok (.iconst 5, 1) := by decide +kernel
theorem dX11_copyLines_19 : decode cX11_copyLines 19 = .ok (.invokevirtual 102, 3) := by decide +kernel
theorem dX11_copyLines_22 : decode cX11_copyLines 22 = .ok (.ireturn, 1) := by decide +kernel
theorem dX11_copyLines_23 : decode cX11_copyLines 23 = .ok (.aload_n 0, 1) := by decide +kernel
theorem dX11_copyLines_24 : decode cX11_copyLines 24 = .ok (.iconst 0, 1) := by decide +kernel
theorem dX11_copyLines_25 : decode cX11_copyLines 25 = .ok (.putfield 87, 3) := by decide +kernel
theorem dX11_copyLines_28 : decode cX11_copyLines 28 = .ok (.iconst 0, 1) := by decide +kernel
theorem dX11_copyLines_29 : decode cX11_copyLines 29 = .ok (.istore 4, 2) := by decide +kernel
theorem dX11_copyLines_31 : decode cX11_copyLines 31 = .ok (.iload 4, 2) := by decide +kernel
theorem dX11_copyLines_33 : decode cX11_copyLines 33 = .ok (.iload_n 3, 1) := by decide +kernel
theorem dX11_copyLines_34 : decode cX11_copyLines 34 = .ok (.if_icmp .ge 82, 3) := by decide +kernel
theorem dX11_copyLines_37 : decode cX11_copyLines 37 = .ok (.aload_n 0, 1) := by decide +kernel
theorem dX11_copyLines_38 : decode cX11_copyLines 38 = .ok (.getfield 67, 3) := by decide +kernel
theorem dX11_copyLines_41 : decode cX11_copyLines 41 = .ok (.iload_n 1, 1) := by decide +kernel
theorem dX11_copyLines_42 : decode cX11_copyLines 42 = .ok (.iload 4, 2) := by decide +kernel
theorem dX11_copyLines_44 : decode cX11_copyLines 44 = .ok (.iadd, 1) := by decide +kernel
theorem dX11_copyLines_45 : decode cX11_copyLines 45 = .ok (.invokevirtual 308, 3) := by decide +kernel
theorem dX11_copyLines_48 : decode cX11_copyLines 48 = .ok (.astore 5, 2) := by decide +kernel
theorem dX11_copyLines_50 : decode cX11_copyLines 50 = .ok (.aload_n 0, 1) := by decide +kernel
theorem dX11_copyLines_51 : decode cX11_copyLines 51 = .ok (.getfield 67, 3) := by decide +kernel
theorem dX11_copyLines_54 : decode cX11_copyLines 54 = .ok (.iload_n 2, 1) := by decide +kernel
theorem dX11_copyLines_55 : decode cX11_copyLines 55 = .ok (.iload 4, 2) := by decide +kernel
theorem dX11_copyLines_57 : decode cX11_copyLines 57 = .ok (.iadd, 1) := by decide +kernel
theorem dX11_copyLines_58 : decode cX11_copyLines 58 = .ok (.invokevirtual 308, 3) := by decide +kernel
theorem dX11_copyLines_61 : decode cX11_copyLines 61 = .ok (.astore 6, 2) := by decide +kernel
theorem dX11_copyLines_63 : decode cX11_copyLines 63 = .ok (.aload 5, 2) := by decide +kernel
theorem dX11_copyLines_65 : decode cX11_copyLines 65 = .ok (.ifnull 8, 3) := by decide +kernel
theorem dX11_copyLines_68 : decode cX11_copyLines 68 = .ok (.aload 6, 2) := by decide +kernel
theorem dX11_copyLines_70 : decode cX11_copyLines 70 = .ok (.ifnonnull 9, 3) := by decide +kernel
theorem dX11_copyLines_73 : decode cX11_copyLines 73 = .ok (.aload_n 0, 1) := by decide +kernel
theorem dX11_copyLines_74 : decode cX11_copyLines 74 = .ok (.iconst 2, 1) := by decide +kernel
theorem dX11_copyLines_75 : decode cX11_copyLines 75 = .ok (.invokevirtual 102, 3) := by decide +kernel
theorem dX11_copyLines_78 : decode cX11_copyLines 78 = .ok (.ireturn, 1) := by decide +kernel
theorem dX11_copyLines_79 : decode cX11_copyLines 79 = .ok (.aload 5, 2) := by decide +kernel
theorem dX11_copyLines_81 : decode cX11_copyLines 81 = .ok (.getfield 310, 3) := by decide +kernel
theorem dX11_copyLines_84 : decode cX11_copyLines 84 = .ok (.ifCond .eq 9, 3) := by decide +kernel
theorem dX11_copyLines_87 : decode cX11_copyLines 87 = .ok (.aload_n 0, 1) := by decide +kernel
theorem dX11_copyLines_88 : decode cX11_copyLines 88 = .ok (.iconst 1, 1) := by decide +kernel
theorem dX11_copyLines_89 : decode cX11_copyLines 89 = .ok (.invokevirtual 102, 3) := by decide +kernel
theorem dX11_copyLines_92 : decode cX11_copyLines 92 = .ok (.ireturn, 1) := by decide +kernel
theorem dX11_copyLines_93 : decode cX11_copyLines 93 = .ok (.aload 6, 2) := by decide +kernel
theorem dX11_copyLines_95 : decode cX11_copyLines 95 = .ok (.aload 5, 2) := by decide +kernel
theorem dX11_copyLines_97 : decode cX11_copyLines 97 = .ok (.invokevirtual 322, 3) := by decide +kernel
theorem dX11_copyLines_100 : decode cX11_copyLines 100 = .ok (.aload_n 0, 1) := by decide +kernel
theorem dX11_copyLines_101 : decode cX11_copyLines 101 = .ok (.dup, 1) := by decide +kernel
theorem dX11_copyLines_102 : decode cX11_copyLines 102 = .ok (.getfield 87, 3) := by decide +kernel
theorem dX11_copyLines_105 : decode cX11_copyLines 105 = .ok (.iconst 1, 1) := by decide +kernel
theorem dX11_copyLines_106 : decode cX11_copyLines 106 = .ok (.iadd, 1) := by decide +kernel
theorem dX11_copyLines_107 : decode cX11_copyLines 107 = .ok (.putfield 87, 3) := by decide +kernel
theorem dX11_copyLines_110 : decode cX11_copyLines 110 = .ok (.iinc 4 1, 3) := by decide +kernel
theorem dX11_copyLines_113 : decode cX11_copyLines 113 = .ok (.goto (-82), 3) := by decide +kernel
theorem dX11_copyLines_116 : decode cX11_copyLines 116 = .ok (.aload_n 0, 1) := by decide +kernel
theorem dX11_copyLines_117 : decode cX11_copyLines 117 = .ok (.iload_n 3, 1) := by decide +kernel
theorem dX11_copyLines_118 : decode cX11_copyLines 118 = .ok (.invokevirtual 109, 3) := by decide +kernel
theorem dX11_copyLines_121 : decode cX11_copyLines 121 = .ok (.ireturn, 1) := by decide +kernel
theorem dX11_copied_0 : decode cX11_copied 0 = .ok (.aload_n 0, 1) := by decide +kernel
theorem dX11_copied_1 : decode cX11_copied 1 = .ok (.getfield 87, 3) := by decide +kernel
theorem dX11_copied_4 : decode cX11_copied 4 = .ok (.ireturn, 1) := by decide +kernel
theorem dX11_emboss_0 : decode cX11_emboss 0 = .ok (.iload_n 2, 1) := by decide +kernel
theorem dX11_emboss_1 : decode cX11_emboss 1 = .ok (.sipush 200, 3) := by decide +kernel
theorem dX11_emboss_4 : decode cX11_emboss 4 = .ok (.if_icmp .le 10, 3) := by decide +kernel
theorem dX11_emboss_7 : decode cX11_emboss 7 = .ok (.aload_n 0, 1) := by decide +kernel
theorem dX11_emboss_8 : decode cX11_emboss 8 = .ok (.bipush 6, 2) := by decide +kernel
theorem dX11_emboss_10 : decode cX11_emboss 10 = .ok (.invokevirtual 102, 3) := by decide +kernel
theorem dX11_emboss_13 : decode cX11_emboss 13 = .ok (.ireturn, 1) := by decide +kernel
theorem dX11_emboss_14 : decode cX11_emboss 14 = .ok (.iload_n 2, 1) := by decide +kernel
theorem dX11_emboss_15 : decode cX11_emboss 15 = .ok (.ifCond .ge 9, 3) := by decide +kernel
theorem dX11_emboss_18 : decode cX11_emboss 18 = .ok (.aload_n 0, 1) := by decide +kernel
theorem dX11_emboss_19 : decode cX11_emboss 19 = .ok (.iconst 5, 1) := by decide +kernel
theorem dX11_emboss_20 : decode cX11_emboss 20 = .ok (.invokevirtual 102, 3) := by decide +kernel
theorem dX11_emboss_23 : decode cX11_emboss 23 = .ok (.ireturn, 1) := by decide +kernel
theorem dX11_emboss_24 : decode cX11_emboss 24 = .ok (.iconst 0, 1) := by decide +kernel
theorem dX11_emboss_25 : decode cX11_emboss 25 = .ok (.istore_n 3, 1) := by decide +kernel
theorem dX11_emboss_26 : decode cX11_emboss 26 = .ok (.iconst 0, 1) := by decide +kernel
theorem dX11_emboss_27 : decode cX11_emboss 27 = .ok (.istore 4, 2) := by decide +kernel
theorem dX11_emboss_29 : decode cX11_emboss 29 = .ok (.iload 4, 2) := by decide +kernel
theorem dX11_emboss_31 : decode cX11_emboss 31 = .ok (.iload_n 2, 1) := by decide +kernel
theorem dX11_emboss_32 : decode cX11_emboss 32 = .ok (.if_icmp .ge 89, 3) := by decide +kernel
theorem dX11_emboss_35 : decode cX11_emboss 35 = .ok (.aload_n 0, 1) := by decide +kernel
theorem dX11_emboss_36 : decode cX11_emboss 36 = .ok (.dup, 1) := by decide +kernel
theorem dX11_emboss_37 : decode cX11_emboss 37 = .ok (.getfield 90, 3) := by decide +kernel
theorem dX11_emboss_40 : decode cX11_emboss 40 = .ok (.iconst 1, 1) := by decide +kernel
theorem dX11_emboss_41 : decode cX11_emboss 41 = .ok (.iadd, 1) := by decide +kernel
theorem dX11_emboss_42 : decode cX11_emboss 42 = .ok (.putfield 90, 3) := by decide +kernel
theorem dX11_emboss_45 : decode cX11_emboss 45 = .ok (.aload_n 0, 1) := by decide +kernel
theorem dX11_emboss_46 : decode cX11_emboss 46 = .ok (.getfield 67, 3) := by decide +kernel
theorem dX11_emboss_49 : decode cX11_emboss 49 = .ok (.iload_n 1, 1) := by decide +kernel
theorem dX11_emboss_50 : decode cX11_emboss 50 = .ok (.iload 4, 2) := by decide +kernel
theorem dX11_emboss_52 : decode cX11_emboss 52 = .ok (.iadd, 1) := by decide +kernel
theorem dX11_emboss_53 : decode cX11_emboss 53 = .ok (.invokevirtual 308, 3) := by decide +kernel
theorem dX11_emboss_56 : decode cX11_emboss 56 = .ok (.astore 5, 2) := by decide +kernel
theorem dX11_emboss_58 : decode cX11_emboss 58 = .ok (.aload 5, 2) := by decide +kernel
theorem dX11_emboss_60 : decode cX11_emboss 60 = .ok (.ifnonnull 9, 3) := by decide +kernel
theorem dX11_emboss_63 : decode cX11_emboss 63 = .ok (.aload_n 0, 1) := by decide +kernel
theorem dX11_emboss_64 : decode cX11_emboss 64 = .ok (.iconst 2, 1) := by decide +kernel
theorem dX11_emboss_65 : decode cX11_emboss 65 = .ok (.invokevirtual 102, 3) := by decide +kernel
theorem dX11_emboss_68 : decode cX11_emboss 68 = .ok (.ireturn, 1) := by decide +kernel
theorem dX11_emboss_69 : decode cX11_emboss 69 = .ok (.aload 5, 2) := by decide +kernel
theorem dX11_emboss_71 : decode cX11_emboss 71 = .ok (.getfield 310, 3) := by decide +kernel
theorem dX11_emboss_74 : decode cX11_emboss 74 = .ok (.ifCond .ne 21, 3) := by decide +kernel
theorem dX11_emboss_77 : decode cX11_emboss 77 = .ok (.aload 5, 2) := by decide +kernel
theorem dX11_emboss_79 : decode cX11_emboss 79 = .ok (.getfield 295, 3) := by decide +kernel
theorem dX11_emboss_82 : decode cX11_emboss 82 = .ok (.aload_n 0, 1) := by decide +kernel
theorem dX11_emboss_83 : decode cX11_emboss 83 = .ok (.getfield 74, 3) := by decide +kernel
theorem dX11_emboss_86 : decode cX11_emboss 86 = .ok (.if_icmp .le 9, 3) := by decide +kernel
theorem dX11_emboss_89 : decode cX11_emboss 89 = .ok (.aload_n 0, 1) := by decide +kernel
theorem dX11_emboss_90 : decode cX11_emboss 90 = .ok (.iload_n 3, 1) := by decide +kernel
theorem dX11_emboss_91 : decode cX11_emboss 91 = .ok (.invokevirtual 109, 3) := by decide +kernel
theorem dX11_emboss_94 : decode cX11_emboss 94 = .ok (.ireturn, 1) := by decide +kernel
theorem dX11_emboss_95 : decode cX11_emboss 95 = .ok (.iload_n 3, 1) := by decide +kernel
theorem dX11_emboss_96 : decode cX11_emboss 96 = .ok (.aload 5, 2) := by decide +kernel
theorem dX11_emboss_98 : decode cX11_emboss 98 = .ok (.getfield 310, 3) := by decide +kernel
theorem dX11_emboss_101 : decode cX11_emboss 101 = .ok (.ifCond .eq 7, 3) := by decide +kernel
theorem dX11_emboss_104 : decode cX11_emboss 104 = .ok (.iconst 0, 1) := by decide +kernel
theorem dX11_emboss_105 : decode cX11_emboss 105 = .ok (.goto 8, 3) := by decide +kernel
theorem dX11_emboss_108 : decode cX11_emboss 108 = .ok (.aload 5, 2) := by decide +kernel
theorem dX11_emboss_110 : decode cX11_emboss 110 = .ok (.invokevirtual 326, 3) := by decide +kernel
theorem dX11_emboss_113 : decode cX11_emboss 113 = .ok (.iadd, 1) := by decide +kernel
theorem dX11_emboss_114 : decode cX11_emboss 114 = .ok (.istore_n 3, 1) := by decide +kernel
theorem dX11_emboss_115 : decode cX11_emboss 115 = .ok (.iinc 4 1, 3) := by decide +kernel
theorem dX11_emboss_118 : decode cX11_emboss 118 = .ok (.goto (-89), 3) := by decide +kernel
theorem dX11_emboss_121 : decode cX11_emboss 121 = .ok (.aload_n 0, 1) := by decide +kernel
theorem dX11_emboss_122 : decode cX11_emboss 122 = .ok (.iload_n 3, 1) := by decide +kernel
theorem dX11_emboss_123 : decode cX11_emboss 123 = .ok (.invokevirtual 109, 3) := by decide +kernel
theorem dX11_emboss_126 : decode cX11_emboss 126 = .ok (.ireturn, 1) := by decide +kernel
theorem dX11_closed_0 : decode cX11_closed 0 = .ok (.aload_n 0, 1) := by decide +kernel
theorem dX11_closed_1 : decode cX11_closed 1 = .ok (.getfield 90, 3) := by decide +kernel
theorem dX11_closed_4 : decode cX11_closed 4 = .ok (.ireturn, 1) := by decide +kernel
theorem dX11_read_0 : decode cX11_read 0 = .ok (.aload_n 0, 1) := by decide +kernel
theorem dX11_read_1 : decode cX11_read 1 = .ok (.getfield 30, 3) := by decide +kernel
theorem dX11_read_4 : decode cX11_read 4 = .ok (.iload_n 1, 1) := by decide +kernel
theorem dX11_read_5 : decode cX11_read 5 = .ok (.invokevirtual 231, 3) := by decide +kernel
theorem dX11_read_8 : decode cX11_read 8 = .ok (.astore 4, 2) := by decide +kernel
theorem dX11_read_10 : decode cX11_read 10 = .ok (.aload 4, 2) := by decide +kernel
theorem dX11_read_12 : decode cX11_read 12 = .ok (.ifnonnull 9, 3) := by decide +kernel
theorem dX11_read_15 : decode cX11_read 15 = .ok (.aload_n 0, 1) := by decide +kernel
theorem dX11_read_16 : decode cX11_read 16 = .ok (.iconst 3, 1) := by decide +kernel
theorem dX11_read_17 : decode cX11_read 17 = .ok (.invokevirtual 102, 3) := by decide +kernel
theorem dX11_read_20 : decode cX11_read 20 = .ok (.ireturn, 1) := by decide +kernel
theorem dX11_read_21 : decode cX11_read 21 = .ok (.iload_n 3, 1) := by decide +kernel
theorem dX11_read_22 : decode cX11_read 22 = .ok (.ifCond .ge 9, 3) := by decide +kernel
theorem dX11_read_25 : decode cX11_read 25 = .ok (.aload_n 0, 1) := by decide +kernel
theorem dX11_read_26 : decode cX11_read 26 = .ok (.iconst 5, 1) := by decide +kernel
theorem dX11_read_27 : decode cX11_read 27 = .ok (.invokevirtual 102, 3) := by decide +kernel
theorem dX11_read_30 : decode cX11_read 30 = .ok (.ireturn, 1) := by decide +kernel
theorem dX11_read_31 : decode cX11_read 31 = .ok (.iconst 0, 1) := by decide +kernel
theorem dX11_read_32 : decode cX11_read 32 = .ok (.istore 5, 2) := by decide +kernel
theorem dX11_read_34 : decode cX11_read 34 = .ok (.iload 5, 2) := by decide +kernel
theorem dX11_read_36 : decode cX11_read 36 = .ok (.iload_n 3, 1) := by decide +kernel
theorem dX11_read_37 : decode cX11_read 37 = .ok (.if_icmp .ge 39, 3) := by decide +kernel
theorem dX11_read_40 : decode cX11_read 40 = .ok (.aload_n 0, 1) := by decide +kernel
theorem dX11_read_41 : decode cX11_read 41 = .ok (.getfield 67, 3) := by decide +kernel
theorem dX11_read_44 : decode cX11_read 44 = .ok (.iload_n 2, 1) := by decide +kernel
theorem dX11_read_45 : decode cX11_read 45 = .ok (.iload 5, 2) := by decide +kernel
theorem dX11_read_47 : decode cX11_read 47 = .ok (.iadd, 1) := by decide +kernel
theorem dX11_read_48 : decode cX11_read 48 = .ok (.invokevirtual 288, 3) := by decide +kernel
theorem dX11_read_51 : decode cX11_read 51 = .ok (.ifnonnull 19, 3) := by decide +kernel
theorem dX11_read_54 : decode cX11_read 54 = .ok (.aload_n 0, 1) := by decide +kernel
theorem dX11_read_55 : decode cX11_read 55 = .ok (.aload_n 0, 1) := by decide +kernel
theorem dX11_read_56 : decode cX11_read 56 = .ok (.getfield 67, 3) := by decide +kernel
theorem dX11_read_59 : decode cX11_read 59 = .ok (.iload_n 2, 1) := by decide +kernel
theorem dX11_read_60 : decode cX11_read 60 = .ok (.iload 5, 2) := by decide +kernel
theorem dX11_read_62 : decode cX11_read 62 = .ok (.iadd, 1) := by decide +kernel
theorem dX11_read_63 : decode cX11_read 63 = .ok (.invokevirtual 292, 3) := by decide +kernel
theorem dX11_read_66 : decode cX11_read 66 = .ok (.invokevirtual 102, 3) := by decide +kernel
theorem dX11_read_69 : decode cX11_read 69 = .ok (.ireturn, 1) := by decide +kernel
theorem dX11_read_70 : decode cX11_read 70 = .ok (.iinc 5 1, 3) := by decide +kernel
theorem dX11_read_73 : decode cX11_read 73 = .ok (.goto (-39), 3) := by decide +kernel
theorem dX11_read_76 : decode cX11_read 76 = .ok (.aload_n 0, 1) := by decide +kernel
theorem dX11_read_77 : decode cX11_read 77 = .ok (.iload_n 2, 1) := by decide +kernel
theorem dX11_read_78 : decode cX11_read 78 = .ok (.iload_n 3, 1) := by decide +kernel
theorem dX11_read_79 : decode cX11_read 79 = .ok (.invokevirtual 328, 3) := by decide +kernel
theorem dX11_read_82 : decode cX11_read 82 = .ok (.aload_n 0, 1) := by decide +kernel
theorem dX11_read_83 : decode cX11_read 83 = .ok (.getfield 51, 3) := by decide +kernel
theorem dX11_read_86 : decode cX11_read 86 = .ok (.aload 4, 2) := by decide +kernel
theorem dX11_read_88 : decode cX11_read 88 = .ok (.invokevirtual 331, 3) := by decide +kernel
theorem dX11_read_91 : decode cX11_read 91 = .ok (.aload_n 0, 1) := by decide +kernel
theorem dX11_read_92 : decode cX11_read 92 = .ok (.getfield 51, 3) := by decide +kernel
theorem dX11_read_95 : decode cX11_read 95 = .ok (.invokevirtual 335, 3) := by decide +kernel
theorem dX11_read_98 : decode cX11_read 98 = .ok (.istore 5, 2) := by decide +kernel
theorem dX11_read_100 : decode cX11_read 100 = .ok (.aload_n 0, 1) := by decide +kernel
theorem dX11_read_101 : decode cX11_read 101 = .ok (.getfield 21, 3) := by decide +kernel
theorem dX11_read_104 : decode cX11_read 104 = .ok (.invokevirtual 164, 3) := by decide +kernel
theorem dX11_read_107 : decode cX11_read 107 = .ok (.iload 5, 2) := by decide +kernel
theorem dX11_read_109 : decode cX11_read 109 = .ok (.ifCond .ne 17, 3) := by decide +kernel
theorem dX11_read_112 : decode cX11_read 112 = .ok (.aload_n 0, 1) := by decide +kernel
theorem dX11_read_113 : decode cX11_read 113 = .ok (.bipush 9, 2) := by decide +kernel
theorem dX11_read_115 : decode cX11_read 115 = .ok (.aload_n 0, 1) := by decide +kernel
theorem dX11_read_116 : decode cX11_read 116 = .ok (.getfield 51, 3) := by decide +kernel
theorem dX11_read_119 : decode cX11_read 119 = .ok (.invokevirtual 338, 3) := by decide +kernel
theorem dX11_read_122 : decode cX11_read 122 = .ok (.invokevirtual 266, 3) := by decide +kernel
theorem dX11_read_125 : decode cX11_read 125 = .ok (.ireturn, 1) := by decide +kernel
theorem dX11_read_126 : decode cX11_read 126 = .ok (.aload_n 0, 1) := by decide +kernel
theorem dX11_read_127 : decode cX11_read 127 = .ok (.getfield 51, 3) := by decide +kernel
theorem dX11_read_130 : decode cX11_read 130 = .ok (.getfield 341, 3) := by decide +kernel
theorem dX11_read_133 : decode cX11_read 133 = .ok (.getfield 99, 3) := by decide +kernel
theorem dX11_read_136 : decode cX11_read 136 = .ok (.sipush 4000, 3) := by decide +kernel
theorem dX11_read_139 : decode cX11_read 139 = .ok (.if_icmp .le 10, 3) := by decide +kernel
theorem dX11_read_142 : decode cX11_read 142 = .ok (.aload_n 0, 1) := by decide +kernel
theorem dX11_read_143 : decode cX11_read 143 = .ok (.bipush 6, 2) := by decide +kernel
theorem dX11_read_145 : decode cX11_read 145 = .ok (.invokevirtual 102, 3) := by decide +kernel
theorem dX11_read_148 : decode cX11_read 148 = .ok (.ireturn, 1) := by decide +kernel
theorem dX11_read_149 : decode cX11_read 149 = .ok (.aload_n 0, 1) := by decide +kernel
theorem dX11_read_150 : decode cX11_read 150 = .ok (.getfield 21, 3) := by decide +kernel
theorem dX11_read_153 : decode cX11_read 153 = .ok (.aload_n 0, 1) := by decide +kernel
theorem dX11_read_154 : decode cX11_read 154 = .ok (.getfield 51, 3) := by decide +kernel
theorem dX11_read_157 : decode cX11_read 157 = .ok (.getfield 341, 3) := by decide +kernel
theorem dX11_read_160 : decode cX11_read 160 = .ok (.invokevirtual 227, 3) := by decide +kernel
theorem dX11_read_163 : decode cX11_read 163 = .ok (.aload_n 0, 1) := by decide +kernel
theorem dX11_read_164 : decode cX11_read 164 = .ok (.aload_n 0, 1) := by decide +kernel
theorem dX11_read_165 : decode cX11_read 165 = .ok (.getfield 21, 3) := by decide +kernel
theorem dX11_read_168 : decode cX11_read 168 = .ok (.getfield 99, 3) := by decide +kernel
theorem dX11_read_171 : decode cX11_read 171 = .ok (.invokevirtual 109, 3) := by decide +kernel
theorem dX11_read_174 : decode cX11_read 174 = .ok (.ireturn, 1) := by decide +kernel
theorem dX11_letter_0 : decode cX11_letter 0 = .ok (.iload_n 1, 1) := by decide +kernel
theorem dX11_letter_1 : decode cX11_letter 1 = .ok (.ifCond .lt 14, 3) := by decide +kernel
theorem dX11_letter_4 : decode cX11_letter 4 = .ok (.iload_n 1, 1) := by decide +kernel
theorem dX11_letter_5 : decode cX11_letter 5 = .ok (.aload_n 0, 1) := by decide +kernel
theorem dX11_letter_6 : decode cX11_letter 6 = .ok (.getfield 21, 3) := by decide +kernel
theorem dX11_letter_9 : decode cX11_letter 9 = .ok (.getfield 99, 3) := by decide +kernel
theorem dX11_letter_12 : decode cX11_letter 12 = .ok (.if_icmp .lt 11, 3) := by decide +kernel
theorem dX11_letter_15 : decode cX11_letter 15 = .ok (.aload_n 0, 1) := by decide +kernel
theorem dX11_letter_16 : decode cX11_letter 16 = .ok (.iconst 2, 1) := by decide +kernel
theorem dX11_letter_17 : decode cX11_letter 17 = .ok (.invokevirtual 102, 3) := by decide +kernel
theorem dX11_letter_20 : decode cX11_letter 20 = .ok (.goto 15, 3) := by decide +kernel
theorem dX11_letter_23 : decode cX11_letter 23 = .ok (.aload_n 0, 1) := by decide +kernel
theorem dX11_letter_24 : decode cX11_letter 24 = .ok (.aload_n 0, 1) := by decide +kernel
theorem dX11_letter_25 : decode cX11_letter 25 = .ok (.getfield 21, 3) := by decide +kernel
theorem dX11_letter_28 : decode cX11_letter 28 = .ok (.iload_n 1, 1) := by decide +kernel
theorem dX11_letter_29 : decode cX11_letter 29 = .ok (.invokevirtual 224, 3) := by decide +kernel
theorem dX11_letter_32 : decode cX11_letter 32 = .ok (.invokevirtual 109, 3) := by decide +kernel
theorem dX11_letter_35 : decode cX11_letter 35 = .ok (.ireturn, 1) := by decide +kernel
theorem dX11_failed_0 : decode cX11_failed 0 = .ok (.iload_n 1, 1) := by decide +kernel
theorem dX11_failed_1 : decode cX11_failed 1 = .ok (.ifCond .lt 9, 3) := by decide +kernel
theorem dX11_failed_4 : decode cX11_failed 4 = .ok (.iload_n 1, 1) := by decide +kernel
theorem dX11_failed_5 : decode cX11_failed 5 = .ok (.bipush 7, 2) := by decide +kernel
theorem dX11_failed_7 : decode cX11_failed 7 = .ok (.if_icmp .le 10, 3) := by decide +kernel
theorem dX11_failed_10 : decode cX11_failed 10 = .ok (.aload_n 0, 1) := by decide +kernel
theorem dX11_failed_11 : decode cX11_failed 11 = .ok (.bipush 6, 2) := by decide +kernel
theorem dX11_failed_13 : decode cX11_failed 13 = .ok (.invokevirtual 102, 3) := by decide +kernel
theorem dX11_failed_16 : decode cX11_failed 16 = .ok (.ireturn, 1) := by decide +kernel
theorem dX11_failed_17 : decode cX11_failed 17 = .ok (.iconst 1, 1) := by decide +kernel
theorem dX11_failed_18 : decode cX11_failed 18 = .ok (.iload_n 1, 1) := by decide +kernel
theorem dX11_failed_19 : decode cX11_failed 19 = .ok (.ishl, 1) := by decide +kernel
theorem dX11_failed_20 : decode cX11_failed 20 = .ok (.istore_n 3, 1) := by decide +kernel
theorem dX11_failed_21 : decode cX11_failed 21 = .ok (.aload_n 0, 1) := by decide +kernel
theorem dX11_failed_22 : decode cX11_failed 22 = .ok (.iload_n 2, 1) := by decide +kernel
theorem dX11_failed_23 : decode cX11_failed 23 = .ok (.ifCond .eq 12, 3) := by decide +kernel
theorem dX11_failed_26 : decode cX11_failed 26 = .ok (.aload_n 0, 1) := by decide +kernel
theorem dX11_failed_27 : decode cX11_failed 27 = .ok (.getfield 84, 3) := by decide +kernel
theorem dX11_failed_30 : decode cX11_failed 30 = .ok (.iload_n 3, 1) := by decide +kernel
theorem dX11_failed_31 : decode cX11_failed 31 = .ok (.ior, 1) := by decide +kernel
theorem dX11_failed_32 : decode cX11_failed 32 = .ok (.goto 11, 3) := by decide +kernel
theorem dX11_failed_35 : decode cX11_failed 35 = .ok (.aload_n 0, 1) := by decide +kernel
theorem dX11_failed_36 : decode cX11_failed 36 = .ok (.getfield 84, 3) := by decide +kernel
theorem dX11_failed_39 : decode cX11_failed 39 = .ok (.iload_n 3, 1) := by decide +kernel
theorem dX11_failed_40 : decode cX11_failed 40 = .ok (.iconst (-1), 1) := by decide +kernel
theorem dX11_failed_41 : decode cX11_failed 41 = .ok (.ixor, 1) := by decide +kernel
theorem dX11_failed_42 : decode cX11_failed 42 = .ok (.iand, 1) := by decide +kernel
theorem dX11_failed_43 : decode cX11_failed 43 = .ok (.putfield 84, 3) := by decide +kernel
theorem dX11_failed_46 : decode cX11_failed 46 = .ok (.aload_n 0, 1) := by decide +kernel
theorem dX11_failed_47 : decode cX11_failed 47 = .ok (.aload_n 0, 1) := by decide +kernel
theorem dX11_failed_48 : decode cX11_failed 48 = .ok (.getfield 84, 3) := by decide +kernel
theorem dX11_failed_51 : decode cX11_failed 51 = .ok (.invokestatic 351, 3) := by decide +kernel
theorem dX11_failed_54 : decode cX11_failed 54 = .ok (.invokevirtual 109, 3) := by decide +kernel
theorem dX11_failed_57 : decode cX11_failed 57 = .ok (.ireturn, 1) := by decide +kernel
theorem dX11_readings_0 : decode cX11_readings 0 = .ok (.iload_n 3, 1) := by decide +kernel
theorem dX11_readings_1 : decode cX11_readings 1 = .ok (.iconst 1, 1) := by decide +kernel
theorem dX11_readings_2 : decode cX11_readings 2 = .ok (.if_icmp .lt 9, 3) := by decide +kernel
theorem dX11_readings_5 : decode cX11_readings 5 = .ok (.iload_n 3, 1) := by decide +kernel
theorem dX11_readings_6 : decode cX11_readings 6 = .ok (.bipush 50, 2) := by decide +kernel
theorem dX11_readings_8 : decode cX11_readings 8 = .ok (.if_icmp .le 10, 3) := by decide +kernel
theorem dX11_readings_11 : decode cX11_readings 11 = .ok (.aload_n 0, 1) := by decide +kernel
theorem dX11_readings_12 : decode cX11_readings 12 = .ok (.bipush 6, 2) := by decide +kernel
theorem dX11_readings_14 : decode cX11_readings 14 = .ok (.invokevirtual 102, 3) := by decide +kernel
theorem dX11_readings_17 : decode cX11_readings 17 = .ok (.ireturn, 1) := by decide +kernel
theorem dX11_readings_18 : decode cX11_readings 18 = .ok (.aload_n 0, 1) := by decide +kernel
theorem dX11_readings_19 : decode cX11_readings 19 = .ok (.getfield 30, 3) := by decide +kernel
theorem dX11_readings_22 : decode cX11_readings 22 = .ok (.iload_n 1, 1) := by decide +kernel
theorem dX11_readings_23 : decode cX11_readings 23 = .ok (.invokevirtual 231, 3) := by decide +kernel
theorem dX11_readings_26 : decode cX11_readings 26 = .ok (.astore 4, 2) := by decide +kernel
theorem dX11_readings_28 : decode cX11_readings 28 = .ok (.aload 4, 2) := by decide +kernel
theorem dX11_readings_30 : decode cX11_readings 30 = .ok (.ifnonnull 9, 3) := by decide +kernel
theorem dX11_readings_33 : decode cX11_readings 33 = .ok (.aload_n 0, 1) := by decide +kernel
theorem dX11_readings_34 : decode cX11_readings 34 = .ok (.iconst 3, 1) := by decide +kernel
theorem dX11_readings_35 : decode cX11_readings 35 = .ok (.invokevirtual 102, 3) := by decide +kernel
theorem dX11_readings_38 : decode cX11_readings 38 = .ok (.ireturn, 1) := by decide +kernel
theorem dX11_readings_39 : decode cX11_readings 39 = .ok (.aload_n 0, 1) := by decide +kernel
theorem dX11_readings_40 : decode cX11_readings 40 = .ok (.getfield 67, 3) := by decide +kernel
theorem dX11_readings_43 : decode cX11_readings 43 = .ok (.iload_n 2, 1) := by decide +kernel
theorem dX11_readings_44 : decode cX11_readings 44 = .ok (.invokevirtual 288, 3) := by decide +kernel
theorem dX11_readings_47 : decode cX11_readings 47 = .ok (.astore 5, 2) := by decide +kernel
theorem dX11_readings_49 : decode cX11_readings 49 = .ok (.aload 5, 2) := by decide +kernel
theorem dX11_readings_51 : decode cX11_readings 51 = .ok (.ifnonnull 16, 3) := by decide +kernel
theorem dX11_readings_54 : decode cX11_readings 54 = .ok (.aload_n 0, 1) := by decide +kernel
theorem dX11_readings_55 : decode cX11_readings 55 = .ok (.aload_n 0, 1) := by decide +kernel
theorem dX11_readings_56 : decode cX11_readings 56 = .ok (.getfield 67, 3) := by decide +kernel
theorem dX11_readings_59 : decode cX11_readings 59 = .ok (.iload_n 2, 1) := by decide +kernel
theorem dX11_readings_60 : decode cX11_readings 60 = .ok (.invokevirtual 292, 3) := by decide +kernel
theorem dX11_readings_63 : decode cX11_readings 63 = .ok (.invokevirtual 102, 3) := by decide +kernel
theorem dX11_readings_66 : decode cX11_readings 66 = .ok (.ireturn, 1) := by decide +kernel
theorem dX11_readings_67 : decode cX11_readings 67 = .ok (.aload 5, 2) := by decide +kernel
theorem dX11_readings_69 : decode cX11_readings 69 = .ok (.getfield 295, 3) := by decide +kernel
theorem dX11_readings_72 : decode cX11_readings 72 = .ok (.bipush 100, 2) := by decide +kernel
theorem dX11_readings_74 : decode cX11_readings 74 = .ok (.if_icmp .le 10, 3) := by decide +kernel
theorem dX11_readings_77 : decode cX11_readings 77 = .ok (.aload_n 0, 1) := by decide +kernel
theorem dX11_readings_78 : decode cX11_readings 78 = .ok (.bipush 6, 2) := by decide +kernel
theorem dX11_readings_80 : decode cX11_readings 80 = .ok (.invokevirtual 102, 3) := by decide +kernel
theorem dX11_readings_83 : decode cX11_readings 83 = .ok (.ireturn, 1) := by decide +kernel
theorem dX11_readings_84 : decode cX11_readings 84 = .ok (.aload_n 0, 1) := by decide +kernel
theorem dX11_readings_85 : decode cX11_readings 85 = .ok (.getfield 51, 3) := by decide +kernel
theorem dX11_readings_88 : decode cX11_readings 88 = .ok (.aload 4, 2) := by decide +kernel
theorem dX11_readings_90 : decode cX11_readings 90 = .ok (.invokevirtual 331, 3) := by decide +kernel
theorem dX11_readings_93 : decode cX11_readings 93 = .ok (.aload_n 0, 1) := by decide +kernel
theorem dX11_readings_94 : decode cX11_readings 94 = .ok (.getfield 60, 3) := by decide +kernel
theorem dX11_readings_97 : decode cX11_readings 97 = .ok (.aload 5, 2) := by decide +kernel
theorem dX11_readings_99 : decode cX11_readings 99 = .ok (.sipush 255, 3) := by decide +kernel
theorem dX11_readings_102 : decode cX11_readings 102 = .ok (.aload_n 0, 1) := by decide +kernel
theorem dX11_readings_103 : decode cX11_readings 103 = .ok (.getfield 84, 3) := by decide +kernel
theorem dX11_readings_106 : decode cX11_readings 106 = .ok (.iconst (-1), 1) := by decide +kernel
theorem dX11_readings_107 : decode cX11_readings 107 = .ok (.ixor, 1) := by decide +kernel
theorem dX11_readings_108 : decode cX11_readings 108 = .ok (.iand, 1) := by decide +kernel
theorem dX11_readings_109 : decode cX11_readings 109 = .ok (.iload_n 3, 1) := by decide +kernel
theorem dX11_readings_110 : decode cX11_readings 110 = .ok (.invokevirtual 356, 3) := by decide +kernel
theorem dX11_readings_113 : decode cX11_readings 113 = .ok (.aload_n 0, 1) := by decide +kernel
theorem dX11_readings_114 : decode cX11_readings 114 = .ok (.aload_n 0, 1) := by decide +kernel
theorem dX11_readings_115 : decode cX11_readings 115 = .ok (.getfield 60, 3) := by decide +kernel
theorem dX11_readings_118 : decode cX11_readings 118 = .ok (.getfield 360, 3) := by decide +kernel
theorem dX11_readings_121 : decode cX11_readings 121 = .ok (.invokevirtual 109, 3) := by decide +kernel
theorem dX11_readings_124 : decode cX11_readings 124 = .ok (.ireturn, 1) := by decide +kernel
theorem dX11_more_0 : decode cX11_more 0 = .ok (.aload_n 0, 1) := by decide +kernel
theorem dX11_more_1 : decode cX11_more 1 = .ok (.getfield 60, 3) := by decide +kernel
theorem dX11_more_4 : decode cX11_more 4 = .ok (.getfield 361, 3) := by decide +kernel
theorem dX11_more_7 : decode cX11_more 7 = .ok (.ifCond .eq 7, 3) := by decide +kernel
theorem dX11_more_10 : decode cX11_more 10 = .ok (.iconst 1, 1) := by decide +kernel
theorem dX11_more_11 : decode cX11_more 11 = .ok (.goto 4, 3) := by decide +kernel
theorem dX11_more_14 : decode cX11_more 14 = .ok (.iconst 0, 1) := by decide +kernel
theorem dX11_more_15 : decode cX11_more 15 = .ok (.ireturn, 1) := by decide +kernel
theorem dX11_reading_0 : decode cX11_reading 0 = .ok (.aload_n 0, 1) := by decide +kernel
theorem dX11_reading_1 : decode cX11_reading 1 = .ok (.getfield 60, 3) := by decide +kernel
theorem dX11_reading_4 : decode cX11_reading 4 = .ok (.iload_n 1, 1) := by decide +kernel
theorem dX11_reading_5 : decode cX11_reading 5 = .ok (.iload_n 2, 1) := by decide +kernel
theorem dX11_reading_6 : decode cX11_reading 6 = .ok (.invokevirtual 364, 3) := by decide +kernel
theorem dX11_reading_9 : decode cX11_reading 9 = .ok (.istore_n 3, 1) := by decide +kernel
theorem dX11_reading_10 : decode cX11_reading 10 = .ok (.iload_n 3, 1) := by decide +kernel
theorem dX11_reading_11 : decode cX11_reading 11 = .ok (.ifCond .ge 11, 3) := by decide +kernel
theorem dX11_reading_14 : decode cX11_reading 14 = .ok (.aload_n 0, 1) := by decide +kernel
theorem dX11_reading_15 : decode cX11_reading 15 = .ok (.iconst 2, 1) := by decide +kernel
theorem dX11_reading_16 : decode cX11_reading 16 = .ok (.invokevirtual 102, 3) := by decide +kernel
theorem dX11_reading_19 : decode cX11_reading 19 = .ok (.goto 8, 3) := by decide +kernel
theorem dX11_reading_22 : decode cX11_reading 22 = .ok (.aload_n 0, 1) := by decide +kernel
theorem dX11_reading_23 : decode cX11_reading 23 = .ok (.iload_n 3, 1) := by decide +kernel
theorem dX11_reading_24 : decode cX11_reading 24 = .ok (.invokevirtual 109, 3) := by decide +kernel
theorem dX11_reading_27 : decode cX11_reading 27 = .ok (.ireturn, 1) := by decide +kernel
theorem dX11_judge_0 : decode cX11_judge 0 = .ok (.aload_n 0, 1) := by decide +kernel
theorem dX11_judge_1 : decode cX11_judge 1 = .ok (.getfield 30, 3) := by decide +kernel
theorem dX11_judge_4 : decode cX11_judge 4 = .ok (.iload_n 1, 1) := by decide +kernel
theorem dX11_judge_5 : decode cX11_judge 5 = .ok (.invokevirtual 131, 3) := by decide +kernel
theorem dX11_judge_8 : decode cX11_judge 8 = .ok (.astore_n 2, 1) := by decide +kernel
theorem dX11_judge_9 : decode cX11_judge 9 = .ok (.aload_n 2, 1) := by decide +kernel
theorem dX11_judge_10 : decode cX11_judge 10 = .ok (.ifnonnull 9, 3) := by decide +kernel
theorem dX11_judge_13 : decode cX11_judge 13 = .ok (.aload_n 0, 1) := by decide +kernel
theorem dX11_judge_14 : decode cX11_judge 14 = .ok (.iconst 3, 1) := by decide +kernel
theorem dX11_judge_15 : decode cX11_judge 15 = .ok (.invokevirtual 102, 3) := by decide +kernel
theorem dX11_judge_18 : decode cX11_judge 18 = .ok (.ireturn, 1) := by decide +kernel
theorem dX11_judge_19 : decode cX11_judge 19 = .ok (.aload_n 2, 1) := by decide +kernel
theorem dX11_judge_20 : decode cX11_judge 20 = .ok (.getfield 135, 3) := by decide +kernel
theorem dX11_judge_23 : decode cX11_judge 23 = .ok (.iconst 4, 1) := by decide +kernel
theorem dX11_judge_24 : decode cX11_judge 24 = .ok (.if_icmp .ne 9, 3) := by decide +kernel
theorem dX11_judge_27 : decode cX11_judge 27 = .ok (.aload_n 0, 1) := by decide +kernel
theorem dX11_judge_28 : decode cX11_judge 28 = .ok (.iconst 4, 1) := by decide +kernel
theorem dX11_judge_29 : decode cX11_judge 29 = .ok (.invokevirtual 102, 3) := by decide +kernel
theorem dX11_judge_32 : decode cX11_judge 32 = .ok (.ireturn, 1) := by decide +kernel
theorem dX11_judge_33 : decode cX11_judge 33 = .ok (.aload_n 0, 1) := by decide +kernel
theorem dX11_judge_34 : decode cX11_judge 34 = .ok (.getfield 30, 3) := by decide +kernel
theorem dX11_judge_37 : decode cX11_judge 37 = .ok (.iload_n 1, 1) := by decide +kernel
theorem dX11_judge_38 : decode cX11_judge 38 = .ok (.invokevirtual 231, 3) := by decide +kernel
theorem dX11_judge_41 : decode cX11_judge 41 = .ok (.ifnonnull 9, 3) := by decide +kernel
theorem dX11_judge_44 : decode cX11_judge 44 = .ok (.aload_n 0, 1) := by decide +kernel
theorem dX11_judge_45 : decode cX11_judge 45 = .ok (.iconst 3, 1) := by decide +kernel
theorem dX11_judge_46 : decode cX11_judge 46 = .ok (.invokevirtual 102, 3) := by decide +kernel
theorem dX11_judge_49 : decode cX11_judge 49 = .ok (.ireturn, 1) := by decide +kernel
theorem dX11_judge_50 : decode cX11_judge 50 = .ok (.aload_n 2, 1) := by decide +kernel
theorem dX11_judge_51 : decode cX11_judge 51 = .ok (.invokevirtual 367, 3) := by decide +kernel
theorem dX11_judge_54 : decode cX11_judge 54 = .ok (.ifCond .eq 9, 3) := by decide +kernel
theorem dX11_judge_57 : decode cX11_judge 57 = .ok (.aload_n 0, 1) := by decide +kernel
theorem dX11_judge_58 : decode cX11_judge 58 = .ok (.iconst 0, 1) := by decide +kernel
theorem dX11_judge_59 : decode cX11_judge 59 = .ok (.invokevirtual 109, 3) := by decide +kernel
theorem dX11_judge_62 : decode cX11_judge 62 = .ok (.ireturn, 1) := by decide +kernel
theorem dX11_judge_63 : decode cX11_judge 63 = .ok (.aload_n 0, 1) := by decide +kernel
theorem dX11_judge_64 : decode cX11_judge 64 = .ok (.getfield 51, 3) := by decide +kernel
theorem dX11_judge_67 : decode cX11_judge 67 = .ok (.aload_n 2, 1) := by decide +kernel
theorem dX11_judge_68 : decode cX11_judge 68 = .ok (.invokevirtual 331, 3) := by decide +kernel
theorem dX11_judge_71 : decode cX11_judge 71 = .ok (.aload_n 0, 1) := by decide +kernel
theorem dX11_judge_72 : decode cX11_judge 72 = .ok (.getfield 51, 3) := by decide +kernel
theorem dX11_judge_75 : decode cX11_judge 75 = .ok (.getfield 370, 3) := by decide +kernel
theorem dX11_judge_78 : decode cX11_judge 78 = .ok (.aload_n 0, 1) := by decide +kernel
theorem dX11_judge_79 : decode cX11_judge 79 = .ok (.getfield 81, 3) := by decide +kernel
theorem dX11_judge_82 : decode cX11_judge 82 = .ok (.invokestatic 373, 3) := by decide +kernel
theorem dX11_judge_85 : decode cX11_judge 85 = .ok (.ifCond .eq 24, 3) := by decide +kernel
theorem dX11_judge_88 : decode cX11_judge 88 = .ok (.aload_n 0, 1) := by decide +kernel
theorem dX11_judge_89 : decode cX11_judge 89 = .ok (.getfield 51, 3) := by decide +kernel
theorem dX11_judge_92 : decode cX11_judge 92 = .ok (.getfield 377, 3) := by decide +kernel
theorem dX11_judge_95 : decode cX11_judge 95 = .ok (.aload_n 0, 1) := by decide +kernel
theorem dX11_judge_96 : decode cX11_judge 96 = .ok (.getfield 81, 3) := by decide +kernel
theorem dX11_judge_99 : decode cX11_judge 99 = .ok (.invokestatic 373, 3) := by decide +kernel
theorem dX11_judge_102 : decode cX11_judge 102 = .ok (.ifCond .eq 7, 3) := by decide +kernel
theorem dX11_judge_105 : decode cX11_judge 105 = .ok (.iconst 1, 1) := by decide +kernel
theorem dX11_judge_106 : decode cX11_judge 106 = .ok (.goto 4, 3) := by decide +kernel
theorem dX11_judge_109 : decode cX11_judge 109 = .ok (.iconst 0, 1) := by decide +kernel
theorem dX11_judge_110 : decode cX11_judge 110 = .ok (.istore_n 3, 1) := by decide +kernel
theorem dX11_judge_111 : decode cX11_judge 111 = .ok (.aload_n 0, 1) := by decide +kernel
theorem dX11_judge_112 : decode cX11_judge 112 = .ok (.iload_n 3, 1) := by decide +kernel
theorem dX11_judge_113 : decode cX11_judge 113 = .ok (.ifCond .eq 7, 3) := by decide +kernel
theorem dX11_judge_116 : decode cX11_judge 116 = .ok (.iconst 1, 1) := by decide +kernel
theorem dX11_judge_117 : decode cX11_judge 117 = .ok (.goto 4, 3) := by decide +kernel
theorem dX11_judge_120 : decode cX11_judge 120 = .ok (.iconst 0, 1) := by decide +kernel
theorem dX11_judge_121 : decode cX11_judge 121 = .ok (.invokevirtual 109, 3) := by decide +kernel
theorem dX11_judge_124 : decode cX11_judge 124 = .ok (.ireturn, 1) := by decide +kernel
theorem dX11_parts_0 : decode cX11_parts 0 = .ok (.aload_n 0, 1) := by decide +kernel
theorem dX11_parts_1 : decode cX11_parts 1 = .ok (.getfield 30, 3) := by decide +kernel
theorem dX11_parts_4 : decode cX11_parts 4 = .ok (.iload_n 1, 1) := by decide +kernel
theorem dX11_parts_5 : decode cX11_parts 5 = .ok (.invokevirtual 231, 3) := by decide +kernel
theorem dX11_parts_8 : decode cX11_parts 8 = .ok (.astore 4, 2) := by decide +kernel
theorem dX11_parts_10 : decode cX11_parts 10 = .ok (.aload 4, 2) := by decide +kernel
theorem dX11_parts_12 : decode cX11_parts 12 = .ok (.ifnonnull 9, 3) := by decide +kernel
theorem dX11_parts_15 : decode cX11_parts 15 = .ok (.aload_n 0, 1) := by decide +kernel
theorem dX11_parts_16 : decode cX11_parts 16 = .ok (.iconst 3, 1) := by decide +kernel
theorem dX11_parts_17 : decode cX11_parts 17 = .ok (.invokevirtual 102, 3) := by decide +kernel
theorem dX11_parts_20 : decode cX11_parts 20 = .ok (.ireturn, 1) := by decide +kernel
theorem dX11_parts_21 : decode cX11_parts 21 = .ok (.aload_n 0, 1) := by decide +kernel
theorem dX11_parts_22 : decode cX11_parts 22 = .ok (.getfield 51, 3) := by decide +kernel
theorem dX11_parts_25 : decode cX11_parts 25 = .ok (.aload 4, 2) := by decide +kernel
theorem dX11_parts_27 : decode cX11_parts 27 = .ok (.invokevirtual 331, 3) := by decide +kernel
theorem dX11_parts_30 : decode cX11_parts 30 = .ok (.aload_n 0, 1) := by decide +kernel
theorem dX11_parts_31 : decode cX11_parts 31 = .ok (.getfield 51, 3) := by decide +kernel
theorem dX11_parts_34 : decode cX11_parts 34 = .ok (.getfield 370, 3) := by decide +kernel
theorem dX11_parts_37 : decode cX11_parts 37 = .ok (.invokevirtual 183, 3) := by decide +kernel
theorem dX11_parts_40 : decode cX11_parts 40 = .ok (.istore 5, 2) := by decide +kernel
theorem dX11_parts_42 : decode cX11_parts 42 = .ok (.iload_n 2, 1) := by decide +kernel
theorem dX11_parts_43 : decode cX11_parts 43 = .ok (.ifCond .lt 19, 3) := by decide +kernel
theorem dX11_parts_46 : decode cX11_parts 46 = .ok (.iload_n 2, 1) := by decide +kernel
theorem dX11_parts_47 : decode cX11_parts 47 = .ok (.iload 5, 2) := by decide +kernel
theorem dX11_parts_49 : decode cX11_parts 49 = .ok (.if_icmp .ge 13, 3) := by decide +kernel
theorem dX11_parts_52 : decode cX11_parts 52 = .ok (.iload_n 3, 1) := by decide +kernel
theorem dX11_parts_53 : decode cX11_parts 53 = .ok (.ifCond .lt 9, 3) := by decide +kernel
theorem dX11_parts_56 : decode cX11_parts 56 = .ok (.iload_n 3, 1) := by decide +kernel
theorem dX11_parts_57 : decode cX11_parts 57 = .ok (.iload 5, 2) := by decide +kernel
theorem dX11_parts_59 : decode cX11_parts 59 = .ok (.if_icmp .lt 9, 3) := by decide +kernel
theorem dX11_parts_62 : decode cX11_parts 62 = .ok (.aload_n 0, 1) := by decide +kernel
theorem dX11_parts_63 : decode cX11_parts 63 = .ok (.iconst 2, 1) := by decide +kernel
theorem dX11_parts_64 : decode cX11_parts 64 = .ok (.invokevirtual 102, 3) := by decide +kernel
theorem dX11_parts_67 : decode cX11_parts 67 = .ok (.ireturn, 1) := by decide +kernel
theorem dX11_parts_68 : decode cX11_parts 68 = .ok (.aload_n 0, 1) := by decide +kernel
theorem dX11_parts_69 : decode cX11_parts 69 = .ok (.getfield 51, 3) := by decide +kernel
theorem dX11_parts_72 : decode cX11_parts 72 = .ok (.getfield 370, 3) := by decide +kernel
theorem dX11_parts_75 : decode cX11_parts 75 = .ok (.iload_n 2, 1) := by decide +kernel
theorem dX11_parts_76 : decode cX11_parts 76 = .ok (.invokevirtual 204, 3) := by decide +kernel
theorem dX11_parts_79 : decode cX11_parts 79 = .ok (.checkcast 188, 3) := by decide +kernel
theorem dX11_parts_82 : decode cX11_parts 82 = .ok (.astore 6, 2) := by decide +kernel
theorem dX11_parts_84 : decode cX11_parts 84 = .ok (.aload_n 0, 1) := by decide +kernel
theorem dX11_parts_85 : decode cX11_parts 85 = .ok (.getfield 51, 3) := by decide +kernel
theorem dX11_parts_88 : decode cX11_parts 88 = .ok (.getfield 370, 3) := by decide +kernel
theorem dX11_parts_91 : decode cX11_parts 91 = .ok (.iload_n 3, 1) := by decide +kernel
theorem dX11_parts_92 : decode cX11_parts 92 = .ok (.invokevirtual 204, 3) := by decide +kernel
theorem dX11_parts_95 : decode cX11_parts 95 = .ok (.checkcast 188, 3) := by decide +kernel
theorem dX11_parts_98 : decode cX11_parts 98 = .ok (.astore 7, 2) := by decide +kernel
theorem dX11_parts_100 : decode cX11_parts 100 = .ok (.aload 6, 2) := by decide +kernel
theorem dX11_parts_102 : decode cX11_parts 102 = .ok (.aload 7, 2) := by decide +kernel
theorem dX11_parts_104 : decode cX11_parts 104 = .ok (.invokevirtual 380, 3) := by decide +kernel
theorem dX11_parts_107 : decode cX11_parts 107 = .ok (.istore 8, 2) := by decide +kernel
theorem dX11_parts_109 : decode cX11_parts 109 = .ok (.iload 8, 2) := by decide +kernel
theorem dX11_parts_111 : decode cX11_parts 111 = .ok (.aload 6, 2) := by decide +kernel
theorem dX11_parts_113 : decode cX11_parts 113 = .ok (.getfield 384, 3) := by decide +kernel
theorem dX11_parts_116 : decode cX11_parts 116 = .ok (.arraylength, 1) := by decide +kernel
theorem dX11_parts_117 : decode cX11_parts 117 = .ok (.if_icmp .eq 14, 3) := by decide +kernel
theorem dX11_parts_120 : decode cX11_parts 120 = .ok (.iload 8, 2) := by decide +kernel
theorem dX11_parts_122 : decode cX11_parts 122 = .ok (.aload 7, 2) := by decide +kernel
theorem dX11_parts_124 : decode cX11_parts 124 = .ok (.getfield 384, 3) := by decide +kernel
theorem dX11_parts_127 : decode cX11_parts 127 = .ok (.arraylength, 1) := by decide +kernel
theorem dX11_parts_128 : decode cX11_parts 128 = .ok (.if_icmp .ne 7, 3) := by decide +kernel
theorem dX11_parts_131 : decode cX11_parts 131 = .ok (.iconst 1, 1) := by decide +kernel
theorem dX11_parts_132 : decode cX11_parts 132 = .ok (.goto 4, 3) := by decide +kernel
theorem dX11_parts_135 : decode cX11_parts 135 = .ok (.iconst 0, 1) := by decide +kernel
theorem dX11_parts_136 : decode cX11_parts 136 = .ok (.istore 9, 2) := by decide +kernel
theorem dX11_parts_138 : decode cX11_parts 138 = .ok (.aload_n 0, 1) := by decide +kernel
theorem dX11_parts_139 : decode cX11_parts 139 = .ok (.iload 9, 2) := by decide +kernel
theorem dX11_parts_141 : decode cX11_parts 141 = .ok (.ifCond .eq 10, 3) := by decide +kernel
theorem dX11_parts_144 : decode cX11_parts 144 = .ok (.iconst (-1), 1) := by decide +kernel
theorem dX11_parts_145 : decode cX11_parts 145 = .ok (.iload 8, 2) := by decide +kernel
theorem dX11_parts_147 : decode cX11_parts 147 = .ok (.isub, 1) := by decide +kernel
theorem dX11_parts_148 : decode cX11_parts 148 = .ok (.goto 5, 3) := by decide +kernel
theorem dX11_parts_151 : decode cX11_parts 151 = .ok (.iload 8, 2) := by decide +kernel
theorem dX11_parts_153 : decode cX11_parts 153 = .ok (.invokevirtual 109, 3) := by decide +kernel
theorem dX11_parts_156 : decode cX11_parts 156 = .ok (.ireturn, 1) := by decide +kernel
theorem dX11_unreadable_0 : decode cX11_unreadable 0 = .ok (.iload_n 2, 1) := by decide +kernel
theorem dX11_unreadable_1 : decode cX11_unreadable 1 = .ok (.iconst 1, 1) := by decide +kernel
theorem dX11_unreadable_2 : decode cX11_unreadable 2 = .ok (.if_icmp .lt 21, 3) := by decide +kernel
theorem dX11_unreadable_5 : decode cX11_unreadable 5 = .ok (.iload_n 2, 1) := by decide +kernel
theorem dX11_unreadable_6 : decode cX11_unreadable 6 = .ok (.bipush 6, 2) := by decide +kernel
theorem dX11_unreadable_8 : decode cX11_unreadable 8 = .ok (.if_icmp .gt 15, 3) := by decide +kernel
theorem dX11_unreadable_11 : decode cX11_unreadable 11 = .ok (.iload_n 3, 1) := by decide +kernel
theorem dX11_unreadable_12 : decode cX11_unreadable 12 = .ok (.iconst 1, 1) := by decide +kernel
theorem dX11_unreadable_13 : decode cX11_unreadable 13 = .ok (.if_icmp .lt 10, 3) := by decide +kernel
theorem dX11_unreadable_16 : decode cX11_unreadable 16 = .ok (.iload_n 3, 1) := by decide +kernel
theorem dX11_unreadable_17 : decode cX11_unreadable 17 = .ok (.sipush 5000, 3) := by decide +kernel
theorem dX11_unreadable_20 : decode cX11_unreadable 20 = .ok (.if_icmp .le 10, 3) := by decide +kernel
theorem dX11_unreadable_23 : decode cX11_unreadable 23 = .ok (.aload_n 0, 1) := by decide +kernel
theorem dX11_unreadable_24 : decode cX11_unreadable 24 = .ok (.bipush 6, 2) := by decide +kernel
theorem dX11_unreadable_26 : decode cX11_unreadable 26 = .ok (.invokevirtual 102, 3) := by decide +kernel
theorem dX11_unreadable_29 : decode cX11_unreadable 29 = .ok (.ireturn, 1) := by decide +kernel
theorem dX11_unreadable_30 : decode cX11_unreadable 30 = .ok (.aload_n 0, 1) := by decide +kernel
theorem dX11_unreadable_31 : decode cX11_unreadable 31 = .ok (.getfield 30, 3) := by decide +kernel
theorem dX11_unreadable_34 : decode cX11_unreadable 34 = .ok (.iload_n 1, 1) := by decide +kernel
theorem dX11_unreadable_35 : decode cX11_unreadable 35 = .ok (.invokevirtual 231, 3) := by decide +kernel
theorem dX11_unreadable_38 : decode cX11_unreadable 38 = .ok (.astore 4, 2) := by decide +kernel
theorem dX11_unreadable_40 : decode cX11_unreadable 40 = .ok (.aload 4, 2) := by decide +kernel
theorem dX11_unreadable_42 : decode cX11_unreadable 42 = .ok (.ifnonnull 9, 3) := by decide +kernel
theorem dX11_unreadable_45 : decode cX11_unreadable 45 = .ok (.aload_n 0, 1) := by decide +kernel
theorem dX11_unreadable_46 : decode cX11_unreadable 46 = .ok (.iconst 3, 1) := by decide +kernel
theorem dX11_unreadable_47 : decode cX11_unreadable 47 = .ok (.invokevirtual 102, 3) := by decide +kernel
theorem dX11_unreadable_50 : decode cX11_unreadable 50 = .ok (.ireturn, 1) := by decide +kernel
theorem dX11_unreadable_51 : decode cX11_unreadable 51 = .ok (.aload_n 0, 1) := by decide +kernel
theorem dX11_unreadable_52 : decode cX11_unreadable 52 = .ok (.getfield 51, 3) := by decide +kernel
theorem dX11_unreadable_55 : decode cX11_unreadable 55 = .ok (.aload 4, 2) := by decide +kernel
theorem dX11_unreadable_57 : decode cX11_unreadable 57 = .ok (.invokevirtual 331, 3) := by decide +kernel
theorem dX11_unreadable_60 : decode cX11_unreadable 60 = .ok (.aload_n 0, 1) := by decide +kernel
theorem dX11_unreadable_61 : decode cX11_unreadable 61 = .ok (.getfield 37, 3) := by decide +kernel
theorem dX11_unreadable_64 : decode cX11_unreadable 64 = .ok (.aload_n 0, 1) := by decide +kernel
theorem dX11_unreadable_65 : decode cX11_unreadable 65 = .ok (.getfield 51, 3) := by decide +kernel
theorem dX11_unreadable_68 : decode cX11_unreadable 68 = .ok (.aload 4, 2) := by decide +kernel
theorem dX11_unreadable_70 : decode cX11_unreadable 70 = .ok (.getfield 135, 3) := by decide +kernel
theorem dX11_unreadable_73 : decode cX11_unreadable 73 = .ok (.iconst 5, 1) := by decide +kernel
theorem dX11_unreadable_74 : decode cX11_unreadable 74 = .ok (.if_icmp .ne 7, 3) := by decide +kernel
theorem dX11_unreadable_77 : decode cX11_unreadable 77 = .ok (.iconst 1, 1) := by decide +kernel
theorem dX11_unreadable_78 : decode cX11_unreadable 78 = .ok (.goto 4, 3) := by decide +kernel
theorem dX11_unreadable_81 : decode cX11_unreadable 81 = .ok (.iconst 0, 1) := by decide +kernel
theorem dX11_unreadable_82 : decode cX11_unreadable 82 = .ok (.invokevirtual 385, 3) := by decide +kernel
theorem dX11_unreadable_85 : decode cX11_unreadable 85 = .ok (.aload_n 0, 1) := by decide +kernel
theorem dX11_unreadable_86 : decode cX11_unreadable 86 = .ok (.getfield 37, 3) := by decide +kernel
theorem dX11_unreadable_89 : decode cX11_unreadable 89 = .ok (.iload_n 2, 1) := by decide +kernel
theorem dX11_unreadable_90 : decode cX11_unreadable 90 = .ok (.invokevirtual 389, 3) := by decide +kernel
theorem dX11_unreadable_93 : decode cX11_unreadable 93 = .ok (.istore 5, 2) := by decide +kernel
theorem dX11_unreadable_95 : decode cX11_unreadable 95 = .ok (.iconst 0, 1) := by decide +kernel
theorem dX11_unreadable_96 : decode cX11_unreadable 96 = .ok (.istore 6, 2) := by decide +kernel
theorem dX11_unreadable_98 : decode cX11_unreadable 98 = .ok (.iload 5, 2) := by decide +kernel
theorem dX11_unreadable_100 : decode cX11_unreadable 100 = .ok (.ifCond .eq 100, 3) := by decide +kernel
theorem dX11_unreadable_103 : decode cX11_unreadable 103 = .ok (.iload 6, 2) := by decide +kernel
theorem dX11_unreadable_105 : decode cX11_unreadable 105 = .ok (.sipush 5000, 3) := by decide +kernel
theorem dX11_unreadable_108 : decode cX11_unreadable 108 = .ok (.if_icmp .gt 92, 3) := by decide +kernel
theorem dX11_unreadable_111 : decode cX11_unreadable 111 = .ok (.iload 6, 2) := by decide +kernel
theorem dX11_unreadable_113 : decode cX11_unreadable 113 = .ok (.iload_n 3, 1) := by decide +kernel
theorem dX11_unreadable_114 : decode cX11_unreadable 114 = .ok (.if_icmp .lt 10, 3) := by decide +kernel
theorem dX11_unreadable_117 : decode cX11_unreadable 117 = .ok (.aload_n 0, 1) := by decide +kernel
theorem dX11_unreadable_118 : decode cX11_unreadable 118 = .ok (.bipush 8, 2) := by decide +kernel
theorem dX11_unreadable_120 : decode cX11_unreadable 120 = .ok (.invokevirtual 102, 3) := by decide +kernel
theorem dX11_unreadable_123 : decode cX11_unreadable 123 = .ok (.ireturn, 1) := by decide +kernel
theorem dX11_unreadable_124 : decode cX11_unreadable 124 = .ok (.aload_n 0, 1) := by decide +kernel
theorem dX11_unreadable_125 : decode cX11_unreadable 125 = .ok (.getfield 37, 3) := by decide +kernel
theorem dX11_unreadable_128 : decode cX11_unreadable 128 = .ok (.aload_n 0, 1) := by decide +kernel
theorem dX11_unreadable_129 : decode cX11_unreadable 129 = .ok (.getfield 44, 3) := by decide +kernel
theorem dX11_unreadable_132 : decode cX11_unreadable 132 = .ok (.invokevirtual 392, 3) := by decide +kernel
theorem dX11_unreadable_135 : decode cX11_unreadable 135 = .ok (.aload_n 0, 1) := by decide +kernel
theorem dX11_unreadable_136 : decode cX11_unreadable 136 = .ok (.getfield 44, 3) := by decide +kernel
theorem dX11_unreadable_139 : decode cX11_unreadable 139 = .ok (.aload 4, 2) := by decide +kernel
theorem dX11_unreadable_141 : decode cX11_unreadable 141 = .ok (.invokevirtual 253, 3) := by decide +kernel
theorem dX11_unreadable_144 : decode cX11_unreadable 144 = .ok (.ifCond .ne 40, 3) := by decide +kernel
theorem dX11_unreadable_147 : decode cX11_unreadable 147 = .ok (.aload_n 0, 1) := by decide +kernel
theorem dX11_unreadable_148 : decode cX11_unreadable 148 = .ok (.invokevirtual 396, 3) := by decide +kernel
theorem dX11_unreadable_151 : decode cX11_unreadable 151 = .ok (.ifCond .ne 33, 3) := by decide +kernel
theorem dX11_unreadable_154 : decode cX11_unreadable 154 = .ok (.aload_n 0, 1) := by decide +kernel
theorem dX11_unreadable_155 : decode cX11_unreadable 155 = .ok (.getfield 21, 3) := by decide +kernel
theorem dX11_unreadable_158 : decode cX11_unreadable 158 = .ok (.invokevirtual 164, 3) := by decide +kernel
theorem dX11_unreadable_161 : decode cX11_unreadable 161 = .ok (.aload_n 0, 1) := by decide +kernel
theorem dX11_unreadable_162 : decode cX11_unreadable 162 = .ok (.getfield 44, 3) := by decide +kernel
theorem dX11_unreadable_165 : decode cX11_unreadable 165 = .ok (.aload_n 0, 1) := by decide +kernel
theorem dX11_unreadable_166 : decode cX11_unreadable 166 = .ok (.getfield 21, 3) := by decide +kernel
theorem dX11_unreadable_169 : decode cX11_unreadable 169 = .ok (.invokevirtual 399, 3) := by decide +kernel
theorem dX11_unreadable_172 : decode cX11_unreadable 172 = .ok (.aload_n 0, 1) := by decide +kernel
theorem dX11_unreadable_173 : decode cX11_unreadable 173 = .ok (.aload_n 0, 1) := by decide +kernel
theorem dX11_unreadable_174 : decode cX11_unreadable 174 = .ok (.getfield 44, 3) := by decide +kernel
theorem dX11_unreadable_177 : decode cX11_unreadable 177 = .ok (.getfield 402, 3) := by decide +kernel
theorem dX11_unreadable_180 : decode cX11_unreadable 180 = .ok (.invokevirtual 109, 3) := by decide +kernel
theorem dX11_unreadable_183 : decode cX11_unreadable 183 = .ok (.ireturn, 1) := by decide +kernel
theorem dX11_unreadable_184 : decode cX11_unreadable 184 = .ok (.aload_n 0, 1) := by decide +kernel
theorem dX11_unreadable_185 : decode cX11_unreadable 185 = .ok (.getfield 37, 3) := by decide +kernel
theorem dX11_unreadable_188 : decode cX11_unreadable 188 = .ok (.iload_n 2, 1) := by decide +kernel
theorem dX11_unreadable_189 : decode cX11_unreadable 189 = .ok (.invokevirtual 403, 3) := by decide +kernel
theorem dX11_unreadable_192 : decode cX11_unreadable 192 = .ok (.istore 5, 2) := by decide +kernel
theorem dX11_unreadable_194 : decode cX11_unreadable 194 = .ok (.iinc 6 1, 3) := by decide +kernel
theorem dX11_unreadable_197 : decode cX11_unreadable 197 = .ok (.goto (-99), 3) := by decide +kernel
theorem dX11_unreadable_200 : decode cX11_unreadable 200 = .ok (.aload_n 0, 1) := by decide +kernel
theorem dX11_unreadable_201 : decode cX11_unreadable 201 = .ok (.iconst 0, 1) := by decide +kernel
theorem dX11_unreadable_202 : decode cX11_unreadable 202 = .ok (.invokevirtual 109, 3) := by decide +kernel
theorem dX11_unreadable_205 : decode cX11_unreadable 205 = .ok (.ireturn, 1) := by decide +kernel
theorem dX11_saved_0 : decode cX11_saved 0 = .ok (.aload_n 0, 1) := by decide +kernel
theorem dX11_saved_1 : decode cX11_saved 1 = .ok (.getfield 30, 3) := by decide +kernel
theorem dX11_saved_4 : decode cX11_saved 4 = .ok (.iload_n 1, 1) := by decide +kernel
theorem dX11_saved_5 : decode cX11_saved 5 = .ok (.invokevirtual 231, 3) := by decide +kernel
theorem dX11_saved_8 : decode cX11_saved 8 = .ok (.astore_n 3, 1) := by decide +kernel
theorem dX11_saved_9 : decode cX11_saved 9 = .ok (.aload_n 0, 1) := by decide +kernel
theorem dX11_saved_10 : decode cX11_saved 10 = .ok (.getfield 30, 3) := by decide +kernel
theorem dX11_saved_13 : decode cX11_saved 13 = .ok (.iload_n 2, 1) := by decide +kernel
theorem dX11_saved_14 : decode cX11_saved 14 = .ok (.invokevirtual 231, 3) := by decide +kernel
theorem dX11_saved_17 : decode cX11_saved 17 = .ok (.astore 4, 2) := by decide +kernel
theorem dX11_saved_19 : decode cX11_saved 19 = .ok (.aload_n 3, 1) := by decide +kernel
theorem dX11_saved_20 : decode cX11_saved 20 = .ok (.ifnull 8, 3) := by decide +kernel
theorem dX11_saved_23 : decode cX11_saved 23 = .ok (.aload 4, 2) := by decide +kernel
theorem dX11_saved_25 : decode cX11_saved 25 = .ok (.ifnonnull 9, 3) := by decide +kernel
theorem dX11_saved_28 : decode cX11_saved 28 = .ok (.aload_n 0, 1) := by decide +kernel
theorem dX11_saved_29 : decode cX11_saved 29 = .ok (.iconst 3, 1) := by decide +kernel
theorem dX11_saved_30 : decode cX11_saved 30 = .ok (.invokevirtual 102, 3) := by decide +kernel
theorem dX11_saved_33 : decode cX11_saved 33 = .ok (.ireturn, 1) := by decide +kernel
theorem dX11_saved_34 : decode cX11_saved 34 = .ok (.iconst 0, 1) := by decide +kernel
theorem dX11_saved_35 : decode cX11_saved 35 = .ok (.istore 5, 2) := by decide +kernel
theorem dX11_saved_37 : decode cX11_saved 37 = .ok (.iconst 0, 1) := by decide +kernel
theorem dX11_saved_38 : decode cX11_saved 38 = .ok (.istore 6, 2) := by decide +kernel
theorem dX11_saved_40 : decode cX11_saved 40 = .ok (.iconst 0, 1) := by decide +kernel
theorem dX11_saved_41 : decode cX11_saved 41 = .ok (.istore 7, 2) := by decide +kernel
theorem dX11_saved_43 : decode cX11_saved 43 = .ok (.iload 6, 2) := by decide +kernel
theorem dX11_saved_45 : decode cX11_saved 45 = .ok (.ifCond .ne 141, 3) := by decide +kernel
theorem dX11_saved_48 : decode cX11_saved 48 = .ok (.iload 7, 2) := by decide +kernel
theorem dX11_saved_50 : decode cX11_saved 50 = .ok (.iconst 2, 1) := by decide +kernel
theorem dX11_saved_51 : decode cX11_saved 51 = .ok (.if_icmp .ge 135, 3) := by decide +kernel
theorem dX11_saved_54 : decode cX11_saved 54 = .ok (.aload_n 0, 1) := by decide +kernel
theorem dX11_saved_55 : decode cX11_saved 55 = .ok (.getfield 37, 3) := by decide +kernel
theorem dX11_saved_58 : decode cX11_saved 58 = .ok (.invokevirtual 235, 3) := by decide +kernel
theorem dX11_saved_61 : decode cX11_saved 61 = .ok (.aload_n 0, 1) := by decide +kernel
theorem dX11_saved_62 : decode cX11_saved 62 = .ok (.getfield 37, 3) := by decide +kernel
theorem dX11_saved_65 : decode cX11_saved 65 = .ok (.aload_n 0, 1) := by decide +kernel
theorem dX11_saved_66 : decode cX11_saved 66 = .ok (.getfield 18, 3) := by decide +kernel
theorem dX11_saved_69 : decode cX11_saved 69 = .ok (.aload_n 0, 1) := by decide +kernel
theorem dX11_saved_70 : decode cX11_saved 70 = .ok (.getfield 44, 3) := by decide +kernel
theorem dX11_saved_73 : decode cX11_saved 73 = .ok (.invokevirtual 238, 3) := by decide +kernel
theorem dX11_saved_76 : decode cX11_saved 76 = .ok (.istore 8, 2) := by decide +kernel
theorem dX11_saved_78 : decode cX11_saved 78 = .ok (.iconst 0, 1) := by decide +kernel
theorem dX11_saved_79 : decode cX11_saved 79 = .ok (.istore 9, 2) := by decide +kernel
theorem dX11_saved_81 : decode cX11_saved 81 = .ok (.iload 6, 2) := by decide +kernel
theorem dX11_saved_83 : decode cX11_saved 83 = .ok (.ifCond .ne 97, 3) := by decide +kernel
theorem dX11_saved_86 : decode cX11_saved 86 = .ok (.iload 8, 2) := by decide +kernel
theorem dX11_saved_88 : decode cX11_saved 88 = .ok (.ifCond .eq 92, 3) := by decide +kernel
theorem dX11_saved_91 : decode cX11_saved 91 = .ok (.iload 9, 2) := by decide +kernel
theorem dX11_saved_93 : decode cX11_saved 93 = .ok (.ldc 242, 2) := by decide +kernel
theorem dX11_saved_95 : decode cX11_saved 95 = .ok (.if_icmp .ge 85, 3) := by decide +kernel
theorem dX11_saved_98 : decode cX11_saved 98 = .ok (.iload 8, 2) := by decide +kernel
theorem dX11_saved_100 : decode cX11_saved 100 = .ok (.iconst 2, 1) := by decide +kernel
theorem dX11_saved_101 : decode cX11_saved 101 = .ok (.if_icmp .ne 51, 3) := by decide +kernel
theorem dX11_saved_104 : decode cX11_saved 104 = .ok (.aload_n 0, 1) := by decide +kernel
theorem dX11_saved_105 : decode cX11_saved 105 = .ok (.getfield 44, 3) := by decide +kernel
theorem dX11_saved_108 : decode cX11_saved 108 = .ok (.iload 7, 2) := by decide +kernel
theorem dX11_saved_110 : decode cX11_saved 110 = .ok (.ifCond .ne 7, 3) := by decide +kernel
theorem dX11_saved_113 : decode cX11_saved 113 = .ok (.aload_n 3, 1) := by decide +kernel
theorem dX11_saved_114 : decode cX11_saved 114 = .ok (.goto 5, 3) := by decide +kernel
theorem dX11_saved_117 : decode cX11_saved 117 = .ok (.aload 4, 2) := by decide +kernel
theorem dX11_saved_119 : decode cX11_saved 119 = .ok (.invokevirtual 253, 3) := by decide +kernel
theorem dX11_saved_122 : decode cX11_saved 122 = .ok (.istore 6, 2) := by decide +kernel
theorem dX11_saved_124 : decode cX11_saved 124 = .ok (.iload 5, 2) := by decide +kernel
theorem dX11_saved_126 : decode cX11_saved 126 = .ok (.iload 7, 2) := by decide +kernel
theorem dX11_saved_128 : decode cX11_saved 128 = .ok (.ifCond .ne 13, 3) := by decide +kernel
theorem dX11_saved_131 : decode cX11_saved 131 = .ok (.aload_n 0, 1) := by decide +kernel
theorem dX11_saved_132 : decode cX11_saved 132 = .ok (.getfield 44, 3) := by decide +kernel
theorem dX11_saved_135 : decode cX11_saved 135 = .ok (.getfield 277, 3) := by decide +kernel
theorem dX11_saved_138 : decode cX11_saved 138 = .ok (.goto 11, 3) := by decide +kernel
theorem dX11_saved_141 : decode cX11_saved 141 = .ok (.aload_n 0, 1) := by decide +kernel
theorem dX11_saved_142 : decode cX11_saved 142 = .ok (.getfield 44, 3) := by decide +kernel
theorem dX11_saved_145 : decode cX11_saved 145 = .ok (.getfield 277, 3) := by decide +kernel
theorem dX11_saved_148 : decode cX11_saved 148 = .ok (.ineg, 1) := by decide +kernel
theorem dX11_saved_149 : decode cX11_saved 149 = .ok (.iadd, 1) := by decide +kernel
theorem dX11_saved_150 : decode cX11_saved 150 = .ok (.istore 5, 2) := by decide +kernel
theorem dX11_saved_152 : decode cX11_saved 152 = .ok (.iload 6, 2) := by decide +kernel
theorem dX11_saved_154 : decode cX11_saved 154 = .ok (.ifCond .ne 20, 3) := by decide +kernel
theorem dX11_saved_157 : decode cX11_saved 157 = .ok (.aload_n 0, 1) := by decide +kernel
theorem dX11_saved_158 : decode cX11_saved 158 = .ok (.getfield 37, 3) := by decide +kernel
theorem dX11_saved_161 : decode cX11_saved 161 = .ok (.aload_n 0, 1) := by decide +kernel
theorem dX11_saved_162 : decode cX11_saved 162 = .ok (.getfield 18, 3) := by decide +kernel
theorem dX11_saved_165 : decode cX11_saved 165 = .ok (.aload_n 0, 1) := by decide +kernel
theorem dX11_saved_166 : decode cX11_saved 166 = .ok (.getfield 44, 3) := by decide +kernel
theorem dX11_saved_169 : decode cX11_saved 169 = .ok (.invokevirtual 238, 3) := by decide +kernel
theorem dX11_saved_172 : decode cX11_saved 172 = .ok (.istore 8, 2) := by decide +kernel
theorem dX11_saved_174 : decode cX11_saved 174 = .ok (.iinc 9 1, 3) := by decide +kernel
theorem dX11_saved_177 : decode cX11_saved 177 = .ok (.goto (-96), 3) := by decide +kernel
theorem dX11_saved_180 : decode cX11_saved 180 = .ok (.iinc 7 1, 3) := by decide +kernel
theorem dX11_saved_183 : decode cX11_saved 183 = .ok (.goto (-140), 3) := by decide +kernel
theorem dX11_saved_186 : decode cX11_saved 186 = .ok (.iload 6, 2) := by decide +kernel
theorem dX11_saved_188 : decode cX11_saved 188 = .ok (.ifCond .eq 19, 3) := by decide +kernel
theorem dX11_saved_191 : decode cX11_saved 191 = .ok (.aload_n 0, 1) := by decide +kernel
theorem dX11_saved_192 : decode cX11_saved 192 = .ok (.iload 6, 2) := by decide +kernel
theorem dX11_saved_194 : decode cX11_saved 194 = .ok (.aload_n 0, 1) := by decide +kernel
theorem dX11_saved_195 : decode cX11_saved 195 = .ok (.getfield 44, 3) := by decide +kernel
theorem dX11_saved_198 : decode cX11_saved 198 = .ok (.invokevirtual 263, 3) := by decide +kernel
theorem dX11_saved_201 : decode cX11_saved 201 = .ok (.invokevirtual 266, 3) := by decide +kernel
theorem dX11_saved_204 : decode cX11_saved 204 = .ok (.pop, 1) := by decide +kernel
theorem dX11_saved_205 : decode cX11_saved 205 = .ok (.iconst 0, 1) := by decide +kernel
theorem dX11_saved_206 : decode cX11_saved 206 = .ok (.ireturn, 1) := by decide +kernel
theorem dX11_saved_207 : decode cX11_saved 207 = .ok (.aload_n 0, 1) := by decide +kernel
theorem dX11_saved_208 : decode cX11_saved 208 = .ok (.iload 5, 2) := by decide +kernel
theorem dX11_saved_210 : decode cX11_saved 210 = .ok (.invokevirtual 109, 3) := by decide +kernel
theorem dX11_saved_213 : decode cX11_saved 213 = .ok (.ireturn, 1) := by decide +kernel
theorem dX11_place_0 : decode cX11_place 0 = .ok (.aload_n 0, 1) := by decide +kernel
theorem dX11_place_1 : decode cX11_place 1 = .ok (.getfield 96, 3) := by decide +kernel
theorem dX11_place_4 : decode cX11_place 4 = .ok (.ireturn, 1) := by decide +kernel
theorem dX11_finds_0 : decode cX11_finds 0 = .ok (.aload_n 0, 1) := by decide +kernel
theorem dX11_finds_1 : decode cX11_finds 1 = .ok (.getfield 44, 3) := by decide +kernel
theorem dX11_finds_4 : decode cX11_finds 4 = .ok (.iload_n 1, 1) := by decide +kernel
theorem dX11_finds_5 : decode cX11_finds 5 = .ok (.invokevirtual 413, 3) := by decide +kernel
theorem dX11_finds_8 : decode cX11_finds 8 = .ok (.ireturn, 1) := by decide +kernel
theorem dX11_status_0 : decode cX11_status 0 = .ok (.aload_n 0, 1) := by decide +kernel
theorem dX11_status_1 : decode cX11_status 1 = .ok (.getfield 93, 3) := by decide +kernel
theorem dX11_status_4 : decode cX11_status 4 = .ok (.ireturn, 1) := by decide +kernel
theorem dX11_digest_0 : decode cX11_digest 0 = .ok (.aload_n 0, 1) := by decide +kernel
theorem dX11_digest_1 : decode cX11_digest 1 = .ok (.getfield 67, 3) := by decide +kernel
theorem dX11_digest_4 : decode cX11_digest 4 = .ok (.sipush 527, 3) := by decide +kernel
theorem dX11_digest_7 : decode cX11_digest 7 = .ok (.aload_n 0, 1) := by decide +kernel
theorem dX11_digest_8 : decode cX11_digest 8 = .ok (.getfield 67, 3) := by decide +kernel
theorem dX11_digest_11 : decode cX11_digest 11 = .ok (.getfield 269, 3) := by decide +kernel
theorem dX11_digest_14 : decode cX11_digest 14 = .ok (.iadd, 1) := by decide +kernel
theorem dX11_digest_15 : decode cX11_digest 15 = .ok (.invokevirtual 416, 3) := by decide +kernel
theorem dX11_digest_18 : decode cX11_digest 18 = .ok (.istore_n 1, 1) := by decide +kernel
theorem dX11_digest_19 : decode cX11_digest 19 = .ok (.iload_n 1, 1) := by decide +kernel
theorem dX11_digest_20 : decode cX11_digest 20 = .ok (.bipush 31, 2) := by decide +kernel
theorem dX11_digest_22 : decode cX11_digest 22 = .ok (.imul, 1) := by decide +kernel
theorem dX11_digest_23 : decode cX11_digest 23 = .ok (.aload_n 0, 1) := by decide +kernel
theorem dX11_digest_24 : decode cX11_digest 24 = .ok (.getfield 21, 3) := by decide +kernel
theorem dX11_digest_27 : decode cX11_digest 27 = .ok (.getfield 99, 3) := by decide +kernel
theorem dX11_digest_30 : decode cX11_digest 30 = .ok (.iadd, 1) := by decide +kernel
theorem dX11_digest_31 : decode cX11_digest 31 = .ok (.istore_n 1, 1) := by decide +kernel
theorem dX11_digest_32 : decode cX11_digest 32 = .ok (.iconst 0, 1) := by decide +kernel
theorem dX11_digest_33 : decode cX11_digest 33 = .ok (.istore_n 2, 1) := by decide +kernel
theorem dX11_digest_34 : decode cX11_digest 34 = .ok (.iload_n 2, 1) := by decide +kernel
theorem dX11_digest_35 : decode cX11_digest 35 = .ok (.aload_n 0, 1) := by decide +kernel
theorem dX11_digest_36 : decode cX11_digest 36 = .ok (.getfield 21, 3) := by decide +kernel
theorem dX11_digest_39 : decode cX11_digest 39 = .ok (.getfield 99, 3) := by decide +kernel
theorem dX11_digest_42 : decode cX11_digest 42 = .ok (.if_icmp .ge 23, 3) := by decide +kernel
theorem dX11_digest_45 : decode cX11_digest 45 = .ok (.iload_n 1, 1) := by decide +kernel
theorem dX11_digest_46 : decode cX11_digest 46 = .ok (.bipush 31, 2) := by decide +kernel
theorem dX11_digest_48 : decode cX11_digest 48 = .ok (.imul, 1) := by decide +kernel
theorem dX11_digest_49 : decode cX11_digest 49 = .ok (.aload_n 0, 1) := by decide +kernel
theorem dX11_digest_50 : decode cX11_digest 50 = .ok (.getfield 21, 3) := by decide +kernel
theorem dX11_digest_53 : decode cX11_digest 53 = .ok (.iload_n 2, 1) := by decide +kernel
theorem dX11_digest_54 : decode cX11_digest 54 = .ok (.invokevirtual 224, 3) := by decide +kernel
theorem dX11_digest_57 : decode cX11_digest 57 = .ok (.iadd, 1) := by decide +kernel
theorem dX11_digest_58 : decode cX11_digest 58 = .ok (.istore_n 1, 1) := by decide +kernel
theorem dX11_digest_59 : decode cX11_digest 59 = .ok (.iinc 2 1, 3) := by decide +kernel
theorem dX11_digest_62 : decode cX11_digest 62 = .ok (.goto (-28), 3) := by decide +kernel
theorem dX11_digest_65 : decode cX11_digest 65 = .ok (.iconst 0, 1) := by decide +kernel
theorem dX11_digest_66 : decode cX11_digest 66 = .ok (.istore_n 2, 1) := by decide +kernel
theorem dX11_digest_67 : decode cX11_digest 67 = .ok (.iload_n 2, 1) := by decide +kernel
theorem dX11_digest_68 : decode cX11_digest 68 = .ok (.iconst 4, 1) := by decide +kernel
theorem dX11_digest_69 : decode cX11_digest 69 = .ok (.if_icmp .gt 23, 3) := by decide +kernel
theorem dX11_digest_72 : decode cX11_digest 72 = .ok (.iload_n 1, 1) := by decide +kernel
theorem dX11_digest_73 : decode cX11_digest 73 = .ok (.bipush 31, 2) := by decide +kernel
theorem dX11_digest_75 : decode cX11_digest 75 = .ok (.imul, 1) := by decide +kernel
theorem dX11_digest_76 : decode cX11_digest 76 = .ok (.aload_n 0, 1) := by decide +kernel
theorem dX11_digest_77 : decode cX11_digest 77 = .ok (.getfield 44, 3) := by decide +kernel
theorem dX11_digest_80 : decode cX11_digest 80 = .ok (.iload_n 2, 1) := by decide +kernel
theorem dX11_digest_81 : decode cX11_digest 81 = .ok (.invokevirtual 413, 3) := by decide +kernel
theorem dX11_digest_84 : decode cX11_digest 84 = .ok (.iadd, 1) := by decide +kernel
theorem dX11_digest_85 : decode cX11_digest 85 = .ok (.istore_n 1, 1) := by decide +kernel
theorem dX11_digest_86 : decode cX11_digest 86 = .ok (.iinc 2 1, 3) := by decide +kernel
theorem dX11_digest_89 : decode cX11_digest 89 = .ok (.goto (-22), 3) := by decide +kernel
theorem dX11_digest_92 : decode cX11_digest 92 = .ok (.iload_n 1, 1) := by decide +kernel
theorem dX11_digest_93 : decode cX11_digest 93 = .ok (.bipush 31, 2) := by decide +kernel
theorem dX11_digest_95 : decode cX11_digest 95 = .ok (.imul, 1) := by decide +kernel
theorem dX11_digest_96 : decode cX11_digest 96 = .ok (.aload_n 0, 1) := by decide +kernel
theorem dX11_digest_97 : decode cX11_digest 97 = .ok (.getfield 87, 3) := by decide +kernel
theorem dX11_digest_100 : decode cX11_digest 100 = .ok (.iadd, 1) := by decide +kernel
theorem dX11_digest_101 : decode cX11_digest 101 = .ok (.istore_n 1, 1) := by decide +kernel
theorem dX11_digest_102 : decode cX11_digest 102 = .ok (.iload_n 1, 1) := by decide +kernel
theorem dX11_digest_103 : decode cX11_digest 103 = .ok (.bipush 31, 2) := by decide +kernel
theorem dX11_digest_105 : decode cX11_digest 105 = .ok (.imul, 1) := by decide +kernel
theorem dX11_digest_106 : decode cX11_digest 106 = .ok (.aload_n 0, 1) := by decide +kernel
theorem dX11_digest_107 : decode cX11_digest 107 = .ok (.getfield 90, 3) := by decide +kernel
theorem dX11_digest_110 : decode cX11_digest 110 = .ok (.iadd, 1) := by decide +kernel
theorem dX11_digest_111 : decode cX11_digest 111 = .ok (.ireturn, 1) := by decide +kernel
theorem dX11_done_0 : decode cX11_done 0 = .ok (.aload_n 0, 1) := by decide +kernel
theorem dX11_done_1 : decode cX11_done 1 = .ok (.iconst 0, 1) := by decide +kernel
theorem dX11_done_2 : decode cX11_done 2 = .ok (.putfield 93, 3) := by decide +kernel
theorem dX11_done_5 : decode cX11_done 5 = .ok (.aload_n 0, 1) := by decide +kernel
theorem dX11_done_6 : decode cX11_done 6 = .ok (.iconst (-1), 1) := by decide +kernel
theorem dX11_done_7 : decode cX11_done 7 = .ok (.putfield 96, 3) := by decide +kernel
theorem dX11_done_10 : decode cX11_done 10 = .ok (.iload_n 1, 1) := by decide +kernel
theorem dX11_done_11 : decode cX11_done 11 = .ok (.ireturn, 1) := by decide +kernel
theorem dX11_refuse_0 : decode cX11_refuse 0 = .ok (.aload_n 0, 1) := by decide +kernel
theorem dX11_refuse_1 : decode cX11_refuse 1 = .ok (.iload_n 1, 1) := by decide +kernel
theorem dX11_refuse_2 : decode cX11_refuse 2 = .ok (.putfield 93, 3) := by decide +kernel
theorem dX11_refuse_5 : decode cX11_refuse 5 = .ok (.aload_n 0, 1) := by decide +kernel
theorem dX11_refuse_6 : decode cX11_refuse 6 = .ok (.iconst (-1), 1) := by decide +kernel
theorem dX11_refuse_7 : decode cX11_refuse 7 = .ok (.putfield 96, 3) := by decide +kernel
theorem dX11_refuse_10 : decode cX11_refuse 10 = .ok (.iconst (-1), 1) := by decide +kernel
theorem dX11_refuse_11 : decode cX11_refuse 11 = .ok (.ireturn, 1) := by decide +kernel
theorem dX12_init_0 : decode cX12_init 0 = .ok (.aload_n 0, 1) := by decide +kernel
theorem dX12_init_1 : decode cX12_init 1 = .ok (.invokespecial 3, 3) := by decide +kernel
theorem dX12_init_4 : decode cX12_init 4 = .ok (.aload_n 0, 1) := by decide +kernel
theorem dX12_init_5 : decode cX12_init 5 = .ok (.iconst (-1), 1) := by decide +kernel
theorem dX12_init_6 : decode cX12_init 6 = .ok (.putfield 9, 3) := by decide +kernel
theorem dX12_init_9 : decode cX12_init 9 = .ok (.aload_n 0, 1) := by decide +kernel
theorem dX12_init_10 : decode cX12_init 10 = .ok (.sipush 3000, 3) := by decide +kernel
theorem dX12_init_13 : decode cX12_init 13 = .ok (.newarray .int, 2) := by decide +kernel
theorem dX12_init_15 : decode cX12_init 15 = .ok (.putfield 13, 3) := by decide +kernel
theorem dX12_init_18 : decode cX12_init 18 = .ok (.aload_n 0, 1) := by decide +kernel
theorem dX12_init_19 : decode cX12_init 19 = .ok (.bipush 30, 2) := by decide +kernel
theorem dX12_init_21 : decode cX12_init 21 = .ok (.newarray .boolean, 2) := by decide +kernel
theorem dX12_init_23 : decode cX12_init 23 = .ok (.putfield 17, 3) := by decide +kernel
theorem dX12_init_26 : decode cX12_init 26 = .ok (.aload_n 0, 1) := by decide +kernel
theorem dX12_init_27 : decode cX12_init 27 = .ok (.bipush 30, 2) := by decide +kernel
theorem dX12_init_29 : decode cX12_init 29 = .ok (.newarray .int, 2) := by decide +kernel
theorem dX12_init_31 : decode cX12_init 31 = .ok (.putfield 21, 3) := by decide +kernel
theorem dX12_init_34 : decode cX12_init 34 = .ok (.aload_n 0, 1) := by decide +kernel
theorem dX12_init_35 : decode cX12_init 35 = .ok (.bipush 30, 2) := by decide +kernel
theorem dX12_init_37 : decode cX12_init 37 = .ok (.newarray .int, 2) := by decide +kernel
theorem dX12_init_39 : decode cX12_init 39 = .ok (.putfield 24, 3) := by decide +kernel
theorem dX12_init_42 : decode cX12_init 42 = .ok (.aload_n 0, 1) := by decide +kernel
theorem dX12_init_43 : decode cX12_init 43 = .ok (.bipush 30, 2) := by decide +kernel
theorem dX12_init_45 : decode cX12_init 45 = .ok (.newarray .int, 2) := by decide +kernel
theorem dX12_init_47 : decode cX12_init 47 = .ok (.putfield 27, 3) := by decide +kernel
theorem dX12_init_50 : decode cX12_init 50 = .ok (.aload_n 0, 1) := by decide +kernel
theorem dX12_init_51 : decode cX12_init 51 = .ok (.bipush 30, 2) := by decide +kernel
theorem dX12_init_53 : decode cX12_init 53 = .ok (.newarray .int, 2) := by decide +kernel
theorem dX12_init_55 : decode cX12_init 55 = .ok (.putfield 30, 3) := by decide +kernel
theorem dX12_init_58 : decode cX12_init 58 = .ok (.aload_n 0, 1) := by decide +kernel
theorem dX12_init_59 : decode cX12_init 59 = .ok (.bipush 30, 2) := by decide +kernel
theorem dX12_init_61 : decode cX12_init 61 = .ok (.newarray .int, 2) := by decide +kernel
theorem dX12_init_63 : decode cX12_init 63 = .ok (.putfield 33, 3) := by decide +kernel
theorem dX12_init_66 : decode cX12_init 66 = .ok (.aload_n 0, 1) := by decide +kernel
theorem dX12_init_67 : decode cX12_init 67 = .ok (.sipush 6000, 3) := by decide +kernel
theorem dX12_init_70 : decode cX12_init 70 = .ok (.newarray .int, 2) := by decide +kernel
theorem dX12_init_72 : decode cX12_init 72 = .ok (.putfield 36, 3) := by decide +kernel
theorem dX12_init_75 : decode cX12_init 75 = .ok (.aload_n 0, 1) := by decide +kernel
theorem dX12_init_76 : decode cX12_init 76 = .ok (.sipush 6000, 3) := by decide +kernel
theorem dX12_init_79 : decode cX12_init 79 = .ok (.newarray .int, 2) := by decide +kernel
theorem dX12_init_81 : decode cX12_init 81 = .ok (.putfield 39, 3) := by decide +kernel
theorem dX12_init_84 : decode cX12_init 84 = .ok (.aload_n 0, 1) := by decide +kernel
theorem dX12_init_85 : decode cX12_init 85 = .ok (.sipush 6000, 3) := by decide +kernel
theorem dX12_init_88 : decode cX12_init 88 = .ok (.newarray .int, 2) := by decide +kernel
theorem dX12_init_90 : decode cX12_init 90 = .ok (.putfield 42, 3) := by decide +kernel
theorem dX12_init_93 : decode cX12_init 93 = .ok (.aload_n 0, 1) := by decide +kernel
theorem dX12_init_94 : decode cX12_init 94 = .ok (.ldc 45, 2) := by decide +kernel
theorem dX12_init_96 : decode cX12_init 96 = .ok (.newarray .int, 2) := by decide +kernel
theorem dX12_init_98 : decode cX12_init 98 = .ok (.putfield 46, 3) := by decide +kernel
theorem dX12_init_101 : decode cX12_init 101 = .ok (.aload_n 0, 1) := by decide +kernel
theorem dX12_init_102 : decode cX12_init 102 = .ok (.sipush 24000, 3) := by decide +kernel
theorem dX12_init_105 : decode cX12_init 105 = .ok (.newarray .int, 2) := by decide +kernel
theorem dX12_init_107 : decode cX12_init 107 = .ok (.putfield 49, 3) := by decide +kernel
theorem dX12_init_110 : decode cX12_init 110 = .ok (.aload_n 0, 1) := by decide +kernel
theorem dX12_init_111 : decode cX12_init 111 = .ok (.bipush 120, 2) := by decide +kernel
theorem dX12_init_113 : decode cX12_init 113 = .ok (.newarray .int, 2) := by decide +kernel
theorem dX12_init_115 : decode cX12_init 115 = .ok (.putfield 52, 3) := by decide +kernel
theorem dX12_init_118 : decode cX12_init 118 = .ok (.aload_n 0, 1) := by decide +kernel
theorem dX12_init_119 : decode cX12_init 119 = .ok (.sipush 480, 3) := by decide +kernel
theorem dX12_init_122 : decode cX12_init 122 = .ok (.newarray .int, 2) := by decide +kernel
theorem dX12_init_124 : decode cX12_init 124 = .ok (.putfield 55, 3) := by decide +kernel
theorem dX12_init_127 : decode cX12_init 127 = .ok (.aload_n 0, 1) := by decide +kernel
theorem dX12_init_128 : decode cX12_init 128 = .ok (.bipush 64, 2) := by decide +kernel
theorem dX12_init_130 : decode cX12_init 130 = .ok (.newarray .int, 2) := by decide +kernel
theorem dX12_init_132 : decode cX12_init 132 = .ok (.putfield 58, 3) := by decide +kernel
theorem dX12_init_135 : decode cX12_init 135 = .ok (.aload_n 0, 1) := by decide +kernel
theorem dX12_init_136 : decode cX12_init 136 = .ok (.sipush 512, 3) := by decide +kernel
theorem dX12_init_139 : decode cX12_init 139 = .ok (.newarray .int, 2) := by decide +kernel
theorem dX12_init_141 : decode cX12_init 141 = .ok (.putfield 61, 3) := by decide +kernel
theorem dX12_init_144 : decode cX12_init 144 = .ok (.aload_n 0, 1) := by decide +kernel
theorem dX12_init_145 : decode cX12_init 145 = .ok (.sipush 512, 3) := by decide +kernel
theorem dX12_init_148 : decode cX12_init 148 = .ok (.newarray .int, 2) := by decide +kernel
theorem dX12_init_150 : decode cX12_init 150 = .ok (.putfield 64, 3) := by decide +kernel
theorem dX12_init_153 : decode cX12_init 153 = .ok (.aload_n 0, 1) := by decide +kernel
theorem dX12_init_154 : decode cX12_init 154 = .ok (.sipush 513, 3) := by decide +kernel
theorem dX12_init_157 : decode cX12_init 157 = .ok (.newarray .boolean, 2) := by decide +kernel
theorem dX12_init_159 : decode cX12_init 159 = .ok (.putfield 67, 3) := by decide +kernel
theorem dX12_init_162 : decode cX12_init 162 = .ok (.aload_n 0, 1) := by decide +kernel
theorem dX12_init_163 : decode cX12_init 163 = .ok (.sipush 6144, 3) := by decide +kernel
theorem dX12_init_166 : decode cX12_init 166 = .ok (.newarray .int, 2) := by decide +kernel
theorem dX12_init_168 : decode cX12_init 168 = .ok (.putfield 70, 3) := by decide +kernel
theorem dX12_init_171 : decode cX12_init 171 = .ok (.aload_n 0, 1) := by decide +kernel
theorem dX12_init_172 : decode cX12_init 172 = .ok (.sipush 513, 3) := by decide +kernel
theorem dX12_init_175 : decode cX12_init 175 = .ok (.newarray .int, 2) := by decide +kernel
theorem dX12_init_177 : decode cX12_init 177 = .ok (.putfield 73, 3) := by decide +kernel
theorem dX12_init_180 : decode cX12_init 180 = .ok (.aload_n 0, 1) := by decide +kernel
theorem dX12_init_181 : decode cX12_init 181 = .ok (.iconst 5, 1) := by decide +kernel
theorem dX12_init_182 : decode cX12_init 182 = .ok (.newarray .int, 2) := by decide +kernel
theorem dX12_init_184 : decode cX12_init 184 = .ok (.putfield 76, 3) := by decide +kernel
theorem dX12_init_187 : decode cX12_init 187 = .ok (.aload_n 0, 1) := by decide +kernel
theorem dX12_init_188 : decode cX12_init 188 = .ok (.sipush 500, 3) := by decide +kernel
theorem dX12_init_191 : decode cX12_init 191 = .ok (.newarray .int, 2) := by decide +kernel
theorem dX12_init_193 : decode cX12_init 193 = .ok (.putfield 79, 3) := by decide +kernel
theorem dX12_init_196 : decode cX12_init 196 = .ok (.aload_n 0, 1) := by decide +kernel
theorem dX12_init_197 : decode cX12_init 197 = .ok (.bipush 32, 2) := by decide +kernel
theorem dX12_init_199 : decode cX12_init 199 = .ok (.putfield 82, 3) := by decide +kernel
theorem dX12_init_202 : decode cX12_init 202 = .ok (.aload_n 0, 1) := by decide +kernel
theorem dX12_init_203 : decode cX12_init 203 = .ok (.bipush 25, 2) := by decide +kernel
theorem dX12_init_205 : decode cX12_init 205 = .ok (.putfield 85, 3) := by decide +kernel
theorem dX12_init_208 : decode cX12_init 208 = .ok (.aload_n 0, 1) := by decide +kernel
theorem dX12_init_209 : decode cX12_init 209 = .ok (.bipush 36, 2) := by decide +kernel
theorem dX12_init_211 : decode cX12_init 211 = .ok (.putfield 88, 3) := by decide +kernel
theorem dX12_init_214 : decode cX12_init 214 = .ok (.aload_n 0, 1) := by decide +kernel
theorem dX12_init_215 : decode cX12_init 215 = .ok (.sipush 200, 3) := by decide +kernel
theorem dX12_init_218 : decode cX12_init 218 = .ok (.newarray .int, 2) := by decide +kernel
theorem dX12_init_220 : decode cX12_init 220 = .ok (.putfield 91, 3) := by decide +kernel
theorem dX12_init_223 : decode cX12_init 223 = .ok (.aload_n 0, 1) := by decide +kernel
theorem dX12_init_224 : decode cX12_init 224 = .ok (.ldc 94, 2) := by decide +kernel
theorem dX12_init_226 : decode cX12_init 226 = .ok (.newarray .int, 2) := by decide +kernel
theorem dX12_init_228 : decode cX12_init 228 = .ok (.putfield 95, 3) := by decide +kernel
theorem dX12_init_231 : decode cX12_init 231 = .ok (.aload_n 0, 1) := by decide +kernel
theorem dX12_init_232 : decode cX12_init 232 = .ok (.sipush 200, 3) := by decide +kernel
theorem dX12_init_235 : decode cX12_init 235 = .ok (.newarray .int, 2) := by decide +kernel
theorem dX12_init_237 : decode cX12_init 237 = .ok (.putfield 98, 3) := by decide +kernel
theorem dX12_init_240 : decode cX12_init 240 = .ok (.aload_n 0, 1) := by decide +kernel
theorem dX12_init_241 : decode cX12_init 241 = .ok (.ldc 94, 2) := by decide +kernel
theorem dX12_init_243 : decode cX12_init 243 = .ok (.newarray .int, 2) := by decide +kernel
theorem dX12_init_245 : decode cX12_init 245 = .ok (.putfield 101, 3) := by decide +kernel
theorem dX12_init_248 : decode cX12_init 248 = .ok (.aload_n 0, 1) := by decide +kernel
theorem dX12_init_249 : decode cX12_init 249 = .ok (.sipush 200, 3) := by decide +kernel
theorem dX12_init_252 : decode cX12_init 252 = .ok (.newarray .int, 2) := by decide +kernel
theorem dX12_init_254 : decode cX12_init 254 = .ok (.putfield 104, 3) := by decide +kernel
theorem dX12_init_257 : decode cX12_init 257 = .ok (.aload_n 0, 1) := by decide +kernel
theorem dX12_init_258 : decode cX12_init 258 = .ok (.sipush 12016, 3) := by decide +kernel
theorem dX12_init_261 : decode cX12_init 261 = .ok (.newarray .int, 2) := by decide +kernel
theorem dX12_init_263 : decode cX12_init 263 = .ok (.putfield 107, 3) := by decide +kernel
theorem dX12_init_266 : decode cX12_init 266 = .ok (.aload_n 0, 1) := by decide +kernel
theorem dX12_init_267 : decode cX12_init 267 = .ok (.sipush 12016, 3) := by decide +kernel
theorem dX12_init_270 : decode cX12_init 270 = .ok (.newarray .int, 2) := by decide +kernel
theorem dX12_init_272 : decode cX12_init 272 = .ok (.putfield 110, 3) := by decide +kernel
theorem dX12_init_275 : decode cX12_init 275 = .ok (.aload_n 0, 1) := by decide +kernel
theorem dX12_init_276 : decode cX12_init 276 = .ok (.sipush 12016, 3) := by decide +kernel
theorem dX12_init_279 : decode cX12_init 279 = .ok (.newarray .int, 2) := by decide +kernel
theorem dX12_init_281 : decode cX12_init 281 = .ok (.putfield 113, 3) := by decide +kernel
theorem dX12_init_284 : decode cX12_init 284 = .ok (.aload_n 0, 1) := by decide +kernel
theorem dX12_init_285 : decode cX12_init 285 = .ok (.iconst 2, 1) := by decide +kernel
theorem dX12_init_286 : decode cX12_init 286 = .ok (.newarray .int, 2) := by decide +kernel
theorem dX12_init_288 : decode cX12_init 288 = .ok (.putfield 116, 3) := by decide +kernel
theorem dX12_init_291 : decode cX12_init 291 = .ok (.aload_n 0, 1) := by decide +kernel
theorem dX12_init_292 : decode cX12_init 292 = .ok (.ldc 119, 2) := by decide +kernel
theorem dX12_init_294 : decode cX12_init 294 = .ok (.newarray .int, 2) := by decide +kernel
theorem dX12_init_296 : decode cX12_init 296 = .ok (.putfield 120, 3) := by decide +kernel
theorem dX12_init_299 : decode cX12_init 299 = .ok (.aload_n 0, 1) := by decide +kernel
theorem dX12_init_300 : decode cX12_init 300 = .ok (.ldc 119, 2) := by decide +kernel
theorem dX12_init_302 : decode cX12_init 302 = .ok (.newarray .int, 2) := by decide +kernel
theorem dX12_init_304 : decode cX12_init 304 = .ok (.putfield 123, 3) := by decide +kernel
theorem dX12_init_307 : decode cX12_init 307 = .ok (.aload_n 0, 1) := by decide +kernel
theorem dX12_init_308 : decode cX12_init 308 = .ok (.sipush 4000, 3) := by decide +kernel
theorem dX12_init_311 : decode cX12_init 311 = .ok (.newarray .int, 2) := by decide +kernel
theorem dX12_init_313 : decode cX12_init 313 = .ok (.putfield 126, 3) := by decide +kernel
theorem dX12_init_316 : decode cX12_init 316 = .ok (.aload_n 0, 1) := by decide +kernel
theorem dX12_init_317 : decode cX12_init 317 = .ok (.sipush 4000, 3) := by decide +kernel
theorem dX12_init_320 : decode cX12_init 320 = .ok (.newarray .int, 2) := by decide +kernel
theorem dX12_init_322 : decode cX12_init 322 = .ok (.putfield 129, 3) := by decide +kernel
theorem dX12_init_325 : decode cX12_init 325 = .ok (.aload_n 0, 1) := by decide +kernel
theorem dX12_init_326 : decode cX12_init 326 = .ok (.sipush 404, 3) := by decide +kernel
theorem dX12_init_329 : decode cX12_init 329 = .ok (.newarray .boolean, 2) := by decide +kernel
theorem dX12_init_331 : decode cX12_init 331 = .ok (.putfield 132, 3) := by decide +kernel
theorem dX12_init_334 : decode cX12_init 334 = .ok (.aload_n 0, 1) := by decide +kernel
theorem dX12_init_335 : decode cX12_init 335 = .ok (.ldc 135, 2) := by decide +kernel
theorem dX12_init_337 : decode cX12_init 337 = .ok (.newarray .int, 2) := by decide +kernel
theorem dX12_init_339 : decode cX12_init 339 = .ok (.putfield 136, 3) := by decide +kernel
theorem dX12_init_342 : decode cX12_init 342 = .ok (.aload_n 0, 1) := by decide +kernel
theorem dX12_init_343 : decode cX12_init 343 = .ok (.bipush 50, 2) := by decide +kernel
theorem dX12_init_345 : decode cX12_init 345 = .ok (.newarray .int, 2) := by decide +kernel
theorem dX12_init_347 : decode cX12_init 347 = .ok (.putfield 139, 3) := by decide +kernel
theorem dX12_init_350 : decode cX12_init 350 = .ok (.aload_n 0, 1) := by decide +kernel
theorem dX12_init_351 : decode cX12_init 351 = .ok (.sipush 1000, 3) := by decide +kernel
theorem dX12_init_354 : decode cX12_init 354 = .ok (.newarray .int, 2) := by decide +kernel
theorem dX12_init_356 : decode cX12_init 356 = .ok (.putfield 142, 3) := by decide +kernel
theorem dX12_init_359 : decode cX12_init 359 = .ok (.aload_n 0, 1) := by decide +kernel
theorem dX12_init_360 : decode cX12_init 360 = .ok (.sipush 256, 3) := by decide +kernel
theorem dX12_init_363 : decode cX12_init 363 = .ok (.newarray .int, 2) := by decide +kernel
theorem dX12_init_365 : decode cX12_init 365 = .ok (.putfield 145, 3) := by decide +kernel
theorem dX12_init_368 : decode cX12_init 368 = .ok (.return_, 1) := by decide +kernel
theorem dX12_fine_0 : decode cX12_fine 0 = .ok (.aload_n 0, 1) := by decide +kernel
theorem dX12_fine_1 : decode cX12_fine 1 = .ok (.iconst 0, 1) := by decide +kernel
theorem dX12_fine_2 : decode cX12_fine 2 = .ok (.putfield 148, 3) := by decide +kernel
theorem dX12_fine_5 : decode cX12_fine 5 = .ok (.aload_n 0, 1) := by decide +kernel
theorem dX12_fine_6 : decode cX12_fine 6 = .ok (.iconst (-1), 1) := by decide +kernel
theorem dX12_fine_7 : decode cX12_fine 7 = .ok (.putfield 9, 3) := by decide +kernel
theorem dX12_fine_10 : decode cX12_fine 10 = .ok (.iload_n 1, 1) := by decide +kernel
theorem dX12_fine_11 : decode cX12_fine 11 = .ok (.ireturn, 1) := by decide +kernel
theorem dX12_bad_0 : decode cX12_bad 0 = .ok (.aload_n 0, 1) := by decide +kernel
theorem dX12_bad_1 : decode cX12_bad 1 = .ok (.iload_n 1, 1) := by decide +kernel
theorem dX12_bad_2 : decode cX12_bad 2 = .ok (.putfield 148, 3) := by decide +kernel
theorem dX12_bad_5 : decode cX12_bad 5 = .ok (.aload_n 0, 1) := by decide +kernel
theorem dX12_bad_6 : decode cX12_bad 6 = .ok (.iconst (-1), 1) := by decide +kernel
theorem dX12_bad_7 : decode cX12_bad 7 = .ok (.putfield 9, 3) := by decide +kernel
theorem dX12_bad_10 : decode cX12_bad 10 = .ok (.iconst (-1), 1) := by decide +kernel
theorem dX12_bad_11 : decode cX12_bad 11 = .ok (.ireturn, 1) := by decide +kernel
theorem dX12_feed_0 : decode cX12_feed 0 = .ok (.aload_n 0, 1) := by decide +kernel
theorem dX12_feed_1 : decode cX12_feed 1 = .ok (.getfield 151, 3) := by decide +kernel
theorem dX12_feed_4 : decode cX12_feed 4 = .ok (.bipush 20, 2) := by decide +kernel
theorem dX12_feed_6 : decode cX12_feed 6 = .ok (.iadd, 1) := by decide +kernel
theorem dX12_feed_7 : decode cX12_feed 7 = .ok (.sipush 3000, 3) := by decide +kernel
theorem dX12_feed_10 : decode cX12_feed 10 = .ok (.if_icmp .le 10, 3) := by decide +kernel
theorem dX12_feed_13 : decode cX12_feed 13 = .ok (.aload_n 0, 1) := by decide +kernel
theorem dX12_feed_14 : decode cX12_feed 14 = .ok (.bipush 6, 2) := by decide +kernel
theorem dX12_feed_16 : decode cX12_feed 16 = .ok (.invokevirtual 154, 3) := by decide +kernel
theorem dX12_feed_19 : decode cX12_feed 19 = .ok (.ireturn, 1) := by decide +kernel
theorem dX12_feed_20 : decode cX12_feed 20 = .ok (.iconst 0, 1) := by decide +kernel
theorem dX12_feed_21 : decode cX12_feed 21 = .ok (.istore 6, 2) := by decide +kernel
theorem dX12_feed_23 : decode cX12_feed 23 = .ok (.iload 6, 2) := by decide +kernel
theorem dX12_feed_25 : decode cX12_feed 25 = .ok (.bipush 20, 2) := by decide +kernel
theorem dX12_feed_27 : decode cX12_feed 27 = .ok (.if_icmp .ge 93, 3) := by decide +kernel
theorem dX12_feed_30 : decode cX12_feed 30 = .ok (.iload 6, 2) := by decide +kernel
theorem dX12_feed_32 : decode cX12_feed 32 = .ok (.iconst 4, 1) := by decide +kernel
theorem dX12_feed_33 : decode cX12_feed 33 = .ok (.if_icmp .ge 7, 3) := by decide +kernel
theorem dX12_feed_36 : decode cX12_feed 36 = .ok (.iload_n 1, 1) := by decide +kernel
theorem dX12_feed_37 : decode cX12_feed 37 = .ok (.goto 39, 3) := by decide +kernel
theorem dX12_feed_40 : decode cX12_feed 40 = .ok (.iload 6, 2) := by decide +kernel
theorem dX12_feed_42 : decode cX12_feed 42 = .ok (.bipush 8, 2) := by decide +kernel
theorem dX12_feed_44 : decode cX12_feed 44 = .ok (.if_icmp .ge 7, 3) := by decide +kernel
theorem dX12_feed_47 : decode cX12_feed 47 = .ok (.iload_n 2, 1) := by decide +kernel
theorem dX12_feed_48 : decode cX12_feed 48 = .ok (.goto 28, 3) := by decide +kernel
theorem dX12_feed_51 : decode cX12_feed 51 = .ok (.iload 6, 2) := by decide +kernel
theorem dX12_feed_53 : decode cX12_feed 53 = .ok (.bipush 12, 2) := by decide +kernel
theorem dX12_feed_55 : decode cX12_feed 55 = .ok (.if_icmp .ge 7, 3) := by decide +kernel
theorem dX12_feed_58 : decode cX12_feed 58 = .ok (.iload_n 3, 1) := by decide +kernel
theorem dX12_feed_59 : decode cX12_feed 59 = .ok (.goto 17, 3) := by decide +kernel
theorem dX12_feed_62 : decode cX12_feed 62 = .ok (.iload 6, 2) := by decide +kernel
theorem dX12_feed_64 : decode cX12_feed 64 = .ok (.bipush 16, 2) := by decide +kernel
theorem dX12_feed_66 : decode cX12_feed 66 = .ok (.if_icmp .ge 8, 3) := by decide +kernel
theorem dX12_feed_69 : decode cX12_feed 69 = .ok (.iload 4, 2) := by decide +kernel
theorem dX12_feed_71 : decode cX12_feed 71 = .ok (.goto 5, 3) := by decide +kernel
theorem dX12_feed_74 : decode cX12_feed 74 = .ok (.iload 5, 2) := by decide +kernel
theorem dX12_feed_76 : decode cX12_feed 76 = .ok (.istore 7, 2) := by decide +kernel
theorem dX12_feed_78 : decode cX12_feed 78 = .ok (.aload_n 0, 1) := by decide +kernel
theorem dX12_feed_79 : decode cX12_feed 79 = .ok (.getfield 13, 3) := by decide +kernel
theorem dX12_feed_82 : decode cX12_feed 82 = .ok (.aload_n 0, 1) := by decide +kernel
theorem dX12_feed_83 : decode cX12_feed 83 = .ok (.getfield 151, 3) := by decide +kernel
theorem dX12_feed_86 : decode cX12_feed 86 = .ok (.iload 7, 2) := by decide +kernel
theorem dX12_feed_88 : decode cX12_feed 88 = .ok (.bipush 24, 2) := by decide +kernel
theorem dX12_feed_90 : decode cX12_feed 90 = .ok (.bipush 8, 2) := by decide +kernel
theorem dX12_feed_92 : decode cX12_feed 92 = .ok (.iload 6, 2) := by decide +kernel
theorem dX12_feed_94 : decode cX12_feed 94 = .ok (.iconst 3, 1) := by decide +kernel
theorem dX12_feed_95 : decode cX12_feed 95 = .ok (.iand, 1) := by decide +kernel
theorem dX12_feed_96 : decode cX12_feed 96 = .ok (.imul, 1) := by decide +kernel
theorem dX12_feed_97 : decode cX12_feed 97 = .ok (.isub, 1) := by decide +kernel
theorem dX12_feed_98 : decode cX12_feed 98 = .ok (.ishr, 1) := by decide +kernel
theorem dX12_feed_99 : decode cX12_feed 99 = .ok (.sipush 255, 3) := by decide +kernel
theorem dX12_feed_102 : decode cX12_feed 102 = .ok (.iand, 1) := by decide +kernel
theorem dX12_feed_103 : decode cX12_feed 103 = .ok (.iastore, 1) := by decide +kernel
theorem dX12_feed_104 : decode cX12_feed 104 = .ok (.aload_n 0, 1) := by decide +kernel
theorem dX12_feed_105 : decode cX12_feed 105 = .ok (.dup, 1) := by decide +kernel
theorem dX12_feed_106 : decode cX12_feed 106 = .ok (.getfield 151, 3) := by decide +kernel
theorem dX12_feed_109 : decode cX12_feed 109 = .ok (.iconst 1, 1) := by decide +kernel
theorem dX12_feed_110 : decode cX12_feed 110 = .ok (.iadd, 1) := by decide +kernel
theorem dX12_feed_111 : decode cX12_feed 111 = .ok (.putfield 151, 3) := by decide +kernel
theorem dX12_feed_114 : decode cX12_feed 114 = .ok (.iinc 6 1, 3) := by decide +kernel
theorem dX12_feed_117 : decode cX12_feed 117 = .ok (.goto (-94), 3) := by decide +kernel
theorem dX12_feed_120 : decode cX12_feed 120 = .ok (.aload_n 0, 1) := by decide +kernel
theorem dX12_feed_121 : decode cX12_feed 121 = .ok (.aload_n 0, 1) := by decide +kernel
theorem dX12_feed_122 : decode cX12_feed 122 = .ok (.getfield 151, 3) := by decide +kernel
theorem dX12_feed_125 : decode cX12_feed 125 = .ok (.invokevirtual 158, 3) := by decide +kernel
theorem dX12_feed_128 : decode cX12_feed 128 = .ok (.ireturn, 1) := by decide +kernel
theorem dX12_end_0 : decode cX12_end 0 = .ok (.iload_n 1, 1) := by decide +kernel
theorem dX12_end_1 : decode cX12_end 1 = .ok (.ifCond .ge 9, 3) := by decide +kernel
theorem dX12_end_4 : decode cX12_end 4 = .ok (.aload_n 0, 1) := by decide +kernel
theorem dX12_end_5 : decode cX12_end 5 = .ok (.iconst 5, 1) := by decide +kernel
theorem dX12_end_6 : decode cX12_end 6 = .ok (.invokevirtual 154, 3) := by decide +kernel
theorem dX12_end_9 : decode cX12_end 9 = .ok (.ireturn, 1) := by decide +kernel
theorem dX12_end_10 : decode cX12_end 10 = .ok (.iload_n 1, 1) := by decide +kernel
theorem dX12_end_11 : decode cX12_end 11 = .ok (.aload_n 0, 1) := by decide +kernel
theorem dX12_end_12 : decode cX12_end 12 = .ok (.getfield 151, 3) := by decide +kernel
theorem dX12_end_15 : decode cX12_end 15 = .ok (.if_icmp .le 10, 3) := by decide +kernel
theorem dX12_end_18 : decode cX12_end 18 = .ok (.aload_n 0, 1) := by decide +kernel
theorem dX12_end_19 : decode cX12_end 19 = .ok (.bipush 6, 2) := by decide +kernel
theorem dX12_end_21 : decode cX12_end 21 = .ok (.invokevirtual 154, 3) := by decide +kernel
theorem dX12_end_24 : decode cX12_end 24 = .ok (.ireturn, 1) := by decide +kernel
theorem dX12_end_25 : decode cX12_end 25 = .ok (.aload_n 0, 1) := by decide +kernel
theorem dX12_end_26 : decode cX12_end 26 = .ok (.iload_n 1, 1) := by decide +kernel
theorem dX12_end_27 : decode cX12_end 27 = .ok (.putfield 151, 3) := by decide +kernel
theorem dX12_end_30 : decode cX12_end 30 = .ok (.aload_n 0, 1) := by decide +kernel
theorem dX12_end_31 : decode cX12_end 31 = .ok (.iload_n 1, 1) := by decide +kernel
theorem dX12_end_32 : decode cX12_end 32 = .ok (.invokevirtual 158, 3) := by decide +kernel
theorem dX12_end_35 : decode cX12_end 35 = .ok (.ireturn, 1) := by decide +kernel
theorem dX12_taken_0 : decode cX12_taken 0 = .ok (.aload_n 0, 1) := by decide +kernel
theorem dX12_taken_1 : decode cX12_taken 1 = .ok (.getfield 151, 3) := by decide +kernel
theorem dX12_taken_4 : decode cX12_taken 4 = .ok (.istore_n 1, 1) := by decide +kernel
theorem dX12_taken_5 : decode cX12_taken 5 = .ok (.aload_n 0, 1) := by decide +kernel
theorem dX12_taken_6 : decode cX12_taken 6 = .ok (.iconst 0, 1) := by decide +kernel
theorem dX12_taken_7 : decode cX12_taken 7 = .ok (.putfield 151, 3) := by decide +kernel
theorem dX12_taken_10 : decode cX12_taken 10 = .ok (.iload_n 1, 1) := by decide +kernel
theorem dX12_taken_11 : decode cX12_taken 11 = .ok (.ireturn, 1) := by decide +kernel
theorem dX12_step_0 : decode cX12_step 0 = .ok (.aload_n 0, 1) := by decide +kernel
theorem dX12_step_1 : decode cX12_step 1 = .ok (.getfield 161, 3) := by decide +kernel
theorem dX12_step_4 : decode cX12_step 4 = .ok (.bipush 8, 2) := by decide +kernel
theorem dX12_step_6 : decode cX12_step 6 = .ok (.iadd, 1) := by decide +kernel
theorem dX12_step_7 : decode cX12_step 7 = .ok (.aload_n 0, 1) := by decide +kernel
theorem dX12_step_8 : decode cX12_step 8 = .ok (.getfield 58, 3) := by decide +kernel
theorem dX12_step_11 : decode cX12_step 11 = .ok (.arraylength, 1) := by decide +kernel
theorem dX12_step_12 : decode cX12_step 12 = .ok (.if_icmp .le 50, 3) := by decide +kernel
theorem dX12_step_15 : decode cX12_step 15 = .ok (.iconst 2, 1) := by decide +kernel
theorem dX12_step_16 : decode cX12_step 16 = .ok (.aload_n 0, 1) := by decide +kernel
theorem dX12_step_17 : decode cX12_step 17 = .ok (.getfield 58, 3) := by decide +kernel
theorem dX12_step_20 : decode cX12_step 20 = .ok (.arraylength, 1) := by decide +kernel
theorem dX12_step_21 : decode cX12_step 21 = .ok (.imul, 1) := by decide +kernel
theorem dX12_step_22 : decode cX12_step 22 = .ok (.newarray .int, 2) := by decide +kernel
theorem dX12_step_24 : decode cX12_step 24 = .ok (.astore 5, 2) := by decide +kernel
theorem dX12_step_26 : decode cX12_step 26 = .ok (.iconst 0, 1) := by decide +kernel
theorem dX12_step_27 : decode cX12_step 27 = .ok (.istore 6, 2) := by decide +kernel
theorem dX12_step_29 : decode cX12_step 29 = .ok (.iload 6, 2) := by decide +kernel
theorem dX12_step_31 : decode cX12_step 31 = .ok (.aload_n 0, 1) := by decide +kernel
theorem dX12_step_32 : decode cX12_step 32 = .ok (.getfield 161, 3) := by decide +kernel
theorem dX12_step_35 : decode cX12_step 35 = .ok (.if_icmp .ge 21, 3) := by decide +kernel
theorem dX12_step_38 : decode cX12_step 38 = .ok (.aload 5, 2) := by decide +kernel
theorem dX12_step_40 : decode cX12_step 40 = .ok (.iload 6, 2) := by decide +kernel
theorem dX12_step_42 : decode cX12_step 42 = .ok (.aload_n 0, 1) := by decide +kernel
theorem dX12_step_43 : decode cX12_step 43 = .ok (.getfield 58, 3) := by decide +kernel
theorem dX12_step_46 : decode cX12_step 46 = .ok (.iload 6, 2) := by decide +kernel
theorem dX12_step_48 : decode cX12_step 48 = .ok (.iaload, 1) := by decide +kernel
theorem dX12_step_49 : decode cX12_step 49 = .ok (.iastore, 1) := by decide +kernel
theorem dX12_step_50 : decode cX12_step 50 = .ok (.iinc 6 1, 3) := by decide +kernel
theorem dX12_step_53 : decode cX12_step 53 = .ok (.goto (-24), 3) := by decide +kernel
theorem dX12_step_56 : decode cX12_step 56 = .ok (.aload_n 0, 1) := by decide +kernel
theorem dX12_step_57 : decode cX12_step 57 = .ok (.aload 5, 2) := by decide +kernel
theorem dX12_step_59 : decode cX12_step 59 = .ok (.putfield 58, 3) := by decide +kernel
theorem dX12_step_62 : decode cX12_step 62 = .ok (.aload_n 0, 1) := by decide +kernel
theorem dX12_step_63 : decode cX12_step 63 = .ok (.getfield 58, 3) := by decide +kernel
theorem dX12_step_66 : decode cX12_step 66 = .ok (.aload_n 0, 1) := by decide +kernel
theorem dX12_step_67 : decode cX12_step 67 = .ok (.getfield 161, 3) := by decide +kernel
theorem dX12_step_70 : decode cX12_step 70 = .ok (.iload_n 1, 1) := by decide +kernel
theorem dX12_step_71 : decode cX12_step 71 = .ok (.iastore, 1) := by decide +kernel
theorem dX12_step_72 : decode cX12_step 72 = .ok (.aload_n 0, 1) := by decide +kernel
theorem dX12_step_73 : decode cX12_step 73 = .ok (.getfield 58, 3) := by decide +kernel
theorem dX12_step_76 : decode cX12_step 76 = .ok (.aload_n 0, 1) := by decide +kernel
theorem dX12_step_77 : decode cX12_step 77 = .ok (.getfield 161, 3) := by decide +kernel
theorem dX12_step_80 : decode cX12_step 80 = .ok (.iconst 1, 1) := by decide +kernel
theorem dX12_step_81 : decode cX12_step 81 = .ok (.iadd, 1) := by decide +kernel
theorem dX12_step_82 : decode cX12_step 82 = .ok (.iload_n 2, 1) := by decide +kernel
theorem dX12_step_83 : decode cX12_step 83 = .ok (.iastore, 1) := by decide +kernel
theorem dX12_step_84 : decode cX12_step 84 = .ok (.aload_n 0, 1) := by decide +kernel
theorem dX12_step_85 : decode cX12_step 85 = .ok (.getfield 58, 3) := by decide +kernel
theorem dX12_step_88 : decode cX12_step 88 = .ok (.aload_n 0, 1) := by decide +kernel
theorem dX12_step_89 : decode cX12_step 89 = .ok (.getfield 161, 3) := by decide +kernel
theorem dX12_step_92 : decode cX12_step 92 = .ok (.iconst 2, 1) := by decide +kernel
theorem dX12_step_93 : decode cX12_step 93 = .ok (.iadd, 1) := by decide +kernel
theorem dX12_step_94 : decode cX12_step 94 = .ok (.iload_n 3, 1) := by decide +kernel
theorem dX12_step_95 : decode cX12_step 95 = .ok (.iastore, 1) := by decide +kernel
theorem dX12_step_96 : decode cX12_step 96 = .ok (.aload_n 0, 1) := by decide +kernel
theorem dX12_step_97 : decode cX12_step 97 = .ok (.getfield 58, 3) := by decide +kernel
theorem dX12_step_100 : decode cX12_step 100 = .ok (.aload_n 0, 1) := by decide +kernel
theorem dX12_step_101 : decode cX12_step 101 = .ok (.getfield 161, 3) := by decide +kernel
theorem dX12_step_104 : decode cX12_step 104 = .ok (.iconst 3, 1) := by decide +kernel
theorem dX12_step_105 : decode cX12_step 105 = .ok (.iadd, 1) := by decide +kernel
theorem dX12_step_106 : decode cX12_step 106 = .ok (.iload 4, 2) := by decide +kernel
theorem dX12_step_108 : decode cX12_step 108 = .ok (.iastore, 1) := by decide +kernel
theorem dX12_step_109 : decode cX12_step 109 = .ok (.aload_n 0, 1) := by decide +kernel
theorem dX12_step_110 : decode cX12_step 110 = .ok (.dup, 1) := by decide +kernel
theorem dX12_step_111 : decode cX12_step 111 = .ok (.getfield 161, 3) := by decide +kernel
theorem dX12_step_114 : decode cX12_step 114 = .ok (.iconst 4, 1) := by decide +kernel
theorem dX12_step_115 : decode cX12_step 115 = .ok (.iadd, 1) := by decide +kernel
theorem dX12_step_116 : decode cX12_step 116 = .ok (.putfield 161, 3) := by decide +kernel
theorem dX12_step_119 : decode cX12_step 119 = .ok (.return_, 1) := by decide +kernel
theorem dX12_isTable_0 : decode cX12_isTable 0 = .ok (.iload_n 1, 1) := by decide +kernel
theorem dX12_isTable_1 : decode cX12_isTable 1 = .ok (.ifCond .lt 24, 3) := by decide +kernel
theorem dX12_isTable_4 : decode cX12_isTable 4 = .ok (.iload_n 1, 1) := by decide +kernel
theorem dX12_isTable_5 : decode cX12_isTable 5 = .ok (.aload_n 0, 1) := by decide +kernel
theorem dX12_isTable_6 : decode cX12_isTable 6 = .ok (.getfield 164, 3) := by decide +kernel
theorem dX12_isTable_9 : decode cX12_isTable 9 = .ok (.if_icmp .ge 16, 3) := by decide +kernel
theorem dX12_isTable_12 : decode cX12_isTable 12 = .ok (.aload_n 0, 1) := by decide +kernel
theorem dX12_isTable_13 : decode cX12_isTable 13 = .ok (.getfield 17, 3) := by decide +kernel
theorem dX12_isTable_16 : decode cX12_isTable 16 = .ok (.iload_n 1, 1) := by decide +kernel
theorem dX12_isTable_17 : decode cX12_isTable 17 = .ok (.baload, 1) := by decide +kernel
theorem dX12_isTable_18 : decode cX12_isTable 18 = .ok (.ifCond .eq 7, 3) := by decide +kernel
theorem dX12_isTable_21 : decode cX12_isTable 21 = .ok (.iconst 1, 1) := by decide +kernel
theorem dX12_isTable_22 : decode cX12_isTable 22 = .ok (.goto 4, 3) := by decide +kernel
theorem dX12_isTable_25 : decode cX12_isTable 25 = .ok (.iconst 0, 1) := by decide +kernel
theorem dX12_isTable_26 : decode cX12_isTable 26 = .ok (.ireturn, 1) := by decide +kernel
theorem dX12_isWhole_0 : decode cX12_isWhole 0 = .ok (.aload_n 0, 1) := by decide +kernel
theorem dX12_isWhole_1 : decode cX12_isWhole 1 = .ok (.iload_n 1, 1) := by decide +kernel
theorem dX12_isWhole_2 : decode cX12_isWhole 2 = .ok (.invokevirtual 167, 3) := by decide +kernel
theorem dX12_isWhole_5 : decode cX12_isWhole 5 = .ok (.ifCond .ne 5, 3) := by decide +kernel
theorem dX12_isWhole_8 : decode cX12_isWhole 8 = .ok (.iconst 0, 1) := by decide +kernel
theorem dX12_isWhole_9 : decode cX12_isWhole 9 = .ok (.ireturn, 1) := by decide +kernel
theorem dX12_isWhole_10 : decode cX12_isWhole 10 = .ok (.aload_n 0, 1) := by decide +kernel
theorem dX12_isWhole_11 : decode cX12_isWhole 11 = .ok (.getfield 21, 3) := by decide +kernel
theorem dX12_isWhole_14 : decode cX12_isWhole 14 = .ok (.iload_n 1, 1) := by decide +kernel
theorem dX12_isWhole_15 : decode cX12_isWhole 15 = .ok (.iaload, 1) := by decide +kernel
theorem dX12_isWhole_16 : decode cX12_isWhole 16 = .ok (.iconst 5, 1) := by decide +kernel
theorem dX12_isWhole_17 : decode cX12_isWhole 17 = .ok (.if_icmp .ne 35, 3) := by decide +kernel
theorem dX12_isWhole_20 : decode cX12_isWhole 20 = .ok (.aload_n 0, 1) := by decide +kernel
theorem dX12_isWhole_21 : decode cX12_isWhole 21 = .ok (.aload_n 0, 1) := by decide +kernel
theorem dX12_isWhole_22 : decode cX12_isWhole 22 = .ok (.getfield 27, 3) := by decide +kernel
theorem dX12_isWhole_25 : decode cX12_isWhole 25 = .ok (.iload_n 1, 1) := by decide +kernel
theorem dX12_isWhole_26 : decode cX12_isWhole 26 = .ok (.iaload, 1) := by decide +kernel
theorem dX12_isWhole_27 : decode cX12_isWhole 27 = .ok (.invokevirtual 171, 3) := by decide +kernel
theorem dX12_isWhole_30 : decode cX12_isWhole 30 = .ok (.ifCond .eq 20, 3) := by decide +kernel
theorem dX12_isWhole_33 : decode cX12_isWhole 33 = .ok (.aload_n 0, 1) := by decide +kernel
theorem dX12_isWhole_34 : decode cX12_isWhole 34 = .ok (.aload_n 0, 1) := by decide +kernel
theorem dX12_isWhole_35 : decode cX12_isWhole 35 = .ok (.getfield 30, 3) := by decide +kernel
theorem dX12_isWhole_38 : decode cX12_isWhole 38 = .ok (.iload_n 1, 1) := by decide +kernel
theorem dX12_isWhole_39 : decode cX12_isWhole 39 = .ok (.iaload, 1) := by decide +kernel
theorem dX12_isWhole_40 : decode cX12_isWhole 40 = .ok (.invokevirtual 171, 3) := by decide +kernel
theorem dX12_isWhole_43 : decode cX12_isWhole 43 = .ok (.ifCond .eq 7, 3) := by decide +kernel
theorem dX12_isWhole_46 : decode cX12_isWhole 46 = .ok (.iconst 1, 1) := by decide +kernel
theorem dX12_isWhole_47 : decode cX12_isWhole 47 = .ok (.goto 4, 3) := by decide +kernel
theorem dX12_isWhole_50 : decode cX12_isWhole 50 = .ok (.iconst 0, 1) := by decide +kernel
theorem dX12_isWhole_51 : decode cX12_isWhole 51 = .ok (.ireturn, 1) := by decide +kernel
theorem dX12_isWhole_52 : decode cX12_isWhole 52 = .ok (.aload_n 0, 1) := by decide +kernel
theorem dX12_isWhole_53 : decode cX12_isWhole 53 = .ok (.getfield 21, 3) := by decide +kernel
theorem dX12_isWhole_56 : decode cX12_isWhole 56 = .ok (.iload_n 1, 1) := by decide +kernel
theorem dX12_isWhole_57 : decode cX12_isWhole 57 = .ok (.iaload, 1) := by decide +kernel
theorem dX12_isWhole_58 : decode cX12_isWhole 58 = .ok (.iconst 1, 1) := by decide +kernel
theorem dX12_isWhole_59 : decode cX12_isWhole 59 = .ok (.if_icmp .lt 26, 3) := by decide +kernel
theorem dX12_isWhole_62 : decode cX12_isWhole 62 = .ok (.aload_n 0, 1) := by decide +kernel
theorem dX12_isWhole_63 : decode cX12_isWhole 63 = .ok (.getfield 21, 3) := by decide +kernel
theorem dX12_isWhole_66 : decode cX12_isWhole 66 = .ok (.iload_n 1, 1) := by decide +kernel
theorem dX12_isWhole_67 : decode cX12_isWhole 67 = .ok (.iaload, 1) := by decide +kernel
theorem dX12_isWhole_68 : decode cX12_isWhole 68 = .ok (.iconst 3, 1) := by decide +kernel
theorem dX12_isWhole_69 : decode cX12_isWhole 69 = .ok (.if_icmp .gt 16, 3) := by decide +kernel
theorem dX12_isWhole_72 : decode cX12_isWhole 72 = .ok (.aload_n 0, 1) := by decide +kernel
theorem dX12_isWhole_73 : decode cX12_isWhole 73 = .ok (.aload_n 0, 1) := by decide +kernel
theorem dX12_isWhole_74 : decode cX12_isWhole 74 = .ok (.getfield 27, 3) := by decide +kernel
theorem dX12_isWhole_77 : decode cX12_isWhole 77 = .ok (.iload_n 1, 1) := by decide +kernel
theorem dX12_isWhole_78 : decode cX12_isWhole 78 = .ok (.iaload, 1) := by decide +kernel
theorem dX12_isWhole_79 : decode cX12_isWhole 79 = .ok (.invokevirtual 171, 3) := by decide +kernel
theorem dX12_isWhole_82 : decode cX12_isWhole 82 = .ok (.ifCond .eq 7, 3) := by decide +kernel
theorem dX12_isWhole_85 : decode cX12_isWhole 85 = .ok (.iconst 1, 1) := by decide +kernel
theorem dX12_isWhole_86 : decode cX12_isWhole 86 = .ok (.goto 4, 3) := by decide +kernel
theorem dX12_isWhole_89 : decode cX12_isWhole 89 = .ok (.iconst 0, 1) := by decide +kernel
theorem dX12_isWhole_90 : decode cX12_isWhole 90 = .ok (.ireturn, 1) := by decide +kernel
theorem dX12_isIn_0 : decode cX12_isIn 0 = .ok (.iload_n 0, 1) := by decide +kernel
theorem dX12_isIn_1 : decode cX12_isIn 1 = .ok (.iload_n 1, 1) := by decide +kernel
theorem dX12_isIn_2 : decode cX12_isIn 2 = .ok (.if_icmp .lt 12, 3) := by decide +kernel
theorem dX12_isIn_5 : decode cX12_isIn 5 = .ok (.iload_n 0, 1) := by decide +kernel
theorem dX12_isIn_6 : decode cX12_isIn 6 = .ok (.iload_n 2, 1) := by decide +kernel
theorem dX12_isIn_7 : decode cX12_isIn 7 = .ok (.if_icmp .gt 7, 3) := by decide +kernel
theorem dX12_isIn_10 : decode cX12_isIn 10 = .ok (.iconst 1, 1) := by decide +kernel
theorem dX12_isIn_11 : decode cX12_isIn 11 = .ok (.goto 4, 3) := by decide +kernel
theorem dX12_isIn_14 : decode cX12_isIn 14 = .ok (.iconst 0, 1) := by decide +kernel
theorem dX12_isIn_15 : decode cX12_isIn 15 = .ok (.ireturn, 1) := by decide +kernel
theorem dX12_table_0 : decode cX12_table 0 = .ok (.iload_n 1, 1) := by decide +kernel
theorem dX12_table_1 : decode cX12_table 1 = .ok (.iconst 1, 1) := by decide +kernel
theorem dX12_table_2 : decode cX12_table 2 = .ok (.iconst 3, 1) := by decide +kernel
theorem dX12_table_3 : decode cX12_table 3 = .ok (.invokestatic 174, 3) := by decide +kernel
theorem dX12_table_6 : decode cX12_table 6 = .ok (.istore 4, 2) := by decide +kernel
theorem dX12_table_8 : decode cX12_table 8 = .ok (.iload_n 1, 1) := by decide +kernel
theorem dX12_table_9 : decode cX12_table 9 = .ok (.iconst 0, 1) := by decide +kernel
theorem dX12_table_10 : decode cX12_table 10 = .ok (.iconst 4, 1) := by decide +kernel
theorem dX12_table_11 : decode cX12_table 11 = .ok (.invokestatic 174, 3) := by decide +kernel
theorem dX12_table_14 : decode cX12_table 14 = .ok (.ifCond .eq 24, 3) := by decide +kernel
theorem dX12_table_17 : decode cX12_table 17 = .ok (.iload_n 2, 1) := by decide +kernel
theorem dX12_table_18 : decode cX12_table 18 = .ok (.bipush 6, 2) := by decide +kernel
theorem dX12_table_20 : decode cX12_table 20 = .ok (.if_icmp .eq 9, 3) := by decide +kernel
theorem dX12_table_23 : decode cX12_table 23 = .ok (.iload_n 2, 1) := by decide +kernel
theorem dX12_table_24 : decode cX12_table 24 = .ok (.bipush 8, 2) := by decide +kernel
theorem dX12_table_26 : decode cX12_table 26 = .ok (.if_icmp .ne 12, 3) := by decide +kernel
theorem dX12_table_29 : decode cX12_table 29 = .ok (.aload_n 0, 1) := by decide +kernel
theorem dX12_table_30 : decode cX12_table 30 = .ok (.getfield 164, 3) := by decide +kernel
theorem dX12_table_33 : decode cX12_table 33 = .ok (.bipush 30, 2) := by decide +kernel
theorem dX12_table_35 : decode cX12_table 35 = .ok (.if_icmp .ne 10, 3) := by decide +kernel
theorem dX12_table_38 : decode cX12_table 38 = .ok (.aload_n 0, 1) := by decide +kernel
theorem dX12_table_39 : decode cX12_table 39 = .ok (.bipush 6, 2) := by decide +kernel
theorem dX12_table_41 : decode cX12_table 41 = .ok (.invokevirtual 154, 3) := by decide +kernel
theorem dX12_table_44 : decode cX12_table 44 = .ok (.ireturn, 1) := by decide +kernel
theorem dX12_table_45 : decode cX12_table 45 = .ok (.iload 4, 2) := by decide +kernel
theorem dX12_table_47 : decode cX12_table 47 = .ok (.ifCond .eq 17, 3) := by decide +kernel
theorem dX12_table_50 : decode cX12_table 50 = .ok (.aload_n 0, 1) := by decide +kernel
theorem dX12_table_51 : decode cX12_table 51 = .ok (.iload_n 3, 1) := by decide +kernel
theorem dX12_table_52 : decode cX12_table 52 = .ok (.invokevirtual 167, 3) := by decide +kernel
theorem dX12_table_55 : decode cX12_table 55 = .ok (.ifCond .ne 9, 3) := by decide +kernel
theorem dX12_table_58 : decode cX12_table 58 = .ok (.aload_n 0, 1) := by decide +kernel
theorem dX12_table_59 : decode cX12_table 59 = .ok (.iconst 3, 1) := by decide +kernel
theorem dX12_table_60 : decode cX12_table 60 = .ok (.invokevirtual 154, 3) := by decide +kernel
theorem dX12_table_63 : decode cX12_table 63 = .ok (.ireturn, 1) := by decide +kernel
theorem dX12_table_64 : decode cX12_table 64 = .ok (.iload 4, 2) := by decide +kernel
theorem dX12_table_66 : decode cX12_table 66 = .ok (.ifCond .eq 19, 3) := by decide +kernel
theorem dX12_table_69 : decode cX12_table 69 = .ok (.aload_n 0, 1) := by decide +kernel
theorem dX12_table_70 : decode cX12_table 70 = .ok (.getfield 21, 3) := by decide +kernel
theorem dX12_table_73 : decode cX12_table 73 = .ok (.iload_n 3, 1) := by decide +kernel
theorem dX12_table_74 : decode cX12_table 74 = .ok (.iaload, 1) := by decide +kernel
theorem dX12_table_75 : decode cX12_table 75 = .ok (.iconst 3, 1) := by decide +kernel
theorem dX12_table_76 : decode cX12_table 76 = .ok (.if_icmp .le 9, 3) := by decide +kernel
theorem dX12_table_79 : decode cX12_table 79 = .ok (.aload_n 0, 1) := by decide +kernel
theorem dX12_table_80 : decode cX12_table 80 = .ok (.iconst 4, 1) := by decide +kernel
theorem dX12_table_81 : decode cX12_table 81 = .ok (.invokevirtual 154, 3) := by decide +kernel
theorem dX12_table_84 : decode cX12_table 84 = .ok (.ireturn, 1) := by decide +kernel
theorem dX12_table_85 : decode cX12_table 85 = .ok (.aload_n 0, 1) := by decide +kernel
theorem dX12_table_86 : decode cX12_table 86 = .ok (.aload_n 0, 1) := by decide +kernel
theorem dX12_table_87 : decode cX12_table 87 = .ok (.iload_n 1, 1) := by decide +kernel
theorem dX12_table_88 : decode cX12_table 88 = .ok (.iload_n 2, 1) := by decide +kernel
theorem dX12_table_89 : decode cX12_table 89 = .ok (.iload 4, 2) := by decide +kernel
theorem dX12_table_91 : decode cX12_table 91 = .ok (.ifCond .eq 7, 3) := by decide +kernel
theorem dX12_table_94 : decode cX12_table 94 = .ok (.iload_n 3, 1) := by decide +kernel
theorem dX12_table_95 : decode cX12_table 95 = .ok (.goto 4, 3) := by decide +kernel
theorem dX12_table_98 : decode cX12_table 98 = .ok (.iconst (-1), 1) := by decide +kernel
theorem dX12_table_99 : decode cX12_table 99 = .ok (.iconst (-1), 1) := by decide +kernel
theorem dX12_table_100 : decode cX12_table 100 = .ok (.invokevirtual 178, 3) := by decide +kernel
theorem dX12_table_103 : decode cX12_table 103 = .ok (.invokevirtual 158, 3) := by decide +kernel
theorem dX12_table_106 : decode cX12_table 106 = .ok (.ireturn, 1) := by decide +kernel
theorem dX12_newTable_0 : decode cX12_newTable 0 = .ok (.aload_n 0, 1) := by decide +kernel
theorem dX12_newTable_1 : decode cX12_newTable 1 = .ok (.getfield 164, 3) := by decide +kernel
theorem dX12_newTable_4 : decode cX12_newTable 4 = .ok (.istore 5, 2) := by decide +kernel
theorem dX12_newTable_6 : decode cX12_newTable 6 = .ok (.aload_n 0, 1) := by decide +kernel
theorem dX12_newTable_7 : decode cX12_newTable 7 = .ok (.dup, 1) := by decide +kernel
theorem dX12_newTable_8 : decode cX12_newTable 8 = .ok (.getfield 164, 3) := by decide +kernel
theorem dX12_newTable_11 : decode cX12_newTable 11 = .ok (.iconst 1, 1) := by decide +kernel
theorem dX12_newTable_12 : decode cX12_newTable 12 = .ok (.iadd, 1) := by decide +kernel
theorem dX12_newTable_13 : decode cX12_newTable 13 = .ok (.putfield 164, 3) := by decide +kernel
theorem dX12_newTable_16 : decode cX12_newTable 16 = .ok (.aload_n 0, 1) := by decide +kernel
theorem dX12_newTable_17 : decode cX12_newTable 17 = .ok (.getfield 17, 3) := by decide +kernel
theorem dX12_newTable_20 : decode cX12_newTable 20 = .ok (.iload 5, 2) := by decide +kernel
theorem dX12_newTable_22 : decode cX12_newTable 22 = .ok (.iconst 1, 1) := by decide +kernel
theorem dX12_newTable_23 : decode cX12_newTable 23 = .ok (.bastore, 1) := by decide +kernel
theorem dX12_newTable_24 : decode cX12_newTable 24 = .ok (.aload_n 0, 1) := by decide +kernel
theorem dX12_newTable_25 : decode cX12_newTable 25 = .ok (.getfield 21, 3) := by decide +kernel
theorem dX12_newTable_28 : decode cX12_newTable 28 = .ok (.iload 5, 2) := by decide +kernel
theorem dX12_newTable_30 : decode cX12_newTable 30 = .ok (.iload_n 1, 1) := by decide +kernel
theorem dX12_newTable_31 : decode cX12_newTable 31 = .ok (.iastore, 1) := by decide +kernel
theorem dX12_newTable_32 : decode cX12_newTable 32 = .ok (.aload_n 0, 1) := by decide +kernel
theorem dX12_newTable_33 : decode cX12_newTable 33 = .ok (.getfield 24, 3) := by decide +kernel
theorem dX12_newTable_36 : decode cX12_newTable 36 = .ok (.iload 5, 2) := by decide +kernel
theorem dX12_newTable_38 : decode cX12_newTable 38 = .ok (.iload_n 2, 1) := by decide +kernel
theorem dX12_newTable_39 : decode cX12_newTable 39 = .ok (.iastore, 1) := by decide +kernel
theorem dX12_newTable_40 : decode cX12_newTable 40 = .ok (.aload_n 0, 1) := by decide +kernel
theorem dX12_newTable_41 : decode cX12_newTable 41 = .ok (.getfield 27, 3) := by decide +kernel
theorem dX12_newTable_44 : decode cX12_newTable 44 = .ok (.iload 5, 2) := by decide +kernel
theorem dX12_newTable_46 : decode cX12_newTable 46 = .ok (.iload_n 3, 1) := by decide +kernel
theorem dX12_newTable_47 : decode cX12_newTable 47 = .ok (.iastore, 1) := by decide +kernel
theorem dX12_newTable_48 : decode cX12_newTable 48 = .ok (.aload_n 0, 1) := by decide +kernel
theorem dX12_newTable_49 : decode cX12_newTable 49 = .ok (.getfield 30, 3) := by decide +kernel
theorem dX12_newTable_52 : decode cX12_newTable 52 = .ok (.iload 5, 2) := by decide +kernel
theorem dX12_newTable_54 : decode cX12_newTable 54 = .ok (.iload 4, 2) := by decide +kernel
theorem dX12_newTable_56 : decode cX12_newTable 56 = .ok (.iastore, 1) := by decide +kernel
theorem dX12_newTable_57 : decode cX12_newTable 57 = .ok (.aload_n 0, 1) := by decide +kernel
theorem dX12_newTable_58 : decode cX12_newTable 58 = .ok (.getfield 33, 3) := by decide +kernel
theorem dX12_newTable_61 : decode cX12_newTable 61 = .ok (.iload 5, 2) := by decide +kernel
theorem dX12_newTable_63 : decode cX12_newTable 63 = .ok (.iconst 0, 1) := by decide +kernel
theorem dX12_newTable_64 : decode cX12_newTable 64 = .ok (.iastore, 1) := by decide +kernel
theorem dX12_newTable_65 : decode cX12_newTable 65 = .ok (.iconst 0, 1) := by decide +kernel
theorem dX12_newTable_66 : decode cX12_newTable 66 = .ok (.istore 6, 2) := by decide +kernel
theorem dX12_newTable_68 : decode cX12_newTable 68 = .ok (.iload 6, 2) := by decide +kernel
theorem dX12_newTable_70 : decode cX12_newTable 70 = .ok (.iconst 4, 1) := by decide +kernel
theorem dX12_newTable_71 : decode cX12_newTable 71 = .ok (.if_icmp .ge 22, 3) := by decide +kernel
theorem dX12_newTable_74 : decode cX12_newTable 74 = .ok (.aload_n 0, 1) := by decide +kernel
theorem dX12_newTable_75 : decode cX12_newTable 75 = .ok (.getfield 52, 3) := by decide +kernel
theorem dX12_newTable_78 : decode cX12_newTable 78 = .ok (.iconst 4, 1) := by decide +kernel
theorem dX12_newTable_79 : decode cX12_newTable 79 = .ok (.iload 5, 2) := by decide +kernel
theorem dX12_newTable_81 : decode cX12_newTable 81 = .ok (.imul, 1) := by decide +kernel
theorem dX12_newTable_82 : decode cX12_newTable 82 = .ok (.iload 6, 2) := by decide +kernel
theorem dX12_newTable_84 : decode cX12_newTable 84 = .ok (.iadd, 1) := by decide +kernel
theorem dX12_newTable_85 : decode cX12_newTable 85 = .ok (.iconst 0, 1) := by decide +kernel
theorem dX12_newTable_86 : decode cX12_newTable 86 = .ok (.iastore, 1) := by decide +kernel
theorem dX12_newTable_87 : decode cX12_newTable 87 = .ok (.iinc 6 1, 3) := by decide +kernel
theorem dX12_newTable_90 : decode cX12_newTable 90 = .ok (.goto (-22), 3) := by decide +kernel
theorem dX12_newTable_93 : decode cX12_newTable 93 = .ok (.aload_n 0, 1) := by decide +kernel
theorem dX12_newTable_94 : decode cX12_newTable 94 = .ok (.iconst 0, 1) := by decide +kernel
theorem dX12_newTable_95 : decode cX12_newTable 95 = .ok (.iload 5, 2) := by decide +kernel
theorem dX12_newTable_97 : decode cX12_newTable 97 = .ok (.iconst 0, 1) := by decide +kernel
theorem dX12_newTable_98 : decode cX12_newTable 98 = .ok (.iconst 0, 1) := by decide +kernel
theorem dX12_newTable_99 : decode cX12_newTable 99 = .ok (.invokevirtual 182, 3) := by decide +kernel
theorem dX12_newTable_102 : decode cX12_newTable 102 = .ok (.iload 5, 2) := by decide +kernel
theorem dX12_newTable_104 : decode cX12_newTable 104 = .ok (.ireturn, 1) := by decide +kernel
theorem dX12_join_0 : decode cX12_join 0 = .ok (.aload_n 0, 1) := by decide +kernel
theorem dX12_join_1 : decode cX12_join 1 = .ok (.iload_n 1, 1) := by decide +kernel
theorem dX12_join_2 : decode cX12_join 2 = .ok (.invokevirtual 167, 3) := by decide +kernel
theorem dX12_join_5 : decode cX12_join 5 = .ok (.ifCond .ne 9, 3) := by decide +kernel
theorem dX12_join_8 : decode cX12_join 8 = .ok (.aload_n 0, 1) := by decide +kernel
theorem dX12_join_9 : decode cX12_join 9 = .ok (.iconst 3, 1) := by decide +kernel
theorem dX12_join_10 : decode cX12_join 10 = .ok (.invokevirtual 154, 3) := by decide +kernel
theorem dX12_join_13 : decode cX12_join 13 = .ok (.ireturn, 1) := by decide +kernel
theorem dX12_join_14 : decode cX12_join 14 = .ok (.aload_n 0, 1) := by decide +kernel
theorem dX12_join_15 : decode cX12_join 15 = .ok (.getfield 21, 3) := by decide +kernel
theorem dX12_join_18 : decode cX12_join 18 = .ok (.iload_n 1, 1) := by decide +kernel
theorem dX12_join_19 : decode cX12_join 19 = .ok (.iaload, 1) := by decide +kernel
theorem dX12_join_20 : decode cX12_join 20 = .ok (.iconst 3, 1) := by decide +kernel
theorem dX12_join_21 : decode cX12_join 21 = .ok (.if_icmp .le 9, 3) := by decide +kernel
theorem dX12_join_24 : decode cX12_join 24 = .ok (.aload_n 0, 1) := by decide +kernel
theorem dX12_join_25 : decode cX12_join 25 = .ok (.iconst 4, 1) := by decide +kernel
theorem dX12_join_26 : decode cX12_join 26 = .ok (.invokevirtual 154, 3) := by decide +kernel
theorem dX12_join_29 : decode cX12_join 29 = .ok (.ireturn, 1) := by decide +kernel
theorem dX12_join_30 : decode cX12_join 30 = .ok (.aload_n 0, 1) := by decide +kernel
theorem dX12_join_31 : decode cX12_join 31 = .ok (.iload_n 2, 1) := by decide +kernel
theorem dX12_join_32 : decode cX12_join 32 = .ok (.invokevirtual 167, 3) := by decide +kernel
theorem dX12_join_35 : decode cX12_join 35 = .ok (.ifCond .ne 9, 3) := by decide +kernel
theorem dX12_join_38 : decode cX12_join 38 = .ok (.aload_n 0, 1) := by decide +kernel
theorem dX12_join_39 : decode cX12_join 39 = .ok (.iconst 3, 1) := by decide +kernel
theorem dX12_join_40 : decode cX12_join 40 = .ok (.invokevirtual 154, 3) := by decide +kernel
theorem dX12_join_43 : decode cX12_join 43 = .ok (.ireturn, 1) := by decide +kernel
theorem dX12_join_44 : decode cX12_join 44 = .ok (.aload_n 0, 1) := by decide +kernel
theorem dX12_join_45 : decode cX12_join 45 = .ok (.getfield 21, 3) := by decide +kernel
theorem dX12_join_48 : decode cX12_join 48 = .ok (.iload_n 2, 1) := by decide +kernel
theorem dX12_join_49 : decode cX12_join 49 = .ok (.iaload, 1) := by decide +kernel
theorem dX12_join_50 : decode cX12_join 50 = .ok (.iconst 3, 1) := by decide +kernel
theorem dX12_join_51 : decode cX12_join 51 = .ok (.if_icmp .le 9, 3) := by decide +kernel
theorem dX12_join_54 : decode cX12_join 54 = .ok (.aload_n 0, 1) := by decide +kernel
theorem dX12_join_55 : decode cX12_join 55 = .ok (.iconst 4, 1) := by decide +kernel
theorem dX12_join_56 : decode cX12_join 56 = .ok (.invokevirtual 154, 3) := by decide +kernel
theorem dX12_join_59 : decode cX12_join 59 = .ok (.ireturn, 1) := by decide +kernel
theorem dX12_join_60 : decode cX12_join 60 = .ok (.aload_n 0, 1) := by decide +kernel
theorem dX12_join_61 : decode cX12_join 61 = .ok (.getfield 164, 3) := by decide +kernel
theorem dX12_join_64 : decode cX12_join 64 = .ok (.bipush 30, 2) := by decide +kernel
theorem dX12_join_66 : decode cX12_join 66 = .ok (.if_icmp .ne 10, 3) := by decide +kernel
theorem dX12_join_69 : decode cX12_join 69 = .ok (.aload_n 0, 1) := by decide +kernel
theorem dX12_join_70 : decode cX12_join 70 = .ok (.bipush 6, 2) := by decide +kernel
theorem dX12_join_72 : decode cX12_join 72 = .ok (.invokevirtual 154, 3) := by decide +kernel
theorem dX12_join_75 : decode cX12_join 75 = .ok (.ireturn, 1) := by decide +kernel
theorem dX12_join_76 : decode cX12_join 76 = .ok (.aload_n 0, 1) := by decide +kernel
theorem dX12_join_77 : decode cX12_join 77 = .ok (.aload_n 0, 1) := by decide +kernel
theorem dX12_join_78 : decode cX12_join 78 = .ok (.iconst 5, 1) := by decide +kernel
theorem dX12_join_79 : decode cX12_join 79 = .ok (.aload_n 0, 1) := by decide +kernel
theorem dX12_join_80 : decode cX12_join 80 = .ok (.getfield 24, 3) := by decide +kernel
theorem dX12_join_83 : decode cX12_join 83 = .ok (.iload_n 1, 1) := by decide +kernel
theorem dX12_join_84 : decode cX12_join 84 = .ok (.iaload, 1) := by decide +kernel
theorem dX12_join_85 : decode cX12_join 85 = .ok (.aload_n 0, 1) := by decide +kernel
theorem dX12_join_86 : decode cX12_join 86 = .ok (.getfield 24, 3) := by decide +kernel
theorem dX12_join_89 : decode cX12_join 89 = .ok (.iload_n 2, 1) := by decide +kernel
theorem dX12_join_90 : decode cX12_join 90 = .ok (.iaload, 1) := by decide +kernel
theorem dX12_join_91 : decode cX12_join 91 = .ok (.invokestatic 186, 3) := by decide +kernel
theorem dX12_join_94 : decode cX12_join 94 = .ok (.iload_n 1, 1) := by decide +kernel
theorem dX12_join_95 : decode cX12_join 95 = .ok (.iload_n 2, 1) := by decide +kernel
theorem dX12_join_96 : decode cX12_join 96 = .ok (.invokevirtual 178, 3) := by decide +kernel
theorem dX12_join_99 : decode cX12_join 99 = .ok (.invokevirtual 158, 3) := by decide +kernel
theorem dX12_join_102 : decode cX12_join 102 = .ok (.ireturn, 1) := by decide +kernel
theorem dX12_drop_0 : decode cX12_drop 0 = .ok (.aload_n 0, 1) := by decide +kernel
theorem dX12_drop_1 : decode cX12_drop 1 = .ok (.iload_n 1, 1) := by decide +kernel
theorem dX12_drop_2 : decode cX12_drop 2 = .ok (.invokevirtual 167, 3) := by decide +kernel
theorem dX12_drop_5 : decode cX12_drop 5 = .ok (.ifCond .ne 9, 3) := by decide +kernel
theorem dX12_drop_8 : decode cX12_drop 8 = .ok (.aload_n 0, 1) := by decide +kernel
theorem dX12_drop_9 : decode cX12_drop 9 = .ok (.iconst 3, 1) := by decide +kernel
theorem dX12_drop_10 : decode cX12_drop 10 = .ok (.invokevirtual 154, 3) := by decide +kernel
theorem dX12_drop_13 : decode cX12_drop 13 = .ok (.ireturn, 1) := by decide +kernel
theorem dX12_drop_14 : decode cX12_drop 14 = .ok (.aload_n 0, 1) := by decide +kernel
theorem dX12_drop_15 : decode cX12_drop 15 = .ok (.getfield 17, 3) := by decide +kernel
theorem dX12_drop_18 : decode cX12_drop 18 = .ok (.iload_n 1, 1) := by decide +kernel
theorem dX12_drop_19 : decode cX12_drop 19 = .ok (.iconst 0, 1) := by decide +kernel
theorem dX12_drop_20 : decode cX12_drop 20 = .ok (.bastore, 1) := by decide +kernel
theorem dX12_drop_21 : decode cX12_drop 21 = .ok (.aload_n 0, 1) := by decide +kernel
theorem dX12_drop_22 : decode cX12_drop 22 = .ok (.iconst 1, 1) := by decide +kernel
theorem dX12_drop_23 : decode cX12_drop 23 = .ok (.iload_n 1, 1) := by decide +kernel
theorem dX12_drop_24 : decode cX12_drop 24 = .ok (.iconst 0, 1) := by decide +kernel
theorem dX12_drop_25 : decode cX12_drop 25 = .ok (.iconst 0, 1) := by decide +kernel
theorem dX12_drop_26 : decode cX12_drop 26 = .ok (.invokevirtual 182, 3) := by decide +kernel
theorem dX12_drop_29 : decode cX12_drop 29 = .ok (.aload_n 0, 1) := by decide +kernel
theorem dX12_drop_30 : decode cX12_drop 30 = .ok (.iconst 1, 1) := by decide +kernel
theorem dX12_drop_31 : decode cX12_drop 31 = .ok (.invokevirtual 158, 3) := by decide +kernel
theorem dX12_drop_34 : decode cX12_drop 34 = .ok (.ireturn, 1) := by decide +kernel
theorem dX12_rule_0 : decode cX12_rule 0 = .ok (.aload_n 0, 1) := by decide +kernel
theorem dX12_rule_1 : decode cX12_rule 1 = .ok (.invokevirtual 192, 3) := by decide +kernel
theorem dX12_rule_4 : decode cX12_rule 4 = .ok (.istore 4, 2) := by decide +kernel
theorem dX12_rule_6 : decode cX12_rule 6 = .ok (.aload_n 0, 1) := by decide +kernel
theorem dX12_rule_7 : decode cX12_rule 7 = .ok (.iload_n 1, 1) := by decide +kernel
theorem dX12_rule_8 : decode cX12_rule 8 = .ok (.invokevirtual 167, 3) := by decide +kernel
theorem dX12_rule_11 : decode cX12_rule 11 = .ok (.ifCond .ne 9, 3) := by decide +kernel
theorem dX12_rule_14 : decode cX12_rule 14 = .ok (.aload_n 0, 1) := by decide +kernel
theorem dX12_rule_15 : decode cX12_rule 15 = .ok (.iconst 3, 1) := by decide +kernel
theorem dX12_rule_16 : decode cX12_rule 16 = .ok (.invokevirtual 154, 3) := by decide +kernel
theorem dX12_rule_19 : decode cX12_rule 19 = .ok (.ireturn, 1) := by decide +kernel
theorem dX12_rule_20 : decode cX12_rule 20 = .ok (.aload_n 0, 1) := by decide +kernel
theorem dX12_rule_21 : decode cX12_rule 21 = .ok (.getfield 21, 3) := by decide +kernel
theorem dX12_rule_24 : decode cX12_rule 24 = .ok (.iload_n 1, 1) := by decide +kernel
theorem dX12_rule_25 : decode cX12_rule 25 = .ok (.iaload, 1) := by decide +kernel
theorem dX12_rule_26 : decode cX12_rule 26 = .ok (.iconst 5, 1) := by decide +kernel
theorem dX12_rule_27 : decode cX12_rule 27 = .ok (.if_icmp .ne 9, 3) := by decide +kernel
theorem dX12_rule_30 : decode cX12_rule 30 = .ok (.aload_n 0, 1) := by decide +kernel
theorem dX12_rule_31 : decode cX12_rule 31 = .ok (.iconst 4, 1) := by decide +kernel
theorem dX12_rule_32 : decode cX12_rule 32 = .ok (.invokevirtual 154, 3) := by decide +kernel
theorem dX12_rule_35 : decode cX12_rule 35 = .ok (.ireturn, 1) := by decide +kernel
theorem dX12_rule_36 : decode cX12_rule 36 = .ok (.iload_n 3, 1) := by decide +kernel
theorem dX12_rule_37 : decode cX12_rule 37 = .ok (.ifCond .ge 9, 3) := by decide +kernel
theorem dX12_rule_40 : decode cX12_rule 40 = .ok (.aload_n 0, 1) := by decide +kernel
theorem dX12_rule_41 : decode cX12_rule 41 = .ok (.iconst 5, 1) := by decide +kernel
theorem dX12_rule_42 : decode cX12_rule 42 = .ok (.invokevirtual 154, 3) := by decide +kernel
theorem dX12_rule_45 : decode cX12_rule 45 = .ok (.ireturn, 1) := by decide +kernel
theorem dX12_rule_46 : decode cX12_rule 46 = .ok (.iload_n 2, 1) := by decide +kernel
theorem dX12_rule_47 : decode cX12_rule 47 = .ok (.iconst 0, 1) := by decide +kernel
theorem dX12_rule_48 : decode cX12_rule 48 = .ok (.iconst 5, 1) := by decide +kernel
theorem dX12_rule_49 : decode cX12_rule 49 = .ok (.invokestatic 174, 3) := by decide +kernel
theorem dX12_rule_52 : decode cX12_rule 52 = .ok (.ifCond .eq 50, 3) := by decide +kernel
theorem dX12_rule_55 : decode cX12_rule 55 = .ok (.iload_n 3, 1) := by decide +kernel
theorem dX12_rule_56 : decode cX12_rule 56 = .ok (.iconst 1, 1) := by decide +kernel
theorem dX12_rule_57 : decode cX12_rule 57 = .ok (.bipush 8, 2) := by decide +kernel
theorem dX12_rule_59 : decode cX12_rule 59 = .ok (.invokestatic 174, 3) := by decide +kernel
theorem dX12_rule_62 : decode cX12_rule 62 = .ok (.ifCond .eq 40, 3) := by decide +kernel
theorem dX12_rule_65 : decode cX12_rule 65 = .ok (.iload 4, 2) := by decide +kernel
theorem dX12_rule_67 : decode cX12_rule 67 = .ok (.iload_n 3, 1) := by decide +kernel
theorem dX12_rule_68 : decode cX12_rule 68 = .ok (.isub, 1) := by decide +kernel
theorem dX12_rule_69 : decode cX12_rule 69 = .ok (.iconst 1, 1) := by decide +kernel
theorem dX12_rule_70 : decode cX12_rule 70 = .ok (.iconst 4, 1) := by decide +kernel
theorem dX12_rule_71 : decode cX12_rule 71 = .ok (.invokestatic 174, 3) := by decide +kernel
theorem dX12_rule_74 : decode cX12_rule 74 = .ok (.ifCond .eq 28, 3) := by decide +kernel
theorem dX12_rule_77 : decode cX12_rule 77 = .ok (.aload_n 0, 1) := by decide +kernel
theorem dX12_rule_78 : decode cX12_rule 78 = .ok (.getfield 33, 3) := by decide +kernel
theorem dX12_rule_81 : decode cX12_rule 81 = .ok (.iload_n 1, 1) := by decide +kernel
theorem dX12_rule_82 : decode cX12_rule 82 = .ok (.iaload, 1) := by decide +kernel
theorem dX12_rule_83 : decode cX12_rule 83 = .ok (.sipush 200, 3) := by decide +kernel
theorem dX12_rule_86 : decode cX12_rule 86 = .ok (.if_icmp .eq 16, 3) := by decide +kernel
theorem dX12_rule_89 : decode cX12_rule 89 = .ok (.aload_n 0, 1) := by decide +kernel
theorem dX12_rule_90 : decode cX12_rule 90 = .ok (.iload_n 1, 1) := by decide +kernel
theorem dX12_rule_91 : decode cX12_rule 91 = .ok (.iload_n 3, 1) := by decide +kernel
theorem dX12_rule_92 : decode cX12_rule 92 = .ok (.iload 4, 2) := by decide +kernel
theorem dX12_rule_94 : decode cX12_rule 94 = .ok (.iload_n 3, 1) := by decide +kernel
theorem dX12_rule_95 : decode cX12_rule 95 = .ok (.isub, 1) := by decide +kernel
theorem dX12_rule_96 : decode cX12_rule 96 = .ok (.invokevirtual 196, 3) := by decide +kernel
theorem dX12_rule_99 : decode cX12_rule 99 = .ok (.ifCond .ne 10, 3) := by decide +kernel
theorem dX12_rule_102 : decode cX12_rule 102 = .ok (.aload_n 0, 1) := by decide +kernel
theorem dX12_rule_103 : decode cX12_rule 103 = .ok (.bipush 6, 2) := by decide +kernel
theorem dX12_rule_105 : decode cX12_rule 105 = .ok (.invokevirtual 154, 3) := by decide +kernel
theorem dX12_rule_108 : decode cX12_rule 108 = .ok (.ireturn, 1) := by decide +kernel
theorem dX12_rule_109 : decode cX12_rule 109 = .ok (.iconst 1, 1) := by decide +kernel
theorem dX12_rule_110 : decode cX12_rule 110 = .ok (.istore 5, 2) := by decide +kernel
theorem dX12_rule_112 : decode cX12_rule 112 = .ok (.iconst 0, 1) := by decide +kernel
theorem dX12_rule_113 : decode cX12_rule 113 = .ok (.istore 6, 2) := by decide +kernel
theorem dX12_rule_115 : decode cX12_rule 115 = .ok (.iload 6, 2) := by decide +kernel
theorem dX12_rule_117 : decode cX12_rule 117 = .ok (.iload_n 3, 1) := by decide +kernel
theorem dX12_rule_118 : decode cX12_rule 118 = .ok (.if_icmp .ge 34, 3) := by decide +kernel
theorem dX12_rule_121 : decode cX12_rule 121 = .ok (.iload 5, 2) := by decide +kernel
theorem dX12_rule_123 : decode cX12_rule 123 = .ok (.ifCond .eq 20, 3) := by decide +kernel
theorem dX12_rule_126 : decode cX12_rule 126 = .ok (.aload_n 0, 1) := by decide +kernel
theorem dX12_rule_127 : decode cX12_rule 127 = .ok (.getfield 13, 3) := by decide +kernel
theorem dX12_rule_130 : decode cX12_rule 130 = .ok (.iload 6, 2) := by decide +kernel
theorem dX12_rule_132 : decode cX12_rule 132 = .ok (.iaload, 1) := by decide +kernel
theorem dX12_rule_133 : decode cX12_rule 133 = .ok (.invokestatic 199, 3) := by decide +kernel
theorem dX12_rule_136 : decode cX12_rule 136 = .ok (.ifCond .eq 7, 3) := by decide +kernel
theorem dX12_rule_139 : decode cX12_rule 139 = .ok (.iconst 1, 1) := by decide +kernel
theorem dX12_rule_140 : decode cX12_rule 140 = .ok (.goto 4, 3) := by decide +kernel
theorem dX12_rule_143 : decode cX12_rule 143 = .ok (.iconst 0, 1) := by decide +kernel
theorem dX12_rule_144 : decode cX12_rule 144 = .ok (.istore 5, 2) := by decide +kernel
theorem dX12_rule_146 : decode cX12_rule 146 = .ok (.iinc 6 1, 3) := by decide +kernel
theorem dX12_rule_149 : decode cX12_rule 149 = .ok (.goto (-34), 3) := by decide +kernel
theorem dX12_rule_152 : decode cX12_rule 152 = .ok (.iload 5, 2) := by decide +kernel
theorem dX12_rule_154 : decode cX12_rule 154 = .ok (.ifCond .ne 10, 3) := by decide +kernel
theorem dX12_rule_157 : decode cX12_rule 157 = .ok (.aload_n 0, 1) := by decide +kernel
theorem dX12_rule_158 : decode cX12_rule 158 = .ok (.bipush 6, 2) := by decide +kernel
theorem dX12_rule_160 : decode cX12_rule 160 = .ok (.invokevirtual 154, 3) := by decide +kernel
theorem dX12_rule_163 : decode cX12_rule 163 = .ok (.ireturn, 1) := by decide +kernel
theorem dX12_rule_164 : decode cX12_rule 164 = .ok (.sipush 200, 3) := by decide +kernel
theorem dX12_rule_167 : decode cX12_rule 167 = .ok (.iload_n 1, 1) := by decide +kernel
theorem dX12_rule_168 : decode cX12_rule 168 = .ok (.imul, 1) := by decide +kernel
theorem dX12_rule_169 : decode cX12_rule 169 = .ok (.aload_n 0, 1) := by decide +kernel
theorem dX12_rule_170 : decode cX12_rule 170 = .ok (.getfield 33, 3) := by decide +kernel
theorem dX12_rule_173 : decode cX12_rule 173 = .ok (.iload_n 1, 1) := by decide +kernel
theorem dX12_rule_174 : decode cX12_rule 174 = .ok (.iaload, 1) := by decide +kernel
theorem dX12_rule_175 : decode cX12_rule 175 = .ok (.iadd, 1) := by decide +kernel
theorem dX12_rule_176 : decode cX12_rule 176 = .ok (.istore 6, 2) := by decide +kernel
theorem dX12_rule_178 : decode cX12_rule 178 = .ok (.aload_n 0, 1) := by decide +kernel
theorem dX12_rule_179 : decode cX12_rule 179 = .ok (.getfield 36, 3) := by decide +kernel
theorem dX12_rule_182 : decode cX12_rule 182 = .ok (.iload 6, 2) := by decide +kernel
theorem dX12_rule_184 : decode cX12_rule 184 = .ok (.iload_n 2, 1) := by decide +kernel
theorem dX12_rule_185 : decode cX12_rule 185 = .ok (.iastore, 1) := by decide +kernel
theorem dX12_rule_186 : decode cX12_rule 186 = .ok (.aload_n 0, 1) := by decide +kernel
theorem dX12_rule_187 : decode cX12_rule 187 = .ok (.getfield 39, 3) := by decide +kernel
theorem dX12_rule_190 : decode cX12_rule 190 = .ok (.iload 6, 2) := by decide +kernel
theorem dX12_rule_192 : decode cX12_rule 192 = .ok (.iload_n 3, 1) := by decide +kernel
theorem dX12_rule_193 : decode cX12_rule 193 = .ok (.iastore, 1) := by decide +kernel
theorem dX12_rule_194 : decode cX12_rule 194 = .ok (.aload_n 0, 1) := by decide +kernel
theorem dX12_rule_195 : decode cX12_rule 195 = .ok (.getfield 42, 3) := by decide +kernel
theorem dX12_rule_198 : decode cX12_rule 198 = .ok (.iload 6, 2) := by decide +kernel
theorem dX12_rule_200 : decode cX12_rule 200 = .ok (.iload 4, 2) := by decide +kernel
theorem dX12_rule_202 : decode cX12_rule 202 = .ok (.iload_n 3, 1) := by decide +kernel
theorem dX12_rule_203 : decode cX12_rule 203 = .ok (.isub, 1) := by decide +kernel
theorem dX12_rule_204 : decode cX12_rule 204 = .ok (.iastore, 1) := by decide +kernel
theorem dX12_rule_205 : decode cX12_rule 205 = .ok (.iconst 0, 1) := by decide +kernel
theorem dX12_rule_206 : decode cX12_rule 206 = .ok (.istore 7, 2) := by decide +kernel
theorem dX12_rule_208 : decode cX12_rule 208 = .ok (.iload 7, 2) := by decide +kernel
theorem dX12_rule_210 : decode cX12_rule 210 = .ok (.iload_n 3, 1) := by decide +kernel
theorem dX12_rule_211 : decode cX12_rule 211 = .ok (.if_icmp .ge 29, 3) := by decide +kernel
theorem dX12_rule_214 : decode cX12_rule 214 = .ok (.aload_n 0, 1) := by decide +kernel
theorem dX12_rule_215 : decode cX12_rule 215 = .ok (.getfield 46, 3) := by decide +kernel
theorem dX12_rule_218 : decode cX12_rule 218 = .ok (.bipush 8, 2) := by decide +kernel
theorem dX12_rule_220 : decode cX12_rule 220 = .ok (.iload 6, 2) := by decide +kernel
theorem dX12_rule_222 : decode cX12_rule 222 = .ok (.imul, 1) := by decide +kernel
theorem dX12_rule_223 : decode cX12_rule 223 = .ok (.iload 7, 2) := by decide +kernel
theorem dX12_rule_225 : decode cX12_rule 225 = .ok (.iadd, 1) := by decide +kernel
theorem dX12_rule_226 : decode cX12_rule 226 = .ok (.aload_n 0, 1) := by decide +kernel
theorem dX12_rule_227 : decode cX12_rule 227 = .ok (.getfield 13, 3) := by decide +kernel
theorem dX12_rule_230 : decode cX12_rule 230 = .ok (.iload 7, 2) := by decide +kernel
theorem dX12_rule_232 : decode cX12_rule 232 = .ok (.iaload, 1) := by decide +kernel
theorem dX12_rule_233 : decode cX12_rule 233 = .ok (.iastore, 1) := by decide +kernel
theorem dX12_rule_234 : decode cX12_rule 234 = .ok (.iinc 7 1, 3) := by decide +kernel
theorem dX12_rule_237 : decode cX12_rule 237 = .ok (.goto (-29), 3) := by decide +kernel
theorem dX12_rule_240 : decode cX12_rule 240 = .ok (.iload_n 3, 1) := by decide +kernel
theorem dX12_rule_241 : decode cX12_rule 241 = .ok (.istore 7, 2) := by decide +kernel
theorem dX12_rule_243 : decode cX12_rule 243 = .ok (.iload 7, 2) := by decide +kernel
theorem dX12_rule_245 : decode cX12_rule 245 = .ok (.iload 4, 2) := by decide +kernel
theorem dX12_rule_247 : decode cX12_rule 247 = .ok (.if_icmp .ge 30, 3) := by decide +kernel
theorem dX12_rule_250 : decode cX12_rule 250 = .ok (.aload_n 0, 1) := by decide +kernel
theorem dX12_rule_251 : decode cX12_rule 251 = .ok (.getfield 49, 3) := by decide +kernel
theorem dX12_rule_254 : decode cX12_rule 254 = .ok (.iconst 4, 1) := by decide +kernel
theorem dX12_rule_255 : decode cX12_rule 255 = .ok (.iload 6, 2) := by decide +kernel
theorem dX12_rule_257 : decode cX12_rule 257 = .ok (.imul, 1) := by decide +kernel
theorem dX12_rule_258 : decode cX12_rule 258 = .ok (.iload 7, 2) := by decide +kernel
theorem dX12_rule_260 : decode cX12_rule 260 = .ok (.iadd, 1) := by decide +kernel
theorem dX12_rule_261 : decode cX12_rule 261 = .ok (.iload_n 3, 1) := by decide +kernel
theorem dX12_rule_262 : decode cX12_rule 262 = .ok (.isub, 1) := by decide +kernel
theorem dX12_rule_263 : decode cX12_rule 263 = .ok (.aload_n 0, 1) := by decide +kernel
theorem dX12_rule_264 : decode cX12_rule 264 = .ok (.getfield 13, 3) := by decide +kernel
theorem dX12_rule_267 : decode cX12_rule 267 = .ok (.iload 7, 2) := by decide +kernel
theorem dX12_rule_269 : decode cX12_rule 269 = .ok (.iaload, 1) := by decide +kernel
theorem dX12_rule_270 : decode cX12_rule 270 = .ok (.iastore, 1) := by decide +kernel
theorem dX12_rule_271 : decode cX12_rule 271 = .ok (.iinc 7 1, 3) := by decide +kernel
theorem dX12_rule_274 : decode cX12_rule 274 = .ok (.goto (-31), 3) := by decide +kernel
theorem dX12_rule_277 : decode cX12_rule 277 = .ok (.aload_n 0, 1) := by decide +kernel
theorem dX12_rule_278 : decode cX12_rule 278 = .ok (.getfield 33, 3) := by decide +kernel
theorem dX12_rule_281 : decode cX12_rule 281 = .ok (.iload_n 1, 1) := by decide +kernel
theorem dX12_rule_282 : decode cX12_rule 282 = .ok (.dup2, 1) := by decide +kernel
theorem dX12_rule_283 : decode cX12_rule 283 = .ok (.iaload, 1) := by decide +kernel
theorem dX12_rule_284 : decode cX12_rule 284 = .ok (.iconst 1, 1) := by decide +kernel
theorem dX12_rule_285 : decode cX12_rule 285 = .ok (.iadd, 1) := by decide +kernel
theorem dX12_rule_286 : decode cX12_rule 286 = .ok (.iastore, 1) := by decide +kernel
theorem dX12_rule_287 : decode cX12_rule 287 = .ok (.aload_n 0, 1) := by decide +kernel
theorem dX12_rule_288 : decode cX12_rule 288 = .ok (.iconst 2, 1) := by decide +kernel
theorem dX12_rule_289 : decode cX12_rule 289 = .ok (.iload_n 1, 1) := by decide +kernel
theorem dX12_rule_290 : decode cX12_rule 290 = .ok (.iconst 0, 1) := by decide +kernel
theorem dX12_rule_291 : decode cX12_rule 291 = .ok (.iconst 0, 1) := by decide +kernel
theorem dX12_rule_292 : decode cX12_rule 292 = .ok (.invokevirtual 182, 3) := by decide +kernel
theorem dX12_rule_295 : decode cX12_rule 295 = .ok (.aload_n 0, 1) := by decide +kernel
theorem dX12_rule_296 : decode cX12_rule 296 = .ok (.aload_n 0, 1) := by decide +kernel
theorem dX12_rule_297 : decode cX12_rule 297 = .ok (.getfield 33, 3) := by decide +kernel
theorem dX12_rule_300 : decode cX12_rule 300 = .ok (.iload_n 1, 1) := by decide +kernel
theorem dX12_rule_301 : decode cX12_rule 301 = .ok (.iaload, 1) := by decide +kernel
theorem dX12_rule_302 : decode cX12_rule 302 = .ok (.iconst 1, 1) := by decide +kernel
theorem dX12_rule_303 : decode cX12_rule 303 = .ok (.isub, 1) := by decide +kernel
theorem dX12_rule_304 : decode cX12_rule 304 = .ok (.invokevirtual 158, 3) := by decide +kernel
theorem dX12_rule_307 : decode cX12_rule 307 = .ok (.ireturn, 1) := by decide +kernel
theorem dX12_condition_0 : decode cX12_condition 0 = .ok (.aload_n 0, 1) := by decide +kernel
theorem dX12_condition_1 : decode cX12_condition 1 = .ok (.iload_n 1, 1) := by decide +kernel
theorem dX12_condition_2 : decode cX12_condition 2 = .ok (.invokevirtual 167, 3) := by decide +kernel
theorem dX12_condition_5 : decode cX12_condition 5 = .ok (.ifCond .ne 9, 3) := by decide +kernel
theorem dX12_condition_8 : decode cX12_condition 8 = .ok (.aload_n 0, 1) := by decide +kernel
theorem dX12_condition_9 : decode cX12_condition 9 = .ok (.iconst 3, 1) := by decide +kernel
theorem dX12_condition_10 : decode cX12_condition 10 = .ok (.invokevirtual 154, 3) := by decide +kernel
theorem dX12_condition_13 : decode cX12_condition 13 = .ok (.ireturn, 1) := by decide +kernel
theorem dX12_condition_14 : decode cX12_condition 14 = .ok (.aload_n 0, 1) := by decide +kernel
theorem dX12_condition_15 : decode cX12_condition 15 = .ok (.getfield 21, 3) := by decide +kernel
theorem dX12_condition_18 : decode cX12_condition 18 = .ok (.iload_n 1, 1) := by decide +kernel
theorem dX12_condition_19 : decode cX12_condition 19 = .ok (.iaload, 1) := by decide +kernel
theorem dX12_condition_20 : decode cX12_condition 20 = .ok (.iconst 5, 1) := by decide +kernel
theorem dX12_condition_21 : decode cX12_condition 21 = .ok (.if_icmp .ne 9, 3) := by decide +kernel
theorem dX12_condition_24 : decode cX12_condition 24 = .ok (.aload_n 0, 1) := by decide +kernel
theorem dX12_condition_25 : decode cX12_condition 25 = .ok (.iconst 4, 1) := by decide +kernel
theorem dX12_condition_26 : decode cX12_condition 26 = .ok (.invokevirtual 154, 3) := by decide +kernel
theorem dX12_condition_29 : decode cX12_condition 29 = .ok (.ireturn, 1) := by decide +kernel
theorem dX12_condition_30 : decode cX12_condition 30 = .ok (.iload_n 2, 1) := by decide +kernel
theorem dX12_condition_31 : decode cX12_condition 31 = .ok (.iconst 0, 1) := by decide +kernel
theorem dX12_condition_32 : decode cX12_condition 32 = .ok (.aload_n 0, 1) := by decide +kernel
theorem dX12_condition_33 : decode cX12_condition 33 = .ok (.getfield 33, 3) := by decide +kernel
theorem dX12_condition_36 : decode cX12_condition 36 = .ok (.iload_n 1, 1) := by decide +kernel
theorem dX12_condition_37 : decode cX12_condition 37 = .ok (.iaload, 1) := by decide +kernel
theorem dX12_condition_38 : decode cX12_condition 38 = .ok (.iconst 1, 1) := by decide +kernel
theorem dX12_condition_39 : decode cX12_condition 39 = .ok (.isub, 1) := by decide +kernel
theorem dX12_condition_40 : decode cX12_condition 40 = .ok (.invokestatic 174, 3) := by decide +kernel
theorem dX12_condition_43 : decode cX12_condition 43 = .ok (.ifCond .ne 9, 3) := by decide +kernel
theorem dX12_condition_46 : decode cX12_condition 46 = .ok (.aload_n 0, 1) := by decide +kernel
theorem dX12_condition_47 : decode cX12_condition 47 = .ok (.iconst 2, 1) := by decide +kernel
theorem dX12_condition_48 : decode cX12_condition 48 = .ok (.invokevirtual 154, 3) := by decide +kernel
theorem dX12_condition_51 : decode cX12_condition 51 = .ok (.ireturn, 1) := by decide +kernel
theorem dX12_condition_52 : decode cX12_condition 52 = .ok (.iload_n 3, 1) := by decide +kernel
theorem dX12_condition_53 : decode cX12_condition 53 = .ok (.iconst 0, 1) := by decide +kernel
theorem dX12_condition_54 : decode cX12_condition 54 = .ok (.iconst 5, 1) := by decide +kernel
theorem dX12_condition_55 : decode cX12_condition 55 = .ok (.invokestatic 174, 3) := by decide +kernel
theorem dX12_condition_58 : decode cX12_condition 58 = .ok (.ifCond .ne 10, 3) := by decide +kernel
theorem dX12_condition_61 : decode cX12_condition 61 = .ok (.aload_n 0, 1) := by decide +kernel
theorem dX12_condition_62 : decode cX12_condition 62 = .ok (.bipush 6, 2) := by decide +kernel
theorem dX12_condition_64 : decode cX12_condition 64 = .ok (.invokevirtual 154, 3) := by decide +kernel
theorem dX12_condition_67 : decode cX12_condition 67 = .ok (.ireturn, 1) := by decide +kernel
theorem dX12_condition_68 : decode cX12_condition 68 = .ok (.aload_n 0, 1) := by decide +kernel
theorem dX12_condition_69 : decode cX12_condition 69 = .ok (.getfield 36, 3) := by decide +kernel
theorem dX12_condition_72 : decode cX12_condition 72 = .ok (.sipush 200, 3) := by decide +kernel
theorem dX12_condition_75 : decode cX12_condition 75 = .ok (.iload_n 1, 1) := by decide +kernel
theorem dX12_condition_76 : decode cX12_condition 76 = .ok (.imul, 1) := by decide +kernel
theorem dX12_condition_77 : decode cX12_condition 77 = .ok (.iload_n 2, 1) := by decide +kernel
theorem dX12_condition_78 : decode cX12_condition 78 = .ok (.iadd, 1) := by decide +kernel
theorem dX12_condition_79 : decode cX12_condition 79 = .ok (.iaload, 1) := by decide +kernel
theorem dX12_condition_80 : decode cX12_condition 80 = .ok (.istore 4, 2) := by decide +kernel
theorem dX12_condition_82 : decode cX12_condition 82 = .ok (.aload_n 0, 1) := by decide +kernel
theorem dX12_condition_83 : decode cX12_condition 83 = .ok (.getfield 36, 3) := by decide +kernel
theorem dX12_condition_86 : decode cX12_condition 86 = .ok (.sipush 200, 3) := by decide +kernel
theorem dX12_condition_89 : decode cX12_condition 89 = .ok (.iload_n 1, 1) := by decide +kernel
theorem dX12_condition_90 : decode cX12_condition 90 = .ok (.imul, 1) := by decide +kernel
theorem dX12_condition_91 : decode cX12_condition 91 = .ok (.iload_n 2, 1) := by decide +kernel
theorem dX12_condition_92 : decode cX12_condition 92 = .ok (.iadd, 1) := by decide +kernel
theorem dX12_condition_93 : decode cX12_condition 93 = .ok (.iload_n 3, 1) := by decide +kernel
theorem dX12_condition_94 : decode cX12_condition 94 = .ok (.iastore, 1) := by decide +kernel
theorem dX12_condition_95 : decode cX12_condition 95 = .ok (.aload_n 0, 1) := by decide +kernel
theorem dX12_condition_96 : decode cX12_condition 96 = .ok (.iconst 3, 1) := by decide +kernel
theorem dX12_condition_97 : decode cX12_condition 97 = .ok (.iload_n 1, 1) := by decide +kernel
theorem dX12_condition_98 : decode cX12_condition 98 = .ok (.iload_n 2, 1) := by decide +kernel
theorem dX12_condition_99 : decode cX12_condition 99 = .ok (.iload 4, 2) := by decide +kernel
theorem dX12_condition_101 : decode cX12_condition 101 = .ok (.invokevirtual 182, 3) := by decide +kernel
theorem dX12_condition_104 : decode cX12_condition 104 = .ok (.aload_n 0, 1) := by decide +kernel
theorem dX12_condition_105 : decode cX12_condition 105 = .ok (.iload 4, 2) := by decide +kernel
theorem dX12_condition_107 : decode cX12_condition 107 = .ok (.invokevirtual 158, 3) := by decide +kernel
theorem dX12_condition_110 : decode cX12_condition 110 = .ok (.ireturn, 1) := by decide +kernel
theorem dX12_indicator_0 : decode cX12_indicator 0 = .ok (.aload_n 0, 1) := by decide +kernel
theorem dX12_indicator_1 : decode cX12_indicator 1 = .ok (.invokevirtual 192, 3) := by decide +kernel
theorem dX12_indicator_4 : decode cX12_indicator 4 = .ok (.istore_n 3, 1) := by decide +kernel
theorem dX12_indicator_5 : decode cX12_indicator 5 = .ok (.iload_n 2, 1) := by decide +kernel
theorem dX12_indicator_6 : decode cX12_indicator 6 = .ok (.iconst 0, 1) := by decide +kernel
theorem dX12_indicator_7 : decode cX12_indicator 7 = .ok (.iconst 3, 1) := by decide +kernel
theorem dX12_indicator_8 : decode cX12_indicator 8 = .ok (.invokestatic 174, 3) := by decide +kernel
theorem dX12_indicator_11 : decode cX12_indicator 11 = .ok (.ifCond .ne 10, 3) := by decide +kernel
theorem dX12_indicator_14 : decode cX12_indicator 14 = .ok (.aload_n 0, 1) := by decide +kernel
theorem dX12_indicator_15 : decode cX12_indicator 15 = .ok (.bipush 6, 2) := by decide +kernel
theorem dX12_indicator_17 : decode cX12_indicator 17 = .ok (.invokevirtual 154, 3) := by decide +kernel
theorem dX12_indicator_20 : decode cX12_indicator 20 = .ok (.ireturn, 1) := by decide +kernel
theorem dX12_indicator_21 : decode cX12_indicator 21 = .ok (.aload_n 0, 1) := by decide +kernel
theorem dX12_indicator_22 : decode cX12_indicator 22 = .ok (.iload_n 1, 1) := by decide +kernel
theorem dX12_indicator_23 : decode cX12_indicator 23 = .ok (.invokevirtual 167, 3) := by decide +kernel
theorem dX12_indicator_26 : decode cX12_indicator 26 = .ok (.ifCond .ne 9, 3) := by decide +kernel
theorem dX12_indicator_29 : decode cX12_indicator 29 = .ok (.aload_n 0, 1) := by decide +kernel
theorem dX12_indicator_30 : decode cX12_indicator 30 = .ok (.iconst 3, 1) := by decide +kernel
theorem dX12_indicator_31 : decode cX12_indicator 31 = .ok (.invokevirtual 154, 3) := by decide +kernel
theorem dX12_indicator_34 : decode cX12_indicator 34 = .ok (.ireturn, 1) := by decide +kernel
theorem dX12_indicator_35 : decode cX12_indicator 35 = .ok (.iload_n 2, 1) := by decide +kernel
theorem dX12_indicator_36 : decode cX12_indicator 36 = .ok (.ifCond .ne 21, 3) := by decide +kernel
theorem dX12_indicator_39 : decode cX12_indicator 39 = .ok (.aload_n 0, 1) := by decide +kernel
theorem dX12_indicator_40 : decode cX12_indicator 40 = .ok (.getfield 21, 3) := by decide +kernel
theorem dX12_indicator_43 : decode cX12_indicator 43 = .ok (.iload_n 1, 1) := by decide +kernel
theorem dX12_indicator_44 : decode cX12_indicator 44 = .ok (.iaload, 1) := by decide +kernel
theorem dX12_indicator_45 : decode cX12_indicator 45 = .ok (.iconst 2, 1) := by decide +kernel
theorem dX12_indicator_46 : decode cX12_indicator 46 = .ok (.if_icmp .gt 7, 3) := by decide +kernel
theorem dX12_indicator_49 : decode cX12_indicator 49 = .ok (.iconst 1, 1) := by decide +kernel
theorem dX12_indicator_50 : decode cX12_indicator 50 = .ok (.goto 45, 3) := by decide +kernel
theorem dX12_indicator_53 : decode cX12_indicator 53 = .ok (.iconst 0, 1) := by decide +kernel
theorem dX12_indicator_54 : decode cX12_indicator 54 = .ok (.goto 41, 3) := by decide +kernel
theorem dX12_indicator_57 : decode cX12_indicator 57 = .ok (.iload_n 2, 1) := by decide +kernel
theorem dX12_indicator_58 : decode cX12_indicator 58 = .ok (.iconst 1, 1) := by decide +kernel
theorem dX12_indicator_59 : decode cX12_indicator 59 = .ok (.if_icmp .ne 21, 3) := by decide +kernel
theorem dX12_indicator_62 : decode cX12_indicator 62 = .ok (.aload_n 0, 1) := by decide +kernel
theorem dX12_indicator_63 : decode cX12_indicator 63 = .ok (.getfield 21, 3) := by decide +kernel
theorem dX12_indicator_66 : decode cX12_indicator 66 = .ok (.iload_n 1, 1) := by decide +kernel
theorem dX12_indicator_67 : decode cX12_indicator 67 = .ok (.iaload, 1) := by decide +kernel
theorem dX12_indicator_68 : decode cX12_indicator 68 = .ok (.iconst 2, 1) := by decide +kernel
theorem dX12_indicator_69 : decode cX12_indicator 69 = .ok (.if_icmp .ne 7, 3) := by decide +kernel
theorem dX12_indicator_72 : decode cX12_indicator 72 = .ok (.iconst 1, 1) := by decide +kernel
theorem dX12_indicator_73 : decode cX12_indicator 73 = .ok (.goto 22, 3) := by decide +kernel
theorem dX12_indicator_76 : decode cX12_indicator 76 = .ok (.iconst 0, 1) := by decide +kernel
theorem dX12_indicator_77 : decode cX12_indicator 77 = .ok (.goto 18, 3) := by decide +kernel
theorem dX12_indicator_80 : decode cX12_indicator 80 = .ok (.aload_n 0, 1) := by decide +kernel
theorem dX12_indicator_81 : decode cX12_indicator 81 = .ok (.getfield 21, 3) := by decide +kernel
theorem dX12_indicator_84 : decode cX12_indicator 84 = .ok (.iload_n 1, 1) := by decide +kernel
theorem dX12_indicator_85 : decode cX12_indicator 85 = .ok (.iaload, 1) := by decide +kernel
theorem dX12_indicator_86 : decode cX12_indicator 86 = .ok (.iconst 5, 1) := by decide +kernel
theorem dX12_indicator_87 : decode cX12_indicator 87 = .ok (.if_icmp .ne 7, 3) := by decide +kernel
theorem dX12_indicator_90 : decode cX12_indicator 90 = .ok (.iconst 1, 1) := by decide +kernel
theorem dX12_indicator_91 : decode cX12_indicator 91 = .ok (.goto 4, 3) := by decide +kernel
theorem dX12_indicator_94 : decode cX12_indicator 94 = .ok (.iconst 0, 1) := by decide +kernel
theorem dX12_indicator_95 : decode cX12_indicator 95 = .ok (.istore 4, 2) := by decide +kernel
theorem dX12_indicator_97 : decode cX12_indicator 97 = .ok (.iload 4, 2) := by decide +kernel
theorem dX12_indicator_99 : decode cX12_indicator 99 = .ok (.ifCond .ne 9, 3) := by decide +kernel
theorem dX12_indicator_102 : decode cX12_indicator 102 = .ok (.aload_n 0, 1) := by decide +kernel
theorem dX12_indicator_103 : decode cX12_indicator 103 = .ok (.iconst 4, 1) := by decide +kernel
theorem dX12_indicator_104 : decode cX12_indicator 104 = .ok (.invokevirtual 154, 3) := by decide +kernel
theorem dX12_indicator_107 : decode cX12_indicator 107 = .ok (.ireturn, 1) := by decide +kernel
theorem dX12_indicator_108 : decode cX12_indicator 108 = .ok (.iload_n 3, 1) := by decide +kernel
theorem dX12_indicator_109 : decode cX12_indicator 109 = .ok (.iconst 4, 1) := by decide +kernel
theorem dX12_indicator_110 : decode cX12_indicator 110 = .ok (.if_icmp .gt 13, 3) := by decide +kernel
theorem dX12_indicator_113 : decode cX12_indicator 113 = .ok (.aload_n 0, 1) := by decide +kernel
theorem dX12_indicator_114 : decode cX12_indicator 114 = .ok (.iload_n 1, 1) := by decide +kernel
theorem dX12_indicator_115 : decode cX12_indicator 115 = .ok (.iconst 0, 1) := by decide +kernel
theorem dX12_indicator_116 : decode cX12_indicator 116 = .ok (.iload_n 3, 1) := by decide +kernel
theorem dX12_indicator_117 : decode cX12_indicator 117 = .ok (.invokevirtual 196, 3) := by decide +kernel
theorem dX12_indicator_120 : decode cX12_indicator 120 = .ok (.ifCond .ne 10, 3) := by decide +kernel
theorem dX12_indicator_123 : decode cX12_indicator 123 = .ok (.aload_n 0, 1) := by decide +kernel
theorem dX12_indicator_124 : decode cX12_indicator 124 = .ok (.bipush 6, 2) := by decide +kernel
theorem dX12_indicator_126 : decode cX12_indicator 126 = .ok (.invokevirtual 154, 3) := by decide +kernel
theorem dX12_indicator_129 : decode cX12_indicator 129 = .ok (.ireturn, 1) := by decide +kernel
theorem dX12_indicator_130 : decode cX12_indicator 130 = .ok (.iconst 4, 1) := by decide +kernel
theorem dX12_indicator_131 : decode cX12_indicator 131 = .ok (.iload_n 1, 1) := by decide +kernel
theorem dX12_indicator_132 : decode cX12_indicator 132 = .ok (.imul, 1) := by decide +kernel
theorem dX12_indicator_133 : decode cX12_indicator 133 = .ok (.iload_n 2, 1) := by decide +kernel
theorem dX12_indicator_134 : decode cX12_indicator 134 = .ok (.iadd, 1) := by decide +kernel
theorem dX12_indicator_135 : decode cX12_indicator 135 = .ok (.istore 5, 2) := by decide +kernel
theorem dX12_indicator_137 : decode cX12_indicator 137 = .ok (.iconst 0, 1) := by decide +kernel
theorem dX12_indicator_138 : decode cX12_indicator 138 = .ok (.istore 6, 2) := by decide +kernel
theorem dX12_indicator_140 : decode cX12_indicator 140 = .ok (.iconst 0, 1) := by decide +kernel
theorem dX12_indicator_141 : decode cX12_indicator 141 = .ok (.istore 7, 2) := by decide +kernel
theorem dX12_indicator_143 : decode cX12_indicator 143 = .ok (.iload 7, 2) := by decide +kernel
theorem dX12_indicator_145 : decode cX12_indicator 145 = .ok (.aload_n 0, 1) := by decide +kernel
theorem dX12_indicator_146 : decode cX12_indicator 146 = .ok (.getfield 52, 3) := by decide +kernel
theorem dX12_indicator_149 : decode cX12_indicator 149 = .ok (.iload 5, 2) := by decide +kernel
theorem dX12_indicator_151 : decode cX12_indicator 151 = .ok (.iaload, 1) := by decide +kernel
theorem dX12_indicator_152 : decode cX12_indicator 152 = .ok (.if_icmp .ge 29, 3) := by decide +kernel
theorem dX12_indicator_155 : decode cX12_indicator 155 = .ok (.iload 6, 2) := by decide +kernel
theorem dX12_indicator_157 : decode cX12_indicator 157 = .ok (.bipush 8, 2) := by decide +kernel
theorem dX12_indicator_159 : decode cX12_indicator 159 = .ok (.ishl, 1) := by decide +kernel
theorem dX12_indicator_160 : decode cX12_indicator 160 = .ok (.aload_n 0, 1) := by decide +kernel
theorem dX12_indicator_161 : decode cX12_indicator 161 = .ok (.getfield 55, 3) := by decide +kernel
theorem dX12_indicator_164 : decode cX12_indicator 164 = .ok (.iconst 4, 1) := by decide +kernel
theorem dX12_indicator_165 : decode cX12_indicator 165 = .ok (.iload 5, 2) := by decide +kernel
theorem dX12_indicator_167 : decode cX12_indicator 167 = .ok (.imul, 1) := by decide +kernel
theorem dX12_indicator_168 : decode cX12_indicator 168 = .ok (.iload 7, 2) := by decide +kernel
theorem dX12_indicator_170 : decode cX12_indicator 170 = .ok (.iadd, 1) := by decide +kernel
theorem dX12_indicator_171 : decode cX12_indicator 171 = .ok (.iaload, 1) := by decide +kernel
theorem dX12_indicator_172 : decode cX12_indicator 172 = .ok (.ior, 1) := by decide +kernel
theorem dX12_indicator_173 : decode cX12_indicator 173 = .ok (.istore 6, 2) := by decide +kernel
theorem dX12_indicator_175 : decode cX12_indicator 175 = .ok (.iinc 7 1, 3) := by decide +kernel
theorem dX12_indicator_178 : decode cX12_indicator 178 = .ok (.goto (-35), 3) := by decide +kernel
theorem dX12_indicator_181 : decode cX12_indicator 181 = .ok (.aload_n 0, 1) := by decide +kernel
theorem dX12_indicator_182 : decode cX12_indicator 182 = .ok (.iconst 4, 1) := by decide +kernel
theorem dX12_indicator_183 : decode cX12_indicator 183 = .ok (.iload 5, 2) := by decide +kernel
theorem dX12_indicator_185 : decode cX12_indicator 185 = .ok (.aload_n 0, 1) := by decide +kernel
theorem dX12_indicator_186 : decode cX12_indicator 186 = .ok (.getfield 52, 3) := by decide +kernel
theorem dX12_indicator_189 : decode cX12_indicator 189 = .ok (.iload 5, 2) := by decide +kernel
theorem dX12_indicator_191 : decode cX12_indicator 191 = .ok (.iaload, 1) := by decide +kernel
theorem dX12_indicator_192 : decode cX12_indicator 192 = .ok (.iload 6, 2) := by decide +kernel
theorem dX12_indicator_194 : decode cX12_indicator 194 = .ok (.invokevirtual 182, 3) := by decide +kernel
theorem dX12_indicator_197 : decode cX12_indicator 197 = .ok (.aload_n 0, 1) := by decide +kernel
theorem dX12_indicator_198 : decode cX12_indicator 198 = .ok (.getfield 52, 3) := by decide +kernel
theorem dX12_indicator_201 : decode cX12_indicator 201 = .ok (.iload 5, 2) := by decide +kernel
theorem dX12_indicator_203 : decode cX12_indicator 203 = .ok (.iload_n 3, 1) := by decide +kernel
theorem dX12_indicator_204 : decode cX12_indicator 204 = .ok (.iastore, 1) := by decide +kernel
theorem dX12_indicator_205 : decode cX12_indicator 205 = .ok (.iconst 0, 1) := by decide +kernel
theorem dX12_indicator_206 : decode cX12_indicator 206 = .ok (.istore 7, 2) := by decide +kernel
theorem dX12_indicator_208 : decode cX12_indicator 208 = .ok (.iload 7, 2) := by decide +kernel
theorem dX12_indicator_210 : decode cX12_indicator 210 = .ok (.iload_n 3, 1) := by decide +kernel
theorem dX12_indicator_211 : decode cX12_indicator 211 = .ok (.if_icmp .ge 28, 3) := by decide +kernel
theorem dX12_indicator_214 : decode cX12_indicator 214 = .ok (.aload_n 0, 1) := by decide +kernel
theorem dX12_indicator_215 : decode cX12_indicator 215 = .ok (.getfield 55, 3) := by decide +kernel
theorem dX12_indicator_218 : decode cX12_indicator 218 = .ok (.iconst 4, 1) := by decide +kernel
theorem dX12_indicator_219 : decode cX12_indicator 219 = .ok (.iload 5, 2) := by decide +kernel
theorem dX12_indicator_221 : decode cX12_indicator 221 = .ok (.imul, 1) := by decide +kernel
theorem dX12_indicator_222 : decode cX12_indicator 222 = .ok (.iload 7, 2) := by decide +kernel
theorem dX12_indicator_224 : decode cX12_indicator 224 = .ok (.iadd, 1) := by decide +kernel
theorem dX12_indicator_225 : decode cX12_indicator 225 = .ok (.aload_n 0, 1) := by decide +kernel
theorem dX12_indicator_226 : decode cX12_indicator 226 = .ok (.getfield 13, 3) := by decide +kernel
theorem dX12_indicator_229 : decode cX12_indicator 229 = .ok (.iload 7, 2) := by decide +kernel
theorem dX12_indicator_231 : decode cX12_indicator 231 = .ok (.iaload, 1) := by decide +kernel
theorem dX12_indicator_232 : decode cX12_indicator 232 = .ok (.iastore, 1) := by decide +kernel
theorem dX12_indicator_233 : decode cX12_indicator 233 = .ok (.iinc 7 1, 3) := by decide +kernel
theorem dX12_indicator_236 : decode cX12_indicator 236 = .ok (.goto (-28), 3) := by decide +kernel
theorem dX12_indicator_239 : decode cX12_indicator 239 = .ok (.aload_n 0, 1) := by decide +kernel
theorem dX12_indicator_240 : decode cX12_indicator 240 = .ok (.iload_n 3, 1) := by decide +kernel
theorem dX12_indicator_241 : decode cX12_indicator 241 = .ok (.invokevirtual 158, 3) := by decide +kernel
theorem dX12_indicator_244 : decode cX12_indicator 244 = .ok (.ireturn, 1) := by decide +kernel
theorem dX12_undo_0 : decode cX12_undo 0 = .ok (.aload_n 0, 1) := by decide +kernel
theorem dX12_undo_1 : decode cX12_undo 1 = .ok (.getfield 161, 3) := by decide +kernel
theorem dX12_undo_4 : decode cX12_undo 4 = .ok (.ifCond .ne 9, 3) := by decide +kernel
theorem dX12_undo_7 : decode cX12_undo 7 = .ok (.aload_n 0, 1) := by decide +kernel
theorem dX12_undo_8 : decode cX12_undo 8 = .ok (.iconst 0, 1) := by decide +kernel
theorem dX12_undo_9 : decode cX12_undo 9 = .ok (.invokevirtual 158, 3) := by decide +kernel
theorem dX12_undo_12 : decode cX12_undo 12 = .ok (.ireturn, 1) := by decide +kernel
theorem dX12_undo_13 : decode cX12_undo 13 = .ok (.aload_n 0, 1) := by decide +kernel
theorem dX12_undo_14 : decode cX12_undo 14 = .ok (.dup, 1) := by decide +kernel
theorem dX12_undo_15 : decode cX12_undo 15 = .ok (.getfield 161, 3) := by decide +kernel
theorem dX12_undo_18 : decode cX12_undo 18 = .ok (.iconst 4, 1) := by decide +kernel
theorem dX12_undo_19 : decode cX12_undo 19 = .ok (.isub, 1) := by decide +kernel
theorem dX12_undo_20 : decode cX12_undo 20 = .ok (.putfield 161, 3) := by decide +kernel
theorem dX12_undo_23 : decode cX12_undo 23 = .ok (.aload_n 0, 1) := by decide +kernel
theorem dX12_undo_24 : decode cX12_undo 24 = .ok (.getfield 58, 3) := by decide +kernel
theorem dX12_undo_27 : decode cX12_undo 27 = .ok (.aload_n 0, 1) := by decide +kernel
theorem dX12_undo_28 : decode cX12_undo 28 = .ok (.getfield 161, 3) := by decide +kernel
theorem dX12_undo_31 : decode cX12_undo 31 = .ok (.iconst 1, 1) := by decide +kernel
theorem dX12_undo_32 : decode cX12_undo 32 = .ok (.iadd, 1) := by decide +kernel
theorem dX12_undo_33 : decode cX12_undo 33 = .ok (.iaload, 1) := by decide +kernel
theorem dX12_undo_34 : decode cX12_undo 34 = .ok (.istore_n 1, 1) := by decide +kernel
theorem dX12_undo_35 : decode cX12_undo 35 = .ok (.aload_n 0, 1) := by decide +kernel
theorem dX12_undo_36 : decode cX12_undo 36 = .ok (.getfield 58, 3) := by decide +kernel
theorem dX12_undo_39 : decode cX12_undo 39 = .ok (.aload_n 0, 1) := by decide +kernel
theorem dX12_undo_40 : decode cX12_undo 40 = .ok (.getfield 161, 3) := by decide +kernel
theorem dX12_undo_43 : decode cX12_undo 43 = .ok (.iconst 2, 1) := by decide +kernel
theorem dX12_undo_44 : decode cX12_undo 44 = .ok (.iadd, 1) := by decide +kernel
theorem dX12_undo_45 : decode cX12_undo 45 = .ok (.iaload, 1) := by decide +kernel
theorem dX12_undo_46 : decode cX12_undo 46 = .ok (.istore_n 2, 1) := by decide +kernel
theorem dX12_undo_47 : decode cX12_undo 47 = .ok (.aload_n 0, 1) := by decide +kernel
theorem dX12_undo_48 : decode cX12_undo 48 = .ok (.getfield 58, 3) := by decide +kernel
theorem dX12_undo_51 : decode cX12_undo 51 = .ok (.aload_n 0, 1) := by decide +kernel
theorem dX12_undo_52 : decode cX12_undo 52 = .ok (.getfield 161, 3) := by decide +kernel
theorem dX12_undo_55 : decode cX12_undo 55 = .ok (.iconst 3, 1) := by decide +kernel
theorem dX12_undo_56 : decode cX12_undo 56 = .ok (.iadd, 1) := by decide +kernel
theorem dX12_undo_57 : decode cX12_undo 57 = .ok (.iaload, 1) := by decide +kernel
theorem dX12_undo_58 : decode cX12_undo 58 = .ok (.istore_n 3, 1) := by decide +kernel
theorem dX12_undo_59 : decode cX12_undo 59 = .ok (.aload_n 0, 1) := by decide +kernel
theorem dX12_undo_60 : decode cX12_undo 60 = .ok (.getfield 58, 3) := by decide +kernel
theorem dX12_undo_63 : decode cX12_undo 63 = .ok (.aload_n 0, 1) := by decide +kernel
theorem dX12_undo_64 : decode cX12_undo 64 = .ok (.getfield 161, 3) := by decide +kernel
theorem dX12_undo_67 : decode cX12_undo 67 = .ok (.iaload, 1) := by decide +kernel
theorem dX12_undo_68 : decode cX12_undo 68 = .ok (.tableswitch 84 0 3 #[32, 45, 55, 68], 32) := by decide +kernel
theorem dX12_undo_100 : decode cX12_undo 100 = .ok (.aload_n 0, 1) := by decide +kernel
theorem dX12_undo_101 : decode cX12_undo 101 = .ok (.dup, 1) := by decide +kernel
theorem dX12_undo_102 : decode cX12_undo 102 = .ok (.getfield 164, 3) := by decide +kernel
theorem dX12_undo_105 : decode cX12_undo 105 = .ok (.iconst 1, 1) := by decide +kernel
theorem dX12_undo_106 : decode cX12_undo 106 = .ok (.isub, 1) := by decide +kernel
theorem dX12_undo_107 : decode cX12_undo 107 = .ok (.putfield 164, 3) := by decide +kernel
theorem dX12_undo_110 : decode cX12_undo 110 = .ok (.goto 90, 3) := by decide +kernel
theorem dX12_undo_113 : decode cX12_undo 113 = .ok (.aload_n 0, 1) := by decide +kernel
theorem dX12_undo_114 : decode cX12_undo 114 = .ok (.getfield 17, 3) := by decide +kernel
theorem dX12_undo_117 : decode cX12_undo 117 = .ok (.iload_n 1, 1) := by decide +kernel
theorem dX12_undo_118 : decode cX12_undo 118 = .ok (.iconst 1, 1) := by decide +kernel
theorem dX12_undo_119 : decode cX12_undo 119 = .ok (.bastore, 1) := by decide +kernel
theorem dX12_undo_120 : decode cX12_undo 120 = .ok (.goto 80, 3) := by decide +kernel
theorem dX12_undo_123 : decode cX12_undo 123 = .ok (.aload_n 0, 1) := by decide +kernel
theorem dX12_undo_124 : decode cX12_undo 124 = .ok (.getfield 33, 3) := by decide +kernel
theorem dX12_undo_127 : decode cX12_undo 127 = .ok (.iload_n 1, 1) := by decide +kernel
theorem dX12_undo_128 : decode cX12_undo 128 = .ok (.dup2, 1) := by decide +kernel
theorem dX12_undo_129 : decode cX12_undo 129 = .ok (.iaload, 1) := by decide +kernel
theorem dX12_undo_130 : decode cX12_undo 130 = .ok (.iconst 1, 1) := by decide +kernel
theorem dX12_undo_131 : decode cX12_undo 131 = .ok (.isub, 1) := by decide +kernel
theorem dX12_undo_132 : decode cX12_undo 132 = .ok (.iastore, 1) := by decide +kernel
theorem dX12_undo_133 : decode cX12_undo 133 = .ok (.goto 67, 3) := by decide +kernel
theorem dX12_undo_136 : decode cX12_undo 136 = .ok (.aload_n 0, 1) := by decide +kernel
theorem dX12_undo_137 : decode cX12_undo 137 = .ok (.getfield 36, 3) := by decide +kernel
theorem dX12_undo_140 : decode cX12_undo 140 = .ok (.sipush 200, 3) := by decide +kernel
theorem dX12_undo_143 : decode cX12_undo 143 = .ok (.iload_n 1, 1) := by decide +kernel
theorem dX12_undo_144 : decode cX12_undo 144 = .ok (.imul, 1) := by decide +kernel
theorem dX12_undo_145 : decode cX12_undo 145 = .ok (.iload_n 2, 1) := by decide +kernel
theorem dX12_undo_146 : decode cX12_undo 146 = .ok (.iadd, 1) := by decide +kernel
theorem dX12_undo_147 : decode cX12_undo 147 = .ok (.iload_n 3, 1) := by decide +kernel
theorem dX12_undo_148 : decode cX12_undo 148 = .ok (.iastore, 1) := by decide +kernel
theorem dX12_undo_149 : decode cX12_undo 149 = .ok (.goto 51, 3) := by decide +kernel
theorem dX12_undo_152 : decode cX12_undo 152 = .ok (.aload_n 0, 1) := by decide +kernel
theorem dX12_undo_153 : decode cX12_undo 153 = .ok (.getfield 52, 3) := by decide +kernel
theorem dX12_undo_156 : decode cX12_undo 156 = .ok (.iload_n 1, 1) := by decide +kernel
theorem dX12_undo_157 : decode cX12_undo 157 = .ok (.iload_n 2, 1) := by decide +kernel
theorem dX12_undo_158 : decode cX12_undo 158 = .ok (.iastore, 1) := by decide +kernel
theorem dX12_undo_159 : decode cX12_undo 159 = .ok (.iconst 0, 1) := by decide +kernel
theorem dX12_undo_160 : decode cX12_undo 160 = .ok (.istore 4, 2) := by decide +kernel
theorem dX12_undo_162 : decode cX12_undo 162 = .ok (.iload 4, 2) := by decide +kernel
theorem dX12_undo_164 : decode cX12_undo 164 = .ok (.iload_n 2, 1) := by decide +kernel
theorem dX12_undo_165 : decode cX12_undo 165 = .ok (.if_icmp .ge 35, 3) := by decide +kernel
theorem dX12_undo_168 : decode cX12_undo 168 = .ok (.aload_n 0, 1) := by decide +kernel
theorem dX12_undo_169 : decode cX12_undo 169 = .ok (.getfield 55, 3) := by decide +kernel
theorem dX12_undo_172 : decode cX12_undo 172 = .ok (.iconst 4, 1) := by decide +kernel
theorem dX12_undo_173 : decode cX12_undo 173 = .ok (.iload_n 1, 1) := by decide +kernel
theorem dX12_undo_174 : decode cX12_undo 174 = .ok (.imul, 1) := by decide +kernel
theorem dX12_undo_175 : decode cX12_undo 175 = .ok (.iload 4, 2) := by decide +kernel
theorem dX12_undo_177 : decode cX12_undo 177 = .ok (.iadd, 1) := by decide +kernel
theorem dX12_undo_178 : decode cX12_undo 178 = .ok (.iload_n 3, 1) := by decide +kernel
theorem dX12_undo_179 : decode cX12_undo 179 = .ok (.bipush 8, 2) := by decide +kernel
theorem dX12_undo_181 : decode cX12_undo 181 = .ok (.iload_n 2, 1) := by decide +kernel
theorem dX12_undo_182 : decode cX12_undo 182 = .ok (.iconst 1, 1) := by decide +kernel
theorem dX12_undo_183 : decode cX12_undo 183 = .ok (.isub, 1) := by decide +kernel
theorem dX12_undo_184 : decode cX12_undo 184 = .ok (.iload 4, 2) := by decide +kernel
theorem dX12_undo_186 : decode cX12_undo 186 = .ok (.isub, 1) := by decide +kernel
theorem dX12_undo_187 : decode cX12_undo 187 = .ok (.imul, 1) := by decide +kernel
theorem dX12_undo_188 : decode cX12_undo 188 = .ok (.ishr, 1) := by decide +kernel
theorem dX12_undo_189 : decode cX12_undo 189 = .ok (.sipush 255, 3) := by decide +kernel
theorem dX12_undo_192 : decode cX12_undo 192 = .ok (.iand, 1) := by decide +kernel
theorem dX12_undo_193 : decode cX12_undo 193 = .ok (.iastore, 1) := by decide +kernel
theorem dX12_undo_194 : decode cX12_undo 194 = .ok (.iinc 4 1, 3) := by decide +kernel
theorem dX12_undo_197 : decode cX12_undo 197 = .ok (.goto (-35), 3) := by decide +kernel
theorem dX12_undo_200 : decode cX12_undo 200 = .ok (.aload_n 0, 1) := by decide +kernel
theorem dX12_undo_201 : decode cX12_undo 201 = .ok (.iconst 1, 1) := by decide +kernel
theorem dX12_undo_202 : decode cX12_undo 202 = .ok (.invokevirtual 158, 3) := by decide +kernel
theorem dX12_undo_205 : decode cX12_undo 205 = .ok (.ireturn, 1) := by decide +kernel
theorem dX12_finds_0 : decode cX12_finds 0 = .ok (.iload_n 1, 1) := by decide +kernel
theorem dX12_finds_1 : decode cX12_finds 1 = .ok (.iconst 0, 1) := by decide +kernel
theorem dX12_finds_2 : decode cX12_finds 2 = .ok (.iconst 4, 1) := by decide +kernel
theorem dX12_finds_3 : decode cX12_finds 3 = .ok (.invokestatic 174, 3) := by decide +kernel
theorem dX12_finds_6 : decode cX12_finds 6 = .ok (.ifCond .eq 12, 3) := by decide +kernel
theorem dX12_finds_9 : decode cX12_finds 9 = .ok (.aload_n 0, 1) := by decide +kernel
theorem dX12_finds_10 : decode cX12_finds 10 = .ok (.getfield 76, 3) := by decide +kernel
theorem dX12_finds_13 : decode cX12_finds 13 = .ok (.iload_n 1, 1) := by decide +kernel
theorem dX12_finds_14 : decode cX12_finds 14 = .ok (.iaload, 1) := by decide +kernel
theorem dX12_finds_15 : decode cX12_finds 15 = .ok (.goto 4, 3) := by decide +kernel
theorem dX12_finds_18 : decode cX12_finds 18 = .ok (.iconst 0, 1) := by decide +kernel
theorem dX12_finds_19 : decode cX12_finds 19 = .ok (.ireturn, 1) := by decide +kernel
theorem dX12_text_0 : decode cX12_text 0 = .ok (.aload_n 0, 1) := by decide +kernel
theorem dX12_text_1 : decode cX12_text 1 = .ok (.invokevirtual 192, 3) := by decide +kernel
theorem dX12_text_4 : decode cX12_text 4 = .ok (.istore_n 1, 1) := by decide +kernel
theorem dX12_text_5 : decode cX12_text 5 = .ok (.iconst 1, 1) := by decide +kernel
theorem dX12_text_6 : decode cX12_text 6 = .ok (.istore_n 2, 1) := by decide +kernel
theorem dX12_text_7 : decode cX12_text 7 = .ok (.iconst 0, 1) := by decide +kernel
theorem dX12_text_8 : decode cX12_text 8 = .ok (.istore_n 3, 1) := by decide +kernel
theorem dX12_text_9 : decode cX12_text 9 = .ok (.iload_n 3, 1) := by decide +kernel
theorem dX12_text_10 : decode cX12_text 10 = .ok (.iload_n 1, 1) := by decide +kernel
theorem dX12_text_11 : decode cX12_text 11 = .ok (.if_icmp .ge 46, 3) := by decide +kernel
theorem dX12_text_14 : decode cX12_text 14 = .ok (.iload_n 2, 1) := by decide +kernel
theorem dX12_text_15 : decode cX12_text 15 = .ok (.ifCond .eq 34, 3) := by decide +kernel
theorem dX12_text_18 : decode cX12_text 18 = .ok (.aload_n 0, 1) := by decide +kernel
theorem dX12_text_19 : decode cX12_text 19 = .ok (.getfield 13, 3) := by decide +kernel
theorem dX12_text_22 : decode cX12_text 22 = .ok (.iload_n 3, 1) := by decide +kernel
theorem dX12_text_23 : decode cX12_text 23 = .ok (.iaload, 1) := by decide +kernel
theorem dX12_text_24 : decode cX12_text 24 = .ok (.bipush 10, 2) := by decide +kernel
theorem dX12_text_26 : decode cX12_text 26 = .ok (.if_icmp .eq 19, 3) := by decide +kernel
theorem dX12_text_29 : decode cX12_text 29 = .ok (.aload_n 0, 1) := by decide +kernel
theorem dX12_text_30 : decode cX12_text 30 = .ok (.getfield 13, 3) := by decide +kernel
theorem dX12_text_33 : decode cX12_text 33 = .ok (.iload_n 3, 1) := by decide +kernel
theorem dX12_text_34 : decode cX12_text 34 = .ok (.iaload, 1) := by decide +kernel
theorem dX12_text_35 : decode cX12_text 35 = .ok (.bipush 32, 2) := by decide +kernel
theorem dX12_text_37 : decode cX12_text 37 = .ok (.bipush 126, 2) := by decide +kernel
theorem dX12_text_39 : decode cX12_text 39 = .ok (.invokestatic 174, 3) := by decide +kernel
theorem dX12_text_42 : decode cX12_text 42 = .ok (.ifCond .eq 7, 3) := by decide +kernel
theorem dX12_text_45 : decode cX12_text 45 = .ok (.iconst 1, 1) := by decide +kernel
theorem dX12_text_46 : decode cX12_text 46 = .ok (.goto 4, 3) := by decide +kernel
theorem dX12_text_49 : decode cX12_text 49 = .ok (.iconst 0, 1) := by decide +kernel
theorem dX12_text_50 : decode cX12_text 50 = .ok (.istore_n 2, 1) := by decide +kernel
theorem dX12_text_51 : decode cX12_text 51 = .ok (.iinc 3 1, 3) := by decide +kernel
theorem dX12_text_54 : decode cX12_text 54 = .ok (.goto (-45), 3) := by decide +kernel
theorem dX12_text_57 : decode cX12_text 57 = .ok (.iload_n 2, 1) := by decide +kernel
theorem dX12_text_58 : decode cX12_text 58 = .ok (.ifCond .eq 15, 3) := by decide +kernel
theorem dX12_text_61 : decode cX12_text 61 = .ok (.aload_n 0, 1) := by decide +kernel
theorem dX12_text_62 : decode cX12_text 62 = .ok (.getfield 243, 3) := by decide +kernel
theorem dX12_text_65 : decode cX12_text 65 = .ok (.iload_n 1, 1) := by decide +kernel
theorem dX12_text_66 : decode cX12_text 66 = .ok (.iadd, 1) := by decide +kernel
theorem dX12_text_67 : decode cX12_text 67 = .ok (.sipush 500, 3) := by decide +kernel
theorem dX12_text_70 : decode cX12_text 70 = .ok (.if_icmp .le 10, 3) := by decide +kernel
theorem dX12_text_73 : decode cX12_text 73 = .ok (.aload_n 0, 1) := by decide +kernel
theorem dX12_text_74 : decode cX12_text 74 = .ok (.bipush 6, 2) := by decide +kernel
theorem dX12_text_76 : decode cX12_text 76 = .ok (.invokevirtual 154, 3) := by decide +kernel
theorem dX12_text_79 : decode cX12_text 79 = .ok (.ireturn, 1) := by decide +kernel
theorem dX12_text_80 : decode cX12_text 80 = .ok (.iconst 0, 1) := by decide +kernel
theorem dX12_text_81 : decode cX12_text 81 = .ok (.istore_n 3, 1) := by decide +kernel
theorem dX12_text_82 : decode cX12_text 82 = .ok (.iload_n 3, 1) := by decide +kernel
theorem dX12_text_83 : decode cX12_text 83 = .ok (.iload_n 1, 1) := by decide +kernel
theorem dX12_text_84 : decode cX12_text 84 = .ok (.if_icmp .ge 26, 3) := by decide +kernel
theorem dX12_text_87 : decode cX12_text 87 = .ok (.aload_n 0, 1) := by decide +kernel
theorem dX12_text_88 : decode cX12_text 88 = .ok (.getfield 79, 3) := by decide +kernel
theorem dX12_text_91 : decode cX12_text 91 = .ok (.aload_n 0, 1) := by decide +kernel
theorem dX12_text_92 : decode cX12_text 92 = .ok (.getfield 243, 3) := by decide +kernel
theorem dX12_text_95 : decode cX12_text 95 = .ok (.iload_n 3, 1) := by decide +kernel
theorem dX12_text_96 : decode cX12_text 96 = .ok (.iadd, 1) := by decide +kernel
theorem dX12_text_97 : decode cX12_text 97 = .ok (.aload_n 0, 1) := by decide +kernel
theorem dX12_text_98 : decode cX12_text 98 = .ok (.getfield 13, 3) := by decide +kernel
theorem dX12_text_101 : decode cX12_text 101 = .ok (.iload_n 3, 1) := by decide +kernel
theorem dX12_text_102 : decode cX12_text 102 = .ok (.iaload, 1) := by decide +kernel
theorem dX12_text_103 : decode cX12_text 103 = .ok (.iastore, 1) := by decide +kernel
theorem dX12_text_104 : decode cX12_text 104 = .ok (.iinc 3 1, 3) := by decide +kernel
theorem dX12_text_107 : decode cX12_text 107 = .ok (.goto (-25), 3) := by decide +kernel
theorem dX12_text_110 : decode cX12_text 110 = .ok (.aload_n 0, 1) := by decide +kernel
theorem dX12_text_111 : decode cX12_text 111 = .ok (.iload_n 1, 1) := by decide +kernel
theorem dX12_text_112 : decode cX12_text 112 = .ok (.ifCond .ne 7, 3) := by decide +kernel
theorem dX12_text_115 : decode cX12_text 115 = .ok (.iconst 0, 1) := by decide +kernel
theorem dX12_text_116 : decode cX12_text 116 = .ok (.goto 9, 3) := by decide +kernel
theorem dX12_text_119 : decode cX12_text 119 = .ok (.aload_n 0, 1) := by decide +kernel
theorem dX12_text_120 : decode cX12_text 120 = .ok (.getfield 243, 3) := by decide +kernel
theorem dX12_text_123 : decode cX12_text 123 = .ok (.iload_n 1, 1) := by decide +kernel
theorem dX12_text_124 : decode cX12_text 124 = .ok (.iadd, 1) := by decide +kernel
theorem dX12_text_125 : decode cX12_text 125 = .ok (.putfield 243, 3) := by decide +kernel
theorem dX12_text_128 : decode cX12_text 128 = .ok (.aload_n 0, 1) := by decide +kernel
theorem dX12_text_129 : decode cX12_text 129 = .ok (.aload_n 0, 1) := by decide +kernel
theorem dX12_text_130 : decode cX12_text 130 = .ok (.getfield 243, 3) := by decide +kernel
theorem dX12_text_133 : decode cX12_text 133 = .ok (.invokevirtual 158, 3) := by decide +kernel
theorem dX12_text_136 : decode cX12_text 136 = .ok (.ireturn, 1) := by decide +kernel
theorem dX12_measure_0 : decode cX12_measure 0 = .ok (.iload_n 1, 1) := by decide +kernel
theorem dX12_measure_1 : decode cX12_measure 1 = .ok (.iconst 1, 1) := by decide +kernel
theorem dX12_measure_2 : decode cX12_measure 2 = .ok (.bipush 100, 2) := by decide +kernel
theorem dX12_measure_4 : decode cX12_measure 4 = .ok (.invokestatic 174, 3) := by decide +kernel
theorem dX12_measure_7 : decode cX12_measure 7 = .ok (.ifCond .eq 24, 3) := by decide +kernel
theorem dX12_measure_10 : decode cX12_measure 10 = .ok (.iload_n 2, 1) := by decide +kernel
theorem dX12_measure_11 : decode cX12_measure 11 = .ok (.iconst 1, 1) := by decide +kernel
theorem dX12_measure_12 : decode cX12_measure 12 = .ok (.bipush 50, 2) := by decide +kernel
theorem dX12_measure_14 : decode cX12_measure 14 = .ok (.invokestatic 174, 3) := by decide +kernel
theorem dX12_measure_17 : decode cX12_measure 17 = .ok (.ifCond .eq 14, 3) := by decide +kernel
theorem dX12_measure_20 : decode cX12_measure 20 = .ok (.iload_n 3, 1) := by decide +kernel
theorem dX12_measure_21 : decode cX12_measure 21 = .ok (.iconst 1, 1) := by decide +kernel
theorem dX12_measure_22 : decode cX12_measure 22 = .ok (.sipush 255, 3) := by decide +kernel
theorem dX12_measure_25 : decode cX12_measure 25 = .ok (.invokestatic 174, 3) := by decide +kernel
theorem dX12_measure_28 : decode cX12_measure 28 = .ok (.ifCond .ne 10, 3) := by decide +kernel
theorem dX12_measure_31 : decode cX12_measure 31 = .ok (.aload_n 0, 1) := by decide +kernel
theorem dX12_measure_32 : decode cX12_measure 32 = .ok (.bipush 6, 2) := by decide +kernel
theorem dX12_measure_34 : decode cX12_measure 34 = .ok (.invokevirtual 154, 3) := by decide +kernel
theorem dX12_measure_37 : decode cX12_measure 37 = .ok (.ireturn, 1) := by decide +kernel
theorem dX12_measure_38 : decode cX12_measure 38 = .ok (.aload_n 0, 1) := by decide +kernel
theorem dX12_measure_39 : decode cX12_measure 39 = .ok (.iload_n 1, 1) := by decide +kernel
theorem dX12_measure_40 : decode cX12_measure 40 = .ok (.putfield 82, 3) := by decide +kernel
theorem dX12_measure_43 : decode cX12_measure 43 = .ok (.aload_n 0, 1) := by decide +kernel
theorem dX12_measure_44 : decode cX12_measure 44 = .ok (.iload_n 2, 1) := by decide +kernel
theorem dX12_measure_45 : decode cX12_measure 45 = .ok (.putfield 85, 3) := by decide +kernel
theorem dX12_measure_48 : decode cX12_measure 48 = .ok (.aload_n 0, 1) := by decide +kernel
theorem dX12_measure_49 : decode cX12_measure 49 = .ok (.iload_n 3, 1) := by decide +kernel
theorem dX12_measure_50 : decode cX12_measure 50 = .ok (.putfield 88, 3) := by decide +kernel
theorem dX12_measure_53 : decode cX12_measure 53 = .ok (.aload_n 0, 1) := by decide +kernel
theorem dX12_measure_54 : decode cX12_measure 54 = .ok (.iconst 1, 1) := by decide +kernel
theorem dX12_measure_55 : decode cX12_measure 55 = .ok (.invokevirtual 158, 3) := by decide +kernel
theorem dX12_measure_58 : decode cX12_measure 58 = .ok (.ireturn, 1) := by decide +kernel
theorem dX12_set_0 : decode cX12_set 0 = .ok (.aload_n 0, 1) := by decide +kernel
theorem dX12_set_1 : decode cX12_set 1 = .ok (.iload_n 1, 1) := by decide +kernel
theorem dX12_set_2 : decode cX12_set 2 = .ok (.invokevirtual 171, 3) := by decide +kernel
theorem dX12_set_5 : decode cX12_set 5 = .ok (.ifCond .ne 9, 3) := by decide +kernel
theorem dX12_set_8 : decode cX12_set 8 = .ok (.aload_n 0, 1) := by decide +kernel
theorem dX12_set_9 : decode cX12_set 9 = .ok (.iconst 3, 1) := by decide +kernel
theorem dX12_set_10 : decode cX12_set 10 = .ok (.invokevirtual 154, 3) := by decide +kernel
theorem dX12_set_13 : decode cX12_set 13 = .ok (.ireturn, 1) := by decide +kernel
theorem dX12_set_14 : decode cX12_set 14 = .ok (.aload_n 0, 1) := by decide +kernel
theorem dX12_set_15 : decode cX12_set 15 = .ok (.iconst 0, 1) := by decide +kernel
theorem dX12_set_16 : decode cX12_set 16 = .ok (.putfield 246, 3) := by decide +kernel
theorem dX12_set_19 : decode cX12_set 19 = .ok (.iconst 0, 1) := by decide +kernel
theorem dX12_set_20 : decode cX12_set 20 = .ok (.istore_n 2, 1) := by decide +kernel
theorem dX12_set_21 : decode cX12_set 21 = .ok (.iload_n 2, 1) := by decide +kernel
theorem dX12_set_22 : decode cX12_set 22 = .ok (.aload_n 0, 1) := by decide +kernel
theorem dX12_set_23 : decode cX12_set 23 = .ok (.getfield 243, 3) := by decide +kernel
theorem dX12_set_26 : decode cX12_set 26 = .ok (.if_icmp .ge 131, 3) := by decide +kernel
theorem dX12_set_29 : decode cX12_set 29 = .ok (.aload_n 0, 1) := by decide +kernel
theorem dX12_set_30 : decode cX12_set 30 = .ok (.iload_n 2, 1) := by decide +kernel
theorem dX12_set_31 : decode cX12_set 31 = .ok (.invokevirtual 261, 3) := by decide +kernel
theorem dX12_set_34 : decode cX12_set 34 = .ok (.istore_n 3, 1) := by decide +kernel
theorem dX12_set_35 : decode cX12_set 35 = .ok (.aload_n 0, 1) := by decide +kernel
theorem dX12_set_36 : decode cX12_set 36 = .ok (.getfield 79, 3) := by decide +kernel
theorem dX12_set_39 : decode cX12_set 39 = .ok (.iload_n 2, 1) := by decide +kernel
theorem dX12_set_40 : decode cX12_set 40 = .ok (.iaload, 1) := by decide +kernel
theorem dX12_set_41 : decode cX12_set 41 = .ok (.bipush 94, 2) := by decide +kernel
theorem dX12_set_43 : decode cX12_set 43 = .ok (.if_icmp .ne 7, 3) := by decide +kernel
theorem dX12_set_46 : decode cX12_set 46 = .ok (.iconst 1, 1) := by decide +kernel
theorem dX12_set_47 : decode cX12_set 47 = .ok (.goto 4, 3) := by decide +kernel
theorem dX12_set_50 : decode cX12_set 50 = .ok (.iconst 0, 1) := by decide +kernel
theorem dX12_set_51 : decode cX12_set 51 = .ok (.istore 4, 2) := by decide +kernel
theorem dX12_set_53 : decode cX12_set 53 = .ok (.aload_n 0, 1) := by decide +kernel
theorem dX12_set_54 : decode cX12_set 54 = .ok (.getfield 246, 3) := by decide +kernel
theorem dX12_set_57 : decode cX12_set 57 = .ok (.istore 5, 2) := by decide +kernel
theorem dX12_set_59 : decode cX12_set 59 = .ok (.aload_n 0, 1) := by decide +kernel
theorem dX12_set_60 : decode cX12_set 60 = .ok (.invokevirtual 257, 3) := by decide +kernel
theorem dX12_set_63 : decode cX12_set 63 = .ok (.ifCond .ne 10, 3) := by decide +kernel
theorem dX12_set_66 : decode cX12_set 66 = .ok (.aload_n 0, 1) := by decide +kernel
theorem dX12_set_67 : decode cX12_set 67 = .ok (.bipush 6, 2) := by decide +kernel
theorem dX12_set_69 : decode cX12_set 69 = .ok (.invokevirtual 154, 3) := by decide +kernel
theorem dX12_set_72 : decode cX12_set 72 = .ok (.ireturn, 1) := by decide +kernel
theorem dX12_set_73 : decode cX12_set 73 = .ok (.aload_n 0, 1) := by decide +kernel
theorem dX12_set_74 : decode cX12_set 74 = .ok (.iload 4, 2) := by decide +kernel
theorem dX12_set_76 : decode cX12_set 76 = .ok (.ifCond .eq 9, 3) := by decide +kernel
theorem dX12_set_79 : decode cX12_set 79 = .ok (.iload_n 2, 1) := by decide +kernel
theorem dX12_set_80 : decode cX12_set 80 = .ok (.iconst 1, 1) := by decide +kernel
theorem dX12_set_81 : decode cX12_set 81 = .ok (.iadd, 1) := by decide +kernel
theorem dX12_set_82 : decode cX12_set 82 = .ok (.goto 4, 3) := by decide +kernel
theorem dX12_set_85 : decode cX12_set 85 = .ok (.iload_n 2, 1) := by decide +kernel
theorem dX12_set_86 : decode cX12_set 86 = .ok (.iload_n 3, 1) := by decide +kernel
theorem dX12_set_87 : decode cX12_set 87 = .ok (.invokevirtual 264, 3) := by decide +kernel
theorem dX12_set_90 : decode cX12_set 90 = .ok (.istore 6, 2) := by decide +kernel
theorem dX12_set_92 : decode cX12_set 92 = .ok (.aload_n 0, 1) := by decide +kernel
theorem dX12_set_93 : decode cX12_set 93 = .ok (.getfield 234, 3) := by decide +kernel
theorem dX12_set_96 : decode cX12_set 96 = .ok (.ifCond .le 43, 3) := by decide +kernel
theorem dX12_set_99 : decode cX12_set 99 = .ok (.aload_n 0, 1) := by decide +kernel
theorem dX12_set_100 : decode cX12_set 100 = .ok (.iload_n 1, 1) := by decide +kernel
theorem dX12_set_101 : decode cX12_set 101 = .ok (.invokevirtual 267, 3) := by decide +kernel
theorem dX12_set_104 : decode cX12_set 104 = .ok (.ifCond .ne 8, 3) := by decide +kernel
theorem dX12_set_107 : decode cX12_set 107 = .ok (.aload_n 0, 1) := by decide +kernel
theorem dX12_set_108 : decode cX12_set 108 = .ok (.invokevirtual 270, 3) := by decide +kernel
theorem dX12_set_111 : decode cX12_set 111 = .ok (.ireturn, 1) := by decide +kernel
theorem dX12_set_112 : decode cX12_set 112 = .ok (.aload_n 0, 1) := by decide +kernel
theorem dX12_set_113 : decode cX12_set 113 = .ok (.iload_n 1, 1) := by decide +kernel
theorem dX12_set_114 : decode cX12_set 114 = .ok (.invokevirtual 273, 3) := by decide +kernel
theorem dX12_set_117 : decode cX12_set 117 = .ok (.ifCond .ne 10, 3) := by decide +kernel
theorem dX12_set_120 : decode cX12_set 120 = .ok (.aload_n 0, 1) := by decide +kernel
theorem dX12_set_121 : decode cX12_set 121 = .ok (.bipush 6, 2) := by decide +kernel
theorem dX12_set_123 : decode cX12_set 123 = .ok (.invokevirtual 154, 3) := by decide +kernel
theorem dX12_set_126 : decode cX12_set 126 = .ok (.ireturn, 1) := by decide +kernel
theorem dX12_set_127 : decode cX12_set 127 = .ok (.aload_n 0, 1) := by decide +kernel
theorem dX12_set_128 : decode cX12_set 128 = .ok (.iload 6, 2) := by decide +kernel
theorem dX12_set_130 : decode cX12_set 130 = .ok (.iload_n 3, 1) := by decide +kernel
theorem dX12_set_131 : decode cX12_set 131 = .ok (.invokevirtual 264, 3) := by decide +kernel
theorem dX12_set_134 : decode cX12_set 134 = .ok (.istore 6, 2) := by decide +kernel
theorem dX12_set_136 : decode cX12_set 136 = .ok (.goto (-44), 3) := by decide +kernel
theorem dX12_set_139 : decode cX12_set 139 = .ok (.iload 4, 2) := by decide +kernel
theorem dX12_set_141 : decode cX12_set 141 = .ok (.ifCond .eq 9, 3) := by decide +kernel
theorem dX12_set_144 : decode cX12_set 144 = .ok (.aload_n 0, 1) := by decide +kernel
theorem dX12_set_145 : decode cX12_set 145 = .ok (.iload 5, 2) := by decide +kernel
theorem dX12_set_147 : decode cX12_set 147 = .ok (.invokevirtual 276, 3) := by decide +kernel
theorem dX12_set_150 : decode cX12_set 150 = .ok (.iload_n 3, 1) := by decide +kernel
theorem dX12_set_151 : decode cX12_set 151 = .ok (.iconst 1, 1) := by decide +kernel
theorem dX12_set_152 : decode cX12_set 152 = .ok (.iadd, 1) := by decide +kernel
theorem dX12_set_153 : decode cX12_set 153 = .ok (.istore_n 2, 1) := by decide +kernel
theorem dX12_set_154 : decode cX12_set 154 = .ok (.goto (-133), 3) := by decide +kernel
theorem dX12_set_157 : decode cX12_set 157 = .ok (.aload_n 0, 1) := by decide +kernel
theorem dX12_set_158 : decode cX12_set 158 = .ok (.aload_n 0, 1) := by decide +kernel
theorem dX12_set_159 : decode cX12_set 159 = .ok (.getfield 246, 3) := by decide +kernel
theorem dX12_set_162 : decode cX12_set 162 = .ok (.putfield 279, 3) := by decide +kernel
theorem dX12_set_165 : decode cX12_set 165 = .ok (.iconst 0, 1) := by decide +kernel
theorem dX12_set_166 : decode cX12_set 166 = .ok (.istore_n 3, 1) := by decide +kernel
theorem dX12_set_167 : decode cX12_set 167 = .ok (.iload_n 3, 1) := by decide +kernel
theorem dX12_set_168 : decode cX12_set 168 = .ok (.aload_n 0, 1) := by decide +kernel
theorem dX12_set_169 : decode cX12_set 169 = .ok (.getfield 279, 3) := by decide +kernel
theorem dX12_set_172 : decode cX12_set 172 = .ok (.if_icmp .ge 67, 3) := by decide +kernel
theorem dX12_set_175 : decode cX12_set 175 = .ok (.aload_n 0, 1) := by decide +kernel
theorem dX12_set_176 : decode cX12_set 176 = .ok (.getfield 91, 3) := by decide +kernel
theorem dX12_set_179 : decode cX12_set 179 = .ok (.iload_n 3, 1) := by decide +kernel
theorem dX12_set_180 : decode cX12_set 180 = .ok (.aload_n 0, 1) := by decide +kernel
theorem dX12_set_181 : decode cX12_set 181 = .ok (.getfield 98, 3) := by decide +kernel
theorem dX12_set_184 : decode cX12_set 184 = .ok (.iload_n 3, 1) := by decide +kernel
theorem dX12_set_185 : decode cX12_set 185 = .ok (.iaload, 1) := by decide +kernel
theorem dX12_set_186 : decode cX12_set 186 = .ok (.iastore, 1) := by decide +kernel
theorem dX12_set_187 : decode cX12_set 187 = .ok (.iconst 0, 1) := by decide +kernel
theorem dX12_set_188 : decode cX12_set 188 = .ok (.istore 4, 2) := by decide +kernel
theorem dX12_set_190 : decode cX12_set 190 = .ok (.iload 4, 2) := by decide +kernel
theorem dX12_set_192 : decode cX12_set 192 = .ok (.aload_n 0, 1) := by decide +kernel
theorem dX12_set_193 : decode cX12_set 193 = .ok (.getfield 98, 3) := by decide +kernel
theorem dX12_set_196 : decode cX12_set 196 = .ok (.iload_n 3, 1) := by decide +kernel
theorem dX12_set_197 : decode cX12_set 197 = .ok (.iaload, 1) := by decide +kernel
theorem dX12_set_198 : decode cX12_set 198 = .ok (.if_icmp .ge 35, 3) := by decide +kernel
theorem dX12_set_201 : decode cX12_set 201 = .ok (.aload_n 0, 1) := by decide +kernel
theorem dX12_set_202 : decode cX12_set 202 = .ok (.getfield 95, 3) := by decide +kernel
theorem dX12_set_205 : decode cX12_set 205 = .ok (.sipush 200, 3) := by decide +kernel
theorem dX12_set_208 : decode cX12_set 208 = .ok (.iload_n 3, 1) := by decide +kernel
theorem dX12_set_209 : decode cX12_set 209 = .ok (.imul, 1) := by decide +kernel
theorem dX12_set_210 : decode cX12_set 210 = .ok (.iload 4, 2) := by decide +kernel
theorem dX12_set_212 : decode cX12_set 212 = .ok (.iadd, 1) := by decide +kernel
theorem dX12_set_213 : decode cX12_set 213 = .ok (.aload_n 0, 1) := by decide +kernel
theorem dX12_set_214 : decode cX12_set 214 = .ok (.getfield 101, 3) := by decide +kernel
theorem dX12_set_217 : decode cX12_set 217 = .ok (.sipush 200, 3) := by decide +kernel
theorem dX12_set_220 : decode cX12_set 220 = .ok (.iload_n 3, 1) := by decide +kernel
theorem dX12_set_221 : decode cX12_set 221 = .ok (.imul, 1) := by decide +kernel
theorem dX12_set_222 : decode cX12_set 222 = .ok (.iload 4, 2) := by decide +kernel
theorem dX12_set_224 : decode cX12_set 224 = .ok (.iadd, 1) := by decide +kernel
theorem dX12_set_225 : decode cX12_set 225 = .ok (.iaload, 1) := by decide +kernel
theorem dX12_set_226 : decode cX12_set 226 = .ok (.iastore, 1) := by decide +kernel
theorem dX12_set_227 : decode cX12_set 227 = .ok (.iinc 4 1, 3) := by decide +kernel
theorem dX12_set_230 : decode cX12_set 230 = .ok (.goto (-40), 3) := by decide +kernel
theorem dX12_set_233 : decode cX12_set 233 = .ok (.iinc 3 1, 3) := by decide +kernel
theorem dX12_set_236 : decode cX12_set 236 = .ok (.goto (-69), 3) := by decide +kernel
theorem dX12_set_239 : decode cX12_set 239 = .ok (.aload_n 0, 1) := by decide +kernel
theorem dX12_set_240 : decode cX12_set 240 = .ok (.aload_n 0, 1) := by decide +kernel
theorem dX12_set_241 : decode cX12_set 241 = .ok (.getfield 279, 3) := by decide +kernel
theorem dX12_set_244 : decode cX12_set 244 = .ok (.invokevirtual 158, 3) := by decide +kernel
theorem dX12_set_247 : decode cX12_set 247 = .ok (.ireturn, 1) := by decide +kernel
theorem dX12_head_0 : decode cX12_head 0 = .ok (.aload_n 0, 1) := by decide +kernel
theorem dX12_head_1 : decode cX12_head 1 = .ok (.invokevirtual 192, 3) := by decide +kernel
theorem dX12_head_4 : decode cX12_head 4 = .ok (.istore_n 2, 1) := by decide +kernel
theorem dX12_head_5 : decode cX12_head 5 = .ok (.iload_n 2, 1) := by decide +kernel
theorem dX12_head_6 : decode cX12_head 6 = .ok (.bipush 40, 2) := by decide +kernel
theorem dX12_head_8 : decode cX12_head 8 = .ok (.if_icmp .gt 7, 3) := by decide +kernel
theorem dX12_head_11 : decode cX12_head 11 = .ok (.iconst 1, 1) := by decide +kernel
theorem dX12_head_12 : decode cX12_head 12 = .ok (.goto 4, 3) := by decide +kernel
theorem dX12_head_15 : decode cX12_head 15 = .ok (.iconst 0, 1) := by decide +kernel
theorem dX12_head_16 : decode cX12_head 16 = .ok (.istore_n 3, 1) := by decide +kernel
theorem dX12_head_17 : decode cX12_head 17 = .ok (.iconst 0, 1) := by decide +kernel
theorem dX12_head_18 : decode cX12_head 18 = .ok (.istore 4, 2) := by decide +kernel
theorem dX12_head_20 : decode cX12_head 20 = .ok (.iload 4, 2) := by decide +kernel
theorem dX12_head_22 : decode cX12_head 22 = .ok (.iload_n 2, 1) := by decide +kernel
theorem dX12_head_23 : decode cX12_head 23 = .ok (.if_icmp .ge 24, 3) := by decide +kernel
theorem dX12_head_26 : decode cX12_head 26 = .ok (.iload_n 3, 1) := by decide +kernel
theorem dX12_head_27 : decode cX12_head 27 = .ok (.ifCond .eq 20, 3) := by decide +kernel
theorem dX12_head_30 : decode cX12_head 30 = .ok (.aload_n 0, 1) := by decide +kernel
theorem dX12_head_31 : decode cX12_head 31 = .ok (.getfield 13, 3) := by decide +kernel
theorem dX12_head_34 : decode cX12_head 34 = .ok (.iload 4, 2) := by decide +kernel
theorem dX12_head_36 : decode cX12_head 36 = .ok (.iaload, 1) := by decide +kernel
theorem dX12_head_37 : decode cX12_head 37 = .ok (.invokestatic 199, 3) := by decide +kernel
theorem dX12_head_40 : decode cX12_head 40 = .ok (.istore_n 3, 1) := by decide +kernel
theorem dX12_head_41 : decode cX12_head 41 = .ok (.iinc 4 1, 3) := by decide +kernel
theorem dX12_head_44 : decode cX12_head 44 = .ok (.goto (-24), 3) := by decide +kernel
theorem dX12_head_47 : decode cX12_head 47 = .ok (.iload_n 3, 1) := by decide +kernel
theorem dX12_head_48 : decode cX12_head 48 = .ok (.ifCond .ne 10, 3) := by decide +kernel
theorem dX12_head_51 : decode cX12_head 51 = .ok (.aload_n 0, 1) := by decide +kernel
theorem dX12_head_52 : decode cX12_head 52 = .ok (.bipush 6, 2) := by decide +kernel
theorem dX12_head_54 : decode cX12_head 54 = .ok (.invokevirtual 154, 3) := by decide +kernel
theorem dX12_head_57 : decode cX12_head 57 = .ok (.ireturn, 1) := by decide +kernel
theorem dX12_head_58 : decode cX12_head 58 = .ok (.aload_n 0, 1) := by decide +kernel
theorem dX12_head_59 : decode cX12_head 59 = .ok (.iload_n 1, 1) := by decide +kernel
theorem dX12_head_60 : decode cX12_head 60 = .ok (.invokevirtual 171, 3) := by decide +kernel
theorem dX12_head_63 : decode cX12_head 63 = .ok (.ifCond .ne 9, 3) := by decide +kernel
theorem dX12_head_66 : decode cX12_head 66 = .ok (.aload_n 0, 1) := by decide +kernel
theorem dX12_head_67 : decode cX12_head 67 = .ok (.iconst 3, 1) := by decide +kernel
theorem dX12_head_68 : decode cX12_head 68 = .ok (.invokevirtual 154, 3) := by decide +kernel
theorem dX12_head_71 : decode cX12_head 71 = .ok (.ireturn, 1) := by decide +kernel
theorem dX12_head_72 : decode cX12_head 72 = .ok (.aload_n 0, 1) := by decide +kernel
theorem dX12_head_73 : decode cX12_head 73 = .ok (.iload_n 2, 1) := by decide +kernel
theorem dX12_head_74 : decode cX12_head 74 = .ok (.putfield 234, 3) := by decide +kernel
theorem dX12_head_77 : decode cX12_head 77 = .ok (.iconst 0, 1) := by decide +kernel
theorem dX12_head_78 : decode cX12_head 78 = .ok (.istore 4, 2) := by decide +kernel
theorem dX12_head_80 : decode cX12_head 80 = .ok (.iload 4, 2) := by decide +kernel
theorem dX12_head_82 : decode cX12_head 82 = .ok (.iload_n 2, 1) := by decide +kernel
theorem dX12_head_83 : decode cX12_head 83 = .ok (.if_icmp .ge 32, 3) := by decide +kernel
theorem dX12_head_86 : decode cX12_head 86 = .ok (.aload_n 0, 1) := by decide +kernel
theorem dX12_head_87 : decode cX12_head 87 = .ok (.getfield 61, 3) := by decide +kernel
theorem dX12_head_90 : decode cX12_head 90 = .ok (.iload 4, 2) := by decide +kernel
theorem dX12_head_92 : decode cX12_head 92 = .ok (.aload_n 0, 1) := by decide +kernel
theorem dX12_head_93 : decode cX12_head 93 = .ok (.getfield 13, 3) := by decide +kernel
theorem dX12_head_96 : decode cX12_head 96 = .ok (.iload 4, 2) := by decide +kernel
theorem dX12_head_98 : decode cX12_head 98 = .ok (.iaload, 1) := by decide +kernel
theorem dX12_head_99 : decode cX12_head 99 = .ok (.iastore, 1) := by decide +kernel
theorem dX12_head_100 : decode cX12_head 100 = .ok (.aload_n 0, 1) := by decide +kernel
theorem dX12_head_101 : decode cX12_head 101 = .ok (.getfield 64, 3) := by decide +kernel
theorem dX12_head_104 : decode cX12_head 104 = .ok (.iload 4, 2) := by decide +kernel
theorem dX12_head_106 : decode cX12_head 106 = .ok (.iload 4, 2) := by decide +kernel
theorem dX12_head_108 : decode cX12_head 108 = .ok (.iastore, 1) := by decide +kernel
theorem dX12_head_109 : decode cX12_head 109 = .ok (.iinc 4 1, 3) := by decide +kernel
theorem dX12_head_112 : decode cX12_head 112 = .ok (.goto (-32), 3) := by decide +kernel
theorem dX12_head_115 : decode cX12_head 115 = .ok (.iload_n 2, 1) := by decide +kernel
theorem dX12_head_116 : decode cX12_head 116 = .ok (.ifCond .ne 11, 3) := by decide +kernel
theorem dX12_head_119 : decode cX12_head 119 = .ok (.aload_n 0, 1) := by decide +kernel
theorem dX12_head_120 : decode cX12_head 120 = .ok (.iconst 0, 1) := by decide +kernel
theorem dX12_head_121 : decode cX12_head 121 = .ok (.putfield 224, 3) := by decide +kernel
theorem dX12_head_124 : decode cX12_head 124 = .ok (.goto 16, 3) := by decide +kernel
theorem dX12_head_127 : decode cX12_head 127 = .ok (.aload_n 0, 1) := by decide +kernel
theorem dX12_head_128 : decode cX12_head 128 = .ok (.iload_n 1, 1) := by decide +kernel
theorem dX12_head_129 : decode cX12_head 129 = .ok (.invokevirtual 267, 3) := by decide +kernel
theorem dX12_head_132 : decode cX12_head 132 = .ok (.ifCond .ne 8, 3) := by decide +kernel
theorem dX12_head_135 : decode cX12_head 135 = .ok (.aload_n 0, 1) := by decide +kernel
theorem dX12_head_136 : decode cX12_head 136 = .ok (.invokevirtual 270, 3) := by decide +kernel
theorem dX12_head_139 : decode cX12_head 139 = .ok (.ireturn, 1) := by decide +kernel
theorem dX12_head_140 : decode cX12_head 140 = .ok (.aload_n 0, 1) := by decide +kernel
theorem dX12_head_141 : decode cX12_head 141 = .ok (.aload_n 0, 1) := by decide +kernel
theorem dX12_head_142 : decode cX12_head 142 = .ok (.getfield 224, 3) := by decide +kernel
theorem dX12_head_145 : decode cX12_head 145 = .ok (.aload_n 0, 1) := by decide +kernel
theorem dX12_head_146 : decode cX12_head 146 = .ok (.getfield 82, 3) := by decide +kernel
theorem dX12_head_149 : decode cX12_head 149 = .ok (.invokestatic 282, 3) := by decide +kernel
theorem dX12_head_152 : decode cX12_head 152 = .ok (.putfield 285, 3) := by decide +kernel
theorem dX12_head_155 : decode cX12_head 155 = .ok (.iconst 0, 1) := by decide +kernel
theorem dX12_head_156 : decode cX12_head 156 = .ok (.istore 4, 2) := by decide +kernel
theorem dX12_head_158 : decode cX12_head 158 = .ok (.iload 4, 2) := by decide +kernel
theorem dX12_head_160 : decode cX12_head 160 = .ok (.aload_n 0, 1) := by decide +kernel
theorem dX12_head_161 : decode cX12_head 161 = .ok (.getfield 285, 3) := by decide +kernel
theorem dX12_head_164 : decode cX12_head 164 = .ok (.if_icmp .ge 23, 3) := by decide +kernel
theorem dX12_head_167 : decode cX12_head 167 = .ok (.aload_n 0, 1) := by decide +kernel
theorem dX12_head_168 : decode cX12_head 168 = .ok (.getfield 104, 3) := by decide +kernel
theorem dX12_head_171 : decode cX12_head 171 = .ok (.iload 4, 2) := by decide +kernel
theorem dX12_head_173 : decode cX12_head 173 = .ok (.aload_n 0, 1) := by decide +kernel
theorem dX12_head_174 : decode cX12_head 174 = .ok (.getfield 70, 3) := by decide +kernel
theorem dX12_head_177 : decode cX12_head 177 = .ok (.iload 4, 2) := by decide +kernel
theorem dX12_head_179 : decode cX12_head 179 = .ok (.iaload, 1) := by decide +kernel
theorem dX12_head_180 : decode cX12_head 180 = .ok (.iastore, 1) := by decide +kernel
theorem dX12_head_181 : decode cX12_head 181 = .ok (.iinc 4 1, 3) := by decide +kernel
theorem dX12_head_184 : decode cX12_head 184 = .ok (.goto (-26), 3) := by decide +kernel
theorem dX12_head_187 : decode cX12_head 187 = .ok (.aload_n 0, 1) := by decide +kernel
theorem dX12_head_188 : decode cX12_head 188 = .ok (.aload_n 0, 1) := by decide +kernel
theorem dX12_head_189 : decode cX12_head 189 = .ok (.getfield 285, 3) := by decide +kernel
theorem dX12_head_192 : decode cX12_head 192 = .ok (.invokevirtual 158, 3) := by decide +kernel
theorem dX12_head_195 : decode cX12_head 195 = .ok (.ireturn, 1) := by decide +kernel
theorem dX12_lines_0 : decode cX12_lines 0 = .ok (.aload_n 0, 1) := by decide +kernel
theorem dX12_lines_1 : decode cX12_lines 1 = .ok (.getfield 279, 3) := by decide +kernel
theorem dX12_lines_4 : decode cX12_lines 4 = .ok (.ireturn, 1) := by decide +kernel
theorem dX12_hasHead_0 : decode cX12_hasHead 0 = .ok (.aload_n 0, 1) := by decide +kernel
theorem dX12_hasHead_1 : decode cX12_hasHead 1 = .ok (.getfield 285, 3) := by decide +kernel
theorem dX12_hasHead_4 : decode cX12_hasHead 4 = .ok (.ifCond .le 15, 3) := by decide +kernel
theorem dX12_hasHead_7 : decode cX12_hasHead 7 = .ok (.aload_n 0, 1) := by decide +kernel
theorem dX12_hasHead_8 : decode cX12_hasHead 8 = .ok (.getfield 85, 3) := by decide +kernel
theorem dX12_hasHead_11 : decode cX12_hasHead 11 = .ok (.iconst 2, 1) := by decide +kernel
theorem dX12_hasHead_12 : decode cX12_hasHead 12 = .ok (.if_icmp .lt 7, 3) := by decide +kernel
theorem dX12_hasHead_15 : decode cX12_hasHead 15 = .ok (.iconst 1, 1) := by decide +kernel
theorem dX12_hasHead_16 : decode cX12_hasHead 16 = .ok (.goto 4, 3) := by decide +kernel
theorem dX12_hasHead_19 : decode cX12_hasHead 19 = .ok (.iconst 0, 1) := by decide +kernel
theorem dX12_hasHead_20 : decode cX12_hasHead 20 = .ok (.ireturn, 1) := by decide +kernel
theorem dX12_onPage_0 : decode cX12_onPage 0 = .ok (.aload_n 0, 1) := by decide +kernel
theorem dX12_onPage_1 : decode cX12_onPage 1 = .ok (.invokevirtual 288, 3) := by decide +kernel
theorem dX12_onPage_4 : decode cX12_onPage 4 = .ok (.ifCond .eq 12, 3) := by decide +kernel
theorem dX12_onPage_7 : decode cX12_onPage 7 = .ok (.aload_n 0, 1) := by decide +kernel
theorem dX12_onPage_8 : decode cX12_onPage 8 = .ok (.getfield 85, 3) := by decide +kernel
theorem dX12_onPage_11 : decode cX12_onPage 11 = .ok (.iconst 1, 1) := by decide +kernel
theorem dX12_onPage_12 : decode cX12_onPage 12 = .ok (.isub, 1) := by decide +kernel
theorem dX12_onPage_13 : decode cX12_onPage 13 = .ok (.goto 7, 3) := by decide +kernel
theorem dX12_onPage_16 : decode cX12_onPage 16 = .ok (.aload_n 0, 1) := by decide +kernel
theorem dX12_onPage_17 : decode cX12_onPage 17 = .ok (.getfield 85, 3) := by decide +kernel
theorem dX12_onPage_20 : decode cX12_onPage 20 = .ok (.ireturn, 1) := by decide +kernel
theorem dX12_pages_0 : decode cX12_pages 0 = .ok (.aload_n 0, 1) := by decide +kernel
theorem dX12_pages_1 : decode cX12_pages 1 = .ok (.getfield 279, 3) := by decide +kernel
theorem dX12_pages_4 : decode cX12_pages 4 = .ok (.aload_n 0, 1) := by decide +kernel
theorem dX12_pages_5 : decode cX12_pages 5 = .ok (.invokevirtual 291, 3) := by decide +kernel
theorem dX12_pages_8 : decode cX12_pages 8 = .ok (.iadd, 1) := by decide +kernel
theorem dX12_pages_9 : decode cX12_pages 9 = .ok (.iconst 1, 1) := by decide +kernel
theorem dX12_pages_10 : decode cX12_pages 10 = .ok (.isub, 1) := by decide +kernel
theorem dX12_pages_11 : decode cX12_pages 11 = .ok (.aload_n 0, 1) := by decide +kernel
theorem dX12_pages_12 : decode cX12_pages 12 = .ok (.invokevirtual 291, 3) := by decide +kernel
theorem dX12_pages_15 : decode cX12_pages 15 = .ok (.idiv, 1) := by decide +kernel
theorem dX12_pages_16 : decode cX12_pages 16 = .ok (.ireturn, 1) := by decide +kernel
theorem dX12_lineFault_0 : decode cX12_lineFault 0 = .ok (.iload_n 1, 1) := by decide +kernel
theorem dX12_lineFault_1 : decode cX12_lineFault 1 = .ok (.iconst 0, 1) := by decide +kernel
theorem dX12_lineFault_2 : decode cX12_lineFault 2 = .ok (.aload_n 0, 1) := by decide +kernel
theorem dX12_lineFault_3 : decode cX12_lineFault 3 = .ok (.getfield 279, 3) := by decide +kernel
theorem dX12_lineFault_6 : decode cX12_lineFault 6 = .ok (.iconst 1, 1) := by decide +kernel
theorem dX12_lineFault_7 : decode cX12_lineFault 7 = .ok (.isub, 1) := by decide +kernel
theorem dX12_lineFault_8 : decode cX12_lineFault 8 = .ok (.invokestatic 174, 3) := by decide +kernel
theorem dX12_lineFault_11 : decode cX12_lineFault 11 = .ok (.ifCond .ne 7, 3) := by decide +kernel
theorem dX12_lineFault_14 : decode cX12_lineFault 14 = .ok (.iconst 2, 1) := by decide +kernel
theorem dX12_lineFault_15 : decode cX12_lineFault 15 = .ok (.goto 17, 3) := by decide +kernel
theorem dX12_lineFault_18 : decode cX12_lineFault 18 = .ok (.aload_n 0, 1) := by decide +kernel
theorem dX12_lineFault_19 : decode cX12_lineFault 19 = .ok (.getfield 91, 3) := by decide +kernel
theorem dX12_lineFault_22 : decode cX12_lineFault 22 = .ok (.iload_n 1, 1) := by decide +kernel
theorem dX12_lineFault_23 : decode cX12_lineFault 23 = .ok (.iaload, 1) := by decide +kernel
theorem dX12_lineFault_24 : decode cX12_lineFault 24 = .ok (.ifCond .ge 7, 3) := by decide +kernel
theorem dX12_lineFault_27 : decode cX12_lineFault 27 = .ok (.iconst 1, 1) := by decide +kernel
theorem dX12_lineFault_28 : decode cX12_lineFault 28 = .ok (.goto 4, 3) := by decide +kernel
theorem dX12_lineFault_31 : decode cX12_lineFault 31 = .ok (.iconst 0, 1) := by decide +kernel
theorem dX12_lineFault_32 : decode cX12_lineFault 32 = .ok (.ireturn, 1) := by decide +kernel
theorem dX12_length_0 : decode cX12_length 0 = .ok (.aload_n 0, 1) := by decide +kernel
theorem dX12_length_1 : decode cX12_length 1 = .ok (.iload_n 1, 1) := by decide +kernel
theorem dX12_length_2 : decode cX12_length 2 = .ok (.invokevirtual 294, 3) := by decide +kernel
theorem dX12_length_5 : decode cX12_length 5 = .ok (.ifCond .le 15, 3) := by decide +kernel
theorem dX12_length_8 : decode cX12_length 8 = .ok (.aload_n 0, 1) := by decide +kernel
theorem dX12_length_9 : decode cX12_length 9 = .ok (.aload_n 0, 1) := by decide +kernel
theorem dX12_length_10 : decode cX12_length 10 = .ok (.iload_n 1, 1) := by decide +kernel
theorem dX12_length_11 : decode cX12_length 11 = .ok (.invokevirtual 294, 3) := by decide +kernel
theorem dX12_length_14 : decode cX12_length 14 = .ok (.invokevirtual 154, 3) := by decide +kernel
theorem dX12_length_17 : decode cX12_length 17 = .ok (.goto 13, 3) := by decide +kernel
theorem dX12_length_20 : decode cX12_length 20 = .ok (.aload_n 0, 1) := by decide +kernel
theorem dX12_length_21 : decode cX12_length 21 = .ok (.aload_n 0, 1) := by decide +kernel
theorem dX12_length_22 : decode cX12_length 22 = .ok (.getfield 91, 3) := by decide +kernel
theorem dX12_length_25 : decode cX12_length 25 = .ok (.iload_n 1, 1) := by decide +kernel
theorem dX12_length_26 : decode cX12_length 26 = .ok (.iaload, 1) := by decide +kernel
theorem dX12_length_27 : decode cX12_length 27 = .ok (.invokevirtual 158, 3) := by decide +kernel
theorem dX12_length_30 : decode cX12_length 30 = .ok (.ireturn, 1) := by decide +kernel
theorem dX12_cell_0 : decode cX12_cell 0 = .ok (.aload_n 0, 1) := by decide +kernel
theorem dX12_cell_1 : decode cX12_cell 1 = .ok (.iload_n 1, 1) := by decide +kernel
theorem dX12_cell_2 : decode cX12_cell 2 = .ok (.invokevirtual 294, 3) := by decide +kernel
theorem dX12_cell_5 : decode cX12_cell 5 = .ok (.ifCond .le 13, 3) := by decide +kernel
theorem dX12_cell_8 : decode cX12_cell 8 = .ok (.aload_n 0, 1) := by decide +kernel
theorem dX12_cell_9 : decode cX12_cell 9 = .ok (.aload_n 0, 1) := by decide +kernel
theorem dX12_cell_10 : decode cX12_cell 10 = .ok (.iload_n 1, 1) := by decide +kernel
theorem dX12_cell_11 : decode cX12_cell 11 = .ok (.invokevirtual 294, 3) := by decide +kernel
theorem dX12_cell_14 : decode cX12_cell 14 = .ok (.invokevirtual 154, 3) := by decide +kernel
theorem dX12_cell_17 : decode cX12_cell 17 = .ok (.ireturn, 1) := by decide +kernel
theorem dX12_cell_18 : decode cX12_cell 18 = .ok (.iload_n 2, 1) := by decide +kernel
theorem dX12_cell_19 : decode cX12_cell 19 = .ok (.iconst 0, 1) := by decide +kernel
theorem dX12_cell_20 : decode cX12_cell 20 = .ok (.aload_n 0, 1) := by decide +kernel
theorem dX12_cell_21 : decode cX12_cell 21 = .ok (.getfield 91, 3) := by decide +kernel
theorem dX12_cell_24 : decode cX12_cell 24 = .ok (.iload_n 1, 1) := by decide +kernel
theorem dX12_cell_25 : decode cX12_cell 25 = .ok (.iaload, 1) := by decide +kernel
theorem dX12_cell_26 : decode cX12_cell 26 = .ok (.iconst 1, 1) := by decide +kernel
theorem dX12_cell_27 : decode cX12_cell 27 = .ok (.isub, 1) := by decide +kernel
theorem dX12_cell_28 : decode cX12_cell 28 = .ok (.invokestatic 174, 3) := by decide +kernel
theorem dX12_cell_31 : decode cX12_cell 31 = .ok (.ifCond .eq 22, 3) := by decide +kernel
theorem dX12_cell_34 : decode cX12_cell 34 = .ok (.aload_n 0, 1) := by decide +kernel
theorem dX12_cell_35 : decode cX12_cell 35 = .ok (.aload_n 0, 1) := by decide +kernel
theorem dX12_cell_36 : decode cX12_cell 36 = .ok (.getfield 95, 3) := by decide +kernel
theorem dX12_cell_39 : decode cX12_cell 39 = .ok (.sipush 200, 3) := by decide +kernel
theorem dX12_cell_42 : decode cX12_cell 42 = .ok (.iload_n 1, 1) := by decide +kernel
theorem dX12_cell_43 : decode cX12_cell 43 = .ok (.imul, 1) := by decide +kernel
theorem dX12_cell_44 : decode cX12_cell 44 = .ok (.iload_n 2, 1) := by decide +kernel
theorem dX12_cell_45 : decode cX12_cell 45 = .ok (.iadd, 1) := by decide +kernel
theorem dX12_cell_46 : decode cX12_cell 46 = .ok (.iaload, 1) := by decide +kernel
theorem dX12_cell_47 : decode cX12_cell 47 = .ok (.invokevirtual 158, 3) := by decide +kernel
theorem dX12_cell_50 : decode cX12_cell 50 = .ok (.goto 8, 3) := by decide +kernel
theorem dX12_cell_53 : decode cX12_cell 53 = .ok (.aload_n 0, 1) := by decide +kernel
theorem dX12_cell_54 : decode cX12_cell 54 = .ok (.iconst 2, 1) := by decide +kernel
theorem dX12_cell_55 : decode cX12_cell 55 = .ok (.invokevirtual 154, 3) := by decide +kernel
theorem dX12_cell_58 : decode cX12_cell 58 = .ok (.ireturn, 1) := by decide +kernel
theorem dX12_page_0 : decode cX12_page 0 = .ok (.iload_n 1, 1) := by decide +kernel
theorem dX12_page_1 : decode cX12_page 1 = .ok (.iconst 0, 1) := by decide +kernel
theorem dX12_page_2 : decode cX12_page 2 = .ok (.aload_n 0, 1) := by decide +kernel
theorem dX12_page_3 : decode cX12_page 3 = .ok (.invokevirtual 297, 3) := by decide +kernel
theorem dX12_page_6 : decode cX12_page 6 = .ok (.iconst 1, 1) := by decide +kernel
theorem dX12_page_7 : decode cX12_page 7 = .ok (.isub, 1) := by decide +kernel
theorem dX12_page_8 : decode cX12_page 8 = .ok (.invokestatic 174, 3) := by decide +kernel
theorem dX12_page_11 : decode cX12_page 11 = .ok (.ifCond .ne 9, 3) := by decide +kernel
theorem dX12_page_14 : decode cX12_page 14 = .ok (.aload_n 0, 1) := by decide +kernel
theorem dX12_page_15 : decode cX12_page 15 = .ok (.iconst 2, 1) := by decide +kernel
theorem dX12_page_16 : decode cX12_page 16 = .ok (.invokevirtual 154, 3) := by decide +kernel
theorem dX12_page_19 : decode cX12_page 19 = .ok (.ireturn, 1) := by decide +kernel
theorem dX12_page_20 : decode cX12_page 20 = .ok (.aload_n 0, 1) := by decide +kernel
theorem dX12_page_21 : decode cX12_page 21 = .ok (.invokevirtual 288, 3) := by decide +kernel
theorem dX12_page_24 : decode cX12_page 24 = .ok (.ifCond .eq 40, 3) := by decide +kernel
theorem dX12_page_27 : decode cX12_page 27 = .ok (.iload_n 2, 1) := by decide +kernel
theorem dX12_page_28 : decode cX12_page 28 = .ok (.ifCond .ne 36, 3) := by decide +kernel
theorem dX12_page_31 : decode cX12_page 31 = .ok (.iload_n 3, 1) := by decide +kernel
theorem dX12_page_32 : decode cX12_page 32 = .ok (.iconst 0, 1) := by decide +kernel
theorem dX12_page_33 : decode cX12_page 33 = .ok (.aload_n 0, 1) := by decide +kernel
theorem dX12_page_34 : decode cX12_page 34 = .ok (.getfield 285, 3) := by decide +kernel
theorem dX12_page_37 : decode cX12_page 37 = .ok (.iconst 1, 1) := by decide +kernel
theorem dX12_page_38 : decode cX12_page 38 = .ok (.isub, 1) := by decide +kernel
theorem dX12_page_39 : decode cX12_page 39 = .ok (.invokestatic 174, 3) := by decide +kernel
theorem dX12_page_42 : decode cX12_page 42 = .ok (.ifCond .eq 16, 3) := by decide +kernel
theorem dX12_page_45 : decode cX12_page 45 = .ok (.aload_n 0, 1) := by decide +kernel
theorem dX12_page_46 : decode cX12_page 46 = .ok (.aload_n 0, 1) := by decide +kernel
theorem dX12_page_47 : decode cX12_page 47 = .ok (.getfield 104, 3) := by decide +kernel
theorem dX12_page_50 : decode cX12_page 50 = .ok (.iload_n 3, 1) := by decide +kernel
theorem dX12_page_51 : decode cX12_page 51 = .ok (.iaload, 1) := by decide +kernel
theorem dX12_page_52 : decode cX12_page 52 = .ok (.invokevirtual 158, 3) := by decide +kernel
theorem dX12_page_55 : decode cX12_page 55 = .ok (.goto 8, 3) := by decide +kernel
theorem dX12_page_58 : decode cX12_page 58 = .ok (.aload_n 0, 1) := by decide +kernel
theorem dX12_page_59 : decode cX12_page 59 = .ok (.iconst 2, 1) := by decide +kernel
theorem dX12_page_60 : decode cX12_page 60 = .ok (.invokevirtual 154, 3) := by decide +kernel
theorem dX12_page_63 : decode cX12_page 63 = .ok (.ireturn, 1) := by decide +kernel
theorem dX12_page_64 : decode cX12_page 64 = .ok (.aload_n 0, 1) := by decide +kernel
theorem dX12_page_65 : decode cX12_page 65 = .ok (.invokevirtual 288, 3) := by decide +kernel
theorem dX12_page_68 : decode cX12_page 68 = .ok (.ifCond .eq 9, 3) := by decide +kernel
theorem dX12_page_71 : decode cX12_page 71 = .ok (.iload_n 2, 1) := by decide +kernel
theorem dX12_page_72 : decode cX12_page 72 = .ok (.iconst 1, 1) := by decide +kernel
theorem dX12_page_73 : decode cX12_page 73 = .ok (.isub, 1) := by decide +kernel
theorem dX12_page_74 : decode cX12_page 74 = .ok (.goto 4, 3) := by decide +kernel
theorem dX12_page_77 : decode cX12_page 77 = .ok (.iload_n 2, 1) := by decide +kernel
theorem dX12_page_78 : decode cX12_page 78 = .ok (.istore 4, 2) := by decide +kernel
theorem dX12_page_80 : decode cX12_page 80 = .ok (.iload 4, 2) := by decide +kernel
theorem dX12_page_82 : decode cX12_page 82 = .ok (.iconst 0, 1) := by decide +kernel
theorem dX12_page_83 : decode cX12_page 83 = .ok (.aload_n 0, 1) := by decide +kernel
theorem dX12_page_84 : decode cX12_page 84 = .ok (.invokevirtual 291, 3) := by decide +kernel
theorem dX12_page_87 : decode cX12_page 87 = .ok (.iconst 1, 1) := by decide +kernel
theorem dX12_page_88 : decode cX12_page 88 = .ok (.isub, 1) := by decide +kernel
theorem dX12_page_89 : decode cX12_page 89 = .ok (.invokestatic 174, 3) := by decide +kernel
theorem dX12_page_92 : decode cX12_page 92 = .ok (.ifCond .ne 9, 3) := by decide +kernel
theorem dX12_page_95 : decode cX12_page 95 = .ok (.aload_n 0, 1) := by decide +kernel
theorem dX12_page_96 : decode cX12_page 96 = .ok (.iconst 2, 1) := by decide +kernel
theorem dX12_page_97 : decode cX12_page 97 = .ok (.invokevirtual 154, 3) := by decide +kernel
theorem dX12_page_100 : decode cX12_page 100 = .ok (.ireturn, 1) := by decide +kernel
theorem dX12_page_101 : decode cX12_page 101 = .ok (.aload_n 0, 1) := by decide +kernel
theorem dX12_page_102 : decode cX12_page 102 = .ok (.iload_n 1, 1) := by decide +kernel
theorem dX12_page_103 : decode cX12_page 103 = .ok (.aload_n 0, 1) := by decide +kernel
theorem dX12_page_104 : decode cX12_page 104 = .ok (.invokevirtual 291, 3) := by decide +kernel
theorem dX12_page_107 : decode cX12_page 107 = .ok (.imul, 1) := by decide +kernel
theorem dX12_page_108 : decode cX12_page 108 = .ok (.iload 4, 2) := by decide +kernel
theorem dX12_page_110 : decode cX12_page 110 = .ok (.iadd, 1) := by decide +kernel
theorem dX12_page_111 : decode cX12_page 111 = .ok (.iload_n 3, 1) := by decide +kernel
theorem dX12_page_112 : decode cX12_page 112 = .ok (.invokevirtual 300, 3) := by decide +kernel
theorem dX12_page_115 : decode cX12_page 115 = .ok (.ireturn, 1) := by decide +kernel
theorem dX12_cut_0 : decode cX12_cut 0 = .ok (.iload_n 2, 1) := by decide +kernel
theorem dX12_cut_1 : decode cX12_cut 1 = .ok (.sipush 200, 3) := by decide +kernel
theorem dX12_cut_4 : decode cX12_cut 4 = .ok (.if_icmp .le 10, 3) := by decide +kernel
theorem dX12_cut_7 : decode cX12_cut 7 = .ok (.aload_n 0, 1) := by decide +kernel
theorem dX12_cut_8 : decode cX12_cut 8 = .ok (.bipush 6, 2) := by decide +kernel
theorem dX12_cut_10 : decode cX12_cut 10 = .ok (.invokevirtual 154, 3) := by decide +kernel
theorem dX12_cut_13 : decode cX12_cut 13 = .ok (.ireturn, 1) := by decide +kernel
theorem dX12_cut_14 : decode cX12_cut 14 = .ok (.iload_n 2, 1) := by decide +kernel
theorem dX12_cut_15 : decode cX12_cut 15 = .ok (.ifCond .ge 9, 3) := by decide +kernel
theorem dX12_cut_18 : decode cX12_cut 18 = .ok (.aload_n 0, 1) := by decide +kernel
theorem dX12_cut_19 : decode cX12_cut 19 = .ok (.iconst 5, 1) := by decide +kernel
theorem dX12_cut_20 : decode cX12_cut 20 = .ok (.invokevirtual 154, 3) := by decide +kernel
theorem dX12_cut_23 : decode cX12_cut 23 = .ok (.ireturn, 1) := by decide +kernel
theorem dX12_cut_24 : decode cX12_cut 24 = .ok (.aload_n 0, 1) := by decide +kernel
theorem dX12_cut_25 : decode cX12_cut 25 = .ok (.iload_n 1, 1) := by decide +kernel
theorem dX12_cut_26 : decode cX12_cut 26 = .ok (.invokevirtual 294, 3) := by decide +kernel
theorem dX12_cut_29 : decode cX12_cut 29 = .ok (.ifCond .le 13, 3) := by decide +kernel
theorem dX12_cut_32 : decode cX12_cut 32 = .ok (.aload_n 0, 1) := by decide +kernel
theorem dX12_cut_33 : decode cX12_cut 33 = .ok (.aload_n 0, 1) := by decide +kernel
theorem dX12_cut_34 : decode cX12_cut 34 = .ok (.iload_n 1, 1) := by decide +kernel
theorem dX12_cut_35 : decode cX12_cut 35 = .ok (.invokevirtual 294, 3) := by decide +kernel
theorem dX12_cut_38 : decode cX12_cut 38 = .ok (.invokevirtual 154, 3) := by decide +kernel
theorem dX12_cut_41 : decode cX12_cut 41 = .ok (.ireturn, 1) := by decide +kernel
theorem dX12_cut_42 : decode cX12_cut 42 = .ok (.aload_n 0, 1) := by decide +kernel
theorem dX12_cut_43 : decode cX12_cut 43 = .ok (.getfield 91, 3) := by decide +kernel
theorem dX12_cut_46 : decode cX12_cut 46 = .ok (.iload_n 1, 1) := by decide +kernel
theorem dX12_cut_47 : decode cX12_cut 47 = .ok (.iaload, 1) := by decide +kernel
theorem dX12_cut_48 : decode cX12_cut 48 = .ok (.istore_n 3, 1) := by decide +kernel
theorem dX12_cut_49 : decode cX12_cut 49 = .ok (.iload_n 3, 1) := by decide +kernel
theorem dX12_cut_50 : decode cX12_cut 50 = .ok (.iload_n 2, 1) := by decide +kernel
theorem dX12_cut_51 : decode cX12_cut 51 = .ok (.if_icmp .ge 22, 3) := by decide +kernel
theorem dX12_cut_54 : decode cX12_cut 54 = .ok (.aload_n 0, 1) := by decide +kernel
theorem dX12_cut_55 : decode cX12_cut 55 = .ok (.getfield 95, 3) := by decide +kernel
theorem dX12_cut_58 : decode cX12_cut 58 = .ok (.sipush 200, 3) := by decide +kernel
theorem dX12_cut_61 : decode cX12_cut 61 = .ok (.iload_n 1, 1) := by decide +kernel
theorem dX12_cut_62 : decode cX12_cut 62 = .ok (.imul, 1) := by decide +kernel
theorem dX12_cut_63 : decode cX12_cut 63 = .ok (.iload_n 3, 1) := by decide +kernel
theorem dX12_cut_64 : decode cX12_cut 64 = .ok (.iadd, 1) := by decide +kernel
theorem dX12_cut_65 : decode cX12_cut 65 = .ok (.iconst 0, 1) := by decide +kernel
theorem dX12_cut_66 : decode cX12_cut 66 = .ok (.iastore, 1) := by decide +kernel
theorem dX12_cut_67 : decode cX12_cut 67 = .ok (.iinc 3 1, 3) := by decide +kernel
theorem dX12_cut_70 : decode cX12_cut 70 = .ok (.goto (-21), 3) := by decide +kernel
theorem dX12_cut_73 : decode cX12_cut 73 = .ok (.aload_n 0, 1) := by decide +kernel
theorem dX12_cut_74 : decode cX12_cut 74 = .ok (.getfield 91, 3) := by decide +kernel
theorem dX12_cut_77 : decode cX12_cut 77 = .ok (.iload_n 1, 1) := by decide +kernel
theorem dX12_cut_78 : decode cX12_cut 78 = .ok (.iload_n 2, 1) := by decide +kernel
theorem dX12_cut_79 : decode cX12_cut 79 = .ok (.iastore, 1) := by decide +kernel
theorem dX12_cut_80 : decode cX12_cut 80 = .ok (.aload_n 0, 1) := by decide +kernel
theorem dX12_cut_81 : decode cX12_cut 81 = .ok (.iload_n 2, 1) := by decide +kernel
theorem dX12_cut_82 : decode cX12_cut 82 = .ok (.invokevirtual 158, 3) := by decide +kernel
theorem dX12_cut_85 : decode cX12_cut 85 = .ok (.ireturn, 1) := by decide +kernel
theorem dX12_lose_0 : decode cX12_lose 0 = .ok (.iload_n 1, 1) := by decide +kernel
theorem dX12_lose_1 : decode cX12_lose 1 = .ok (.iconst 0, 1) := by decide +kernel
theorem dX12_lose_2 : decode cX12_lose 2 = .ok (.aload_n 0, 1) := by decide +kernel
theorem dX12_lose_3 : decode cX12_lose 3 = .ok (.getfield 279, 3) := by decide +kernel
theorem dX12_lose_6 : decode cX12_lose 6 = .ok (.iconst 1, 1) := by decide +kernel
theorem dX12_lose_7 : decode cX12_lose 7 = .ok (.isub, 1) := by decide +kernel
theorem dX12_lose_8 : decode cX12_lose 8 = .ok (.invokestatic 174, 3) := by decide +kernel
theorem dX12_lose_11 : decode cX12_lose 11 = .ok (.ifCond .ne 9, 3) := by decide +kernel
theorem dX12_lose_14 : decode cX12_lose 14 = .ok (.aload_n 0, 1) := by decide +kernel
theorem dX12_lose_15 : decode cX12_lose 15 = .ok (.iconst 2, 1) := by decide +kernel
theorem dX12_lose_16 : decode cX12_lose 16 = .ok (.invokevirtual 154, 3) := by decide +kernel
theorem dX12_lose_19 : decode cX12_lose 19 = .ok (.ireturn, 1) := by decide +kernel
theorem dX12_lose_20 : decode cX12_lose 20 = .ok (.aload_n 0, 1) := by decide +kernel
theorem dX12_lose_21 : decode cX12_lose 21 = .ok (.getfield 91, 3) := by decide +kernel
theorem dX12_lose_24 : decode cX12_lose 24 = .ok (.iload_n 1, 1) := by decide +kernel
theorem dX12_lose_25 : decode cX12_lose 25 = .ok (.iconst (-1), 1) := by decide +kernel
theorem dX12_lose_26 : decode cX12_lose 26 = .ok (.iastore, 1) := by decide +kernel
theorem dX12_lose_27 : decode cX12_lose 27 = .ok (.aload_n 0, 1) := by decide +kernel
theorem dX12_lose_28 : decode cX12_lose 28 = .ok (.iconst 1, 1) := by decide +kernel
theorem dX12_lose_29 : decode cX12_lose 29 = .ok (.invokevirtual 158, 3) := by decide +kernel
theorem dX12_lose_32 : decode cX12_lose 32 = .ok (.ireturn, 1) := by decide +kernel
theorem dX12_copyRow_0 : decode cX12_copyRow 0 = .ok (.iload_n 1, 1) := by decide +kernel
theorem dX12_copyRow_1 : decode cX12_copyRow 1 = .ok (.iconst 0, 1) := by decide +kernel
theorem dX12_copyRow_2 : decode cX12_copyRow 2 = .ok (.aload_n 0, 1) := by decide +kernel
theorem dX12_copyRow_3 : decode cX12_copyRow 3 = .ok (.getfield 279, 3) := by decide +kernel
theorem dX12_copyRow_6 : decode cX12_copyRow 6 = .ok (.iconst 1, 1) := by decide +kernel
theorem dX12_copyRow_7 : decode cX12_copyRow 7 = .ok (.isub, 1) := by decide +kernel
theorem dX12_copyRow_8 : decode cX12_copyRow 8 = .ok (.invokestatic 174, 3) := by decide +kernel
theorem dX12_copyRow_11 : decode cX12_copyRow 11 = .ok (.ifCond .eq 17, 3) := by decide +kernel
theorem dX12_copyRow_14 : decode cX12_copyRow 14 = .ok (.iload_n 3, 1) := by decide +kernel
theorem dX12_copyRow_15 : decode cX12_copyRow 15 = .ok (.iconst 0, 1) := by decide +kernel
theorem dX12_copyRow_16 : decode cX12_copyRow 16 = .ok (.aload_n 0, 1) := by decide +kernel
theorem dX12_copyRow_17 : decode cX12_copyRow 17 = .ok (.getfield 279, 3) := by decide +kernel
theorem dX12_copyRow_20 : decode cX12_copyRow 20 = .ok (.iconst 1, 1) := by decide +kernel
theorem dX12_copyRow_21 : decode cX12_copyRow 21 = .ok (.isub, 1) := by decide +kernel
theorem dX12_copyRow_22 : decode cX12_copyRow 22 = .ok (.invokestatic 174, 3) := by decide +kernel
theorem dX12_copyRow_25 : decode cX12_copyRow 25 = .ok (.ifCond .ne 9, 3) := by decide +kernel
theorem dX12_copyRow_28 : decode cX12_copyRow 28 = .ok (.aload_n 0, 1) := by decide +kernel
theorem dX12_copyRow_29 : decode cX12_copyRow 29 = .ok (.iconst 2, 1) := by decide +kernel
theorem dX12_copyRow_30 : decode cX12_copyRow 30 = .ok (.invokevirtual 154, 3) := by decide +kernel
theorem dX12_copyRow_33 : decode cX12_copyRow 33 = .ok (.ireturn, 1) := by decide +kernel
theorem dX12_copyRow_34 : decode cX12_copyRow 34 = .ok (.aload_n 0, 1) := by decide +kernel
theorem dX12_copyRow_35 : decode cX12_copyRow 35 = .ok (.getfield 91, 3) := by decide +kernel
theorem dX12_copyRow_38 : decode cX12_copyRow 38 = .ok (.iload_n 1, 1) := by decide +kernel
theorem dX12_copyRow_39 : decode cX12_copyRow 39 = .ok (.iaload, 1) := by decide +kernel
theorem dX12_copyRow_40 : decode cX12_copyRow 40 = .ok (.ifCond .lt 12, 3) := by decide +kernel
theorem dX12_copyRow_43 : decode cX12_copyRow 43 = .ok (.aload_n 0, 1) := by decide +kernel
theorem dX12_copyRow_44 : decode cX12_copyRow 44 = .ok (.getfield 91, 3) := by decide +kernel
theorem dX12_copyRow_47 : decode cX12_copyRow 47 = .ok (.iload_n 3, 1) := by decide +kernel
theorem dX12_copyRow_48 : decode cX12_copyRow 48 = .ok (.iaload, 1) := by decide +kernel
theorem dX12_copyRow_49 : decode cX12_copyRow 49 = .ok (.ifCond .ge 9, 3) := by decide +kernel
theorem dX12_copyRow_52 : decode cX12_copyRow 52 = .ok (.aload_n 0, 1) := by decide +kernel
theorem dX12_copyRow_53 : decode cX12_copyRow 53 = .ok (.iconst 1, 1) := by decide +kernel
theorem dX12_copyRow_54 : decode cX12_copyRow 54 = .ok (.invokevirtual 154, 3) := by decide +kernel
theorem dX12_copyRow_57 : decode cX12_copyRow 57 = .ok (.ireturn, 1) := by decide +kernel
theorem dX12_copyRow_58 : decode cX12_copyRow 58 = .ok (.iload 5, 2) := by decide +kernel
theorem dX12_copyRow_60 : decode cX12_copyRow 60 = .ok (.ifCond .lt 39, 3) := by decide +kernel
theorem dX12_copyRow_63 : decode cX12_copyRow 63 = .ok (.iload_n 2, 1) := by decide +kernel
theorem dX12_copyRow_64 : decode cX12_copyRow 64 = .ok (.ifCond .lt 35, 3) := by decide +kernel
theorem dX12_copyRow_67 : decode cX12_copyRow 67 = .ok (.iload 4, 2) := by decide +kernel
theorem dX12_copyRow_69 : decode cX12_copyRow 69 = .ok (.ifCond .lt 30, 3) := by decide +kernel
theorem dX12_copyRow_72 : decode cX12_copyRow 72 = .ok (.iload 5, 2) := by decide +kernel
theorem dX12_copyRow_74 : decode cX12_copyRow 74 = .ok (.aload_n 0, 1) := by decide +kernel
theorem dX12_copyRow_75 : decode cX12_copyRow 75 = .ok (.getfield 91, 3) := by decide +kernel
theorem dX12_copyRow_78 : decode cX12_copyRow 78 = .ok (.iload_n 1, 1) := by decide +kernel
theorem dX12_copyRow_79 : decode cX12_copyRow 79 = .ok (.iaload, 1) := by decide +kernel
theorem dX12_copyRow_80 : decode cX12_copyRow 80 = .ok (.iload_n 2, 1) := by decide +kernel
theorem dX12_copyRow_81 : decode cX12_copyRow 81 = .ok (.isub, 1) := by decide +kernel
theorem dX12_copyRow_82 : decode cX12_copyRow 82 = .ok (.if_icmp .gt 17, 3) := by decide +kernel
theorem dX12_copyRow_85 : decode cX12_copyRow 85 = .ok (.iload 5, 2) := by decide +kernel
theorem dX12_copyRow_87 : decode cX12_copyRow 87 = .ok (.aload_n 0, 1) := by decide +kernel
theorem dX12_copyRow_88 : decode cX12_copyRow 88 = .ok (.getfield 91, 3) := by decide +kernel
theorem dX12_copyRow_91 : decode cX12_copyRow 91 = .ok (.iload_n 3, 1) := by decide +kernel
theorem dX12_copyRow_92 : decode cX12_copyRow 92 = .ok (.iaload, 1) := by decide +kernel
theorem dX12_copyRow_93 : decode cX12_copyRow 93 = .ok (.iload 4, 2) := by decide +kernel
theorem dX12_copyRow_95 : decode cX12_copyRow 95 = .ok (.isub, 1) := by decide +kernel
theorem dX12_copyRow_96 : decode cX12_copyRow 96 = .ok (.if_icmp .le 9, 3) := by decide +kernel
theorem dX12_copyRow_99 : decode cX12_copyRow 99 = .ok (.aload_n 0, 1) := by decide +kernel
theorem dX12_copyRow_100 : decode cX12_copyRow 100 = .ok (.iconst 2, 1) := by decide +kernel
theorem dX12_copyRow_101 : decode cX12_copyRow 101 = .ok (.invokevirtual 154, 3) := by decide +kernel
theorem dX12_copyRow_104 : decode cX12_copyRow 104 = .ok (.ireturn, 1) := by decide +kernel
theorem dX12_copyRow_105 : decode cX12_copyRow 105 = .ok (.sipush 200, 3) := by decide +kernel
theorem dX12_copyRow_108 : decode cX12_copyRow 108 = .ok (.iload_n 1, 1) := by decide +kernel
theorem dX12_copyRow_109 : decode cX12_copyRow 109 = .ok (.imul, 1) := by decide +kernel
theorem dX12_copyRow_110 : decode cX12_copyRow 110 = .ok (.iload_n 2, 1) := by decide +kernel
theorem dX12_copyRow_111 : decode cX12_copyRow 111 = .ok (.iadd, 1) := by decide +kernel
theorem dX12_copyRow_112 : decode cX12_copyRow 112 = .ok (.istore 6, 2) := by decide +kernel
theorem dX12_copyRow_114 : decode cX12_copyRow 114 = .ok (.sipush 200, 3) := by decide +kernel
theorem dX12_copyRow_117 : decode cX12_copyRow 117 = .ok (.iload_n 3, 1) := by decide +kernel
theorem dX12_copyRow_118 : decode cX12_copyRow 118 = .ok (.imul, 1) := by decide +kernel
theorem dX12_copyRow_119 : decode cX12_copyRow 119 = .ok (.iload 4, 2) := by decide +kernel
theorem dX12_copyRow_121 : decode cX12_copyRow 121 = .ok (.iadd, 1) := by decide +kernel
theorem dX12_copyRow_122 : decode cX12_copyRow 122 = .ok (.istore 7, 2) := by decide +kernel
theorem dX12_copyRow_124 : decode cX12_copyRow 124 = .ok (.iload_n 1, 1) := by decide +kernel
theorem dX12_copyRow_125 : decode cX12_copyRow 125 = .ok (.iload_n 3, 1) := by decide +kernel
theorem dX12_copyRow_126 : decode cX12_copyRow 126 = .ok (.if_icmp .ne 13, 3) := by decide +kernel
theorem dX12_copyRow_129 : decode cX12_copyRow 129 = .ok (.iload_n 2, 1) := by decide +kernel
theorem dX12_copyRow_130 : decode cX12_copyRow 130 = .ok (.iload 4, 2) := by decide +kernel
theorem dX12_copyRow_132 : decode cX12_copyRow 132 = .ok (.if_icmp .ge 7, 3) := by decide +kernel
theorem dX12_copyRow_135 : decode cX12_copyRow 135 = .ok (.iconst 1, 1) := by decide +kernel
theorem dX12_copyRow_136 : decode cX12_copyRow 136 = .ok (.goto 4, 3) := by decide +kernel
theorem dX12_copyRow_139 : decode cX12_copyRow 139 = .ok (.iconst 0, 1) := by decide +kernel
theorem dX12_copyRow_140 : decode cX12_copyRow 140 = .ok (.istore 8, 2) := by decide +kernel
theorem dX12_copyRow_142 : decode cX12_copyRow 142 = .ok (.iconst 0, 1) := by decide +kernel
theorem dX12_copyRow_143 : decode cX12_copyRow 143 = .ok (.istore 9, 2) := by decide +kernel
theorem dX12_copyRow_145 : decode cX12_copyRow 145 = .ok (.iload 9, 2) := by decide +kernel
theorem dX12_copyRow_147 : decode cX12_copyRow 147 = .ok (.iload 5, 2) := by decide +kernel
theorem dX12_copyRow_149 : decode cX12_copyRow 149 = .ok (.if_icmp .ge 48, 3) := by decide +kernel
theorem dX12_copyRow_152 : decode cX12_copyRow 152 = .ok (.iload 8, 2) := by decide +kernel
theorem dX12_copyRow_154 : decode cX12_copyRow 154 = .ok (.ifCond .eq 13, 3) := by decide +kernel
theorem dX12_copyRow_157 : decode cX12_copyRow 157 = .ok (.iload 5, 2) := by decide +kernel
theorem dX12_copyRow_159 : decode cX12_copyRow 159 = .ok (.iconst 1, 1) := by decide +kernel
theorem dX12_copyRow_160 : decode cX12_copyRow 160 = .ok (.isub, 1) := by decide +kernel
theorem dX12_copyRow_161 : decode cX12_copyRow 161 = .ok (.iload 9, 2) := by decide +kernel
theorem dX12_copyRow_163 : decode cX12_copyRow 163 = .ok (.isub, 1) := by decide +kernel
theorem dX12_copyRow_164 : decode cX12_copyRow 164 = .ok (.goto 5, 3) := by decide +kernel
theorem dX12_copyRow_167 : decode cX12_copyRow 167 = .ok (.iload 9, 2) := by decide +kernel
theorem dX12_copyRow_169 : decode cX12_copyRow 169 = .ok (.istore 10, 2) := by decide +kernel
theorem dX12_copyRow_171 : decode cX12_copyRow 171 = .ok (.aload_n 0, 1) := by decide +kernel
theorem dX12_copyRow_172 : decode cX12_copyRow 172 = .ok (.getfield 95, 3) := by decide +kernel
theorem dX12_copyRow_175 : decode cX12_copyRow 175 = .ok (.iload 7, 2) := by decide +kernel
theorem dX12_copyRow_177 : decode cX12_copyRow 177 = .ok (.iload 10, 2) := by decide +kernel
theorem dX12_copyRow_179 : decode cX12_copyRow 179 = .ok (.iadd, 1) := by decide +kernel
theorem dX12_copyRow_180 : decode cX12_copyRow 180 = .ok (.aload_n 0, 1) := by decide +kernel
theorem dX12_copyRow_181 : decode cX12_copyRow 181 = .ok (.getfield 95, 3) := by decide +kernel
theorem dX12_copyRow_184 : decode cX12_copyRow 184 = .ok (.iload 6, 2) := by decide +kernel
theorem dX12_copyRow_186 : decode cX12_copyRow 186 = .ok (.iload 10, 2) := by decide +kernel
theorem dX12_copyRow_188 : decode cX12_copyRow 188 = .ok (.iadd, 1) := by decide +kernel
theorem dX12_copyRow_189 : decode cX12_copyRow 189 = .ok (.iaload, 1) := by decide +kernel
theorem dX12_copyRow_190 : decode cX12_copyRow 190 = .ok (.iastore, 1) := by decide +kernel
theorem dX12_copyRow_191 : decode cX12_copyRow 191 = .ok (.iinc 9 1, 3) := by decide +kernel
theorem dX12_copyRow_194 : decode cX12_copyRow 194 = .ok (.goto (-49), 3) := by decide +kernel
theorem dX12_copyRow_197 : decode cX12_copyRow 197 = .ok (.aload_n 0, 1) := by decide +kernel
theorem dX12_copyRow_198 : decode cX12_copyRow 198 = .ok (.iload 5, 2) := by decide +kernel
theorem dX12_copyRow_200 : decode cX12_copyRow 200 = .ok (.invokevirtual 158, 3) := by decide +kernel
theorem dX12_copyRow_203 : decode cX12_copyRow 203 = .ok (.ireturn, 1) := by decide +kernel
theorem dX12_copyLines_0 : decode cX12_copyLines 0 = .ok (.iload_n 3, 1) := by decide +kernel
theorem dX12_copyLines_1 : decode cX12_copyLines 1 = .ok (.bipush 10, 2) := by decide +kernel
theorem dX12_copyLines_3 : decode cX12_copyLines 3 = .ok (.if_icmp .le 10, 3) := by decide +kernel
theorem dX12_copyLines_6 : decode cX12_copyLines 6 = .ok (.aload_n 0, 1) := by decide +kernel
theorem dX12_copyLines_7 : decode cX12_copyLines 7 = .ok (.bipush 6, 2) := by decide +kernel
theorem dX12_copyLines_9 : decode cX12_copyLines 9 = .ok (.invokevirtual 154, 3) := by decide +kernel
theorem dX12_copyLines_12 : decode cX12_copyLines 12 = .ok (.ireturn, 1) := by decide +kernel
theorem dX12_copyLines_13 : decode cX12_copyLines 13 = .ok (.iload_n 3, 1) := by decide +kernel
theorem dX12_copyLines_14 : decode cX12_copyLines 14 = .ok (.ifCond .ge 9, 3) := by decide +kernel
theorem dX12_copyLines_17 : decode cX12_copyLines 17 = .ok (.aload_n 0, 1) := by decide +kernel
theorem dX12_copyLines_18 : decode cX12_copyLines 18 = .ok (.iconst 5, 1) := by decide +kernel
theorem dX12_copyLines_19 : decode cX12_copyLines 19 = .ok (.invokevirtual 154, 3) := by decide +kernel
theorem dX12_copyLines_22 : decode cX12_copyLines 22 = .ok (.ireturn, 1) := by decide +kernel
theorem dX12_copyLines_23 : decode cX12_copyLines 23 = .ok (.aload_n 0, 1) := by decide +kernel
theorem dX12_copyLines_24 : decode cX12_copyLines 24 = .ok (.iconst 0, 1) := by decide +kernel
theorem dX12_copyLines_25 : decode cX12_copyLines 25 = .ok (.putfield 303, 3) := by decide +kernel
theorem dX12_copyLines_28 : decode cX12_copyLines 28 = .ok (.iconst 0, 1) := by decide +kernel
theorem dX12_copyLines_29 : decode cX12_copyLines 29 = .ok (.istore 4, 2) := by decide +kernel
theorem dX12_copyLines_31 : decode cX12_copyLines 31 = .ok (.iload 4, 2) := by decide +kernel
theorem dX12_copyLines_33 : decode cX12_copyLines 33 = .ok (.iload_n 3, 1) := by decide +kernel
theorem dX12_copyLines_34 : decode cX12_copyLines 34 = .ok (.if_icmp .ge 162, 3) := by decide +kernel
theorem dX12_copyLines_37 : decode cX12_copyLines 37 = .ok (.iload_n 1, 1) := by decide +kernel
theorem dX12_copyLines_38 : decode cX12_copyLines 38 = .ok (.i2l, 1) := by decide +kernel
theorem dX12_copyLines_39 : decode cX12_copyLines 39 = .ok (.iload 4, 2) := by decide +kernel
theorem dX12_copyLines_41 : decode cX12_copyLines 41 = .ok (.i2l, 1) := by decide +kernel
theorem dX12_copyLines_42 : decode cX12_copyLines 42 = .ok (.ladd, 1) := by decide +kernel
theorem dX12_copyLines_43 : decode cX12_copyLines 43 = .ok (.lstore 5, 2) := by decide +kernel
theorem dX12_copyLines_45 : decode cX12_copyLines 45 = .ok (.iload_n 2, 1) := by decide +kernel
theorem dX12_copyLines_46 : decode cX12_copyLines 46 = .ok (.i2l, 1) := by decide +kernel
theorem dX12_copyLines_47 : decode cX12_copyLines 47 = .ok (.iload 4, 2) := by decide +kernel
theorem dX12_copyLines_49 : decode cX12_copyLines 49 = .ok (.i2l, 1) := by decide +kernel
theorem dX12_copyLines_50 : decode cX12_copyLines 50 = .ok (.ladd, 1) := by decide +kernel
theorem dX12_copyLines_51 : decode cX12_copyLines 51 = .ok (.lstore 7, 2) := by decide +kernel
theorem dX12_copyLines_53 : decode cX12_copyLines 53 = .ok (.lload 5, 2) := by decide +kernel
theorem dX12_copyLines_55 : decode cX12_copyLines 55 = .ok (.lconst 0, 1) := by decide +kernel
theorem dX12_copyLines_56 : decode cX12_copyLines 56 = .ok (.lcmp, 1) := by decide +kernel
theorem dX12_copyLines_57 : decode cX12_copyLines 57 = .ok (.ifCond .lt 32, 3) := by decide +kernel
theorem dX12_copyLines_60 : decode cX12_copyLines 60 = .ok (.lload 5, 2) := by decide +kernel
theorem dX12_copyLines_62 : decode cX12_copyLines 62 = .ok (.aload_n 0, 1) := by decide +kernel
theorem dX12_copyLines_63 : decode cX12_copyLines 63 = .ok (.getfield 279, 3) := by decide +kernel
theorem dX12_copyLines_66 : decode cX12_copyLines 66 = .ok (.i2l, 1) := by decide +kernel
theorem dX12_copyLines_67 : decode cX12_copyLines 67 = .ok (.lcmp, 1) := by decide +kernel
theorem dX12_copyLines_68 : decode cX12_copyLines 68 = .ok (.ifCond .ge 21, 3) := by decide +kernel
theorem dX12_copyLines_71 : decode cX12_copyLines 71 = .ok (.lload 7, 2) := by decide +kernel
theorem dX12_copyLines_73 : decode cX12_copyLines 73 = .ok (.lconst 0, 1) := by decide +kernel
theorem dX12_copyLines_74 : decode cX12_copyLines 74 = .ok (.lcmp, 1) := by decide +kernel
theorem dX12_copyLines_75 : decode cX12_copyLines 75 = .ok (.ifCond .lt 14, 3) := by decide +kernel
theorem dX12_copyLines_78 : decode cX12_copyLines 78 = .ok (.lload 7, 2) := by decide +kernel
theorem dX12_copyLines_80 : decode cX12_copyLines 80 = .ok (.aload_n 0, 1) := by decide +kernel
theorem dX12_copyLines_81 : decode cX12_copyLines 81 = .ok (.getfield 279, 3) := by decide +kernel
theorem dX12_copyLines_84 : decode cX12_copyLines 84 = .ok (.i2l, 1) := by decide +kernel
theorem dX12_copyLines_85 : decode cX12_copyLines 85 = .ok (.lcmp, 1) := by decide +kernel
theorem dX12_copyLines_86 : decode cX12_copyLines 86 = .ok (.ifCond .lt 9, 3) := by decide +kernel
theorem dX12_copyLines_89 : decode cX12_copyLines 89 = .ok (.aload_n 0, 1) := by decide +kernel
theorem dX12_copyLines_90 : decode cX12_copyLines 90 = .ok (.iconst 2, 1) := by decide +kernel
theorem dX12_copyLines_91 : decode cX12_copyLines 91 = .ok (.invokevirtual 154, 3) := by decide +kernel
theorem dX12_copyLines_94 : decode cX12_copyLines 94 = .ok (.ireturn, 1) := by decide +kernel
theorem dX12_copyLines_95 : decode cX12_copyLines 95 = .ok (.aload_n 0, 1) := by decide +kernel
theorem dX12_copyLines_96 : decode cX12_copyLines 96 = .ok (.getfield 91, 3) := by decide +kernel
theorem dX12_copyLines_99 : decode cX12_copyLines 99 = .ok (.lload 5, 2) := by decide +kernel
theorem dX12_copyLines_101 : decode cX12_copyLines 101 = .ok (.l2i, 1) := by decide +kernel
theorem dX12_copyLines_102 : decode cX12_copyLines 102 = .ok (.iaload, 1) := by decide +kernel
theorem dX12_copyLines_103 : decode cX12_copyLines 103 = .ok (.ifCond .ge 9, 3) := by decide +kernel
theorem dX12_copyLines_106 : decode cX12_copyLines 106 = .ok (.aload_n 0, 1) := by decide +kernel
theorem dX12_copyLines_107 : decode cX12_copyLines 107 = .ok (.iconst 1, 1) := by decide +kernel
theorem dX12_copyLines_108 : decode cX12_copyLines 108 = .ok (.invokevirtual 154, 3) := by decide +kernel
theorem dX12_copyLines_111 : decode cX12_copyLines 111 = .ok (.ireturn, 1) := by decide +kernel
theorem dX12_copyLines_112 : decode cX12_copyLines 112 = .ok (.aload_n 0, 1) := by decide +kernel
theorem dX12_copyLines_113 : decode cX12_copyLines 113 = .ok (.getfield 91, 3) := by decide +kernel
theorem dX12_copyLines_116 : decode cX12_copyLines 116 = .ok (.lload 7, 2) := by decide +kernel
theorem dX12_copyLines_118 : decode cX12_copyLines 118 = .ok (.l2i, 1) := by decide +kernel
theorem dX12_copyLines_119 : decode cX12_copyLines 119 = .ok (.aload_n 0, 1) := by decide +kernel
theorem dX12_copyLines_120 : decode cX12_copyLines 120 = .ok (.getfield 91, 3) := by decide +kernel
theorem dX12_copyLines_123 : decode cX12_copyLines 123 = .ok (.lload 5, 2) := by decide +kernel
theorem dX12_copyLines_125 : decode cX12_copyLines 125 = .ok (.l2i, 1) := by decide +kernel
theorem dX12_copyLines_126 : decode cX12_copyLines 126 = .ok (.iaload, 1) := by decide +kernel
theorem dX12_copyLines_127 : decode cX12_copyLines 127 = .ok (.iastore, 1) := by decide +kernel
theorem dX12_copyLines_128 : decode cX12_copyLines 128 = .ok (.iconst 0, 1) := by decide +kernel
theorem dX12_copyLines_129 : decode cX12_copyLines 129 = .ok (.istore 9, 2) := by decide +kernel
theorem dX12_copyLines_131 : decode cX12_copyLines 131 = .ok (.iload 9, 2) := by decide +kernel
theorem dX12_copyLines_133 : decode cX12_copyLines 133 = .ok (.aload_n 0, 1) := by decide +kernel
theorem dX12_copyLines_134 : decode cX12_copyLines 134 = .ok (.getfield 91, 3) := by decide +kernel
theorem dX12_copyLines_137 : decode cX12_copyLines 137 = .ok (.lload 5, 2) := by decide +kernel
theorem dX12_copyLines_139 : decode cX12_copyLines 139 = .ok (.l2i, 1) := by decide +kernel
theorem dX12_copyLines_140 : decode cX12_copyLines 140 = .ok (.iaload, 1) := by decide +kernel
theorem dX12_copyLines_141 : decode cX12_copyLines 141 = .ok (.if_icmp .ge 39, 3) := by decide +kernel
theorem dX12_copyLines_144 : decode cX12_copyLines 144 = .ok (.aload_n 0, 1) := by decide +kernel
theorem dX12_copyLines_145 : decode cX12_copyLines 145 = .ok (.getfield 95, 3) := by decide +kernel
theorem dX12_copyLines_148 : decode cX12_copyLines 148 = .ok (.sipush 200, 3) := by decide +kernel
theorem dX12_copyLines_151 : decode cX12_copyLines 151 = .ok (.lload 7, 2) := by decide +kernel
theorem dX12_copyLines_153 : decode cX12_copyLines 153 = .ok (.l2i, 1) := by decide +kernel
theorem dX12_copyLines_154 : decode cX12_copyLines 154 = .ok (.imul, 1) := by decide +kernel
theorem dX12_copyLines_155 : decode cX12_copyLines 155 = .ok (.iload 9, 2) := by decide +kernel
theorem dX12_copyLines_157 : decode cX12_copyLines 157 = .ok (.iadd, 1) := by decide +kernel
theorem dX12_copyLines_158 : decode cX12_copyLines 158 = .ok (.aload_n 0, 1) := by decide +kernel
theorem dX12_copyLines_159 : decode cX12_copyLines 159 = .ok (.getfield 95, 3) := by decide +kernel
theorem dX12_copyLines_162 : decode cX12_copyLines 162 = .ok (.sipush 200, 3) := by decide +kernel
theorem dX12_copyLines_165 : decode cX12_copyLines 165 = .ok (.lload 5, 2) := by decide +kernel
theorem dX12_copyLines_167 : decode cX12_copyLines 167 = .ok (.l2i, 1) := by decide +kernel
theorem dX12_copyLines_168 : decode cX12_copyLines 168 = .ok (.imul, 1) := by decide +kernel
theorem dX12_copyLines_169 : decode cX12_copyLines 169 = .ok (.iload 9, 2) := by decide +kernel
theorem dX12_copyLines_171 : decode cX12_copyLines 171 = .ok (.iadd, 1) := by decide +kernel
theorem dX12_copyLines_172 : decode cX12_copyLines 172 = .ok (.iaload, 1) := by decide +kernel
theorem dX12_copyLines_173 : decode cX12_copyLines 173 = .ok (.iastore, 1) := by decide +kernel
theorem dX12_copyLines_174 : decode cX12_copyLines 174 = .ok (.iinc 9 1, 3) := by decide +kernel
theorem dX12_copyLines_177 : decode cX12_copyLines 177 = .ok (.goto (-46), 3) := by decide +kernel
theorem dX12_copyLines_180 : decode cX12_copyLines 180 = .ok (.aload_n 0, 1) := by decide +kernel
theorem dX12_copyLines_181 : decode cX12_copyLines 181 = .ok (.dup, 1) := by decide +kernel
theorem dX12_copyLines_182 : decode cX12_copyLines 182 = .ok (.getfield 303, 3) := by decide +kernel
theorem dX12_copyLines_185 : decode cX12_copyLines 185 = .ok (.iconst 1, 1) := by decide +kernel
theorem dX12_copyLines_186 : decode cX12_copyLines 186 = .ok (.iadd, 1) := by decide +kernel
theorem dX12_copyLines_187 : decode cX12_copyLines 187 = .ok (.putfield 303, 3) := by decide +kernel
theorem dX12_copyLines_190 : decode cX12_copyLines 190 = .ok (.iinc 4 1, 3) := by decide +kernel
theorem dX12_copyLines_193 : decode cX12_copyLines 193 = .ok (.goto (-162), 3) := by decide +kernel
theorem dX12_copyLines_196 : decode cX12_copyLines 196 = .ok (.aload_n 0, 1) := by decide +kernel
theorem dX12_copyLines_197 : decode cX12_copyLines 197 = .ok (.iload_n 3, 1) := by decide +kernel
theorem dX12_copyLines_198 : decode cX12_copyLines 198 = .ok (.invokevirtual 158, 3) := by decide +kernel
theorem dX12_copyLines_201 : decode cX12_copyLines 201 = .ok (.ireturn, 1) := by decide +kernel
theorem dX12_copied_0 : decode cX12_copied 0 = .ok (.aload_n 0, 1) := by decide +kernel
theorem dX12_copied_1 : decode cX12_copied 1 = .ok (.getfield 303, 3) := by decide +kernel
theorem dX12_copied_4 : decode cX12_copied 4 = .ok (.ireturn, 1) := by decide +kernel
theorem dX12_emboss_0 : decode cX12_emboss 0 = .ok (.iload_n 2, 1) := by decide +kernel
theorem dX12_emboss_1 : decode cX12_emboss 1 = .ok (.sipush 200, 3) := by decide +kernel
theorem dX12_emboss_4 : decode cX12_emboss 4 = .ok (.if_icmp .le 10, 3) := by decide +kernel
theorem dX12_emboss_7 : decode cX12_emboss 7 = .ok (.aload_n 0, 1) := by decide +kernel
theorem dX12_emboss_8 : decode cX12_emboss 8 = .ok (.bipush 6, 2) := by decide +kernel
theorem dX12_emboss_10 : decode cX12_emboss 10 = .ok (.invokevirtual 154, 3) := by decide +kernel
theorem dX12_emboss_13 : decode cX12_emboss 13 = .ok (.ireturn, 1) := by decide +kernel
theorem dX12_emboss_14 : decode cX12_emboss 14 = .ok (.iload_n 2, 1) := by decide +kernel
theorem dX12_emboss_15 : decode cX12_emboss 15 = .ok (.ifCond .ge 9, 3) := by decide +kernel
theorem dX12_emboss_18 : decode cX12_emboss 18 = .ok (.aload_n 0, 1) := by decide +kernel
theorem dX12_emboss_19 : decode cX12_emboss 19 = .ok (.iconst 5, 1) := by decide +kernel
theorem dX12_emboss_20 : decode cX12_emboss 20 = .ok (.invokevirtual 154, 3) := by decide +kernel
theorem dX12_emboss_23 : decode cX12_emboss 23 = .ok (.ireturn, 1) := by decide +kernel
theorem dX12_emboss_24 : decode cX12_emboss 24 = .ok (.iconst 0, 1) := by decide +kernel
theorem dX12_emboss_25 : decode cX12_emboss 25 = .ok (.istore_n 3, 1) := by decide +kernel
theorem dX12_emboss_26 : decode cX12_emboss 26 = .ok (.iconst 0, 1) := by decide +kernel
theorem dX12_emboss_27 : decode cX12_emboss 27 = .ok (.istore 4, 2) := by decide +kernel
theorem dX12_emboss_29 : decode cX12_emboss 29 = .ok (.iload 4, 2) := by decide +kernel
theorem dX12_emboss_31 : decode cX12_emboss 31 = .ok (.iload_n 2, 1) := by decide +kernel
theorem dX12_emboss_32 : decode cX12_emboss 32 = .ok (.if_icmp .ge 110, 3) := by decide +kernel
theorem dX12_emboss_35 : decode cX12_emboss 35 = .ok (.iload_n 1, 1) := by decide +kernel
theorem dX12_emboss_36 : decode cX12_emboss 36 = .ok (.i2l, 1) := by decide +kernel
theorem dX12_emboss_37 : decode cX12_emboss 37 = .ok (.iload 4, 2) := by decide +kernel
theorem dX12_emboss_39 : decode cX12_emboss 39 = .ok (.i2l, 1) := by decide +kernel
theorem dX12_emboss_40 : decode cX12_emboss 40 = .ok (.ladd, 1) := by decide +kernel
theorem dX12_emboss_41 : decode cX12_emboss 41 = .ok (.lstore 5, 2) := by decide +kernel
theorem dX12_emboss_43 : decode cX12_emboss 43 = .ok (.aload_n 0, 1) := by decide +kernel
theorem dX12_emboss_44 : decode cX12_emboss 44 = .ok (.dup, 1) := by decide +kernel
theorem dX12_emboss_45 : decode cX12_emboss 45 = .ok (.getfield 306, 3) := by decide +kernel
theorem dX12_emboss_48 : decode cX12_emboss 48 = .ok (.iconst 1, 1) := by decide +kernel
theorem dX12_emboss_49 : decode cX12_emboss 49 = .ok (.iadd, 1) := by decide +kernel
theorem dX12_emboss_50 : decode cX12_emboss 50 = .ok (.putfield 306, 3) := by decide +kernel
theorem dX12_emboss_53 : decode cX12_emboss 53 = .ok (.lload 5, 2) := by decide +kernel
theorem dX12_emboss_55 : decode cX12_emboss 55 = .ok (.lconst 0, 1) := by decide +kernel
theorem dX12_emboss_56 : decode cX12_emboss 56 = .ok (.lcmp, 1) := by decide +kernel
theorem dX12_emboss_57 : decode cX12_emboss 57 = .ok (.ifCond .lt 14, 3) := by decide +kernel
theorem dX12_emboss_60 : decode cX12_emboss 60 = .ok (.lload 5, 2) := by decide +kernel
theorem dX12_emboss_62 : decode cX12_emboss 62 = .ok (.aload_n 0, 1) := by decide +kernel
theorem dX12_emboss_63 : decode cX12_emboss 63 = .ok (.getfield 279, 3) := by decide +kernel
theorem dX12_emboss_66 : decode cX12_emboss 66 = .ok (.i2l, 1) := by decide +kernel
theorem dX12_emboss_67 : decode cX12_emboss 67 = .ok (.lcmp, 1) := by decide +kernel
theorem dX12_emboss_68 : decode cX12_emboss 68 = .ok (.ifCond .lt 9, 3) := by decide +kernel
theorem dX12_emboss_71 : decode cX12_emboss 71 = .ok (.aload_n 0, 1) := by decide +kernel
theorem dX12_emboss_72 : decode cX12_emboss 72 = .ok (.iconst 2, 1) := by decide +kernel
theorem dX12_emboss_73 : decode cX12_emboss 73 = .ok (.invokevirtual 154, 3) := by decide +kernel
theorem dX12_emboss_76 : decode cX12_emboss 76 = .ok (.ireturn, 1) := by decide +kernel
theorem dX12_emboss_77 : decode cX12_emboss 77 = .ok (.aload_n 0, 1) := by decide +kernel
theorem dX12_emboss_78 : decode cX12_emboss 78 = .ok (.getfield 91, 3) := by decide +kernel
theorem dX12_emboss_81 : decode cX12_emboss 81 = .ok (.lload 5, 2) := by decide +kernel
theorem dX12_emboss_83 : decode cX12_emboss 83 = .ok (.l2i, 1) := by decide +kernel
theorem dX12_emboss_84 : decode cX12_emboss 84 = .ok (.iaload, 1) := by decide +kernel
theorem dX12_emboss_85 : decode cX12_emboss 85 = .ok (.istore 7, 2) := by decide +kernel
theorem dX12_emboss_87 : decode cX12_emboss 87 = .ok (.iload 7, 2) := by decide +kernel
theorem dX12_emboss_89 : decode cX12_emboss 89 = .ok (.aload_n 0, 1) := by decide +kernel
theorem dX12_emboss_90 : decode cX12_emboss 90 = .ok (.getfield 82, 3) := by decide +kernel
theorem dX12_emboss_93 : decode cX12_emboss 93 = .ok (.if_icmp .le 6, 3) := by decide +kernel
theorem dX12_emboss_96 : decode cX12_emboss 96 = .ok (.goto 46, 3) := by decide +kernel
theorem dX12_emboss_99 : decode cX12_emboss 99 = .ok (.iconst 0, 1) := by decide +kernel
theorem dX12_emboss_100 : decode cX12_emboss 100 = .ok (.istore 8, 2) := by decide +kernel
theorem dX12_emboss_102 : decode cX12_emboss 102 = .ok (.iload 8, 2) := by decide +kernel
theorem dX12_emboss_104 : decode cX12_emboss 104 = .ok (.iload 7, 2) := by decide +kernel
theorem dX12_emboss_106 : decode cX12_emboss 106 = .ok (.if_icmp .ge 30, 3) := by decide +kernel
theorem dX12_emboss_109 : decode cX12_emboss 109 = .ok (.iload_n 3, 1) := by decide +kernel
theorem dX12_emboss_110 : decode cX12_emboss 110 = .ok (.aload_n 0, 1) := by decide +kernel
theorem dX12_emboss_111 : decode cX12_emboss 111 = .ok (.getfield 95, 3) := by decide +kernel
theorem dX12_emboss_114 : decode cX12_emboss 114 = .ok (.sipush 200, 3) := by decide +kernel
theorem dX12_emboss_117 : decode cX12_emboss 117 = .ok (.lload 5, 2) := by decide +kernel
theorem dX12_emboss_119 : decode cX12_emboss 119 = .ok (.l2i, 1) := by decide +kernel
theorem dX12_emboss_120 : decode cX12_emboss 120 = .ok (.imul, 1) := by decide +kernel
theorem dX12_emboss_121 : decode cX12_emboss 121 = .ok (.iload 8, 2) := by decide +kernel
theorem dX12_emboss_123 : decode cX12_emboss 123 = .ok (.iadd, 1) := by decide +kernel
theorem dX12_emboss_124 : decode cX12_emboss 124 = .ok (.iaload, 1) := by decide +kernel
theorem dX12_emboss_125 : decode cX12_emboss 125 = .ok (.invokestatic 309, 3) := by decide +kernel
theorem dX12_emboss_128 : decode cX12_emboss 128 = .ok (.iadd, 1) := by decide +kernel
theorem dX12_emboss_129 : decode cX12_emboss 129 = .ok (.istore_n 3, 1) := by decide +kernel
theorem dX12_emboss_130 : decode cX12_emboss 130 = .ok (.iinc 8 1, 3) := by decide +kernel
theorem dX12_emboss_133 : decode cX12_emboss 133 = .ok (.goto (-31), 3) := by decide +kernel
theorem dX12_emboss_136 : decode cX12_emboss 136 = .ok (.iinc 4 1, 3) := by decide +kernel
theorem dX12_emboss_139 : decode cX12_emboss 139 = .ok (.goto (-110), 3) := by decide +kernel
theorem dX12_emboss_142 : decode cX12_emboss 142 = .ok (.aload_n 0, 1) := by decide +kernel
theorem dX12_emboss_143 : decode cX12_emboss 143 = .ok (.iload_n 3, 1) := by decide +kernel
theorem dX12_emboss_144 : decode cX12_emboss 144 = .ok (.invokevirtual 158, 3) := by decide +kernel
theorem dX12_emboss_147 : decode cX12_emboss 147 = .ok (.ireturn, 1) := by decide +kernel
theorem dX12_closed_0 : decode cX12_closed 0 = .ok (.aload_n 0, 1) := by decide +kernel
theorem dX12_closed_1 : decode cX12_closed 1 = .ok (.getfield 306, 3) := by decide +kernel
theorem dX12_closed_4 : decode cX12_closed 4 = .ok (.ireturn, 1) := by decide +kernel
theorem dX12_saved_0 : decode cX12_saved 0 = .ok (.aload_n 0, 1) := by decide +kernel
theorem dX12_saved_1 : decode cX12_saved 1 = .ok (.iload_n 1, 1) := by decide +kernel
theorem dX12_saved_2 : decode cX12_saved 2 = .ok (.invokevirtual 171, 3) := by decide +kernel
theorem dX12_saved_5 : decode cX12_saved 5 = .ok (.ifCond .eq 11, 3) := by decide +kernel
theorem dX12_saved_8 : decode cX12_saved 8 = .ok (.aload_n 0, 1) := by decide +kernel
theorem dX12_saved_9 : decode cX12_saved 9 = .ok (.iload_n 2, 1) := by decide +kernel
theorem dX12_saved_10 : decode cX12_saved 10 = .ok (.invokevirtual 171, 3) := by decide +kernel
theorem dX12_saved_13 : decode cX12_saved 13 = .ok (.ifCond .ne 9, 3) := by decide +kernel
theorem dX12_saved_16 : decode cX12_saved 16 = .ok (.aload_n 0, 1) := by decide +kernel
theorem dX12_saved_17 : decode cX12_saved 17 = .ok (.iconst 3, 1) := by decide +kernel
theorem dX12_saved_18 : decode cX12_saved 18 = .ok (.invokevirtual 154, 3) := by decide +kernel
theorem dX12_saved_21 : decode cX12_saved 21 = .ok (.ireturn, 1) := by decide +kernel
theorem dX12_saved_22 : decode cX12_saved 22 = .ok (.iconst 0, 1) := by decide +kernel
theorem dX12_saved_23 : decode cX12_saved 23 = .ok (.istore_n 3, 1) := by decide +kernel
theorem dX12_saved_24 : decode cX12_saved 24 = .ok (.iconst 0, 1) := by decide +kernel
theorem dX12_saved_25 : decode cX12_saved 25 = .ok (.istore 4, 2) := by decide +kernel
theorem dX12_saved_27 : decode cX12_saved 27 = .ok (.iload 4, 2) := by decide +kernel
theorem dX12_saved_29 : decode cX12_saved 29 = .ok (.iconst 2, 1) := by decide +kernel
theorem dX12_saved_30 : decode cX12_saved 30 = .ok (.if_icmp .ge 131, 3) := by decide +kernel
theorem dX12_saved_33 : decode cX12_saved 33 = .ok (.iconst 0, 1) := by decide +kernel
theorem dX12_saved_34 : decode cX12_saved 34 = .ok (.istore 5, 2) := by decide +kernel
theorem dX12_saved_36 : decode cX12_saved 36 = .ok (.iload 5, 2) := by decide +kernel
theorem dX12_saved_38 : decode cX12_saved 38 = .ok (.aload_n 0, 1) := by decide +kernel
theorem dX12_saved_39 : decode cX12_saved 39 = .ok (.getfield 243, 3) := by decide +kernel
theorem dX12_saved_42 : decode cX12_saved 42 = .ok (.if_icmp .ge 113, 3) := by decide +kernel
theorem dX12_saved_45 : decode cX12_saved 45 = .ok (.aload_n 0, 1) := by decide +kernel
theorem dX12_saved_46 : decode cX12_saved 46 = .ok (.iload 5, 2) := by decide +kernel
theorem dX12_saved_48 : decode cX12_saved 48 = .ok (.invokevirtual 261, 3) := by decide +kernel
theorem dX12_saved_51 : decode cX12_saved 51 = .ok (.istore 6, 2) := by decide +kernel
theorem dX12_saved_53 : decode cX12_saved 53 = .ok (.aload_n 0, 1) := by decide +kernel
theorem dX12_saved_54 : decode cX12_saved 54 = .ok (.aload_n 0, 1) := by decide +kernel
theorem dX12_saved_55 : decode cX12_saved 55 = .ok (.getfield 79, 3) := by decide +kernel
theorem dX12_saved_58 : decode cX12_saved 58 = .ok (.iload 5, 2) := by decide +kernel
theorem dX12_saved_60 : decode cX12_saved 60 = .ok (.iaload, 1) := by decide +kernel
theorem dX12_saved_61 : decode cX12_saved 61 = .ok (.bipush 94, 2) := by decide +kernel
theorem dX12_saved_63 : decode cX12_saved 63 = .ok (.if_icmp .ne 10, 3) := by decide +kernel
theorem dX12_saved_66 : decode cX12_saved 66 = .ok (.iload 5, 2) := by decide +kernel
theorem dX12_saved_68 : decode cX12_saved 68 = .ok (.iconst 1, 1) := by decide +kernel
theorem dX12_saved_69 : decode cX12_saved 69 = .ok (.iadd, 1) := by decide +kernel
theorem dX12_saved_70 : decode cX12_saved 70 = .ok (.goto 5, 3) := by decide +kernel
theorem dX12_saved_73 : decode cX12_saved 73 = .ok (.iload 5, 2) := by decide +kernel
theorem dX12_saved_75 : decode cX12_saved 75 = .ok (.iload 6, 2) := by decide +kernel
theorem dX12_saved_77 : decode cX12_saved 77 = .ok (.invokevirtual 264, 3) := by decide +kernel
theorem dX12_saved_80 : decode cX12_saved 80 = .ok (.istore 7, 2) := by decide +kernel
theorem dX12_saved_82 : decode cX12_saved 82 = .ok (.aload_n 0, 1) := by decide +kernel
theorem dX12_saved_83 : decode cX12_saved 83 = .ok (.getfield 234, 3) := by decide +kernel
theorem dX12_saved_86 : decode cX12_saved 86 = .ok (.ifCond .le 60, 3) := by decide +kernel
theorem dX12_saved_89 : decode cX12_saved 89 = .ok (.aload_n 0, 1) := by decide +kernel
theorem dX12_saved_90 : decode cX12_saved 90 = .ok (.iload 4, 2) := by decide +kernel
theorem dX12_saved_92 : decode cX12_saved 92 = .ok (.ifCond .ne 7, 3) := by decide +kernel
theorem dX12_saved_95 : decode cX12_saved 95 = .ok (.iload_n 1, 1) := by decide +kernel
theorem dX12_saved_96 : decode cX12_saved 96 = .ok (.goto 4, 3) := by decide +kernel
theorem dX12_saved_99 : decode cX12_saved 99 = .ok (.iload_n 2, 1) := by decide +kernel
theorem dX12_saved_100 : decode cX12_saved 100 = .ok (.invokevirtual 267, 3) := by decide +kernel
theorem dX12_saved_103 : decode cX12_saved 103 = .ok (.ifCond .ne 10, 3) := by decide +kernel
theorem dX12_saved_106 : decode cX12_saved 106 = .ok (.aload_n 0, 1) := by decide +kernel
theorem dX12_saved_107 : decode cX12_saved 107 = .ok (.invokevirtual 270, 3) := by decide +kernel
theorem dX12_saved_110 : decode cX12_saved 110 = .ok (.iconst 1, 1) := by decide +kernel
theorem dX12_saved_111 : decode cX12_saved 111 = .ok (.iadd, 1) := by decide +kernel
theorem dX12_saved_112 : decode cX12_saved 112 = .ok (.ireturn, 1) := by decide +kernel
theorem dX12_saved_113 : decode cX12_saved 113 = .ok (.iload_n 3, 1) := by decide +kernel
theorem dX12_saved_114 : decode cX12_saved 114 = .ok (.iload 4, 2) := by decide +kernel
theorem dX12_saved_116 : decode cX12_saved 116 = .ok (.ifCond .ne 10, 3) := by decide +kernel
theorem dX12_saved_119 : decode cX12_saved 119 = .ok (.aload_n 0, 1) := by decide +kernel
theorem dX12_saved_120 : decode cX12_saved 120 = .ok (.getfield 224, 3) := by decide +kernel
theorem dX12_saved_123 : decode cX12_saved 123 = .ok (.goto 8, 3) := by decide +kernel
theorem dX12_saved_126 : decode cX12_saved 126 = .ok (.aload_n 0, 1) := by decide +kernel
theorem dX12_saved_127 : decode cX12_saved 127 = .ok (.getfield 224, 3) := by decide +kernel
theorem dX12_saved_130 : decode cX12_saved 130 = .ok (.ineg, 1) := by decide +kernel
theorem dX12_saved_131 : decode cX12_saved 131 = .ok (.iadd, 1) := by decide +kernel
theorem dX12_saved_132 : decode cX12_saved 132 = .ok (.istore_n 3, 1) := by decide +kernel
theorem dX12_saved_133 : decode cX12_saved 133 = .ok (.aload_n 0, 1) := by decide +kernel
theorem dX12_saved_134 : decode cX12_saved 134 = .ok (.iload 7, 2) := by decide +kernel
theorem dX12_saved_136 : decode cX12_saved 136 = .ok (.iload 6, 2) := by decide +kernel
theorem dX12_saved_138 : decode cX12_saved 138 = .ok (.invokevirtual 264, 3) := by decide +kernel
theorem dX12_saved_141 : decode cX12_saved 141 = .ok (.istore 7, 2) := by decide +kernel
theorem dX12_saved_143 : decode cX12_saved 143 = .ok (.goto (-61), 3) := by decide +kernel
theorem dX12_saved_146 : decode cX12_saved 146 = .ok (.iload 6, 2) := by decide +kernel
theorem dX12_saved_148 : decode cX12_saved 148 = .ok (.iconst 1, 1) := by decide +kernel
theorem dX12_saved_149 : decode cX12_saved 149 = .ok (.iadd, 1) := by decide +kernel
theorem dX12_saved_150 : decode cX12_saved 150 = .ok (.istore 5, 2) := by decide +kernel
theorem dX12_saved_152 : decode cX12_saved 152 = .ok (.goto (-116), 3) := by decide +kernel
theorem dX12_saved_155 : decode cX12_saved 155 = .ok (.iinc 4 1, 3) := by decide +kernel
theorem dX12_saved_158 : decode cX12_saved 158 = .ok (.goto (-131), 3) := by decide +kernel
theorem dX12_saved_161 : decode cX12_saved 161 = .ok (.aload_n 0, 1) := by decide +kernel
theorem dX12_saved_162 : decode cX12_saved 162 = .ok (.iload_n 3, 1) := by decide +kernel
theorem dX12_saved_163 : decode cX12_saved 163 = .ok (.invokevirtual 158, 3) := by decide +kernel
theorem dX12_saved_166 : decode cX12_saved 166 = .ok (.ireturn, 1) := by decide +kernel
theorem dX12_read_0 : decode cX12_read 0 = .ok (.aload_n 0, 1) := by decide +kernel
theorem dX12_read_1 : decode cX12_read 1 = .ok (.iload_n 1, 1) := by decide +kernel
theorem dX12_read_2 : decode cX12_read 2 = .ok (.invokevirtual 171, 3) := by decide +kernel
theorem dX12_read_5 : decode cX12_read 5 = .ok (.ifCond .ne 9, 3) := by decide +kernel
theorem dX12_read_8 : decode cX12_read 8 = .ok (.aload_n 0, 1) := by decide +kernel
theorem dX12_read_9 : decode cX12_read 9 = .ok (.iconst 3, 1) := by decide +kernel
theorem dX12_read_10 : decode cX12_read 10 = .ok (.invokevirtual 154, 3) := by decide +kernel
theorem dX12_read_13 : decode cX12_read 13 = .ok (.ireturn, 1) := by decide +kernel
theorem dX12_read_14 : decode cX12_read 14 = .ok (.iload_n 3, 1) := by decide +kernel
theorem dX12_read_15 : decode cX12_read 15 = .ok (.ifCond .ge 9, 3) := by decide +kernel
theorem dX12_read_18 : decode cX12_read 18 = .ok (.aload_n 0, 1) := by decide +kernel
theorem dX12_read_19 : decode cX12_read 19 = .ok (.iconst 5, 1) := by decide +kernel
theorem dX12_read_20 : decode cX12_read 20 = .ok (.invokevirtual 154, 3) := by decide +kernel
theorem dX12_read_23 : decode cX12_read 23 = .ok (.ireturn, 1) := by decide +kernel
theorem dX12_read_24 : decode cX12_read 24 = .ok (.aload_n 0, 1) := by decide +kernel
theorem dX12_read_25 : decode cX12_read 25 = .ok (.iconst 0, 1) := by decide +kernel
theorem dX12_read_26 : decode cX12_read 26 = .ok (.putfield 333, 3) := by decide +kernel
theorem dX12_read_29 : decode cX12_read 29 = .ok (.iconst 0, 1) := by decide +kernel
theorem dX12_read_30 : decode cX12_read 30 = .ok (.istore 4, 2) := by decide +kernel
theorem dX12_read_32 : decode cX12_read 32 = .ok (.iload 4, 2) := by decide +kernel
theorem dX12_read_34 : decode cX12_read 34 = .ok (.iload_n 3, 1) := by decide +kernel
theorem dX12_read_35 : decode cX12_read 35 = .ok (.if_icmp .ge 174, 3) := by decide +kernel
theorem dX12_read_38 : decode cX12_read 38 = .ok (.iload_n 2, 1) := by decide +kernel
theorem dX12_read_39 : decode cX12_read 39 = .ok (.i2l, 1) := by decide +kernel
theorem dX12_read_40 : decode cX12_read 40 = .ok (.iload 4, 2) := by decide +kernel
theorem dX12_read_42 : decode cX12_read 42 = .ok (.i2l, 1) := by decide +kernel
theorem dX12_read_43 : decode cX12_read 43 = .ok (.ladd, 1) := by decide +kernel
theorem dX12_read_44 : decode cX12_read 44 = .ok (.lstore 5, 2) := by decide +kernel
theorem dX12_read_46 : decode cX12_read 46 = .ok (.lload 5, 2) := by decide +kernel
theorem dX12_read_48 : decode cX12_read 48 = .ok (.lconst 0, 1) := by decide +kernel
theorem dX12_read_49 : decode cX12_read 49 = .ok (.lcmp, 1) := by decide +kernel
theorem dX12_read_50 : decode cX12_read 50 = .ok (.ifCond .lt 14, 3) := by decide +kernel
theorem dX12_read_53 : decode cX12_read 53 = .ok (.lload 5, 2) := by decide +kernel
theorem dX12_read_55 : decode cX12_read 55 = .ok (.aload_n 0, 1) := by decide +kernel
theorem dX12_read_56 : decode cX12_read 56 = .ok (.getfield 279, 3) := by decide +kernel
theorem dX12_read_59 : decode cX12_read 59 = .ok (.i2l, 1) := by decide +kernel
theorem dX12_read_60 : decode cX12_read 60 = .ok (.lcmp, 1) := by decide +kernel
theorem dX12_read_61 : decode cX12_read 61 = .ok (.ifCond .lt 7, 3) := by decide +kernel
theorem dX12_read_64 : decode cX12_read 64 = .ok (.iconst (-1), 1) := by decide +kernel
theorem dX12_read_65 : decode cX12_read 65 = .ok (.goto 6, 3) := by decide +kernel
theorem dX12_read_68 : decode cX12_read 68 = .ok (.lload 5, 2) := by decide +kernel
theorem dX12_read_70 : decode cX12_read 70 = .ok (.l2i, 1) := by decide +kernel
theorem dX12_read_71 : decode cX12_read 71 = .ok (.istore 7, 2) := by decide +kernel
theorem dX12_read_73 : decode cX12_read 73 = .ok (.aload_n 0, 1) := by decide +kernel
theorem dX12_read_74 : decode cX12_read 74 = .ok (.iload 7, 2) := by decide +kernel
theorem dX12_read_76 : decode cX12_read 76 = .ok (.invokevirtual 294, 3) := by decide +kernel
theorem dX12_read_79 : decode cX12_read 79 = .ok (.ifCond .le 14, 3) := by decide +kernel
theorem dX12_read_82 : decode cX12_read 82 = .ok (.aload_n 0, 1) := by decide +kernel
theorem dX12_read_83 : decode cX12_read 83 = .ok (.aload_n 0, 1) := by decide +kernel
theorem dX12_read_84 : decode cX12_read 84 = .ok (.iload 7, 2) := by decide +kernel
theorem dX12_read_86 : decode cX12_read 86 = .ok (.invokevirtual 294, 3) := by decide +kernel
theorem dX12_read_89 : decode cX12_read 89 = .ok (.invokevirtual 154, 3) := by decide +kernel
theorem dX12_read_92 : decode cX12_read 92 = .ok (.ireturn, 1) := by decide +kernel
theorem dX12_read_93 : decode cX12_read 93 = .ok (.aload_n 0, 1) := by decide +kernel
theorem dX12_read_94 : decode cX12_read 94 = .ok (.getfield 91, 3) := by decide +kernel
theorem dX12_read_97 : decode cX12_read 97 = .ok (.iload 7, 2) := by decide +kernel
theorem dX12_read_99 : decode cX12_read 99 = .ok (.iaload, 1) := by decide +kernel
theorem dX12_read_100 : decode cX12_read 100 = .ok (.istore 8, 2) := by decide +kernel
theorem dX12_read_102 : decode cX12_read 102 = .ok (.iload 8, 2) := by decide +kernel
theorem dX12_read_104 : decode cX12_read 104 = .ok (.ifCond .le 30, 3) := by decide +kernel
theorem dX12_read_107 : decode cX12_read 107 = .ok (.aload_n 0, 1) := by decide +kernel
theorem dX12_read_108 : decode cX12_read 108 = .ok (.getfield 95, 3) := by decide +kernel
theorem dX12_read_111 : decode cX12_read 111 = .ok (.sipush 200, 3) := by decide +kernel
theorem dX12_read_114 : decode cX12_read 114 = .ok (.iload 7, 2) := by decide +kernel
theorem dX12_read_116 : decode cX12_read 116 = .ok (.imul, 1) := by decide +kernel
theorem dX12_read_117 : decode cX12_read 117 = .ok (.iload 8, 2) := by decide +kernel
theorem dX12_read_119 : decode cX12_read 119 = .ok (.iadd, 1) := by decide +kernel
theorem dX12_read_120 : decode cX12_read 120 = .ok (.iconst 1, 1) := by decide +kernel
theorem dX12_read_121 : decode cX12_read 121 = .ok (.isub, 1) := by decide +kernel
theorem dX12_read_122 : decode cX12_read 122 = .ok (.iaload, 1) := by decide +kernel
theorem dX12_read_123 : decode cX12_read 123 = .ok (.aload_n 0, 1) := by decide +kernel
theorem dX12_read_124 : decode cX12_read 124 = .ok (.getfield 88, 3) := by decide +kernel
theorem dX12_read_127 : decode cX12_read 127 = .ok (.if_icmp .ne 7, 3) := by decide +kernel
theorem dX12_read_130 : decode cX12_read 130 = .ok (.iconst 1, 1) := by decide +kernel
theorem dX12_read_131 : decode cX12_read 131 = .ok (.goto 4, 3) := by decide +kernel
theorem dX12_read_134 : decode cX12_read 134 = .ok (.iconst 0, 1) := by decide +kernel
theorem dX12_read_135 : decode cX12_read 135 = .ok (.istore 9, 2) := by decide +kernel
theorem dX12_read_137 : decode cX12_read 137 = .ok (.iconst 0, 1) := by decide +kernel
theorem dX12_read_138 : decode cX12_read 138 = .ok (.istore 10, 2) := by decide +kernel
theorem dX12_read_140 : decode cX12_read 140 = .ok (.iload 10, 2) := by decide +kernel
theorem dX12_read_142 : decode cX12_read 142 = .ok (.iload 9, 2) := by decide +kernel
theorem dX12_read_144 : decode cX12_read 144 = .ok (.ifCond .eq 10, 3) := by decide +kernel
theorem dX12_read_147 : decode cX12_read 147 = .ok (.iload 8, 2) := by decide +kernel
theorem dX12_read_149 : decode cX12_read 149 = .ok (.iconst 1, 1) := by decide +kernel
theorem dX12_read_150 : decode cX12_read 150 = .ok (.isub, 1) := by decide +kernel
theorem dX12_read_151 : decode cX12_read 151 = .ok (.goto 5, 3) := by decide +kernel
theorem dX12_read_154 : decode cX12_read 154 = .ok (.iload 8, 2) := by decide +kernel
theorem dX12_read_156 : decode cX12_read 156 = .ok (.if_icmp .ge 36, 3) := by decide +kernel
theorem dX12_read_159 : decode cX12_read 159 = .ok (.aload_n 0, 1) := by decide +kernel
theorem dX12_read_160 : decode cX12_read 160 = .ok (.aload_n 0, 1) := by decide +kernel
theorem dX12_read_161 : decode cX12_read 161 = .ok (.getfield 95, 3) := by decide +kernel
theorem dX12_read_164 : decode cX12_read 164 = .ok (.sipush 200, 3) := by decide +kernel
theorem dX12_read_167 : decode cX12_read 167 = .ok (.iload 7, 2) := by decide +kernel
theorem dX12_read_169 : decode cX12_read 169 = .ok (.imul, 1) := by decide +kernel
theorem dX12_read_170 : decode cX12_read 170 = .ok (.iload 10, 2) := by decide +kernel
theorem dX12_read_172 : decode cX12_read 172 = .ok (.iadd, 1) := by decide +kernel
theorem dX12_read_173 : decode cX12_read 173 = .ok (.iaload, 1) := by decide +kernel
theorem dX12_read_174 : decode cX12_read 174 = .ok (.sipush 1000, 3) := by decide +kernel
theorem dX12_read_177 : decode cX12_read 177 = .ok (.iload 7, 2) := by decide +kernel
theorem dX12_read_179 : decode cX12_read 179 = .ok (.imul, 1) := by decide +kernel
theorem dX12_read_180 : decode cX12_read 180 = .ok (.iload 10, 2) := by decide +kernel
theorem dX12_read_182 : decode cX12_read 182 = .ok (.iadd, 1) := by decide +kernel
theorem dX12_read_183 : decode cX12_read 183 = .ok (.invokevirtual 351, 3) := by decide +kernel
theorem dX12_read_186 : decode cX12_read 186 = .ok (.iinc 10 1, 3) := by decide +kernel
theorem dX12_read_189 : decode cX12_read 189 = .ok (.goto (-49), 3) := by decide +kernel
theorem dX12_read_192 : decode cX12_read 192 = .ok (.iload 9, 2) := by decide +kernel
theorem dX12_read_194 : decode cX12_read 194 = .ok (.ifCond .ne 9, 3) := by decide +kernel
theorem dX12_read_197 : decode cX12_read 197 = .ok (.aload_n 0, 1) := by decide +kernel
theorem dX12_read_198 : decode cX12_read 198 = .ok (.iconst 0, 1) := by decide +kernel
theorem dX12_read_199 : decode cX12_read 199 = .ok (.iconst 0, 1) := by decide +kernel
theorem dX12_read_200 : decode cX12_read 200 = .ok (.invokevirtual 351, 3) := by decide +kernel
theorem dX12_read_203 : decode cX12_read 203 = .ok (.iinc 4 1, 3) := by decide +kernel
theorem dX12_read_206 : decode cX12_read 206 = .ok (.goto (-174), 3) := by decide +kernel
theorem dX12_read_209 : decode cX12_read 209 = .ok (.aload_n 0, 1) := by decide +kernel
theorem dX12_read_210 : decode cX12_read 210 = .ok (.iload_n 1, 1) := by decide +kernel
theorem dX12_read_211 : decode cX12_read 211 = .ok (.invokevirtual 354, 3) := by decide +kernel
theorem dX12_read_214 : decode cX12_read 214 = .ok (.aload_n 0, 1) := by decide +kernel
theorem dX12_read_215 : decode cX12_read 215 = .ok (.invokevirtual 357, 3) := by decide +kernel
theorem dX12_read_218 : decode cX12_read 218 = .ok (.istore 4, 2) := by decide +kernel
theorem dX12_read_220 : decode cX12_read 220 = .ok (.iload 4, 2) := by decide +kernel
theorem dX12_read_222 : decode cX12_read 222 = .ok (.ifCond .ne 12, 3) := by decide +kernel
theorem dX12_read_225 : decode cX12_read 225 = .ok (.aload_n 0, 1) := by decide +kernel
theorem dX12_read_226 : decode cX12_read 226 = .ok (.aload_n 0, 1) := by decide +kernel
theorem dX12_read_227 : decode cX12_read 227 = .ok (.getfield 330, 3) := by decide +kernel
theorem dX12_read_230 : decode cX12_read 230 = .ok (.invokevirtual 158, 3) := by decide +kernel
theorem dX12_read_233 : decode cX12_read 233 = .ok (.ireturn, 1) := by decide +kernel
theorem dX12_read_234 : decode cX12_read 234 = .ok (.aload_n 0, 1) := by decide +kernel
theorem dX12_read_235 : decode cX12_read 235 = .ok (.iconst 0, 1) := by decide +kernel
theorem dX12_read_236 : decode cX12_read 236 = .ok (.putfield 330, 3) := by decide +kernel
theorem dX12_read_239 : decode cX12_read 239 = .ok (.aload_n 0, 1) := by decide +kernel
theorem dX12_read_240 : decode cX12_read 240 = .ok (.getfield 345, 3) := by decide +kernel
theorem dX12_read_243 : decode cX12_read 243 = .ok (.aload_n 0, 1) := by decide +kernel
theorem dX12_read_244 : decode cX12_read 244 = .ok (.getfield 333, 3) := by decide +kernel
theorem dX12_read_247 : decode cX12_read 247 = .ok (.if_icmp .ge 27, 3) := by decide +kernel
theorem dX12_read_250 : decode cX12_read 250 = .ok (.aload_n 0, 1) := by decide +kernel
theorem dX12_read_251 : decode cX12_read 251 = .ok (.getfield 120, 3) := by decide +kernel
theorem dX12_read_254 : decode cX12_read 254 = .ok (.aload_n 0, 1) := by decide +kernel
theorem dX12_read_255 : decode cX12_read 255 = .ok (.getfield 345, 3) := by decide +kernel
theorem dX12_read_258 : decode cX12_read 258 = .ok (.iaload, 1) := by decide +kernel
theorem dX12_read_259 : decode cX12_read 259 = .ok (.ifCond .eq 15, 3) := by decide +kernel
theorem dX12_read_262 : decode cX12_read 262 = .ok (.aload_n 0, 1) := by decide +kernel
theorem dX12_read_263 : decode cX12_read 263 = .ok (.getfield 123, 3) := by decide +kernel
theorem dX12_read_266 : decode cX12_read 266 = .ok (.aload_n 0, 1) := by decide +kernel
theorem dX12_read_267 : decode cX12_read 267 = .ok (.getfield 345, 3) := by decide +kernel
theorem dX12_read_270 : decode cX12_read 270 = .ok (.iaload, 1) := by decide +kernel
theorem dX12_read_271 : decode cX12_read 271 = .ok (.goto 27, 3) := by decide +kernel
theorem dX12_read_274 : decode cX12_read 274 = .ok (.aload_n 0, 1) := by decide +kernel
theorem dX12_read_275 : decode cX12_read 275 = .ok (.getfield 345, 3) := by decide +kernel
theorem dX12_read_278 : decode cX12_read 278 = .ok (.ifCond .le 19, 3) := by decide +kernel
theorem dX12_read_281 : decode cX12_read 281 = .ok (.aload_n 0, 1) := by decide +kernel
theorem dX12_read_282 : decode cX12_read 282 = .ok (.getfield 123, 3) := by decide +kernel
theorem dX12_read_285 : decode cX12_read 285 = .ok (.aload_n 0, 1) := by decide +kernel
theorem dX12_read_286 : decode cX12_read 286 = .ok (.getfield 345, 3) := by decide +kernel
theorem dX12_read_289 : decode cX12_read 289 = .ok (.iconst 1, 1) := by decide +kernel
theorem dX12_read_290 : decode cX12_read 290 = .ok (.isub, 1) := by decide +kernel
theorem dX12_read_291 : decode cX12_read 291 = .ok (.iaload, 1) := by decide +kernel
theorem dX12_read_292 : decode cX12_read 292 = .ok (.iconst 1, 1) := by decide +kernel
theorem dX12_read_293 : decode cX12_read 293 = .ok (.iadd, 1) := by decide +kernel
theorem dX12_read_294 : decode cX12_read 294 = .ok (.goto 4, 3) := by decide +kernel
theorem dX12_read_297 : decode cX12_read 297 = .ok (.iconst 0, 1) := by decide +kernel
theorem dX12_read_298 : decode cX12_read 298 = .ok (.istore 5, 2) := by decide +kernel
theorem dX12_read_300 : decode cX12_read 300 = .ok (.aload_n 0, 1) := by decide +kernel
theorem dX12_read_301 : decode cX12_read 301 = .ok (.iload 4, 2) := by decide +kernel
theorem dX12_read_303 : decode cX12_read 303 = .ok (.iload 5, 2) := by decide +kernel
theorem dX12_read_305 : decode cX12_read 305 = .ok (.invokevirtual 240, 3) := by decide +kernel
theorem dX12_read_308 : decode cX12_read 308 = .ok (.ireturn, 1) := by decide +kernel
theorem dX12_letter_0 : decode cX12_letter 0 = .ok (.iload_n 1, 1) := by decide +kernel
theorem dX12_letter_1 : decode cX12_letter 1 = .ok (.iconst 0, 1) := by decide +kernel
theorem dX12_letter_2 : decode cX12_letter 2 = .ok (.aload_n 0, 1) := by decide +kernel
theorem dX12_letter_3 : decode cX12_letter 3 = .ok (.getfield 330, 3) := by decide +kernel
theorem dX12_letter_6 : decode cX12_letter 6 = .ok (.iconst 1, 1) := by decide +kernel
theorem dX12_letter_7 : decode cX12_letter 7 = .ok (.isub, 1) := by decide +kernel
theorem dX12_letter_8 : decode cX12_letter 8 = .ok (.invokestatic 174, 3) := by decide +kernel
theorem dX12_letter_11 : decode cX12_letter 11 = .ok (.ifCond .eq 16, 3) := by decide +kernel
theorem dX12_letter_14 : decode cX12_letter 14 = .ok (.aload_n 0, 1) := by decide +kernel
theorem dX12_letter_15 : decode cX12_letter 15 = .ok (.aload_n 0, 1) := by decide +kernel
theorem dX12_letter_16 : decode cX12_letter 16 = .ok (.getfield 126, 3) := by decide +kernel
theorem dX12_letter_19 : decode cX12_letter 19 = .ok (.iload_n 1, 1) := by decide +kernel
theorem dX12_letter_20 : decode cX12_letter 20 = .ok (.iaload, 1) := by decide +kernel
theorem dX12_letter_21 : decode cX12_letter 21 = .ok (.invokevirtual 158, 3) := by decide +kernel
theorem dX12_letter_24 : decode cX12_letter 24 = .ok (.goto 8, 3) := by decide +kernel
theorem dX12_letter_27 : decode cX12_letter 27 = .ok (.aload_n 0, 1) := by decide +kernel
theorem dX12_letter_28 : decode cX12_letter 28 = .ok (.iconst 2, 1) := by decide +kernel
theorem dX12_letter_29 : decode cX12_letter 29 = .ok (.invokevirtual 154, 3) := by decide +kernel
theorem dX12_letter_32 : decode cX12_letter 32 = .ok (.ireturn, 1) := by decide +kernel
theorem dX12_failed_0 : decode cX12_failed 0 = .ok (.iload_n 1, 1) := by decide +kernel
theorem dX12_failed_1 : decode cX12_failed 1 = .ok (.iconst 0, 1) := by decide +kernel
theorem dX12_failed_2 : decode cX12_failed 2 = .ok (.bipush 7, 2) := by decide +kernel
theorem dX12_failed_4 : decode cX12_failed 4 = .ok (.invokestatic 174, 3) := by decide +kernel
theorem dX12_failed_7 : decode cX12_failed 7 = .ok (.ifCond .ne 10, 3) := by decide +kernel
theorem dX12_failed_10 : decode cX12_failed 10 = .ok (.aload_n 0, 1) := by decide +kernel
theorem dX12_failed_11 : decode cX12_failed 11 = .ok (.bipush 6, 2) := by decide +kernel
theorem dX12_failed_13 : decode cX12_failed 13 = .ok (.invokevirtual 154, 3) := by decide +kernel
theorem dX12_failed_16 : decode cX12_failed 16 = .ok (.ireturn, 1) := by decide +kernel
theorem dX12_failed_17 : decode cX12_failed 17 = .ok (.aload_n 0, 1) := by decide +kernel
theorem dX12_failed_18 : decode cX12_failed 18 = .ok (.iload_n 2, 1) := by decide +kernel
theorem dX12_failed_19 : decode cX12_failed 19 = .ok (.ifCond .eq 14, 3) := by decide +kernel
theorem dX12_failed_22 : decode cX12_failed 22 = .ok (.aload_n 0, 1) := by decide +kernel
theorem dX12_failed_23 : decode cX12_failed 23 = .ok (.getfield 360, 3) := by decide +kernel
theorem dX12_failed_26 : decode cX12_failed 26 = .ok (.iconst 1, 1) := by decide +kernel
theorem dX12_failed_27 : decode cX12_failed 27 = .ok (.iload_n 1, 1) := by decide +kernel
theorem dX12_failed_28 : decode cX12_failed 28 = .ok (.ishl, 1) := by decide +kernel
theorem dX12_failed_29 : decode cX12_failed 29 = .ok (.ior, 1) := by decide +kernel
theorem dX12_failed_30 : decode cX12_failed 30 = .ok (.goto 13, 3) := by decide +kernel
theorem dX12_failed_33 : decode cX12_failed 33 = .ok (.aload_n 0, 1) := by decide +kernel
theorem dX12_failed_34 : decode cX12_failed 34 = .ok (.getfield 360, 3) := by decide +kernel
theorem dX12_failed_37 : decode cX12_failed 37 = .ok (.iconst 1, 1) := by decide +kernel
theorem dX12_failed_38 : decode cX12_failed 38 = .ok (.iload_n 1, 1) := by decide +kernel
theorem dX12_failed_39 : decode cX12_failed 39 = .ok (.ishl, 1) := by decide +kernel
theorem dX12_failed_40 : decode cX12_failed 40 = .ok (.iconst (-1), 1) := by decide +kernel
theorem dX12_failed_41 : decode cX12_failed 41 = .ok (.ixor, 1) := by decide +kernel
theorem dX12_failed_42 : decode cX12_failed 42 = .ok (.iand, 1) := by decide +kernel
theorem dX12_failed_43 : decode cX12_failed 43 = .ok (.putfield 360, 3) := by decide +kernel
theorem dX12_failed_46 : decode cX12_failed 46 = .ok (.aload_n 0, 1) := by decide +kernel
theorem dX12_failed_47 : decode cX12_failed 47 = .ok (.aload_n 0, 1) := by decide +kernel
theorem dX12_failed_48 : decode cX12_failed 48 = .ok (.getfield 360, 3) := by decide +kernel
theorem dX12_failed_51 : decode cX12_failed 51 = .ok (.invokestatic 309, 3) := by decide +kernel
theorem dX12_failed_54 : decode cX12_failed 54 = .ok (.invokevirtual 158, 3) := by decide +kernel
theorem dX12_failed_57 : decode cX12_failed 57 = .ok (.ireturn, 1) := by decide +kernel
theorem dX12_readings_0 : decode cX12_readings 0 = .ok (.iload_n 3, 1) := by decide +kernel
theorem dX12_readings_1 : decode cX12_readings 1 = .ok (.iconst 1, 1) := by decide +kernel
theorem dX12_readings_2 : decode cX12_readings 2 = .ok (.bipush 50, 2) := by decide +kernel
theorem dX12_readings_4 : decode cX12_readings 4 = .ok (.invokestatic 174, 3) := by decide +kernel
theorem dX12_readings_7 : decode cX12_readings 7 = .ok (.ifCond .ne 10, 3) := by decide +kernel
theorem dX12_readings_10 : decode cX12_readings 10 = .ok (.aload_n 0, 1) := by decide +kernel
theorem dX12_readings_11 : decode cX12_readings 11 = .ok (.bipush 6, 2) := by decide +kernel
theorem dX12_readings_13 : decode cX12_readings 13 = .ok (.invokevirtual 154, 3) := by decide +kernel
theorem dX12_readings_16 : decode cX12_readings 16 = .ok (.ireturn, 1) := by decide +kernel
theorem dX12_readings_17 : decode cX12_readings 17 = .ok (.aload_n 0, 1) := by decide +kernel
theorem dX12_readings_18 : decode cX12_readings 18 = .ok (.iload_n 1, 1) := by decide +kernel
theorem dX12_readings_19 : decode cX12_readings 19 = .ok (.invokevirtual 171, 3) := by decide +kernel
theorem dX12_readings_22 : decode cX12_readings 22 = .ok (.ifCond .ne 9, 3) := by decide +kernel
theorem dX12_readings_25 : decode cX12_readings 25 = .ok (.aload_n 0, 1) := by decide +kernel
theorem dX12_readings_26 : decode cX12_readings 26 = .ok (.iconst 3, 1) := by decide +kernel
theorem dX12_readings_27 : decode cX12_readings 27 = .ok (.invokevirtual 154, 3) := by decide +kernel
theorem dX12_readings_30 : decode cX12_readings 30 = .ok (.ireturn, 1) := by decide +kernel
theorem dX12_readings_31 : decode cX12_readings 31 = .ok (.aload_n 0, 1) := by decide +kernel
theorem dX12_readings_32 : decode cX12_readings 32 = .ok (.iload_n 2, 1) := by decide +kernel
theorem dX12_readings_33 : decode cX12_readings 33 = .ok (.invokevirtual 294, 3) := by decide +kernel
theorem dX12_readings_36 : decode cX12_readings 36 = .ok (.ifCond .le 13, 3) := by decide +kernel
theorem dX12_readings_39 : decode cX12_readings 39 = .ok (.aload_n 0, 1) := by decide +kernel
theorem dX12_readings_40 : decode cX12_readings 40 = .ok (.aload_n 0, 1) := by decide +kernel
theorem dX12_readings_41 : decode cX12_readings 41 = .ok (.iload_n 2, 1) := by decide +kernel
theorem dX12_readings_42 : decode cX12_readings 42 = .ok (.invokevirtual 294, 3) := by decide +kernel
theorem dX12_readings_45 : decode cX12_readings 45 = .ok (.invokevirtual 154, 3) := by decide +kernel
theorem dX12_readings_48 : decode cX12_readings 48 = .ok (.ireturn, 1) := by decide +kernel
theorem dX12_readings_49 : decode cX12_readings 49 = .ok (.aload_n 0, 1) := by decide +kernel
theorem dX12_readings_50 : decode cX12_readings 50 = .ok (.getfield 91, 3) := by decide +kernel
theorem dX12_readings_53 : decode cX12_readings 53 = .ok (.iload_n 2, 1) := by decide +kernel
theorem dX12_readings_54 : decode cX12_readings 54 = .ok (.iaload, 1) := by decide +kernel
theorem dX12_readings_55 : decode cX12_readings 55 = .ok (.bipush 100, 2) := by decide +kernel
theorem dX12_readings_57 : decode cX12_readings 57 = .ok (.if_icmp .le 10, 3) := by decide +kernel
theorem dX12_readings_60 : decode cX12_readings 60 = .ok (.aload_n 0, 1) := by decide +kernel
theorem dX12_readings_61 : decode cX12_readings 61 = .ok (.bipush 6, 2) := by decide +kernel
theorem dX12_readings_63 : decode cX12_readings 63 = .ok (.invokevirtual 154, 3) := by decide +kernel
theorem dX12_readings_66 : decode cX12_readings 66 = .ok (.ireturn, 1) := by decide +kernel
theorem dX12_readings_67 : decode cX12_readings 67 = .ok (.aload_n 0, 1) := by decide +kernel
theorem dX12_readings_68 : decode cX12_readings 68 = .ok (.iconst 0, 1) := by decide +kernel
theorem dX12_readings_69 : decode cX12_readings 69 = .ok (.putfield 333, 3) := by decide +kernel
theorem dX12_readings_72 : decode cX12_readings 72 = .ok (.iconst 0, 1) := by decide +kernel
theorem dX12_readings_73 : decode cX12_readings 73 = .ok (.istore 4, 2) := by decide +kernel
theorem dX12_readings_75 : decode cX12_readings 75 = .ok (.iload 4, 2) := by decide +kernel
theorem dX12_readings_77 : decode cX12_readings 77 = .ok (.aload_n 0, 1) := by decide +kernel
theorem dX12_readings_78 : decode cX12_readings 78 = .ok (.getfield 91, 3) := by decide +kernel
theorem dX12_readings_81 : decode cX12_readings 81 = .ok (.iload_n 2, 1) := by decide +kernel
theorem dX12_readings_82 : decode cX12_readings 82 = .ok (.iaload, 1) := by decide +kernel
theorem dX12_readings_83 : decode cX12_readings 83 = .ok (.if_icmp .ge 27, 3) := by decide +kernel
theorem dX12_readings_86 : decode cX12_readings 86 = .ok (.aload_n 0, 1) := by decide +kernel
theorem dX12_readings_87 : decode cX12_readings 87 = .ok (.aload_n 0, 1) := by decide +kernel
theorem dX12_readings_88 : decode cX12_readings 88 = .ok (.getfield 95, 3) := by decide +kernel
theorem dX12_readings_91 : decode cX12_readings 91 = .ok (.sipush 200, 3) := by decide +kernel
theorem dX12_readings_94 : decode cX12_readings 94 = .ok (.iload_n 2, 1) := by decide +kernel
theorem dX12_readings_95 : decode cX12_readings 95 = .ok (.imul, 1) := by decide +kernel
theorem dX12_readings_96 : decode cX12_readings 96 = .ok (.iload 4, 2) := by decide +kernel
theorem dX12_readings_98 : decode cX12_readings 98 = .ok (.iadd, 1) := by decide +kernel
theorem dX12_readings_99 : decode cX12_readings 99 = .ok (.iaload, 1) := by decide +kernel
theorem dX12_readings_100 : decode cX12_readings 100 = .ok (.iconst 0, 1) := by decide +kernel
theorem dX12_readings_101 : decode cX12_readings 101 = .ok (.invokevirtual 351, 3) := by decide +kernel
theorem dX12_readings_104 : decode cX12_readings 104 = .ok (.iinc 4 1, 3) := by decide +kernel
theorem dX12_readings_107 : decode cX12_readings 107 = .ok (.goto (-32), 3) := by decide +kernel
theorem dX12_readings_110 : decode cX12_readings 110 = .ok (.aload_n 0, 1) := by decide +kernel
theorem dX12_readings_111 : decode cX12_readings 111 = .ok (.iload_n 1, 1) := by decide +kernel
theorem dX12_readings_112 : decode cX12_readings 112 = .ok (.invokevirtual 354, 3) := by decide +kernel
theorem dX12_readings_115 : decode cX12_readings 115 = .ok (.aload_n 0, 1) := by decide +kernel
theorem dX12_readings_116 : decode cX12_readings 116 = .ok (.invokevirtual 401, 3) := by decide +kernel
theorem dX12_readings_119 : decode cX12_readings 119 = .ok (.aload_n 0, 1) := by decide +kernel
theorem dX12_readings_120 : decode cX12_readings 120 = .ok (.iconst 0, 1) := by decide +kernel
theorem dX12_readings_121 : decode cX12_readings 121 = .ok (.putfield 395, 3) := by decide +kernel
theorem dX12_readings_124 : decode cX12_readings 124 = .ok (.aload_n 0, 1) := by decide +kernel
theorem dX12_readings_125 : decode cX12_readings 125 = .ok (.iconst 0, 1) := by decide +kernel
theorem dX12_readings_126 : decode cX12_readings 126 = .ok (.putfield 382, 3) := by decide +kernel
theorem dX12_readings_129 : decode cX12_readings 129 = .ok (.aload_n 0, 1) := by decide +kernel
theorem dX12_readings_130 : decode cX12_readings 130 = .ok (.iconst 0, 1) := by decide +kernel
theorem dX12_readings_131 : decode cX12_readings 131 = .ok (.putfield 388, 3) := by decide +kernel
theorem dX12_readings_134 : decode cX12_readings 134 = .ok (.aload_n 0, 1) := by decide +kernel
theorem dX12_readings_135 : decode cX12_readings 135 = .ok (.iload_n 3, 1) := by decide +kernel
theorem dX12_readings_136 : decode cX12_readings 136 = .ok (.putfield 398, 3) := by decide +kernel
theorem dX12_readings_139 : decode cX12_readings 139 = .ok (.aload_n 0, 1) := by decide +kernel
theorem dX12_readings_140 : decode cX12_readings 140 = .ok (.getfield 132, 3) := by decide +kernel
theorem dX12_readings_143 : decode cX12_readings 143 = .ok (.iconst 0, 1) := by decide +kernel
theorem dX12_readings_144 : decode cX12_readings 144 = .ok (.baload, 1) := by decide +kernel
theorem dX12_readings_145 : decode cX12_readings 145 = .ok (.ifCond .eq 10, 3) := by decide +kernel
theorem dX12_readings_148 : decode cX12_readings 148 = .ok (.aload_n 0, 1) := by decide +kernel
theorem dX12_readings_149 : decode cX12_readings 149 = .ok (.iconst 0, 1) := by decide +kernel
theorem dX12_readings_150 : decode cX12_readings 150 = .ok (.iconst 0, 1) := by decide +kernel
theorem dX12_readings_151 : decode cX12_readings 151 = .ok (.iconst 0, 1) := by decide +kernel
theorem dX12_readings_152 : decode cX12_readings 152 = .ok (.invokevirtual 391, 3) := by decide +kernel
theorem dX12_readings_155 : decode cX12_readings 155 = .ok (.aload_n 0, 1) := by decide +kernel
theorem dX12_readings_156 : decode cX12_readings 156 = .ok (.aload_n 0, 1) := by decide +kernel
theorem dX12_readings_157 : decode cX12_readings 157 = .ok (.getfield 395, 3) := by decide +kernel
theorem dX12_readings_160 : decode cX12_readings 160 = .ok (.invokevirtual 158, 3) := by decide +kernel
theorem dX12_readings_163 : decode cX12_readings 163 = .ok (.ireturn, 1) := by decide +kernel
theorem dX12_more_0 : decode cX12_more 0 = .ok (.aload_n 0, 1) := by decide +kernel
theorem dX12_more_1 : decode cX12_more 1 = .ok (.getfield 382, 3) := by decide +kernel
theorem dX12_more_4 : decode cX12_more 4 = .ok (.ireturn, 1) := by decide +kernel
theorem dX12_reading_0 : decode cX12_reading 0 = .ok (.iload_n 1, 1) := by decide +kernel
theorem dX12_reading_1 : decode cX12_reading 1 = .ok (.iconst 0, 1) := by decide +kernel
theorem dX12_reading_2 : decode cX12_reading 2 = .ok (.aload_n 0, 1) := by decide +kernel
theorem dX12_reading_3 : decode cX12_reading 3 = .ok (.getfield 395, 3) := by decide +kernel
theorem dX12_reading_6 : decode cX12_reading 6 = .ok (.iconst 1, 1) := by decide +kernel
theorem dX12_reading_7 : decode cX12_reading 7 = .ok (.isub, 1) := by decide +kernel
theorem dX12_reading_8 : decode cX12_reading 8 = .ok (.invokestatic 174, 3) := by decide +kernel
theorem dX12_reading_11 : decode cX12_reading 11 = .ok (.ifCond .eq 38, 3) := by decide +kernel
theorem dX12_reading_14 : decode cX12_reading 14 = .ok (.iload_n 2, 1) := by decide +kernel
theorem dX12_reading_15 : decode cX12_reading 15 = .ok (.iconst 0, 1) := by decide +kernel
theorem dX12_reading_16 : decode cX12_reading 16 = .ok (.aload_n 0, 1) := by decide +kernel
theorem dX12_reading_17 : decode cX12_reading 17 = .ok (.getfield 139, 3) := by decide +kernel
theorem dX12_reading_20 : decode cX12_reading 20 = .ok (.iload_n 1, 1) := by decide +kernel
theorem dX12_reading_21 : decode cX12_reading 21 = .ok (.iaload, 1) := by decide +kernel
theorem dX12_reading_22 : decode cX12_reading 22 = .ok (.iconst 1, 1) := by decide +kernel
theorem dX12_reading_23 : decode cX12_reading 23 = .ok (.isub, 1) := by decide +kernel
theorem dX12_reading_24 : decode cX12_reading 24 = .ok (.invokestatic 174, 3) := by decide +kernel
theorem dX12_reading_27 : decode cX12_reading 27 = .ok (.ifCond .eq 22, 3) := by decide +kernel
theorem dX12_reading_30 : decode cX12_reading 30 = .ok (.aload_n 0, 1) := by decide +kernel
theorem dX12_reading_31 : decode cX12_reading 31 = .ok (.aload_n 0, 1) := by decide +kernel
theorem dX12_reading_32 : decode cX12_reading 32 = .ok (.getfield 136, 3) := by decide +kernel
theorem dX12_reading_35 : decode cX12_reading 35 = .ok (.sipush 808, 3) := by decide +kernel
theorem dX12_reading_38 : decode cX12_reading 38 = .ok (.iload_n 1, 1) := by decide +kernel
theorem dX12_reading_39 : decode cX12_reading 39 = .ok (.imul, 1) := by decide +kernel
theorem dX12_reading_40 : decode cX12_reading 40 = .ok (.iload_n 2, 1) := by decide +kernel
theorem dX12_reading_41 : decode cX12_reading 41 = .ok (.iadd, 1) := by decide +kernel
theorem dX12_reading_42 : decode cX12_reading 42 = .ok (.iaload, 1) := by decide +kernel
theorem dX12_reading_43 : decode cX12_reading 43 = .ok (.invokevirtual 158, 3) := by decide +kernel
theorem dX12_reading_46 : decode cX12_reading 46 = .ok (.goto 8, 3) := by decide +kernel
theorem dX12_reading_49 : decode cX12_reading 49 = .ok (.aload_n 0, 1) := by decide +kernel
theorem dX12_reading_50 : decode cX12_reading 50 = .ok (.iconst 2, 1) := by decide +kernel
theorem dX12_reading_51 : decode cX12_reading 51 = .ok (.invokevirtual 154, 3) := by decide +kernel
theorem dX12_reading_54 : decode cX12_reading 54 = .ok (.ireturn, 1) := by decide +kernel
theorem dX12_judge_0 : decode cX12_judge 0 = .ok (.aload_n 0, 1) := by decide +kernel
theorem dX12_judge_1 : decode cX12_judge 1 = .ok (.iload_n 1, 1) := by decide +kernel
theorem dX12_judge_2 : decode cX12_judge 2 = .ok (.invokevirtual 167, 3) := by decide +kernel
theorem dX12_judge_5 : decode cX12_judge 5 = .ok (.ifCond .ne 9, 3) := by decide +kernel
theorem dX12_judge_8 : decode cX12_judge 8 = .ok (.aload_n 0, 1) := by decide +kernel
theorem dX12_judge_9 : decode cX12_judge 9 = .ok (.iconst 3, 1) := by decide +kernel
theorem dX12_judge_10 : decode cX12_judge 10 = .ok (.invokevirtual 154, 3) := by decide +kernel
theorem dX12_judge_13 : decode cX12_judge 13 = .ok (.ireturn, 1) := by decide +kernel
theorem dX12_judge_14 : decode cX12_judge 14 = .ok (.aload_n 0, 1) := by decide +kernel
theorem dX12_judge_15 : decode cX12_judge 15 = .ok (.getfield 21, 3) := by decide +kernel
theorem dX12_judge_18 : decode cX12_judge 18 = .ok (.iload_n 1, 1) := by decide +kernel
theorem dX12_judge_19 : decode cX12_judge 19 = .ok (.iaload, 1) := by decide +kernel
theorem dX12_judge_20 : decode cX12_judge 20 = .ok (.iconst 4, 1) := by decide +kernel
theorem dX12_judge_21 : decode cX12_judge 21 = .ok (.if_icmp .ne 9, 3) := by decide +kernel
theorem dX12_judge_24 : decode cX12_judge 24 = .ok (.aload_n 0, 1) := by decide +kernel
theorem dX12_judge_25 : decode cX12_judge 25 = .ok (.iconst 4, 1) := by decide +kernel
theorem dX12_judge_26 : decode cX12_judge 26 = .ok (.invokevirtual 154, 3) := by decide +kernel
theorem dX12_judge_29 : decode cX12_judge 29 = .ok (.ireturn, 1) := by decide +kernel
theorem dX12_judge_30 : decode cX12_judge 30 = .ok (.aload_n 0, 1) := by decide +kernel
theorem dX12_judge_31 : decode cX12_judge 31 = .ok (.iload_n 1, 1) := by decide +kernel
theorem dX12_judge_32 : decode cX12_judge 32 = .ok (.invokevirtual 171, 3) := by decide +kernel
theorem dX12_judge_35 : decode cX12_judge 35 = .ok (.ifCond .ne 9, 3) := by decide +kernel
theorem dX12_judge_38 : decode cX12_judge 38 = .ok (.aload_n 0, 1) := by decide +kernel
theorem dX12_judge_39 : decode cX12_judge 39 = .ok (.iconst 3, 1) := by decide +kernel
theorem dX12_judge_40 : decode cX12_judge 40 = .ok (.invokevirtual 154, 3) := by decide +kernel
theorem dX12_judge_43 : decode cX12_judge 43 = .ok (.ireturn, 1) := by decide +kernel
theorem dX12_judge_44 : decode cX12_judge 44 = .ok (.aload_n 0, 1) := by decide +kernel
theorem dX12_judge_45 : decode cX12_judge 45 = .ok (.getfield 21, 3) := by decide +kernel
theorem dX12_judge_48 : decode cX12_judge 48 = .ok (.iload_n 1, 1) := by decide +kernel
theorem dX12_judge_49 : decode cX12_judge 49 = .ok (.iaload, 1) := by decide +kernel
theorem dX12_judge_50 : decode cX12_judge 50 = .ok (.iconst 5, 1) := by decide +kernel
theorem dX12_judge_51 : decode cX12_judge 51 = .ok (.if_icmp .ne 37, 3) := by decide +kernel
theorem dX12_judge_54 : decode cX12_judge 54 = .ok (.aload_n 0, 1) := by decide +kernel
theorem dX12_judge_55 : decode cX12_judge 55 = .ok (.aload_n 0, 1) := by decide +kernel
theorem dX12_judge_56 : decode cX12_judge 56 = .ok (.getfield 27, 3) := by decide +kernel
theorem dX12_judge_59 : decode cX12_judge 59 = .ok (.iload_n 1, 1) := by decide +kernel
theorem dX12_judge_60 : decode cX12_judge 60 = .ok (.iaload, 1) := by decide +kernel
theorem dX12_judge_61 : decode cX12_judge 61 = .ok (.invokevirtual 407, 3) := by decide +kernel
theorem dX12_judge_64 : decode cX12_judge 64 = .ok (.ifCond .ne 16, 3) := by decide +kernel
theorem dX12_judge_67 : decode cX12_judge 67 = .ok (.aload_n 0, 1) := by decide +kernel
theorem dX12_judge_68 : decode cX12_judge 68 = .ok (.aload_n 0, 1) := by decide +kernel
theorem dX12_judge_69 : decode cX12_judge 69 = .ok (.getfield 30, 3) := by decide +kernel
theorem dX12_judge_72 : decode cX12_judge 72 = .ok (.iload_n 1, 1) := by decide +kernel
theorem dX12_judge_73 : decode cX12_judge 73 = .ok (.iaload, 1) := by decide +kernel
theorem dX12_judge_74 : decode cX12_judge 74 = .ok (.invokevirtual 407, 3) := by decide +kernel
theorem dX12_judge_77 : decode cX12_judge 77 = .ok (.ifCond .eq 7, 3) := by decide +kernel
theorem dX12_judge_80 : decode cX12_judge 80 = .ok (.iconst 1, 1) := by decide +kernel
theorem dX12_judge_81 : decode cX12_judge 81 = .ok (.goto 12, 3) := by decide +kernel
theorem dX12_judge_84 : decode cX12_judge 84 = .ok (.iconst 0, 1) := by decide +kernel
theorem dX12_judge_85 : decode cX12_judge 85 = .ok (.goto 8, 3) := by decide +kernel
theorem dX12_judge_88 : decode cX12_judge 88 = .ok (.aload_n 0, 1) := by decide +kernel
theorem dX12_judge_89 : decode cX12_judge 89 = .ok (.iload_n 1, 1) := by decide +kernel
theorem dX12_judge_90 : decode cX12_judge 90 = .ok (.invokevirtual 407, 3) := by decide +kernel
theorem dX12_judge_93 : decode cX12_judge 93 = .ok (.istore_n 2, 1) := by decide +kernel
theorem dX12_judge_94 : decode cX12_judge 94 = .ok (.aload_n 0, 1) := by decide +kernel
theorem dX12_judge_95 : decode cX12_judge 95 = .ok (.iload_n 1, 1) := by decide +kernel
theorem dX12_judge_96 : decode cX12_judge 96 = .ok (.invokevirtual 354, 3) := by decide +kernel
theorem dX12_judge_99 : decode cX12_judge 99 = .ok (.aload_n 0, 1) := by decide +kernel
theorem dX12_judge_100 : decode cX12_judge 100 = .ok (.iload_n 2, 1) := by decide +kernel
theorem dX12_judge_101 : decode cX12_judge 101 = .ok (.ifCond .ne 23, 3) := by decide +kernel
theorem dX12_judge_104 : decode cX12_judge 104 = .ok (.aload_n 0, 1) := by decide +kernel
theorem dX12_judge_105 : decode cX12_judge 105 = .ok (.iconst 0, 1) := by decide +kernel
theorem dX12_judge_106 : decode cX12_judge 106 = .ok (.invokevirtual 410, 3) := by decide +kernel
theorem dX12_judge_109 : decode cX12_judge 109 = .ok (.ifCond .eq 15, 3) := by decide +kernel
theorem dX12_judge_112 : decode cX12_judge 112 = .ok (.aload_n 0, 1) := by decide +kernel
theorem dX12_judge_113 : decode cX12_judge 113 = .ok (.iconst 1, 1) := by decide +kernel
theorem dX12_judge_114 : decode cX12_judge 114 = .ok (.invokevirtual 410, 3) := by decide +kernel
theorem dX12_judge_117 : decode cX12_judge 117 = .ok (.ifCond .eq 7, 3) := by decide +kernel
theorem dX12_judge_120 : decode cX12_judge 120 = .ok (.iconst 1, 1) := by decide +kernel
theorem dX12_judge_121 : decode cX12_judge 121 = .ok (.goto 4, 3) := by decide +kernel
theorem dX12_judge_124 : decode cX12_judge 124 = .ok (.iconst 0, 1) := by decide +kernel
theorem dX12_judge_125 : decode cX12_judge 125 = .ok (.invokevirtual 158, 3) := by decide +kernel
theorem dX12_judge_128 : decode cX12_judge 128 = .ok (.ireturn, 1) := by decide +kernel
theorem dX12_parts_0 : decode cX12_parts 0 = .ok (.aload_n 0, 1) := by decide +kernel
theorem dX12_parts_1 : decode cX12_parts 1 = .ok (.iload_n 1, 1) := by decide +kernel
theorem dX12_parts_2 : decode cX12_parts 2 = .ok (.invokevirtual 171, 3) := by decide +kernel
theorem dX12_parts_5 : decode cX12_parts 5 = .ok (.ifCond .ne 9, 3) := by decide +kernel
theorem dX12_parts_8 : decode cX12_parts 8 = .ok (.aload_n 0, 1) := by decide +kernel
theorem dX12_parts_9 : decode cX12_parts 9 = .ok (.iconst 3, 1) := by decide +kernel
theorem dX12_parts_10 : decode cX12_parts 10 = .ok (.invokevirtual 154, 3) := by decide +kernel
theorem dX12_parts_13 : decode cX12_parts 13 = .ok (.ireturn, 1) := by decide +kernel
theorem dX12_parts_14 : decode cX12_parts 14 = .ok (.aload_n 0, 1) := by decide +kernel
theorem dX12_parts_15 : decode cX12_parts 15 = .ok (.iload_n 1, 1) := by decide +kernel
theorem dX12_parts_16 : decode cX12_parts 16 = .ok (.invokevirtual 354, 3) := by decide +kernel
theorem dX12_parts_19 : decode cX12_parts 19 = .ok (.iload_n 2, 1) := by decide +kernel
theorem dX12_parts_20 : decode cX12_parts 20 = .ok (.iconst 0, 1) := by decide +kernel
theorem dX12_parts_21 : decode cX12_parts 21 = .ok (.aload_n 0, 1) := by decide +kernel
theorem dX12_parts_22 : decode cX12_parts 22 = .ok (.getfield 116, 3) := by decide +kernel
theorem dX12_parts_25 : decode cX12_parts 25 = .ok (.iconst 0, 1) := by decide +kernel
theorem dX12_parts_26 : decode cX12_parts 26 = .ok (.iaload, 1) := by decide +kernel
theorem dX12_parts_27 : decode cX12_parts 27 = .ok (.iconst 1, 1) := by decide +kernel
theorem dX12_parts_28 : decode cX12_parts 28 = .ok (.isub, 1) := by decide +kernel
theorem dX12_parts_29 : decode cX12_parts 29 = .ok (.invokestatic 174, 3) := by decide +kernel
theorem dX12_parts_32 : decode cX12_parts 32 = .ok (.ifCond .eq 19, 3) := by decide +kernel
theorem dX12_parts_35 : decode cX12_parts 35 = .ok (.iload_n 3, 1) := by decide +kernel
theorem dX12_parts_36 : decode cX12_parts 36 = .ok (.iconst 0, 1) := by decide +kernel
theorem dX12_parts_37 : decode cX12_parts 37 = .ok (.aload_n 0, 1) := by decide +kernel
theorem dX12_parts_38 : decode cX12_parts 38 = .ok (.getfield 116, 3) := by decide +kernel
theorem dX12_parts_41 : decode cX12_parts 41 = .ok (.iconst 0, 1) := by decide +kernel
theorem dX12_parts_42 : decode cX12_parts 42 = .ok (.iaload, 1) := by decide +kernel
theorem dX12_parts_43 : decode cX12_parts 43 = .ok (.iconst 1, 1) := by decide +kernel
theorem dX12_parts_44 : decode cX12_parts 44 = .ok (.isub, 1) := by decide +kernel
theorem dX12_parts_45 : decode cX12_parts 45 = .ok (.invokestatic 174, 3) := by decide +kernel
theorem dX12_parts_48 : decode cX12_parts 48 = .ok (.ifCond .ne 9, 3) := by decide +kernel
theorem dX12_parts_51 : decode cX12_parts 51 = .ok (.aload_n 0, 1) := by decide +kernel
theorem dX12_parts_52 : decode cX12_parts 52 = .ok (.iconst 2, 1) := by decide +kernel
theorem dX12_parts_53 : decode cX12_parts 53 = .ok (.invokevirtual 154, 3) := by decide +kernel
theorem dX12_parts_56 : decode cX12_parts 56 = .ok (.ireturn, 1) := by decide +kernel
theorem dX12_parts_57 : decode cX12_parts 57 = .ok (.aload_n 0, 1) := by decide +kernel
theorem dX12_parts_58 : decode cX12_parts 58 = .ok (.iload_n 2, 1) := by decide +kernel
theorem dX12_parts_59 : decode cX12_parts 59 = .ok (.iload_n 3, 1) := by decide +kernel
theorem dX12_parts_60 : decode cX12_parts 60 = .ok (.invokevirtual 404, 3) := by decide +kernel
theorem dX12_parts_63 : decode cX12_parts 63 = .ok (.istore 4, 2) := by decide +kernel
theorem dX12_parts_65 : decode cX12_parts 65 = .ok (.aload_n 0, 1) := by decide +kernel
theorem dX12_parts_66 : decode cX12_parts 66 = .ok (.iload 4, 2) := by decide +kernel
theorem dX12_parts_68 : decode cX12_parts 68 = .ok (.aload_n 0, 1) := by decide +kernel
theorem dX12_parts_69 : decode cX12_parts 69 = .ok (.getfield 113, 3) := by decide +kernel
theorem dX12_parts_72 : decode cX12_parts 72 = .ok (.iload_n 2, 1) := by decide +kernel
theorem dX12_parts_73 : decode cX12_parts 73 = .ok (.iaload, 1) := by decide +kernel
theorem dX12_parts_74 : decode cX12_parts 74 = .ok (.if_icmp .eq 14, 3) := by decide +kernel
theorem dX12_parts_77 : decode cX12_parts 77 = .ok (.iload 4, 2) := by decide +kernel
theorem dX12_parts_79 : decode cX12_parts 79 = .ok (.aload_n 0, 1) := by decide +kernel
theorem dX12_parts_80 : decode cX12_parts 80 = .ok (.getfield 113, 3) := by decide +kernel
theorem dX12_parts_83 : decode cX12_parts 83 = .ok (.iload_n 3, 1) := by decide +kernel
theorem dX12_parts_84 : decode cX12_parts 84 = .ok (.iaload, 1) := by decide +kernel
theorem dX12_parts_85 : decode cX12_parts 85 = .ok (.if_icmp .ne 10, 3) := by decide +kernel
theorem dX12_parts_88 : decode cX12_parts 88 = .ok (.iconst (-1), 1) := by decide +kernel
theorem dX12_parts_89 : decode cX12_parts 89 = .ok (.iload 4, 2) := by decide +kernel
theorem dX12_parts_91 : decode cX12_parts 91 = .ok (.isub, 1) := by decide +kernel
theorem dX12_parts_92 : decode cX12_parts 92 = .ok (.goto 5, 3) := by decide +kernel
theorem dX12_parts_95 : decode cX12_parts 95 = .ok (.iload 4, 2) := by decide +kernel
theorem dX12_parts_97 : decode cX12_parts 97 = .ok (.invokevirtual 158, 3) := by decide +kernel
theorem dX12_parts_100 : decode cX12_parts 100 = .ok (.ireturn, 1) := by decide +kernel
theorem dX12_unreadable_0 : decode cX12_unreadable 0 = .ok (.iload_n 2, 1) := by decide +kernel
theorem dX12_unreadable_1 : decode cX12_unreadable 1 = .ok (.iconst 1, 1) := by decide +kernel
theorem dX12_unreadable_2 : decode cX12_unreadable 2 = .ok (.bipush 6, 2) := by decide +kernel
theorem dX12_unreadable_4 : decode cX12_unreadable 4 = .ok (.invokestatic 174, 3) := by decide +kernel
theorem dX12_unreadable_7 : decode cX12_unreadable 7 = .ok (.ifCond .eq 14, 3) := by decide +kernel
theorem dX12_unreadable_10 : decode cX12_unreadable 10 = .ok (.iload_n 3, 1) := by decide +kernel
theorem dX12_unreadable_11 : decode cX12_unreadable 11 = .ok (.iconst 1, 1) := by decide +kernel
theorem dX12_unreadable_12 : decode cX12_unreadable 12 = .ok (.sipush 5000, 3) := by decide +kernel
theorem dX12_unreadable_15 : decode cX12_unreadable 15 = .ok (.invokestatic 174, 3) := by decide +kernel
theorem dX12_unreadable_18 : decode cX12_unreadable 18 = .ok (.ifCond .ne 10, 3) := by decide +kernel
theorem dX12_unreadable_21 : decode cX12_unreadable 21 = .ok (.aload_n 0, 1) := by decide +kernel
theorem dX12_unreadable_22 : decode cX12_unreadable 22 = .ok (.bipush 6, 2) := by decide +kernel
theorem dX12_unreadable_24 : decode cX12_unreadable 24 = .ok (.invokevirtual 154, 3) := by decide +kernel
theorem dX12_unreadable_27 : decode cX12_unreadable 27 = .ok (.ireturn, 1) := by decide +kernel
theorem dX12_unreadable_28 : decode cX12_unreadable 28 = .ok (.aload_n 0, 1) := by decide +kernel
theorem dX12_unreadable_29 : decode cX12_unreadable 29 = .ok (.iload_n 1, 1) := by decide +kernel
theorem dX12_unreadable_30 : decode cX12_unreadable 30 = .ok (.invokevirtual 171, 3) := by decide +kernel
theorem dX12_unreadable_33 : decode cX12_unreadable 33 = .ok (.ifCond .ne 9, 3) := by decide +kernel
theorem dX12_unreadable_36 : decode cX12_unreadable 36 = .ok (.aload_n 0, 1) := by decide +kernel
theorem dX12_unreadable_37 : decode cX12_unreadable 37 = .ok (.iconst 3, 1) := by decide +kernel
theorem dX12_unreadable_38 : decode cX12_unreadable 38 = .ok (.invokevirtual 154, 3) := by decide +kernel
theorem dX12_unreadable_41 : decode cX12_unreadable 41 = .ok (.ireturn, 1) := by decide +kernel
theorem dX12_unreadable_42 : decode cX12_unreadable 42 = .ok (.aload_n 0, 1) := by decide +kernel
theorem dX12_unreadable_43 : decode cX12_unreadable 43 = .ok (.iload_n 1, 1) := by decide +kernel
theorem dX12_unreadable_44 : decode cX12_unreadable 44 = .ok (.invokevirtual 354, 3) := by decide +kernel
theorem dX12_unreadable_47 : decode cX12_unreadable 47 = .ok (.aload_n 0, 1) := by decide +kernel
theorem dX12_unreadable_48 : decode cX12_unreadable 48 = .ok (.iload_n 1, 1) := by decide +kernel
theorem dX12_unreadable_49 : decode cX12_unreadable 49 = .ok (.invokevirtual 416, 3) := by decide +kernel
theorem dX12_unreadable_52 : decode cX12_unreadable 52 = .ok (.aload_n 0, 1) := by decide +kernel
theorem dX12_unreadable_53 : decode cX12_unreadable 53 = .ok (.aload_n 0, 1) := by decide +kernel
theorem dX12_unreadable_54 : decode cX12_unreadable 54 = .ok (.getfield 330, 3) := by decide +kernel
theorem dX12_unreadable_57 : decode cX12_unreadable 57 = .ok (.putfield 419, 3) := by decide +kernel
theorem dX12_unreadable_60 : decode cX12_unreadable 60 = .ok (.iconst 0, 1) := by decide +kernel
theorem dX12_unreadable_61 : decode cX12_unreadable 61 = .ok (.istore 4, 2) := by decide +kernel
theorem dX12_unreadable_63 : decode cX12_unreadable 63 = .ok (.iload 4, 2) := by decide +kernel
theorem dX12_unreadable_65 : decode cX12_unreadable 65 = .ok (.aload_n 0, 1) := by decide +kernel
theorem dX12_unreadable_66 : decode cX12_unreadable 66 = .ok (.getfield 330, 3) := by decide +kernel
theorem dX12_unreadable_69 : decode cX12_unreadable 69 = .ok (.if_icmp .ge 23, 3) := by decide +kernel
theorem dX12_unreadable_72 : decode cX12_unreadable 72 = .ok (.aload_n 0, 1) := by decide +kernel
theorem dX12_unreadable_73 : decode cX12_unreadable 73 = .ok (.getfield 129, 3) := by decide +kernel
theorem dX12_unreadable_76 : decode cX12_unreadable 76 = .ok (.iload 4, 2) := by decide +kernel
theorem dX12_unreadable_78 : decode cX12_unreadable 78 = .ok (.aload_n 0, 1) := by decide +kernel
theorem dX12_unreadable_79 : decode cX12_unreadable 79 = .ok (.getfield 126, 3) := by decide +kernel
theorem dX12_unreadable_82 : decode cX12_unreadable 82 = .ok (.iload 4, 2) := by decide +kernel
theorem dX12_unreadable_84 : decode cX12_unreadable 84 = .ok (.iaload, 1) := by decide +kernel
theorem dX12_unreadable_85 : decode cX12_unreadable 85 = .ok (.iastore, 1) := by decide +kernel
theorem dX12_unreadable_86 : decode cX12_unreadable 86 = .ok (.iinc 4 1, 3) := by decide +kernel
theorem dX12_unreadable_89 : decode cX12_unreadable 89 = .ok (.goto (-26), 3) := by decide +kernel
theorem dX12_unreadable_92 : decode cX12_unreadable 92 = .ok (.iconst 0, 1) := by decide +kernel
theorem dX12_unreadable_93 : decode cX12_unreadable 93 = .ok (.istore 4, 2) := by decide +kernel
theorem dX12_unreadable_95 : decode cX12_unreadable 95 = .ok (.bipush 6, 2) := by decide +kernel
theorem dX12_unreadable_97 : decode cX12_unreadable 97 = .ok (.newarray .int, 2) := by decide +kernel
theorem dX12_unreadable_99 : decode cX12_unreadable 99 = .ok (.astore 5, 2) := by decide +kernel
theorem dX12_unreadable_101 : decode cX12_unreadable 101 = .ok (.iconst 1, 1) := by decide +kernel
theorem dX12_unreadable_102 : decode cX12_unreadable 102 = .ok (.istore 6, 2) := by decide +kernel
theorem dX12_unreadable_104 : decode cX12_unreadable 104 = .ok (.iload 6, 2) := by decide +kernel
theorem dX12_unreadable_106 : decode cX12_unreadable 106 = .ok (.iload_n 2, 1) := by decide +kernel
theorem dX12_unreadable_107 : decode cX12_unreadable 107 = .ok (.if_icmp .gt 222, 3) := by decide +kernel
theorem dX12_unreadable_110 : decode cX12_unreadable 110 = .ok (.aload_n 0, 1) := by decide +kernel
theorem dX12_unreadable_111 : decode cX12_unreadable 111 = .ok (.getfield 413, 3) := by decide +kernel
theorem dX12_unreadable_114 : decode cX12_unreadable 114 = .ok (.ifCond .le 215, 3) := by decide +kernel
theorem dX12_unreadable_117 : decode cX12_unreadable 117 = .ok (.iconst 0, 1) := by decide +kernel
theorem dX12_unreadable_118 : decode cX12_unreadable 118 = .ok (.istore 7, 2) := by decide +kernel
theorem dX12_unreadable_120 : decode cX12_unreadable 120 = .ok (.iload 7, 2) := by decide +kernel
theorem dX12_unreadable_122 : decode cX12_unreadable 122 = .ok (.iload 6, 2) := by decide +kernel
theorem dX12_unreadable_124 : decode cX12_unreadable 124 = .ok (.if_icmp .ge 15, 3) := by decide +kernel
theorem dX12_unreadable_127 : decode cX12_unreadable 127 = .ok (.aload 5, 2) := by decide +kernel
theorem dX12_unreadable_129 : decode cX12_unreadable 129 = .ok (.iload 7, 2) := by decide +kernel
theorem dX12_unreadable_131 : decode cX12_unreadable 131 = .ok (.iconst 0, 1) := by decide +kernel
theorem dX12_unreadable_132 : decode cX12_unreadable 132 = .ok (.iastore, 1) := by decide +kernel
theorem dX12_unreadable_133 : decode cX12_unreadable 133 = .ok (.iinc 7 1, 3) := by decide +kernel
theorem dX12_unreadable_136 : decode cX12_unreadable 136 = .ok (.goto (-16), 3) := by decide +kernel
theorem dX12_unreadable_139 : decode cX12_unreadable 139 = .ok (.iconst 1, 1) := by decide +kernel
theorem dX12_unreadable_140 : decode cX12_unreadable 140 = .ok (.istore 7, 2) := by decide +kernel
theorem dX12_unreadable_142 : decode cX12_unreadable 142 = .ok (.iload 7, 2) := by decide +kernel
theorem dX12_unreadable_144 : decode cX12_unreadable 144 = .ok (.ifCond .eq 179, 3) := by decide +kernel
theorem dX12_unreadable_147 : decode cX12_unreadable 147 = .ok (.iload 4, 2) := by decide +kernel
theorem dX12_unreadable_149 : decode cX12_unreadable 149 = .ok (.iload_n 3, 1) := by decide +kernel
theorem dX12_unreadable_150 : decode cX12_unreadable 150 = .ok (.if_icmp .ne 14, 3) := by decide +kernel
theorem dX12_unreadable_153 : decode cX12_unreadable 153 = .ok (.aload_n 0, 1) := by decide +kernel
theorem dX12_unreadable_154 : decode cX12_unreadable 154 = .ok (.invokevirtual 422, 3) := by decide +kernel
theorem dX12_unreadable_157 : decode cX12_unreadable 157 = .ok (.aload_n 0, 1) := by decide +kernel
theorem dX12_unreadable_158 : decode cX12_unreadable 158 = .ok (.bipush 8, 2) := by decide +kernel
theorem dX12_unreadable_160 : decode cX12_unreadable 160 = .ok (.invokevirtual 154, 3) := by decide +kernel
theorem dX12_unreadable_163 : decode cX12_unreadable 163 = .ok (.ireturn, 1) := by decide +kernel
theorem dX12_unreadable_164 : decode cX12_unreadable 164 = .ok (.iinc 4 1, 3) := by decide +kernel
theorem dX12_unreadable_167 : decode cX12_unreadable 167 = .ok (.aload_n 0, 1) := by decide +kernel
theorem dX12_unreadable_168 : decode cX12_unreadable 168 = .ok (.iload 6, 2) := by decide +kernel
theorem dX12_unreadable_170 : decode cX12_unreadable 170 = .ok (.putfield 234, 3) := by decide +kernel
theorem dX12_unreadable_173 : decode cX12_unreadable 173 = .ok (.iconst 0, 1) := by decide +kernel
theorem dX12_unreadable_174 : decode cX12_unreadable 174 = .ok (.istore 8, 2) := by decide +kernel
theorem dX12_unreadable_176 : decode cX12_unreadable 176 = .ok (.iload 8, 2) := by decide +kernel
theorem dX12_unreadable_178 : decode cX12_unreadable 178 = .ok (.iload 6, 2) := by decide +kernel
theorem dX12_unreadable_180 : decode cX12_unreadable 180 = .ok (.if_icmp .ge 26, 3) := by decide +kernel
theorem dX12_unreadable_183 : decode cX12_unreadable 183 = .ok (.aload_n 0, 1) := by decide +kernel
theorem dX12_unreadable_184 : decode cX12_unreadable 184 = .ok (.getfield 61, 3) := by decide +kernel
theorem dX12_unreadable_187 : decode cX12_unreadable 187 = .ok (.iload 8, 2) := by decide +kernel
theorem dX12_unreadable_189 : decode cX12_unreadable 189 = .ok (.aload_n 0, 1) := by decide +kernel
theorem dX12_unreadable_190 : decode cX12_unreadable 190 = .ok (.getfield 145, 3) := by decide +kernel
theorem dX12_unreadable_193 : decode cX12_unreadable 193 = .ok (.aload 5, 2) := by decide +kernel
theorem dX12_unreadable_195 : decode cX12_unreadable 195 = .ok (.iload 8, 2) := by decide +kernel
theorem dX12_unreadable_197 : decode cX12_unreadable 197 = .ok (.iaload, 1) := by decide +kernel
theorem dX12_unreadable_198 : decode cX12_unreadable 198 = .ok (.iaload, 1) := by decide +kernel
theorem dX12_unreadable_199 : decode cX12_unreadable 199 = .ok (.iastore, 1) := by decide +kernel
theorem dX12_unreadable_200 : decode cX12_unreadable 200 = .ok (.iinc 8 1, 3) := by decide +kernel
theorem dX12_unreadable_203 : decode cX12_unreadable 203 = .ok (.goto (-27), 3) := by decide +kernel
theorem dX12_unreadable_206 : decode cX12_unreadable 206 = .ok (.aload_n 0, 1) := by decide +kernel
theorem dX12_unreadable_207 : decode cX12_unreadable 207 = .ok (.iload_n 1, 1) := by decide +kernel
theorem dX12_unreadable_208 : decode cX12_unreadable 208 = .ok (.invokevirtual 425, 3) := by decide +kernel
theorem dX12_unreadable_211 : decode cX12_unreadable 211 = .ok (.ifCond .eq 46, 3) := by decide +kernel
theorem dX12_unreadable_214 : decode cX12_unreadable 214 = .ok (.aload_n 0, 1) := by decide +kernel
theorem dX12_unreadable_215 : decode cX12_unreadable 215 = .ok (.iload 6, 2) := by decide +kernel
theorem dX12_unreadable_217 : decode cX12_unreadable 217 = .ok (.putfield 330, 3) := by decide +kernel
theorem dX12_unreadable_220 : decode cX12_unreadable 220 = .ok (.iconst 0, 1) := by decide +kernel
theorem dX12_unreadable_221 : decode cX12_unreadable 221 = .ok (.istore 8, 2) := by decide +kernel
theorem dX12_unreadable_223 : decode cX12_unreadable 223 = .ok (.iload 8, 2) := by decide +kernel
theorem dX12_unreadable_225 : decode cX12_unreadable 225 = .ok (.iload 6, 2) := by decide +kernel
theorem dX12_unreadable_227 : decode cX12_unreadable 227 = .ok (.if_icmp .ge 23, 3) := by decide +kernel
theorem dX12_unreadable_230 : decode cX12_unreadable 230 = .ok (.aload_n 0, 1) := by decide +kernel
theorem dX12_unreadable_231 : decode cX12_unreadable 231 = .ok (.getfield 126, 3) := by decide +kernel
theorem dX12_unreadable_234 : decode cX12_unreadable 234 = .ok (.iload 8, 2) := by decide +kernel
theorem dX12_unreadable_236 : decode cX12_unreadable 236 = .ok (.aload_n 0, 1) := by decide +kernel
theorem dX12_unreadable_237 : decode cX12_unreadable 237 = .ok (.getfield 61, 3) := by decide +kernel
theorem dX12_unreadable_240 : decode cX12_unreadable 240 = .ok (.iload 8, 2) := by decide +kernel
theorem dX12_unreadable_242 : decode cX12_unreadable 242 = .ok (.iaload, 1) := by decide +kernel
theorem dX12_unreadable_243 : decode cX12_unreadable 243 = .ok (.iastore, 1) := by decide +kernel
theorem dX12_unreadable_244 : decode cX12_unreadable 244 = .ok (.iinc 8 1, 3) := by decide +kernel
theorem dX12_unreadable_247 : decode cX12_unreadable 247 = .ok (.goto (-24), 3) := by decide +kernel
theorem dX12_unreadable_250 : decode cX12_unreadable 250 = .ok (.aload_n 0, 1) := by decide +kernel
theorem dX12_unreadable_251 : decode cX12_unreadable 251 = .ok (.iload 6, 2) := by decide +kernel
theorem dX12_unreadable_253 : decode cX12_unreadable 253 = .ok (.invokevirtual 158, 3) := by decide +kernel
theorem dX12_unreadable_256 : decode cX12_unreadable 256 = .ok (.ireturn, 1) := by decide +kernel
theorem dX12_unreadable_257 : decode cX12_unreadable 257 = .ok (.iload 6, 2) := by decide +kernel
theorem dX12_unreadable_259 : decode cX12_unreadable 259 = .ok (.iconst 1, 1) := by decide +kernel
theorem dX12_unreadable_260 : decode cX12_unreadable 260 = .ok (.isub, 1) := by decide +kernel
theorem dX12_unreadable_261 : decode cX12_unreadable 261 = .ok (.istore 8, 2) := by decide +kernel
theorem dX12_unreadable_263 : decode cX12_unreadable 263 = .ok (.iload 8, 2) := by decide +kernel
theorem dX12_unreadable_265 : decode cX12_unreadable 265 = .ok (.ifCond .lt 29, 3) := by decide +kernel
theorem dX12_unreadable_268 : decode cX12_unreadable 268 = .ok (.aload 5, 2) := by decide +kernel
theorem dX12_unreadable_270 : decode cX12_unreadable 270 = .ok (.iload 8, 2) := by decide +kernel
theorem dX12_unreadable_272 : decode cX12_unreadable 272 = .ok (.iaload, 1) := by decide +kernel
theorem dX12_unreadable_273 : decode cX12_unreadable 273 = .ok (.aload_n 0, 1) := by decide +kernel
theorem dX12_unreadable_274 : decode cX12_unreadable 274 = .ok (.getfield 413, 3) := by decide +kernel
theorem dX12_unreadable_277 : decode cX12_unreadable 277 = .ok (.iconst 1, 1) := by decide +kernel
theorem dX12_unreadable_278 : decode cX12_unreadable 278 = .ok (.isub, 1) := by decide +kernel
theorem dX12_unreadable_279 : decode cX12_unreadable 279 = .ok (.if_icmp .ne 15, 3) := by decide +kernel
theorem dX12_unreadable_282 : decode cX12_unreadable 282 = .ok (.aload 5, 2) := by decide +kernel
theorem dX12_unreadable_284 : decode cX12_unreadable 284 = .ok (.iload 8, 2) := by decide +kernel
theorem dX12_unreadable_286 : decode cX12_unreadable 286 = .ok (.iconst 0, 1) := by decide +kernel
theorem dX12_unreadable_287 : decode cX12_unreadable 287 = .ok (.iastore, 1) := by decide +kernel
theorem dX12_unreadable_288 : decode cX12_unreadable 288 = .ok (.iinc 8 (-1), 3) := by decide +kernel
theorem dX12_unreadable_291 : decode cX12_unreadable 291 = .ok (.goto (-28), 3) := by decide +kernel
theorem dX12_unreadable_294 : decode cX12_unreadable 294 = .ok (.iload 8, 2) := by decide +kernel
theorem dX12_unreadable_296 : decode cX12_unreadable 296 = .ok (.ifCond .lt 7, 3) := by decide +kernel
theorem dX12_unreadable_299 : decode cX12_unreadable 299 = .ok (.iconst 1, 1) := by decide +kernel
theorem dX12_unreadable_300 : decode cX12_unreadable 300 = .ok (.goto 4, 3) := by decide +kernel
theorem dX12_unreadable_303 : decode cX12_unreadable 303 = .ok (.iconst 0, 1) := by decide +kernel
theorem dX12_unreadable_304 : decode cX12_unreadable 304 = .ok (.istore 7, 2) := by decide +kernel
theorem dX12_unreadable_306 : decode cX12_unreadable 306 = .ok (.iload 7, 2) := by decide +kernel
theorem dX12_unreadable_308 : decode cX12_unreadable 308 = .ok (.ifCond .eq 12, 3) := by decide +kernel
theorem dX12_unreadable_311 : decode cX12_unreadable 311 = .ok (.aload 5, 2) := by decide +kernel
theorem dX12_unreadable_313 : decode cX12_unreadable 313 = .ok (.iload 8, 2) := by decide +kernel
theorem dX12_unreadable_315 : decode cX12_unreadable 315 = .ok (.dup2, 1) := by decide +kernel
theorem dX12_unreadable_316 : decode cX12_unreadable 316 = .ok (.iaload, 1) := by decide +kernel
theorem dX12_unreadable_317 : decode cX12_unreadable 317 = .ok (.iconst 1, 1) := by decide +kernel
theorem dX12_unreadable_318 : decode cX12_unreadable 318 = .ok (.iadd, 1) := by decide +kernel
theorem dX12_unreadable_319 : decode cX12_unreadable 319 = .ok (.iastore, 1) := by decide +kernel
theorem dX12_unreadable_320 : decode cX12_unreadable 320 = .ok (.goto (-178), 3) := by decide +kernel
theorem dX12_unreadable_323 : decode cX12_unreadable 323 = .ok (.iinc 6 1, 3) := by decide +kernel
theorem dX12_unreadable_326 : decode cX12_unreadable 326 = .ok (.goto (-222), 3) := by decide +kernel
theorem dX12_unreadable_329 : decode cX12_unreadable 329 = .ok (.aload_n 0, 1) := by decide +kernel
theorem dX12_unreadable_330 : decode cX12_unreadable 330 = .ok (.invokevirtual 422, 3) := by decide +kernel
theorem dX12_unreadable_333 : decode cX12_unreadable 333 = .ok (.aload_n 0, 1) := by decide +kernel
theorem dX12_unreadable_334 : decode cX12_unreadable 334 = .ok (.iconst 0, 1) := by decide +kernel
theorem dX12_unreadable_335 : decode cX12_unreadable 335 = .ok (.invokevirtual 158, 3) := by decide +kernel
theorem dX12_unreadable_338 : decode cX12_unreadable 338 = .ok (.ireturn, 1) := by decide +kernel
theorem dX12_place_0 : decode cX12_place 0 = .ok (.aload_n 0, 1) := by decide +kernel
theorem dX12_place_1 : decode cX12_place 1 = .ok (.getfield 9, 3) := by decide +kernel
theorem dX12_place_4 : decode cX12_place 4 = .ok (.ireturn, 1) := by decide +kernel
theorem dX12_status_0 : decode cX12_status 0 = .ok (.aload_n 0, 1) := by decide +kernel
theorem dX12_status_1 : decode cX12_status 1 = .ok (.getfield 148, 3) := by decide +kernel
theorem dX12_status_4 : decode cX12_status 4 = .ok (.ireturn, 1) := by decide +kernel
theorem dX12_digest_0 : decode cX12_digest 0 = .ok (.sipush 527, 3) := by decide +kernel
theorem dX12_digest_3 : decode cX12_digest 3 = .ok (.aload_n 0, 1) := by decide +kernel
theorem dX12_digest_4 : decode cX12_digest 4 = .ok (.getfield 279, 3) := by decide +kernel
theorem dX12_digest_7 : decode cX12_digest 7 = .ok (.iadd, 1) := by decide +kernel
theorem dX12_digest_8 : decode cX12_digest 8 = .ok (.istore_n 1, 1) := by decide +kernel
theorem dX12_digest_9 : decode cX12_digest 9 = .ok (.iconst 0, 1) := by decide +kernel
theorem dX12_digest_10 : decode cX12_digest 10 = .ok (.istore_n 2, 1) := by decide +kernel
theorem dX12_digest_11 : decode cX12_digest 11 = .ok (.iload_n 2, 1) := by decide +kernel
theorem dX12_digest_12 : decode cX12_digest 12 = .ok (.aload_n 0, 1) := by decide +kernel
theorem dX12_digest_13 : decode cX12_digest 13 = .ok (.getfield 279, 3) := by decide +kernel
theorem dX12_digest_16 : decode cX12_digest 16 = .ok (.if_icmp .ge 57, 3) := by decide +kernel
theorem dX12_digest_19 : decode cX12_digest 19 = .ok (.iload_n 1, 1) := by decide +kernel
theorem dX12_digest_20 : decode cX12_digest 20 = .ok (.bipush 31, 2) := by decide +kernel
theorem dX12_digest_22 : decode cX12_digest 22 = .ok (.imul, 1) := by decide +kernel
theorem dX12_digest_23 : decode cX12_digest 23 = .ok (.aload_n 0, 1) := by decide +kernel
theorem dX12_digest_24 : decode cX12_digest 24 = .ok (.getfield 91, 3) := by decide +kernel
theorem dX12_digest_27 : decode cX12_digest 27 = .ok (.iload_n 2, 1) := by decide +kernel
theorem dX12_digest_28 : decode cX12_digest 28 = .ok (.iaload, 1) := by decide +kernel
theorem dX12_digest_29 : decode cX12_digest 29 = .ok (.iadd, 1) := by decide +kernel
theorem dX12_digest_30 : decode cX12_digest 30 = .ok (.istore_n 1, 1) := by decide +kernel
theorem dX12_digest_31 : decode cX12_digest 31 = .ok (.iconst 0, 1) := by decide +kernel
theorem dX12_digest_32 : decode cX12_digest 32 = .ok (.istore_n 3, 1) := by decide +kernel
theorem dX12_digest_33 : decode cX12_digest 33 = .ok (.iload_n 3, 1) := by decide +kernel
theorem dX12_digest_34 : decode cX12_digest 34 = .ok (.aload_n 0, 1) := by decide +kernel
theorem dX12_digest_35 : decode cX12_digest 35 = .ok (.getfield 91, 3) := by decide +kernel
theorem dX12_digest_38 : decode cX12_digest 38 = .ok (.iload_n 2, 1) := by decide +kernel
theorem dX12_digest_39 : decode cX12_digest 39 = .ok (.iaload, 1) := by decide +kernel
theorem dX12_digest_40 : decode cX12_digest 40 = .ok (.if_icmp .ge 27, 3) := by decide +kernel
theorem dX12_digest_43 : decode cX12_digest 43 = .ok (.iload_n 1, 1) := by decide +kernel
theorem dX12_digest_44 : decode cX12_digest 44 = .ok (.bipush 31, 2) := by decide +kernel
theorem dX12_digest_46 : decode cX12_digest 46 = .ok (.imul, 1) := by decide +kernel
theorem dX12_digest_47 : decode cX12_digest 47 = .ok (.aload_n 0, 1) := by decide +kernel
theorem dX12_digest_48 : decode cX12_digest 48 = .ok (.getfield 95, 3) := by decide +kernel
theorem dX12_digest_51 : decode cX12_digest 51 = .ok (.sipush 200, 3) := by decide +kernel
theorem dX12_digest_54 : decode cX12_digest 54 = .ok (.iload_n 2, 1) := by decide +kernel
theorem dX12_digest_55 : decode cX12_digest 55 = .ok (.imul, 1) := by decide +kernel
theorem dX12_digest_56 : decode cX12_digest 56 = .ok (.iload_n 3, 1) := by decide +kernel
theorem dX12_digest_57 : decode cX12_digest 57 = .ok (.iadd, 1) := by decide +kernel
theorem dX12_digest_58 : decode cX12_digest 58 = .ok (.iaload, 1) := by decide +kernel
theorem dX12_digest_59 : decode cX12_digest 59 = .ok (.iadd, 1) := by decide +kernel
theorem dX12_digest_60 : decode cX12_digest 60 = .ok (.istore_n 1, 1) := by decide +kernel
theorem dX12_digest_61 : decode cX12_digest 61 = .ok (.iinc 3 1, 3) := by decide +kernel
theorem dX12_digest_64 : decode cX12_digest 64 = .ok (.goto (-31), 3) := by decide +kernel
theorem dX12_digest_67 : decode cX12_digest 67 = .ok (.iinc 2 1, 3) := by decide +kernel
theorem dX12_digest_70 : decode cX12_digest 70 = .ok (.goto (-59), 3) := by decide +kernel
theorem dX12_digest_73 : decode cX12_digest 73 = .ok (.iload_n 1, 1) := by decide +kernel
theorem dX12_digest_74 : decode cX12_digest 74 = .ok (.bipush 31, 2) := by decide +kernel
theorem dX12_digest_76 : decode cX12_digest 76 = .ok (.imul, 1) := by decide +kernel
theorem dX12_digest_77 : decode cX12_digest 77 = .ok (.aload_n 0, 1) := by decide +kernel
theorem dX12_digest_78 : decode cX12_digest 78 = .ok (.getfield 330, 3) := by decide +kernel
theorem dX12_digest_81 : decode cX12_digest 81 = .ok (.iadd, 1) := by decide +kernel
theorem dX12_digest_82 : decode cX12_digest 82 = .ok (.istore_n 1, 1) := by decide +kernel
theorem dX12_digest_83 : decode cX12_digest 83 = .ok (.iconst 0, 1) := by decide +kernel
theorem dX12_digest_84 : decode cX12_digest 84 = .ok (.istore_n 2, 1) := by decide +kernel
theorem dX12_digest_85 : decode cX12_digest 85 = .ok (.iload_n 2, 1) := by decide +kernel
theorem dX12_digest_86 : decode cX12_digest 86 = .ok (.aload_n 0, 1) := by decide +kernel
theorem dX12_digest_87 : decode cX12_digest 87 = .ok (.getfield 330, 3) := by decide +kernel
theorem dX12_digest_90 : decode cX12_digest 90 = .ok (.if_icmp .ge 21, 3) := by decide +kernel
theorem dX12_digest_93 : decode cX12_digest 93 = .ok (.iload_n 1, 1) := by decide +kernel
theorem dX12_digest_94 : decode cX12_digest 94 = .ok (.bipush 31, 2) := by decide +kernel
theorem dX12_digest_96 : decode cX12_digest 96 = .ok (.imul, 1) := by decide +kernel
theorem dX12_digest_97 : decode cX12_digest 97 = .ok (.aload_n 0, 1) := by decide +kernel
theorem dX12_digest_98 : decode cX12_digest 98 = .ok (.getfield 126, 3) := by decide +kernel
theorem dX12_digest_101 : decode cX12_digest 101 = .ok (.iload_n 2, 1) := by decide +kernel
theorem dX12_digest_102 : decode cX12_digest 102 = .ok (.iaload, 1) := by decide +kernel
theorem dX12_digest_103 : decode cX12_digest 103 = .ok (.iadd, 1) := by decide +kernel
theorem dX12_digest_104 : decode cX12_digest 104 = .ok (.istore_n 1, 1) := by decide +kernel
theorem dX12_digest_105 : decode cX12_digest 105 = .ok (.iinc 2 1, 3) := by decide +kernel
theorem dX12_digest_108 : decode cX12_digest 108 = .ok (.goto (-23), 3) := by decide +kernel
theorem dX12_digest_111 : decode cX12_digest 111 = .ok (.iconst 0, 1) := by decide +kernel
theorem dX12_digest_112 : decode cX12_digest 112 = .ok (.istore_n 2, 1) := by decide +kernel
theorem dX12_digest_113 : decode cX12_digest 113 = .ok (.iload_n 2, 1) := by decide +kernel
theorem dX12_digest_114 : decode cX12_digest 114 = .ok (.iconst 5, 1) := by decide +kernel
theorem dX12_digest_115 : decode cX12_digest 115 = .ok (.if_icmp .ge 21, 3) := by decide +kernel
theorem dX12_digest_118 : decode cX12_digest 118 = .ok (.iload_n 1, 1) := by decide +kernel
theorem dX12_digest_119 : decode cX12_digest 119 = .ok (.bipush 31, 2) := by decide +kernel
theorem dX12_digest_121 : decode cX12_digest 121 = .ok (.imul, 1) := by decide +kernel
theorem dX12_digest_122 : decode cX12_digest 122 = .ok (.aload_n 0, 1) := by decide +kernel
theorem dX12_digest_123 : decode cX12_digest 123 = .ok (.getfield 76, 3) := by decide +kernel
theorem dX12_digest_126 : decode cX12_digest 126 = .ok (.iload_n 2, 1) := by decide +kernel
theorem dX12_digest_127 : decode cX12_digest 127 = .ok (.iaload, 1) := by decide +kernel
theorem dX12_digest_128 : decode cX12_digest 128 = .ok (.iadd, 1) := by decide +kernel
theorem dX12_digest_129 : decode cX12_digest 129 = .ok (.istore_n 1, 1) := by decide +kernel
theorem dX12_digest_130 : decode cX12_digest 130 = .ok (.iinc 2 1, 3) := by decide +kernel
theorem dX12_digest_133 : decode cX12_digest 133 = .ok (.goto (-20), 3) := by decide +kernel
theorem dX12_digest_136 : decode cX12_digest 136 = .ok (.iload_n 1, 1) := by decide +kernel
theorem dX12_digest_137 : decode cX12_digest 137 = .ok (.bipush 31, 2) := by decide +kernel
theorem dX12_digest_139 : decode cX12_digest 139 = .ok (.imul, 1) := by decide +kernel
theorem dX12_digest_140 : decode cX12_digest 140 = .ok (.aload_n 0, 1) := by decide +kernel
theorem dX12_digest_141 : decode cX12_digest 141 = .ok (.getfield 303, 3) := by decide +kernel
theorem dX12_digest_144 : decode cX12_digest 144 = .ok (.iadd, 1) := by decide +kernel
theorem dX12_digest_145 : decode cX12_digest 145 = .ok (.bipush 31, 2) := by decide +kernel
theorem dX12_digest_147 : decode cX12_digest 147 = .ok (.imul, 1) := by decide +kernel
theorem dX12_digest_148 : decode cX12_digest 148 = .ok (.aload_n 0, 1) := by decide +kernel
theorem dX12_digest_149 : decode cX12_digest 149 = .ok (.getfield 306, 3) := by decide +kernel
theorem dX12_digest_152 : decode cX12_digest 152 = .ok (.iadd, 1) := by decide +kernel
theorem dX12_digest_153 : decode cX12_digest 153 = .ok (.ireturn, 1) := by decide +kernel
theorem dJ6_bitCount_0f7a4_0 : decode cJ6_bitCount_0f7a4 0 = .ok (.iload_n 0, 1) := by decide +kernel
theorem dJ6_bitCount_0f7a4_1 : decode cJ6_bitCount_0f7a4 1 = .ok (.iload_n 0, 1) := by decide +kernel
theorem dJ6_bitCount_0f7a4_2 : decode cJ6_bitCount_0f7a4 2 = .ok (.iconst 1, 1) := by decide +kernel
theorem dJ6_bitCount_0f7a4_3 : decode cJ6_bitCount_0f7a4 3 = .ok (.iushr, 1) := by decide +kernel
theorem dJ6_bitCount_0f7a4_4 : decode cJ6_bitCount_0f7a4 4 = .ok (.ldc_w 265, 3) := by decide +kernel
theorem dJ6_bitCount_0f7a4_7 : decode cJ6_bitCount_0f7a4 7 = .ok (.iand, 1) := by decide +kernel
theorem dJ6_bitCount_0f7a4_8 : decode cJ6_bitCount_0f7a4 8 = .ok (.isub, 1) := by decide +kernel
theorem dJ6_bitCount_0f7a4_9 : decode cJ6_bitCount_0f7a4 9 = .ok (.istore_n 0, 1) := by decide +kernel
theorem dJ6_bitCount_0f7a4_10 : decode cJ6_bitCount_0f7a4 10 = .ok (.iload_n 0, 1) := by decide +kernel
theorem dJ6_bitCount_0f7a4_11 : decode cJ6_bitCount_0f7a4 11 = .ok (.ldc_w 266, 3) := by decide +kernel
theorem dJ6_bitCount_0f7a4_14 : decode cJ6_bitCount_0f7a4 14 = .ok (.iand, 1) := by decide +kernel
theorem dJ6_bitCount_0f7a4_15 : decode cJ6_bitCount_0f7a4 15 = .ok (.iload_n 0, 1) := by decide +kernel
theorem dJ6_bitCount_0f7a4_16 : decode cJ6_bitCount_0f7a4 16 = .ok (.iconst 2, 1) := by decide +kernel
theorem dJ6_bitCount_0f7a4_17 : decode cJ6_bitCount_0f7a4 17 = .ok (.iushr, 1) := by decide +kernel
theorem dJ6_bitCount_0f7a4_18 : decode cJ6_bitCount_0f7a4 18 = .ok (.ldc_w 266, 3) := by decide +kernel
theorem dJ6_bitCount_0f7a4_21 : decode cJ6_bitCount_0f7a4 21 = .ok (.iand, 1) := by decide +kernel
theorem dJ6_bitCount_0f7a4_22 : decode cJ6_bitCount_0f7a4 22 = .ok (.iadd, 1) := by decide +kernel
theorem dJ6_bitCount_0f7a4_23 : decode cJ6_bitCount_0f7a4 23 = .ok (.istore_n 0, 1) := by decide +kernel
theorem dJ6_bitCount_0f7a4_24 : decode cJ6_bitCount_0f7a4 24 = .ok (.iload_n 0, 1) := by decide +kernel
theorem dJ6_bitCount_0f7a4_25 : decode cJ6_bitCount_0f7a4 25 = .ok (.iload_n 0, 1) := by decide +kernel
theorem dJ6_bitCount_0f7a4_26 : decode cJ6_bitCount_0f7a4 26 = .ok (.iconst 4, 1) := by decide +kernel
theorem dJ6_bitCount_0f7a4_27 : decode cJ6_bitCount_0f7a4 27 = .ok (.iushr, 1) := by decide +kernel
theorem dJ6_bitCount_0f7a4_28 : decode cJ6_bitCount_0f7a4 28 = .ok (.iadd, 1) := by decide +kernel
theorem dJ6_bitCount_0f7a4_29 : decode cJ6_bitCount_0f7a4 29 = .ok (.ldc_w 267, 3) := by decide +kernel
theorem dJ6_bitCount_0f7a4_32 : decode cJ6_bitCount_0f7a4 32 = .ok (.iand, 1) := by decide +kernel
theorem dJ6_bitCount_0f7a4_33 : decode cJ6_bitCount_0f7a4 33 = .ok (.istore_n 0, 1) := by decide +kernel
theorem dJ6_bitCount_0f7a4_34 : decode cJ6_bitCount_0f7a4 34 = .ok (.iload_n 0, 1) := by decide +kernel
theorem dJ6_bitCount_0f7a4_35 : decode cJ6_bitCount_0f7a4 35 = .ok (.iload_n 0, 1) := by decide +kernel
theorem dJ6_bitCount_0f7a4_36 : decode cJ6_bitCount_0f7a4 36 = .ok (.bipush 8, 2) := by decide +kernel
theorem dJ6_bitCount_0f7a4_38 : decode cJ6_bitCount_0f7a4 38 = .ok (.iushr, 1) := by decide +kernel
theorem dJ6_bitCount_0f7a4_39 : decode cJ6_bitCount_0f7a4 39 = .ok (.iadd, 1) := by decide +kernel
theorem dJ6_bitCount_0f7a4_40 : decode cJ6_bitCount_0f7a4 40 = .ok (.istore_n 0, 1) := by decide +kernel
theorem dJ6_bitCount_0f7a4_41 : decode cJ6_bitCount_0f7a4 41 = .ok (.iload_n 0, 1) := by decide +kernel
theorem dJ6_bitCount_0f7a4_42 : decode cJ6_bitCount_0f7a4 42 = .ok (.iload_n 0, 1) := by decide +kernel
theorem dJ6_bitCount_0f7a4_43 : decode cJ6_bitCount_0f7a4 43 = .ok (.bipush 16, 2) := by decide +kernel
theorem dJ6_bitCount_0f7a4_45 : decode cJ6_bitCount_0f7a4 45 = .ok (.iushr, 1) := by decide +kernel
theorem dJ6_bitCount_0f7a4_46 : decode cJ6_bitCount_0f7a4 46 = .ok (.iadd, 1) := by decide +kernel
theorem dJ6_bitCount_0f7a4_47 : decode cJ6_bitCount_0f7a4 47 = .ok (.istore_n 0, 1) := by decide +kernel
theorem dJ6_bitCount_0f7a4_48 : decode cJ6_bitCount_0f7a4 48 = .ok (.iload_n 0, 1) := by decide +kernel
theorem dJ6_bitCount_0f7a4_49 : decode cJ6_bitCount_0f7a4 49 = .ok (.bipush 63, 2) := by decide +kernel
theorem dJ6_bitCount_0f7a4_51 : decode cJ6_bitCount_0f7a4 51 = .ok (.iand, 1) := by decide +kernel
theorem dJ6_bitCount_0f7a4_52 : decode cJ6_bitCount_0f7a4 52 = .ok (.ireturn, 1) := by decide +kernel
theorem dJxa1e45_init_da8c8_0 : decode cJxa1e45_init_da8c8 0 = .ok (.aload_n 0, 1) := by decide +kernel
theorem dJxa1e45_init_da8c8_1 : decode cJxa1e45_init_da8c8 1 = .ok (.invokespecial 1, 3) := by decide +kernel
theorem dJxa1e45_init_da8c8_4 : decode cJxa1e45_init_da8c8 4 = .ok (.return_, 1) := by decide +kernel
theorem dJxc12de_init_da8c8_0 : decode cJxc12de_init_da8c8 0 = .ok (.aload_n 0, 1) := by decide +kernel
theorem dJxc12de_init_da8c8_1 : decode cJxc12de_init_da8c8 1 = .ok (.invokespecial 1, 3) := by decide +kernel
theorem dJxc12de_init_da8c8_4 : decode cJxc12de_init_da8c8 4 = .ok (.aload_n 0, 1) := by decide +kernel
theorem dJxc12de_init_da8c8_5 : decode cJxc12de_init_da8c8 5 = .ok (.iconst 0, 1) := by decide +kernel
theorem dJxc12de_init_da8c8_6 : decode cJxc12de_init_da8c8 6 = .ok (.putfield 7, 3) := by decide +kernel
theorem dJxc12de_init_da8c8_9 : decode cJxc12de_init_da8c8 9 = .ok (.return_, 1) := by decide +kernel
theorem dJx4a65c_init_da8c8_0 : decode cJx4a65c_init_da8c8 0 = .ok (.aload_n 0, 1) := by decide +kernel
theorem dJx4a65c_init_da8c8_1 : decode cJx4a65c_init_da8c8 1 = .ok (.invokespecial 1, 3) := by decide +kernel
theorem dJx4a65c_init_da8c8_4 : decode cJx4a65c_init_da8c8 4 = .ok (.aload_n 0, 1) := by decide +kernel
theorem dJx4a65c_init_da8c8_5 : decode cJx4a65c_init_da8c8 5 = .ok (.getstatic 39, 3) := by decide +kernel
theorem dJx4a65c_init_da8c8_8 : decode cJx4a65c_init_da8c8 8 = .ok (.putfield 9, 3) := by decide +kernel
theorem dJx4a65c_init_da8c8_11 : decode cJx4a65c_init_da8c8 11 = .ok (.return_, 1) := by decide +kernel
theorem dJx4a65c_grow_92f84_0 : decode cJx4a65c_grow_92f84 0 = .ok (.aload_n 0, 1) := by decide +kernel
theorem dJx4a65c_grow_92f84_1 : decode cJx4a65c_grow_92f84 1 = .ok (.getfield 9, 3) := by decide +kernel
theorem dJx4a65c_grow_92f84_4 : decode cJx4a65c_grow_92f84 4 = .ok (.arraylength, 1) := by decide +kernel
theorem dJx4a65c_grow_92f84_5 : decode cJx4a65c_grow_92f84 5 = .ok (.istore_n 2, 1) := by decide +kernel
theorem dJx4a65c_grow_92f84_6 : decode cJx4a65c_grow_92f84 6 = .ok (.iload_n 2, 1) := by decide +kernel
theorem dJx4a65c_grow_92f84_7 : decode cJx4a65c_grow_92f84 7 = .ok (.ifCond .gt 13, 3) := by decide +kernel
theorem dJx4a65c_grow_92f84_10 : decode cJx4a65c_grow_92f84 10 = .ok (.aload_n 0, 1) := by decide +kernel
theorem dJx4a65c_grow_92f84_11 : decode cJx4a65c_grow_92f84 11 = .ok (.getfield 9, 3) := by decide +kernel
theorem dJx4a65c_grow_92f84_14 : decode cJx4a65c_grow_92f84 14 = .ok (.getstatic 39, 3) := by decide +kernel
theorem dJx4a65c_grow_92f84_17 : decode cJx4a65c_grow_92f84 17 = .ok (.if_acmp .eq 28, 3) := by decide +kernel
theorem dJx4a65c_grow_92f84_20 : decode cJx4a65c_grow_92f84 20 = .ok (.iload_n 2, 1) := by decide +kernel
theorem dJx4a65c_grow_92f84_21 : decode cJx4a65c_grow_92f84 21 = .ok (.iload_n 1, 1) := by decide +kernel
theorem dJx4a65c_grow_92f84_22 : decode cJx4a65c_grow_92f84 22 = .ok (.iload_n 2, 1) := by decide +kernel
theorem dJx4a65c_grow_92f84_23 : decode cJx4a65c_grow_92f84 23 = .ok (.isub, 1) := by decide +kernel
theorem dJx4a65c_grow_92f84_24 : decode cJx4a65c_grow_92f84 24 = .ok (.iload_n 2, 1) := by decide +kernel
theorem dJx4a65c_grow_92f84_25 : decode cJx4a65c_grow_92f84 25 = .ok (.iconst 1, 1) := by decide +kernel
theorem dJx4a65c_grow_92f84_26 : decode cJx4a65c_grow_92f84 26 = .ok (.ishr, 1) := by decide +kernel
theorem dJx4a65c_grow_92f84_27 : decode cJx4a65c_grow_92f84 27 = .ok (.invokestatic 73, 3) := by decide +kernel
theorem dJx4a65c_grow_92f84_30 : decode cJx4a65c_grow_92f84 30 = .ok (.istore_n 3, 1) := by decide +kernel
theorem dJx4a65c_grow_92f84_31 : decode cJx4a65c_grow_92f84 31 = .ok (.aload_n 0, 1) := by decide +kernel
theorem dJx4a65c_grow_92f84_32 : decode cJx4a65c_grow_92f84 32 = .ok (.aload_n 0, 1) := by decide +kernel
theorem dJx4a65c_grow_92f84_33 : decode cJx4a65c_grow_92f84 33 = .ok (.getfield 9, 3) := by decide +kernel
theorem dJx4a65c_grow_92f84_36 : decode cJx4a65c_grow_92f84 36 = .ok (.iload_n 3, 1) := by decide +kernel
theorem dJx4a65c_grow_92f84_37 : decode cJx4a65c_grow_92f84 37 = .ok (.invokestatic 66, 3) := by decide +kernel
theorem dJx4a65c_grow_92f84_40 : decode cJx4a65c_grow_92f84 40 = .ok (.dup_x1, 1) := by decide +kernel
theorem dJx4a65c_grow_92f84_41 : decode cJx4a65c_grow_92f84 41 = .ok (.putfield 9, 3) := by decide +kernel
theorem dJx4a65c_grow_92f84_44 : decode cJx4a65c_grow_92f84 44 = .ok (.areturn, 1) := by decide +kernel
theorem dJx4a65c_grow_92f84_45 : decode cJx4a65c_grow_92f84 45 = .ok (.aload_n 0, 1) := by decide +kernel
theorem dJx4a65c_grow_92f84_46 : decode cJx4a65c_grow_92f84 46 = .ok (.bipush 10, 2) := by decide +kernel
theorem dJx4a65c_grow_92f84_48 : decode cJx4a65c_grow_92f84 48 = .ok (.iload_n 1, 1) := by decide +kernel
theorem dJx4a65c_grow_92f84_49 : decode cJx4a65c_grow_92f84 49 = .ok (.invokestatic 79, 3) := by decide +kernel
theorem dJx4a65c_grow_92f84_52 : decode cJx4a65c_grow_92f84 52 = .ok (.anewarray 7, 3) := by decide +kernel
theorem dJx4a65c_grow_92f84_55 : decode cJx4a65c_grow_92f84 55 = .ok (.dup_x1, 1) := by decide +kernel
theorem dJx4a65c_grow_92f84_56 : decode cJx4a65c_grow_92f84 56 = .ok (.putfield 9, 3) := by decide +kernel
theorem dJx4a65c_grow_92f84_59 : decode cJx4a65c_grow_92f84 59 = .ok (.areturn, 1) := by decide +kernel
theorem dJx4a65c_grow_d5877_0 : decode cJx4a65c_grow_d5877 0 = .ok (.aload_n 0, 1) := by decide +kernel
theorem dJx4a65c_grow_d5877_1 : decode cJx4a65c_grow_d5877 1 = .ok (.aload_n 0, 1) := by decide +kernel
theorem dJx4a65c_grow_d5877_2 : decode cJx4a65c_grow_d5877 2 = .ok (.getfield 48, 3) := by decide +kernel
theorem dJx4a65c_grow_d5877_5 : decode cJx4a65c_grow_d5877 5 = .ok (.iconst 1, 1) := by decide +kernel
theorem dJx4a65c_grow_d5877_6 : decode cJx4a65c_grow_d5877 6 = .ok (.iadd, 1) := by decide +kernel
theorem dJx4a65c_grow_d5877_7 : decode cJx4a65c_grow_d5877 7 = .ok (.invokevirtual 69, 3) := by decide +kernel
theorem dJx4a65c_grow_d5877_10 : decode cJx4a65c_grow_d5877 10 = .ok (.areturn, 1) := by decide +kernel
theorem dJx4a65c_size_8abf5_0 : decode cJx4a65c_size_8abf5 0 = .ok (.aload_n 0, 1) := by decide +kernel
theorem dJx4a65c_size_8abf5_1 : decode cJx4a65c_size_8abf5 1 = .ok (.getfield 48, 3) := by decide +kernel
theorem dJx4a65c_size_8abf5_4 : decode cJx4a65c_size_8abf5 4 = .ok (.ireturn, 1) := by decide +kernel
theorem dJx4a65c_isEmpty_aae02_0 : decode cJx4a65c_isEmpty_aae02 0 = .ok (.aload_n 0, 1) := by decide +kernel
theorem dJx4a65c_isEmpty_aae02_1 : decode cJx4a65c_isEmpty_aae02 1 = .ok (.getfield 48, 3) := by decide +kernel
theorem dJx4a65c_isEmpty_aae02_4 : decode cJx4a65c_isEmpty_aae02 4 = .ok (.ifCond .ne 7, 3) := by decide +kernel
theorem dJx4a65c_isEmpty_aae02_7 : decode cJx4a65c_isEmpty_aae02 7 = .ok (.iconst 1, 1) := by decide +kernel
theorem dJx4a65c_isEmpty_aae02_8 : decode cJx4a65c_isEmpty_aae02 8 = .ok (.goto 4, 3) := by decide +kernel
theorem dJx4a65c_isEmpty_aae02_11 : decode cJx4a65c_isEmpty_aae02 11 = .ok (.iconst 0, 1) := by decide +kernel
theorem dJx4a65c_isEmpty_aae02_12 : decode cJx4a65c_isEmpty_aae02 12 = .ok (.ireturn, 1) := by decide +kernel
theorem dJx4a65c_add_72be8_0 : decode cJx4a65c_add_72be8 0 = .ok (.iload_n 3, 1) := by decide +kernel
theorem dJx4a65c_add_72be8_1 : decode cJx4a65c_add_72be8 1 = .ok (.aload_n 2, 1) := by decide +kernel
theorem dJx4a65c_add_72be8_2 : decode cJx4a65c_add_72be8 2 = .ok (.arraylength, 1) := by decide +kernel
theorem dJx4a65c_add_72be8_3 : decode cJx4a65c_add_72be8 3 = .ok (.if_icmp .ne 8, 3) := by decide +kernel
theorem dJx4a65c_add_72be8_6 : decode cJx4a65c_add_72be8 6 = .ok (.aload_n 0, 1) := by decide +kernel
theorem dJx4a65c_add_72be8_7 : decode cJx4a65c_add_72be8 7 = .ok (.invokevirtual 129, 3) := by decide +kernel
theorem dJx4a65c_add_72be8_10 : decode cJx4a65c_add_72be8 10 = .ok (.astore_n 2, 1) := by decide +kernel
theorem dJx4a65c_add_72be8_11 : decode cJx4a65c_add_72be8 11 = .ok (.aload_n 2, 1) := by decide +kernel
theorem dJx4a65c_add_72be8_12 : decode cJx4a65c_add_72be8 12 = .ok (.iload_n 3, 1) := by decide +kernel
theorem dJx4a65c_add_72be8_13 : decode cJx4a65c_add_72be8 13 = .ok (.aload_n 1, 1) := by decide +kernel
theorem dJx4a65c_add_72be8_14 : decode cJx4a65c_add_72be8 14 = .ok (.aastore, 1) := by decide +kernel
theorem dJx4a65c_add_72be8_15 : decode cJx4a65c_add_72be8 15 = .ok (.aload_n 0, 1) := by decide +kernel
theorem dJx4a65c_add_72be8_16 : decode cJx4a65c_add_72be8 16 = .ok (.iload_n 3, 1) := by decide +kernel
theorem dJx4a65c_add_72be8_17 : decode cJx4a65c_add_72be8 17 = .ok (.iconst 1, 1) := by decide +kernel
theorem dJx4a65c_add_72be8_18 : decode cJx4a65c_add_72be8 18 = .ok (.iadd, 1) := by decide +kernel
theorem dJx4a65c_add_72be8_19 : decode cJx4a65c_add_72be8 19 = .ok (.putfield 48, 3) := by decide +kernel
theorem dJx4a65c_add_72be8_22 : decode cJx4a65c_add_72be8 22 = .ok (.return_, 1) := by decide +kernel
theorem dJx4a65c_add_9ea2d_0 : decode cJx4a65c_add_9ea2d 0 = .ok (.aload_n 0, 1) := by decide +kernel
theorem dJx4a65c_add_9ea2d_1 : decode cJx4a65c_add_9ea2d 1 = .ok (.dup, 1) := by decide +kernel
theorem dJx4a65c_add_9ea2d_2 : decode cJx4a65c_add_9ea2d 2 = .ok (.getfield 63, 3) := by decide +kernel
theorem dJx4a65c_add_9ea2d_5 : decode cJx4a65c_add_9ea2d 5 = .ok (.iconst 1, 1) := by decide +kernel
theorem dJx4a65c_add_9ea2d_6 : decode cJx4a65c_add_9ea2d 6 = .ok (.iadd, 1) := by decide +kernel
theorem dJx4a65c_add_9ea2d_7 : decode cJx4a65c_add_9ea2d 7 = .ok (.putfield 63, 3) := by decide +kernel
theorem dJx4a65c_add_9ea2d_10 : decode cJx4a65c_add_9ea2d 10 = .ok (.aload_n 0, 1) := by decide +kernel
theorem dJx4a65c_add_9ea2d_11 : decode cJx4a65c_add_9ea2d 11 = .ok (.aload_n 1, 1) := by decide +kernel
theorem dJx4a65c_add_9ea2d_12 : decode cJx4a65c_add_9ea2d 12 = .ok (.aload_n 0, 1) := by decide +kernel
theorem dJx4a65c_add_9ea2d_13 : decode cJx4a65c_add_9ea2d 13 = .ok (.getfield 9, 3) := by decide +kernel
theorem dJx4a65c_add_9ea2d_16 : decode cJx4a65c_add_9ea2d 16 = .ok (.aload_n 0, 1) := by decide +kernel
theorem dJx4a65c_add_9ea2d_17 : decode cJx4a65c_add_9ea2d 17 = .ok (.getfield 48, 3) := by decide +kernel
theorem dJx4a65c_add_9ea2d_20 : decode cJx4a65c_add_9ea2d 20 = .ok (.invokevirtual 131, 3) := by decide +kernel
theorem dJx4a65c_add_9ea2d_23 : decode cJx4a65c_add_9ea2d 23 = .ok (.iconst 1, 1) := by decide +kernel
theorem dJx4a65c_add_9ea2d_24 : decode cJx4a65c_add_9ea2d 24 = .ok (.ireturn, 1) := by decide +kernel
theorem dJ7_copyOf_59c91_0 : decode cJ7_copyOf_59c91 0 = .ok (.iload_n 1, 1) := by decide +kernel
theorem dJ7_copyOf_59c91_1 : decode cJ7_copyOf_59c91 1 = .ok (.aload_n 0, 1) := by decide +kernel
theorem dJ7_copyOf_59c91_2 : decode cJ7_copyOf_59c91 2 = .ok (.arraylength, 1) := by decide +kernel
theorem dJ7_copyOf_59c91_3 : decode cJ7_copyOf_59c91 3 = .ok (.if_icmp .ne 11, 3) := by decide +kernel
theorem dJ7_copyOf_59c91_6 : decode cJ7_copyOf_59c91 6 = .ok (.aload_n 0, 1) := by decide +kernel
theorem dJ7_copyOf_59c91_7 : decode cJ7_copyOf_59c91 7 = .ok (.invokevirtual 316, 3) := by decide +kernel
theorem dJ7_copyOf_59c91_10 : decode cJ7_copyOf_59c91 10 = .ok (.checkcast 317, 3) := by decide +kernel
theorem dJ7_copyOf_59c91_13 : decode cJ7_copyOf_59c91 13 = .ok (.areturn, 1) := by decide +kernel
theorem dJ7_copyOf_59c91_14 : decode cJ7_copyOf_59c91 14 = .ok (.iload_n 1, 1) := by decide +kernel
theorem dJ7_copyOf_59c91_15 : decode cJ7_copyOf_59c91 15 = .ok (.newarray .int, 2) := by decide +kernel
theorem dJ7_copyOf_59c91_17 : decode cJ7_copyOf_59c91 17 = .ok (.astore_n 2, 1) := by decide +kernel
theorem dJ7_copyOf_59c91_18 : decode cJ7_copyOf_59c91 18 = .ok (.aload_n 0, 1) := by decide +kernel
theorem dJ7_copyOf_59c91_19 : decode cJ7_copyOf_59c91 19 = .ok (.iconst 0, 1) := by decide +kernel
theorem dJ7_copyOf_59c91_20 : decode cJ7_copyOf_59c91 20 = .ok (.aload_n 2, 1) := by decide +kernel
theorem dJ7_copyOf_59c91_21 : decode cJ7_copyOf_59c91 21 = .ok (.iconst 0, 1) := by decide +kernel
theorem dJ7_copyOf_59c91_22 : decode cJ7_copyOf_59c91 22 = .ok (.aload_n 0, 1) := by decide +kernel
theorem dJ7_copyOf_59c91_23 : decode cJ7_copyOf_59c91 23 = .ok (.arraylength, 1) := by decide +kernel
theorem dJ7_copyOf_59c91_24 : decode cJ7_copyOf_59c91 24 = .ok (.iload_n 1, 1) := by decide +kernel
theorem dJ7_copyOf_59c91_25 : decode cJ7_copyOf_59c91 25 = .ok (.invokestatic 304, 3) := by decide +kernel
theorem dJ7_copyOf_59c91_28 : decode cJ7_copyOf_59c91 28 = .ok (.invokestatic 150, 3) := by decide +kernel
theorem dJ7_copyOf_59c91_31 : decode cJ7_copyOf_59c91 31 = .ok (.aload_n 2, 1) := by decide +kernel
theorem dJ7_copyOf_59c91_32 : decode cJ7_copyOf_59c91 32 = .ok (.areturn, 1) := by decide +kernel
theorem dL_law_0 : decode cL_law 0 = .ok (.new 7, 3) := by decide +kernel
theorem dL_law_3 : decode cL_law 3 = .ok (.dup, 1) := by decide +kernel
theorem dL_law_4 : decode cL_law 4 = .ok (.invokespecial 9, 3) := by decide +kernel
theorem dL_law_7 : decode cL_law 7 = .ok (.astore_n 1, 1) := by decide +kernel
theorem dL_law_8 : decode cL_law 8 = .ok (.new 10, 3) := by decide +kernel
theorem dL_law_11 : decode cL_law 11 = .ok (.dup, 1) := by decide +kernel
theorem dL_law_12 : decode cL_law 12 = .ok (.invokespecial 12, 3) := by decide +kernel
theorem dL_law_15 : decode cL_law 15 = .ok (.astore_n 2, 1) := by decide +kernel
theorem dL_law_16 : decode cL_law 16 = .ok (.iconst 0, 1) := by decide +kernel
theorem dL_law_17 : decode cL_law 17 = .ok (.istore_n 3, 1) := by decide +kernel
theorem dL_law_18 : decode cL_law 18 = .ok (.iload_n 3, 1) := by decide +kernel
theorem dL_law_19 : decode cL_law 19 = .ok (.aload_n 0, 1) := by decide +kernel
theorem dL_law_20 : decode cL_law 20 = .ok (.arraylength, 1) := by decide +kernel
theorem dL_law_21 : decode cL_law 21 = .ok (.bipush 6, 2) := by decide +kernel
theorem dL_law_23 : decode cL_law 23 = .ok (.isub, 1) := by decide +kernel
theorem dL_law_24 : decode cL_law 24 = .ok (.if_icmp .gt 1359, 3) := by decide +kernel
theorem dL_law_27 : decode cL_law 27 = .ok (.aload_n 0, 1) := by decide +kernel
theorem dL_law_28 : decode cL_law 28 = .ok (.iload_n 3, 1) := by decide +kernel
theorem dL_law_29 : decode cL_law 29 = .ok (.iaload, 1) := by decide +kernel
theorem dL_law_30 : decode cL_law 30 = .ok (.bipush 63, 2) := by decide +kernel
theorem dL_law_32 : decode cL_law 32 = .ok (.iand, 1) := by decide +kernel
theorem dL_law_33 : decode cL_law 33 = .ok (.tableswitch 1344 0 38 #[171, 234, 257, 300, 333, 356, 399, 442, 475, 488, 501, 544, 567, 590, 603, 616, 639, 672, 715, 748, 771, 834, 877, 890, 923, 936, 979, 1002, 1051, 1094, 1107, 1140, 1163, 1206, 1249, 1282, 1295, 1318, 1331], 171) := by decide +kernel
theorem dL_law_204 : decode cL_law 204 = .ok (.aload_n 1, 1) := by decide +kernel
theorem dL_law_205 : decode cL_law 205 = .ok (.aload_n 0, 1) := by decide +kernel
theorem dL_law_206 : decode cL_law 206 = .ok (.iload_n 3, 1) := by decide +kernel
theorem dL_law_207 : decode cL_law 207 = .ok (.iconst 1, 1) := by decide +kernel
theorem dL_law_208 : decode cL_law 208 = .ok (.iadd, 1) := by decide +kernel
theorem dL_law_209 : decode cL_law 209 = .ok (.iaload, 1) := by decide +kernel
theorem dL_law_210 : decode cL_law 210 = .ok (.aload_n 0, 1) := by decide +kernel
theorem dL_law_211 : decode cL_law 211 = .ok (.iload_n 3, 1) := by decide +kernel
theorem dL_law_212 : decode cL_law 212 = .ok (.iconst 2, 1) := by decide +kernel
theorem dL_law_213 : decode cL_law 213 = .ok (.iadd, 1) := by decide +kernel
theorem dL_law_214 : decode cL_law 214 = .ok (.iaload, 1) := by decide +kernel
theorem dL_law_215 : decode cL_law 215 = .ok (.aload_n 0, 1) := by decide +kernel
theorem dL_law_216 : decode cL_law 216 = .ok (.iload_n 3, 1) := by decide +kernel
theorem dL_law_217 : decode cL_law 217 = .ok (.iconst 3, 1) := by decide +kernel
theorem dL_law_218 : decode cL_law 218 = .ok (.iadd, 1) := by decide +kernel
theorem dL_law_219 : decode cL_law 219 = .ok (.iaload, 1) := by decide +kernel
theorem dL_law_220 : decode cL_law 220 = .ok (.aload_n 0, 1) := by decide +kernel
theorem dL_law_221 : decode cL_law 221 = .ok (.iload_n 3, 1) := by decide +kernel
theorem dL_law_222 : decode cL_law 222 = .ok (.iconst 4, 1) := by decide +kernel
theorem dL_law_223 : decode cL_law 223 = .ok (.iadd, 1) := by decide +kernel
theorem dL_law_224 : decode cL_law 224 = .ok (.iaload, 1) := by decide +kernel
theorem dL_law_225 : decode cL_law 225 = .ok (.aload_n 0, 1) := by decide +kernel
theorem dL_law_226 : decode cL_law 226 = .ok (.iload_n 3, 1) := by decide +kernel
theorem dL_law_227 : decode cL_law 227 = .ok (.iconst 5, 1) := by decide +kernel
theorem dL_law_228 : decode cL_law 228 = .ok (.iadd, 1) := by decide +kernel
theorem dL_law_229 : decode cL_law 229 = .ok (.iaload, 1) := by decide +kernel
theorem dL_law_230 : decode cL_law 230 = .ok (.invokevirtual 13, 3) := by decide +kernel
theorem dL_law_233 : decode cL_law 233 = .ok (.aload_n 2, 1) := by decide +kernel
theorem dL_law_234 : decode cL_law 234 = .ok (.aload_n 0, 1) := by decide +kernel
theorem dL_law_235 : decode cL_law 235 = .ok (.iload_n 3, 1) := by decide +kernel
theorem dL_law_236 : decode cL_law 236 = .ok (.iconst 1, 1) := by decide +kernel
theorem dL_law_237 : decode cL_law 237 = .ok (.iadd, 1) := by decide +kernel
theorem dL_law_238 : decode cL_law 238 = .ok (.iaload, 1) := by decide +kernel
theorem dL_law_239 : decode cL_law 239 = .ok (.aload_n 0, 1) := by decide +kernel
theorem dL_law_240 : decode cL_law 240 = .ok (.iload_n 3, 1) := by decide +kernel
theorem dL_law_241 : decode cL_law 241 = .ok (.iconst 2, 1) := by decide +kernel
theorem dL_law_242 : decode cL_law 242 = .ok (.iadd, 1) := by decide +kernel
theorem dL_law_243 : decode cL_law 243 = .ok (.iaload, 1) := by decide +kernel
theorem dL_law_244 : decode cL_law 244 = .ok (.aload_n 0, 1) := by decide +kernel
theorem dL_law_245 : decode cL_law 245 = .ok (.iload_n 3, 1) := by decide +kernel
theorem dL_law_246 : decode cL_law 246 = .ok (.iconst 3, 1) := by decide +kernel
theorem dL_law_247 : decode cL_law 247 = .ok (.iadd, 1) := by decide +kernel
theorem dL_law_248 : decode cL_law 248 = .ok (.iaload, 1) := by decide +kernel
theorem dL_law_249 : decode cL_law 249 = .ok (.aload_n 0, 1) := by decide +kernel
theorem dL_law_250 : decode cL_law 250 = .ok (.iload_n 3, 1) := by decide +kernel
theorem dL_law_251 : decode cL_law 251 = .ok (.iconst 4, 1) := by decide +kernel
theorem dL_law_252 : decode cL_law 252 = .ok (.iadd, 1) := by decide +kernel
theorem dL_law_253 : decode cL_law 253 = .ok (.iaload, 1) := by decide +kernel
theorem dL_law_254 : decode cL_law 254 = .ok (.aload_n 0, 1) := by decide +kernel
theorem dL_law_255 : decode cL_law 255 = .ok (.iload_n 3, 1) := by decide +kernel
theorem dL_law_256 : decode cL_law 256 = .ok (.iconst 5, 1) := by decide +kernel
theorem dL_law_257 : decode cL_law 257 = .ok (.iadd, 1) := by decide +kernel
theorem dL_law_258 : decode cL_law 258 = .ok (.iaload, 1) := by decide +kernel
theorem dL_law_259 : decode cL_law 259 = .ok (.invokevirtual 17, 3) := by decide +kernel
theorem dL_law_262 : decode cL_law 262 = .ok (.if_icmp .eq 1115, 3) := by decide +kernel
theorem dL_law_265 : decode cL_law 265 = .ok (.iconst 0, 1) := by decide +kernel
theorem dL_law_266 : decode cL_law 266 = .ok (.ireturn, 1) := by decide +kernel
theorem dL_law_267 : decode cL_law 267 = .ok (.aload_n 1, 1) := by decide +kernel
theorem dL_law_268 : decode cL_law 268 = .ok (.aload_n 0, 1) := by decide +kernel
theorem dL_law_269 : decode cL_law 269 = .ok (.iload_n 3, 1) := by decide +kernel
theorem dL_law_270 : decode cL_law 270 = .ok (.iconst 1, 1) := by decide +kernel
theorem dL_law_271 : decode cL_law 271 = .ok (.iadd, 1) := by decide +kernel
theorem dL_law_272 : decode cL_law 272 = .ok (.iaload, 1) := by decide +kernel
theorem dL_law_273 : decode cL_law 273 = .ok (.invokevirtual 18, 3) := by decide +kernel
theorem dL_law_276 : decode cL_law 276 = .ok (.aload_n 2, 1) := by decide +kernel
theorem dL_law_277 : decode cL_law 277 = .ok (.aload_n 0, 1) := by decide +kernel
theorem dL_law_278 : decode cL_law 278 = .ok (.iload_n 3, 1) := by decide +kernel
theorem dL_law_279 : decode cL_law 279 = .ok (.iconst 1, 1) := by decide +kernel
theorem dL_law_280 : decode cL_law 280 = .ok (.iadd, 1) := by decide +kernel
theorem dL_law_281 : decode cL_law 281 = .ok (.iaload, 1) := by decide +kernel
theorem dL_law_282 : decode cL_law 282 = .ok (.invokevirtual 22, 3) := by decide +kernel
theorem dL_law_285 : decode cL_law 285 = .ok (.if_icmp .eq 1092, 3) := by decide +kernel
theorem dL_law_288 : decode cL_law 288 = .ok (.iconst 0, 1) := by decide +kernel
theorem dL_law_289 : decode cL_law 289 = .ok (.ireturn, 1) := by decide +kernel
theorem dL_law_290 : decode cL_law 290 = .ok (.aload_n 1, 1) := by decide +kernel
theorem dL_law_291 : decode cL_law 291 = .ok (.aload_n 0, 1) := by decide +kernel
theorem dL_law_292 : decode cL_law 292 = .ok (.iload_n 3, 1) := by decide +kernel
theorem dL_law_293 : decode cL_law 293 = .ok (.iconst 1, 1) := by decide +kernel
theorem dL_law_294 : decode cL_law 294 = .ok (.iadd, 1) := by decide +kernel
theorem dL_law_295 : decode cL_law 295 = .ok (.iaload, 1) := by decide +kernel
theorem dL_law_296 : decode cL_law 296 = .ok (.aload_n 0, 1) := by decide +kernel
theorem dL_law_297 : decode cL_law 297 = .ok (.iload_n 3, 1) := by decide +kernel
theorem dL_law_298 : decode cL_law 298 = .ok (.iconst 2, 1) := by decide +kernel
theorem dL_law_299 : decode cL_law 299 = .ok (.iadd, 1) := by decide +kernel
theorem dL_law_300 : decode cL_law 300 = .ok (.iaload, 1) := by decide +kernel
theorem dL_law_301 : decode cL_law 301 = .ok (.aload_n 0, 1) := by decide +kernel
theorem dL_law_302 : decode cL_law 302 = .ok (.iload_n 3, 1) := by decide +kernel
theorem dL_law_303 : decode cL_law 303 = .ok (.iconst 3, 1) := by decide +kernel
theorem dL_law_304 : decode cL_law 304 = .ok (.iadd, 1) := by decide +kernel
theorem dL_law_305 : decode cL_law 305 = .ok (.iaload, 1) := by decide +kernel
theorem dL_law_306 : decode cL_law 306 = .ok (.invokevirtual 23, 3) := by decide +kernel
theorem dL_law_309 : decode cL_law 309 = .ok (.aload_n 2, 1) := by decide +kernel
theorem dL_law_310 : decode cL_law 310 = .ok (.aload_n 0, 1) := by decide +kernel
theorem dL_law_311 : decode cL_law 311 = .ok (.iload_n 3, 1) := by decide +kernel
theorem dL_law_312 : decode cL_law 312 = .ok (.iconst 1, 1) := by decide +kernel
theorem dL_law_313 : decode cL_law 313 = .ok (.iadd, 1) := by decide +kernel
theorem dL_law_314 : decode cL_law 314 = .ok (.iaload, 1) := by decide +kernel
theorem dL_law_315 : decode cL_law 315 = .ok (.aload_n 0, 1) := by decide +kernel
theorem dL_law_316 : decode cL_law 316 = .ok (.iload_n 3, 1) := by decide +kernel
theorem dL_law_317 : decode cL_law 317 = .ok (.iconst 2, 1) := by decide +kernel
theorem dL_law_318 : decode cL_law 318 = .ok (.iadd, 1) := by decide +kernel
theorem dL_law_319 : decode cL_law 319 = .ok (.iaload, 1) := by decide +kernel
theorem dL_law_320 : decode cL_law 320 = .ok (.aload_n 0, 1) := by decide +kernel
theorem dL_law_321 : decode cL_law 321 = .ok (.iload_n 3, 1) := by decide +kernel
theorem dL_law_322 : decode cL_law 322 = .ok (.iconst 3, 1) := by decide +kernel
theorem dL_law_323 : decode cL_law 323 = .ok (.iadd, 1) := by decide +kernel
theorem dL_law_324 : decode cL_law 324 = .ok (.iaload, 1) := by decide +kernel
theorem dL_law_325 : decode cL_law 325 = .ok (.invokevirtual 27, 3) := by decide +kernel
theorem dL_law_328 : decode cL_law 328 = .ok (.if_icmp .eq 1049, 3) := by decide +kernel
theorem dL_law_331 : decode cL_law 331 = .ok (.iconst 0, 1) := by decide +kernel
theorem dL_law_332 : decode cL_law 332 = .ok (.ireturn, 1) := by decide +kernel
theorem dL_law_333 : decode cL_law 333 = .ok (.aload_n 1, 1) := by decide +kernel
theorem dL_law_334 : decode cL_law 334 = .ok (.aload_n 0, 1) := by decide +kernel
theorem dL_law_335 : decode cL_law 335 = .ok (.iload_n 3, 1) := by decide +kernel
theorem dL_law_336 : decode cL_law 336 = .ok (.iconst 1, 1) := by decide +kernel
theorem dL_law_337 : decode cL_law 337 = .ok (.iadd, 1) := by decide +kernel
theorem dL_law_338 : decode cL_law 338 = .ok (.iaload, 1) := by decide +kernel
theorem dL_law_339 : decode cL_law 339 = .ok (.aload_n 0, 1) := by decide +kernel
theorem dL_law_340 : decode cL_law 340 = .ok (.iload_n 3, 1) := by decide +kernel
theorem dL_law_341 : decode cL_law 341 = .ok (.iconst 2, 1) := by decide +kernel
theorem dL_law_342 : decode cL_law 342 = .ok (.iadd, 1) := by decide +kernel
theorem dL_law_343 : decode cL_law 343 = .ok (.iaload, 1) := by decide +kernel
theorem dL_law_344 : decode cL_law 344 = .ok (.invokevirtual 28, 3) := by decide +kernel
theorem dL_law_347 : decode cL_law 347 = .ok (.aload_n 2, 1) := by decide +kernel
theorem dL_law_348 : decode cL_law 348 = .ok (.aload_n 0, 1) := by decide +kernel
theorem dL_law_349 : decode cL_law 349 = .ok (.iload_n 3, 1) := by decide +kernel
theorem dL_law_350 : decode cL_law 350 = .ok (.iconst 1, 1) := by decide +kernel
theorem dL_law_351 : decode cL_law 351 = .ok (.iadd, 1) := by decide +kernel
theorem dL_law_352 : decode cL_law 352 = .ok (.iaload, 1) := by decide +kernel
theorem dL_law_353 : decode cL_law 353 = .ok (.aload_n 0, 1) := by decide +kernel
theorem dL_law_354 : decode cL_law 354 = .ok (.iload_n 3, 1) := by decide +kernel
theorem dL_law_355 : decode cL_law 355 = .ok (.iconst 2, 1) := by decide +kernel
theorem dL_law_356 : decode cL_law 356 = .ok (.iadd, 1) := by decide +kernel
theorem dL_law_357 : decode cL_law 357 = .ok (.iaload, 1) := by decide +kernel
theorem dL_law_358 : decode cL_law 358 = .ok (.invokevirtual 32, 3) := by decide +kernel
theorem dL_law_361 : decode cL_law 361 = .ok (.if_icmp .eq 1016, 3) := by decide +kernel
theorem dL_law_364 : decode cL_law 364 = .ok (.iconst 0, 1) := by decide +kernel
theorem dL_law_365 : decode cL_law 365 = .ok (.ireturn, 1) := by decide +kernel
theorem dL_law_366 : decode cL_law 366 = .ok (.aload_n 1, 1) := by decide +kernel
theorem dL_law_367 : decode cL_law 367 = .ok (.aload_n 0, 1) := by decide +kernel
theorem dL_law_368 : decode cL_law 368 = .ok (.iload_n 3, 1) := by decide +kernel
theorem dL_law_369 : decode cL_law 369 = .ok (.iconst 1, 1) := by decide +kernel
theorem dL_law_370 : decode cL_law 370 = .ok (.iadd, 1) := by decide +kernel
theorem dL_law_371 : decode cL_law 371 = .ok (.iaload, 1) := by decide +kernel
theorem dL_law_372 : decode cL_law 372 = .ok (.invokevirtual 33, 3) := by decide +kernel
theorem dL_law_375 : decode cL_law 375 = .ok (.aload_n 2, 1) := by decide +kernel
theorem dL_law_376 : decode cL_law 376 = .ok (.aload_n 0, 1) := by decide +kernel
theorem dL_law_377 : decode cL_law 377 = .ok (.iload_n 3, 1) := by decide +kernel
theorem dL_law_378 : decode cL_law 378 = .ok (.iconst 1, 1) := by decide +kernel
theorem dL_law_379 : decode cL_law 379 = .ok (.iadd, 1) := by decide +kernel
theorem dL_law_380 : decode cL_law 380 = .ok (.iaload, 1) := by decide +kernel
theorem dL_law_381 : decode cL_law 381 = .ok (.invokevirtual 36, 3) := by decide +kernel
theorem dL_law_384 : decode cL_law 384 = .ok (.if_icmp .eq 993, 3) := by decide +kernel
theorem dL_law_387 : decode cL_law 387 = .ok (.iconst 0, 1) := by decide +kernel
theorem dL_law_388 : decode cL_law 388 = .ok (.ireturn, 1) := by decide +kernel
theorem dL_law_389 : decode cL_law 389 = .ok (.aload_n 1, 1) := by decide +kernel
theorem dL_law_390 : decode cL_law 390 = .ok (.aload_n 0, 1) := by decide +kernel
theorem dL_law_391 : decode cL_law 391 = .ok (.iload_n 3, 1) := by decide +kernel
theorem dL_law_392 : decode cL_law 392 = .ok (.iconst 1, 1) := by decide +kernel
theorem dL_law_393 : decode cL_law 393 = .ok (.iadd, 1) := by decide +kernel
theorem dL_law_394 : decode cL_law 394 = .ok (.iaload, 1) := by decide +kernel
theorem dL_law_395 : decode cL_law 395 = .ok (.aload_n 0, 1) := by decide +kernel
theorem dL_law_396 : decode cL_law 396 = .ok (.iload_n 3, 1) := by decide +kernel
theorem dL_law_397 : decode cL_law 397 = .ok (.iconst 2, 1) := by decide +kernel
theorem dL_law_398 : decode cL_law 398 = .ok (.iadd, 1) := by decide +kernel
theorem dL_law_399 : decode cL_law 399 = .ok (.iaload, 1) := by decide +kernel
theorem dL_law_400 : decode cL_law 400 = .ok (.aload_n 0, 1) := by decide +kernel
theorem dL_law_401 : decode cL_law 401 = .ok (.iload_n 3, 1) := by decide +kernel
theorem dL_law_402 : decode cL_law 402 = .ok (.iconst 3, 1) := by decide +kernel
theorem dL_law_403 : decode cL_law 403 = .ok (.iadd, 1) := by decide +kernel
theorem dL_law_404 : decode cL_law 404 = .ok (.iaload, 1) := by decide +kernel
theorem dL_law_405 : decode cL_law 405 = .ok (.invokevirtual 37, 3) := by decide +kernel
theorem dL_law_408 : decode cL_law 408 = .ok (.aload_n 2, 1) := by decide +kernel
theorem dL_law_409 : decode cL_law 409 = .ok (.aload_n 0, 1) := by decide +kernel
theorem dL_law_410 : decode cL_law 410 = .ok (.iload_n 3, 1) := by decide +kernel
theorem dL_law_411 : decode cL_law 411 = .ok (.iconst 1, 1) := by decide +kernel
theorem dL_law_412 : decode cL_law 412 = .ok (.iadd, 1) := by decide +kernel
theorem dL_law_413 : decode cL_law 413 = .ok (.iaload, 1) := by decide +kernel
theorem dL_law_414 : decode cL_law 414 = .ok (.aload_n 0, 1) := by decide +kernel
theorem dL_law_415 : decode cL_law 415 = .ok (.iload_n 3, 1) := by decide +kernel
theorem dL_law_416 : decode cL_law 416 = .ok (.iconst 2, 1) := by decide +kernel
theorem dL_law_417 : decode cL_law 417 = .ok (.iadd, 1) := by decide +kernel
theorem dL_law_418 : decode cL_law 418 = .ok (.iaload, 1) := by decide +kernel
theorem dL_law_419 : decode cL_law 419 = .ok (.aload_n 0, 1) := by decide +kernel
theorem dL_law_420 : decode cL_law 420 = .ok (.iload_n 3, 1) := by decide +kernel
theorem dL_law_421 : decode cL_law 421 = .ok (.iconst 3, 1) := by decide +kernel
theorem dL_law_422 : decode cL_law 422 = .ok (.iadd, 1) := by decide +kernel
theorem dL_law_423 : decode cL_law 423 = .ok (.iaload, 1) := by decide +kernel
theorem dL_law_424 : decode cL_law 424 = .ok (.invokevirtual 40, 3) := by decide +kernel
theorem dL_law_427 : decode cL_law 427 = .ok (.if_icmp .eq 950, 3) := by decide +kernel
theorem dL_law_430 : decode cL_law 430 = .ok (.iconst 0, 1) := by decide +kernel
theorem dL_law_431 : decode cL_law 431 = .ok (.ireturn, 1) := by decide +kernel
theorem dL_law_432 : decode cL_law 432 = .ok (.aload_n 1, 1) := by decide +kernel
theorem dL_law_433 : decode cL_law 433 = .ok (.aload_n 0, 1) := by decide +kernel
theorem dL_law_434 : decode cL_law 434 = .ok (.iload_n 3, 1) := by decide +kernel
theorem dL_law_435 : decode cL_law 435 = .ok (.iconst 1, 1) := by decide +kernel
theorem dL_law_436 : decode cL_law 436 = .ok (.iadd, 1) := by decide +kernel
theorem dL_law_437 : decode cL_law 437 = .ok (.iaload, 1) := by decide +kernel
theorem dL_law_438 : decode cL_law 438 = .ok (.aload_n 0, 1) := by decide +kernel
theorem dL_law_439 : decode cL_law 439 = .ok (.iload_n 3, 1) := by decide +kernel
theorem dL_law_440 : decode cL_law 440 = .ok (.iconst 2, 1) := by decide +kernel
theorem dL_law_441 : decode cL_law 441 = .ok (.iadd, 1) := by decide +kernel
theorem dL_law_442 : decode cL_law 442 = .ok (.iaload, 1) := by decide +kernel
theorem dL_law_443 : decode cL_law 443 = .ok (.aload_n 0, 1) := by decide +kernel
theorem dL_law_444 : decode cL_law 444 = .ok (.iload_n 3, 1) := by decide +kernel
theorem dL_law_445 : decode cL_law 445 = .ok (.iconst 3, 1) := by decide +kernel
theorem dL_law_446 : decode cL_law 446 = .ok (.iadd, 1) := by decide +kernel
theorem dL_law_447 : decode cL_law 447 = .ok (.iaload, 1) := by decide +kernel
theorem dL_law_448 : decode cL_law 448 = .ok (.invokevirtual 41, 3) := by decide +kernel
theorem dL_law_451 : decode cL_law 451 = .ok (.aload_n 2, 1) := by decide +kernel
theorem dL_law_452 : decode cL_law 452 = .ok (.aload_n 0, 1) := by decide +kernel
theorem dL_law_453 : decode cL_law 453 = .ok (.iload_n 3, 1) := by decide +kernel
theorem dL_law_454 : decode cL_law 454 = .ok (.iconst 1, 1) := by decide +kernel
theorem dL_law_455 : decode cL_law 455 = .ok (.iadd, 1) := by decide +kernel
theorem dL_law_456 : decode cL_law 456 = .ok (.iaload, 1) := by decide +kernel
theorem dL_law_457 : decode cL_law 457 = .ok (.aload_n 0, 1) := by decide +kernel
theorem dL_law_458 : decode cL_law 458 = .ok (.iload_n 3, 1) := by decide +kernel
theorem dL_law_459 : decode cL_law 459 = .ok (.iconst 2, 1) := by decide +kernel
theorem dL_law_460 : decode cL_law 460 = .ok (.iadd, 1) := by decide +kernel
theorem dL_law_461 : decode cL_law 461 = .ok (.iaload, 1) := by decide +kernel
theorem dL_law_462 : decode cL_law 462 = .ok (.aload_n 0, 1) := by decide +kernel
theorem dL_law_463 : decode cL_law 463 = .ok (.iload_n 3, 1) := by decide +kernel
theorem dL_law_464 : decode cL_law 464 = .ok (.iconst 3, 1) := by decide +kernel
theorem dL_law_465 : decode cL_law 465 = .ok (.iadd, 1) := by decide +kernel
theorem dL_law_466 : decode cL_law 466 = .ok (.iaload, 1) := by decide +kernel
theorem dL_law_467 : decode cL_law 467 = .ok (.invokevirtual 44, 3) := by decide +kernel
theorem dL_law_470 : decode cL_law 470 = .ok (.if_icmp .eq 907, 3) := by decide +kernel
theorem dL_law_473 : decode cL_law 473 = .ok (.iconst 0, 1) := by decide +kernel
theorem dL_law_474 : decode cL_law 474 = .ok (.ireturn, 1) := by decide +kernel
theorem dL_law_475 : decode cL_law 475 = .ok (.aload_n 1, 1) := by decide +kernel
theorem dL_law_476 : decode cL_law 476 = .ok (.aload_n 0, 1) := by decide +kernel
theorem dL_law_477 : decode cL_law 477 = .ok (.iload_n 3, 1) := by decide +kernel
theorem dL_law_478 : decode cL_law 478 = .ok (.iconst 1, 1) := by decide +kernel
theorem dL_law_479 : decode cL_law 479 = .ok (.iadd, 1) := by decide +kernel
theorem dL_law_480 : decode cL_law 480 = .ok (.iaload, 1) := by decide +kernel
theorem dL_law_481 : decode cL_law 481 = .ok (.aload_n 0, 1) := by decide +kernel
theorem dL_law_482 : decode cL_law 482 = .ok (.iload_n 3, 1) := by decide +kernel
theorem dL_law_483 : decode cL_law 483 = .ok (.iconst 2, 1) := by decide +kernel
theorem dL_law_484 : decode cL_law 484 = .ok (.iadd, 1) := by decide +kernel
theorem dL_law_485 : decode cL_law 485 = .ok (.iaload, 1) := by decide +kernel
theorem dL_law_486 : decode cL_law 486 = .ok (.invokevirtual 45, 3) := by decide +kernel
theorem dL_law_489 : decode cL_law 489 = .ok (.aload_n 2, 1) := by decide +kernel
theorem dL_law_490 : decode cL_law 490 = .ok (.aload_n 0, 1) := by decide +kernel
theorem dL_law_491 : decode cL_law 491 = .ok (.iload_n 3, 1) := by decide +kernel
theorem dL_law_492 : decode cL_law 492 = .ok (.iconst 1, 1) := by decide +kernel
theorem dL_law_493 : decode cL_law 493 = .ok (.iadd, 1) := by decide +kernel
theorem dL_law_494 : decode cL_law 494 = .ok (.iaload, 1) := by decide +kernel
theorem dL_law_495 : decode cL_law 495 = .ok (.aload_n 0, 1) := by decide +kernel
theorem dL_law_496 : decode cL_law 496 = .ok (.iload_n 3, 1) := by decide +kernel
theorem dL_law_497 : decode cL_law 497 = .ok (.iconst 2, 1) := by decide +kernel
theorem dL_law_498 : decode cL_law 498 = .ok (.iadd, 1) := by decide +kernel
theorem dL_law_499 : decode cL_law 499 = .ok (.iaload, 1) := by decide +kernel
theorem dL_law_500 : decode cL_law 500 = .ok (.invokevirtual 48, 3) := by decide +kernel
theorem dL_law_503 : decode cL_law 503 = .ok (.if_icmp .eq 874, 3) := by decide +kernel
theorem dL_law_506 : decode cL_law 506 = .ok (.iconst 0, 1) := by decide +kernel
theorem dL_law_507 : decode cL_law 507 = .ok (.ireturn, 1) := by decide +kernel
theorem dL_law_508 : decode cL_law 508 = .ok (.aload_n 1, 1) := by decide +kernel
theorem dL_law_509 : decode cL_law 509 = .ok (.invokevirtual 49, 3) := by decide +kernel
theorem dL_law_512 : decode cL_law 512 = .ok (.aload_n 2, 1) := by decide +kernel
theorem dL_law_513 : decode cL_law 513 = .ok (.invokevirtual 53, 3) := by decide +kernel
theorem dL_law_516 : decode cL_law 516 = .ok (.if_icmp .eq 861, 3) := by decide +kernel
theorem dL_law_519 : decode cL_law 519 = .ok (.iconst 0, 1) := by decide +kernel
theorem dL_law_520 : decode cL_law 520 = .ok (.ireturn, 1) := by decide +kernel
theorem dL_law_521 : decode cL_law 521 = .ok (.aload_n 1, 1) := by decide +kernel
theorem dL_law_522 : decode cL_law 522 = .ok (.invokevirtual 54, 3) := by decide +kernel
theorem dL_law_525 : decode cL_law 525 = .ok (.aload_n 2, 1) := by decide +kernel
theorem dL_law_526 : decode cL_law 526 = .ok (.invokevirtual 57, 3) := by decide +kernel
theorem dL_law_529 : decode cL_law 529 = .ok (.if_icmp .eq 848, 3) := by decide +kernel
theorem dL_law_532 : decode cL_law 532 = .ok (.iconst 0, 1) := by decide +kernel
theorem dL_law_533 : decode cL_law 533 = .ok (.ireturn, 1) := by decide +kernel
theorem dL_law_534 : decode cL_law 534 = .ok (.aload_n 1, 1) := by decide +kernel
theorem dL_law_535 : decode cL_law 535 = .ok (.aload_n 0, 1) := by decide +kernel
theorem dL_law_536 : decode cL_law 536 = .ok (.iload_n 3, 1) := by decide +kernel
theorem dL_law_537 : decode cL_law 537 = .ok (.iconst 1, 1) := by decide +kernel
theorem dL_law_538 : decode cL_law 538 = .ok (.iadd, 1) := by decide +kernel
theorem dL_law_539 : decode cL_law 539 = .ok (.iaload, 1) := by decide +kernel
theorem dL_law_540 : decode cL_law 540 = .ok (.aload_n 0, 1) := by decide +kernel
theorem dL_law_541 : decode cL_law 541 = .ok (.iload_n 3, 1) := by decide +kernel
theorem dL_law_542 : decode cL_law 542 = .ok (.iconst 2, 1) := by decide +kernel
theorem dL_law_543 : decode cL_law 543 = .ok (.iadd, 1) := by decide +kernel
theorem dL_law_544 : decode cL_law 544 = .ok (.iaload, 1) := by decide +kernel
theorem dL_law_545 : decode cL_law 545 = .ok (.aload_n 0, 1) := by decide +kernel
theorem dL_law_546 : decode cL_law 546 = .ok (.iload_n 3, 1) := by decide +kernel
theorem dL_law_547 : decode cL_law 547 = .ok (.iconst 3, 1) := by decide +kernel
theorem dL_law_548 : decode cL_law 548 = .ok (.iadd, 1) := by decide +kernel
theorem dL_law_549 : decode cL_law 549 = .ok (.iaload, 1) := by decide +kernel
theorem dL_law_550 : decode cL_law 550 = .ok (.invokevirtual 58, 3) := by decide +kernel
theorem dL_law_553 : decode cL_law 553 = .ok (.aload_n 2, 1) := by decide +kernel
theorem dL_law_554 : decode cL_law 554 = .ok (.aload_n 0, 1) := by decide +kernel
theorem dL_law_555 : decode cL_law 555 = .ok (.iload_n 3, 1) := by decide +kernel
theorem dL_law_556 : decode cL_law 556 = .ok (.iconst 1, 1) := by decide +kernel
theorem dL_law_557 : decode cL_law 557 = .ok (.iadd, 1) := by decide +kernel
theorem dL_law_558 : decode cL_law 558 = .ok (.iaload, 1) := by decide +kernel
theorem dL_law_559 : decode cL_law 559 = .ok (.aload_n 0, 1) := by decide +kernel
theorem dL_law_560 : decode cL_law 560 = .ok (.iload_n 3, 1) := by decide +kernel
theorem dL_law_561 : decode cL_law 561 = .ok (.iconst 2, 1) := by decide +kernel
theorem dL_law_562 : decode cL_law 562 = .ok (.iadd, 1) := by decide +kernel
theorem dL_law_563 : decode cL_law 563 = .ok (.iaload, 1) := by decide +kernel
theorem dL_law_564 : decode cL_law 564 = .ok (.aload_n 0, 1) := by decide +kernel
theorem dL_law_565 : decode cL_law 565 = .ok (.iload_n 3, 1) := by decide +kernel
theorem dL_law_566 : decode cL_law 566 = .ok (.iconst 3, 1) := by decide +kernel
theorem dL_law_567 : decode cL_law 567 = .ok (.iadd, 1) := by decide +kernel
theorem dL_law_568 : decode cL_law 568 = .ok (.iaload, 1) := by decide +kernel
theorem dL_law_569 : decode cL_law 569 = .ok (.invokevirtual 61, 3) := by decide +kernel
theorem dL_law_572 : decode cL_law 572 = .ok (.if_icmp .eq 805, 3) := by decide +kernel
theorem dL_law_575 : decode cL_law 575 = .ok (.iconst 0, 1) := by decide +kernel
theorem dL_law_576 : decode cL_law 576 = .ok (.ireturn, 1) := by decide +kernel
theorem dL_law_577 : decode cL_law 577 = .ok (.aload_n 1, 1) := by decide +kernel
theorem dL_law_578 : decode cL_law 578 = .ok (.aload_n 0, 1) := by decide +kernel
theorem dL_law_579 : decode cL_law 579 = .ok (.iload_n 3, 1) := by decide +kernel
theorem dL_law_580 : decode cL_law 580 = .ok (.iconst 1, 1) := by decide +kernel
theorem dL_law_581 : decode cL_law 581 = .ok (.iadd, 1) := by decide +kernel
theorem dL_law_582 : decode cL_law 582 = .ok (.iaload, 1) := by decide +kernel
theorem dL_law_583 : decode cL_law 583 = .ok (.invokevirtual 62, 3) := by decide +kernel
theorem dL_law_586 : decode cL_law 586 = .ok (.aload_n 2, 1) := by decide +kernel
theorem dL_law_587 : decode cL_law 587 = .ok (.aload_n 0, 1) := by decide +kernel
theorem dL_law_588 : decode cL_law 588 = .ok (.iload_n 3, 1) := by decide +kernel
theorem dL_law_589 : decode cL_law 589 = .ok (.iconst 1, 1) := by decide +kernel
theorem dL_law_590 : decode cL_law 590 = .ok (.iadd, 1) := by decide +kernel
theorem dL_law_591 : decode cL_law 591 = .ok (.iaload, 1) := by decide +kernel
theorem dL_law_592 : decode cL_law 592 = .ok (.invokevirtual 65, 3) := by decide +kernel
theorem dL_law_595 : decode cL_law 595 = .ok (.if_icmp .eq 782, 3) := by decide +kernel
theorem dL_law_598 : decode cL_law 598 = .ok (.iconst 0, 1) := by decide +kernel
theorem dL_law_599 : decode cL_law 599 = .ok (.ireturn, 1) := by decide +kernel
theorem dL_law_600 : decode cL_law 600 = .ok (.aload_n 1, 1) := by decide +kernel
theorem dL_law_601 : decode cL_law 601 = .ok (.aload_n 0, 1) := by decide +kernel
theorem dL_law_602 : decode cL_law 602 = .ok (.iload_n 3, 1) := by decide +kernel
theorem dL_law_603 : decode cL_law 603 = .ok (.iconst 1, 1) := by decide +kernel
theorem dL_law_604 : decode cL_law 604 = .ok (.iadd, 1) := by decide +kernel
theorem dL_law_605 : decode cL_law 605 = .ok (.iaload, 1) := by decide +kernel
theorem dL_law_606 : decode cL_law 606 = .ok (.invokevirtual 66, 3) := by decide +kernel
theorem dL_law_609 : decode cL_law 609 = .ok (.aload_n 2, 1) := by decide +kernel
theorem dL_law_610 : decode cL_law 610 = .ok (.aload_n 0, 1) := by decide +kernel
theorem dL_law_611 : decode cL_law 611 = .ok (.iload_n 3, 1) := by decide +kernel
theorem dL_law_612 : decode cL_law 612 = .ok (.iconst 1, 1) := by decide +kernel
theorem dL_law_613 : decode cL_law 613 = .ok (.iadd, 1) := by decide +kernel
theorem dL_law_614 : decode cL_law 614 = .ok (.iaload, 1) := by decide +kernel
theorem dL_law_615 : decode cL_law 615 = .ok (.invokevirtual 69, 3) := by decide +kernel
theorem dL_law_618 : decode cL_law 618 = .ok (.if_icmp .eq 759, 3) := by decide +kernel
theorem dL_law_621 : decode cL_law 621 = .ok (.iconst 0, 1) := by decide +kernel
theorem dL_law_622 : decode cL_law 622 = .ok (.ireturn, 1) := by decide +kernel
theorem dL_law_623 : decode cL_law 623 = .ok (.aload_n 1, 1) := by decide +kernel
theorem dL_law_624 : decode cL_law 624 = .ok (.invokevirtual 70, 3) := by decide +kernel
theorem dL_law_627 : decode cL_law 627 = .ok (.aload_n 2, 1) := by decide +kernel
theorem dL_law_628 : decode cL_law 628 = .ok (.invokevirtual 73, 3) := by decide +kernel
theorem dL_law_631 : decode cL_law 631 = .ok (.if_icmp .eq 746, 3) := by decide +kernel
theorem dL_law_634 : decode cL_law 634 = .ok (.iconst 0, 1) := by decide +kernel
theorem dL_law_635 : decode cL_law 635 = .ok (.ireturn, 1) := by decide +kernel
theorem dL_law_636 : decode cL_law 636 = .ok (.aload_n 1, 1) := by decide +kernel
theorem dL_law_637 : decode cL_law 637 = .ok (.invokevirtual 74, 3) := by decide +kernel
theorem dL_law_640 : decode cL_law 640 = .ok (.aload_n 2, 1) := by decide +kernel
theorem dL_law_641 : decode cL_law 641 = .ok (.invokevirtual 77, 3) := by decide +kernel
theorem dL_law_644 : decode cL_law 644 = .ok (.if_icmp .eq 733, 3) := by decide +kernel
theorem dL_law_647 : decode cL_law 647 = .ok (.iconst 0, 1) := by decide +kernel
theorem dL_law_648 : decode cL_law 648 = .ok (.ireturn, 1) := by decide +kernel
theorem dL_law_649 : decode cL_law 649 = .ok (.aload_n 1, 1) := by decide +kernel
theorem dL_law_650 : decode cL_law 650 = .ok (.aload_n 0, 1) := by decide +kernel
theorem dL_law_651 : decode cL_law 651 = .ok (.iload_n 3, 1) := by decide +kernel
theorem dL_law_652 : decode cL_law 652 = .ok (.iconst 1, 1) := by decide +kernel
theorem dL_law_653 : decode cL_law 653 = .ok (.iadd, 1) := by decide +kernel
theorem dL_law_654 : decode cL_law 654 = .ok (.iaload, 1) := by decide +kernel
theorem dL_law_655 : decode cL_law 655 = .ok (.invokevirtual 78, 3) := by decide +kernel
theorem dL_law_658 : decode cL_law 658 = .ok (.aload_n 2, 1) := by decide +kernel
theorem dL_law_659 : decode cL_law 659 = .ok (.aload_n 0, 1) := by decide +kernel
theorem dL_law_660 : decode cL_law 660 = .ok (.iload_n 3, 1) := by decide +kernel
theorem dL_law_661 : decode cL_law 661 = .ok (.iconst 1, 1) := by decide +kernel
theorem dL_law_662 : decode cL_law 662 = .ok (.iadd, 1) := by decide +kernel
theorem dL_law_663 : decode cL_law 663 = .ok (.iaload, 1) := by decide +kernel
theorem dL_law_664 : decode cL_law 664 = .ok (.invokevirtual 81, 3) := by decide +kernel
theorem dL_law_667 : decode cL_law 667 = .ok (.if_icmp .eq 710, 3) := by decide +kernel
theorem dL_law_670 : decode cL_law 670 = .ok (.iconst 0, 1) := by decide +kernel
theorem dL_law_671 : decode cL_law 671 = .ok (.ireturn, 1) := by decide +kernel
theorem dL_law_672 : decode cL_law 672 = .ok (.aload_n 1, 1) := by decide +kernel
theorem dL_law_673 : decode cL_law 673 = .ok (.aload_n 0, 1) := by decide +kernel
theorem dL_law_674 : decode cL_law 674 = .ok (.iload_n 3, 1) := by decide +kernel
theorem dL_law_675 : decode cL_law 675 = .ok (.iconst 1, 1) := by decide +kernel
theorem dL_law_676 : decode cL_law 676 = .ok (.iadd, 1) := by decide +kernel
theorem dL_law_677 : decode cL_law 677 = .ok (.iaload, 1) := by decide +kernel
theorem dL_law_678 : decode cL_law 678 = .ok (.aload_n 0, 1) := by decide +kernel
theorem dL_law_679 : decode cL_law 679 = .ok (.iload_n 3, 1) := by decide +kernel
theorem dL_law_680 : decode cL_law 680 = .ok (.iconst 2, 1) := by decide +kernel
theorem dL_law_681 : decode cL_law 681 = .ok (.iadd, 1) := by decide +kernel
theorem dL_law_682 : decode cL_law 682 = .ok (.iaload, 1) := by decide +kernel
theorem dL_law_683 : decode cL_law 683 = .ok (.invokevirtual 82, 3) := by decide +kernel
theorem dL_law_686 : decode cL_law 686 = .ok (.aload_n 2, 1) := by decide +kernel
theorem dL_law_687 : decode cL_law 687 = .ok (.aload_n 0, 1) := by decide +kernel
theorem dL_law_688 : decode cL_law 688 = .ok (.iload_n 3, 1) := by decide +kernel
theorem dL_law_689 : decode cL_law 689 = .ok (.iconst 1, 1) := by decide +kernel
theorem dL_law_690 : decode cL_law 690 = .ok (.iadd, 1) := by decide +kernel
theorem dL_law_691 : decode cL_law 691 = .ok (.iaload, 1) := by decide +kernel
theorem dL_law_692 : decode cL_law 692 = .ok (.aload_n 0, 1) := by decide +kernel
theorem dL_law_693 : decode cL_law 693 = .ok (.iload_n 3, 1) := by decide +kernel
theorem dL_law_694 : decode cL_law 694 = .ok (.iconst 2, 1) := by decide +kernel
theorem dL_law_695 : decode cL_law 695 = .ok (.iadd, 1) := by decide +kernel
theorem dL_law_696 : decode cL_law 696 = .ok (.iaload, 1) := by decide +kernel
theorem dL_law_697 : decode cL_law 697 = .ok (.invokevirtual 85, 3) := by decide +kernel
theorem dL_law_700 : decode cL_law 700 = .ok (.if_icmp .eq 677, 3) := by decide +kernel
theorem dL_law_703 : decode cL_law 703 = .ok (.iconst 0, 1) := by decide +kernel
theorem dL_law_704 : decode cL_law 704 = .ok (.ireturn, 1) := by decide +kernel
theorem dL_law_705 : decode cL_law 705 = .ok (.aload_n 1, 1) := by decide +kernel
theorem dL_law_706 : decode cL_law 706 = .ok (.aload_n 0, 1) := by decide +kernel
theorem dL_law_707 : decode cL_law 707 = .ok (.iload_n 3, 1) := by decide +kernel
theorem dL_law_708 : decode cL_law 708 = .ok (.iconst 1, 1) := by decide +kernel
theorem dL_law_709 : decode cL_law 709 = .ok (.iadd, 1) := by decide +kernel
theorem dL_law_710 : decode cL_law 710 = .ok (.iaload, 1) := by decide +kernel
theorem dL_law_711 : decode cL_law 711 = .ok (.aload_n 0, 1) := by decide +kernel
theorem dL_law_712 : decode cL_law 712 = .ok (.iload_n 3, 1) := by decide +kernel
theorem dL_law_713 : decode cL_law 713 = .ok (.iconst 2, 1) := by decide +kernel
theorem dL_law_714 : decode cL_law 714 = .ok (.iadd, 1) := by decide +kernel
theorem dL_law_715 : decode cL_law 715 = .ok (.iaload, 1) := by decide +kernel
theorem dL_law_716 : decode cL_law 716 = .ok (.aload_n 0, 1) := by decide +kernel
theorem dL_law_717 : decode cL_law 717 = .ok (.iload_n 3, 1) := by decide +kernel
theorem dL_law_718 : decode cL_law 718 = .ok (.iconst 3, 1) := by decide +kernel
theorem dL_law_719 : decode cL_law 719 = .ok (.iadd, 1) := by decide +kernel
theorem dL_law_720 : decode cL_law 720 = .ok (.iaload, 1) := by decide +kernel
theorem dL_law_721 : decode cL_law 721 = .ok (.invokevirtual 86, 3) := by decide +kernel
theorem dL_law_724 : decode cL_law 724 = .ok (.aload_n 2, 1) := by decide +kernel
theorem dL_law_725 : decode cL_law 725 = .ok (.aload_n 0, 1) := by decide +kernel
theorem dL_law_726 : decode cL_law 726 = .ok (.iload_n 3, 1) := by decide +kernel
theorem dL_law_727 : decode cL_law 727 = .ok (.iconst 1, 1) := by decide +kernel
theorem dL_law_728 : decode cL_law 728 = .ok (.iadd, 1) := by decide +kernel
theorem dL_law_729 : decode cL_law 729 = .ok (.iaload, 1) := by decide +kernel
theorem dL_law_730 : decode cL_law 730 = .ok (.aload_n 0, 1) := by decide +kernel
theorem dL_law_731 : decode cL_law 731 = .ok (.iload_n 3, 1) := by decide +kernel
theorem dL_law_732 : decode cL_law 732 = .ok (.iconst 2, 1) := by decide +kernel
theorem dL_law_733 : decode cL_law 733 = .ok (.iadd, 1) := by decide +kernel
theorem dL_law_734 : decode cL_law 734 = .ok (.iaload, 1) := by decide +kernel
theorem dL_law_735 : decode cL_law 735 = .ok (.aload_n 0, 1) := by decide +kernel
theorem dL_law_736 : decode cL_law 736 = .ok (.iload_n 3, 1) := by decide +kernel
theorem dL_law_737 : decode cL_law 737 = .ok (.iconst 3, 1) := by decide +kernel
theorem dL_law_738 : decode cL_law 738 = .ok (.iadd, 1) := by decide +kernel
theorem dL_law_739 : decode cL_law 739 = .ok (.iaload, 1) := by decide +kernel
theorem dL_law_740 : decode cL_law 740 = .ok (.invokevirtual 89, 3) := by decide +kernel
theorem dL_law_743 : decode cL_law 743 = .ok (.if_icmp .eq 634, 3) := by decide +kernel
theorem dL_law_746 : decode cL_law 746 = .ok (.iconst 0, 1) := by decide +kernel
theorem dL_law_747 : decode cL_law 747 = .ok (.ireturn, 1) := by decide +kernel
theorem dL_law_748 : decode cL_law 748 = .ok (.aload_n 1, 1) := by decide +kernel
theorem dL_law_749 : decode cL_law 749 = .ok (.aload_n 0, 1) := by decide +kernel
theorem dL_law_750 : decode cL_law 750 = .ok (.iload_n 3, 1) := by decide +kernel
theorem dL_law_751 : decode cL_law 751 = .ok (.iconst 1, 1) := by decide +kernel
theorem dL_law_752 : decode cL_law 752 = .ok (.iadd, 1) := by decide +kernel
theorem dL_law_753 : decode cL_law 753 = .ok (.iaload, 1) := by decide +kernel
theorem dL_law_754 : decode cL_law 754 = .ok (.aload_n 0, 1) := by decide +kernel
theorem dL_law_755 : decode cL_law 755 = .ok (.iload_n 3, 1) := by decide +kernel
theorem dL_law_756 : decode cL_law 756 = .ok (.iconst 2, 1) := by decide +kernel
theorem dL_law_757 : decode cL_law 757 = .ok (.iadd, 1) := by decide +kernel
theorem dL_law_758 : decode cL_law 758 = .ok (.iaload, 1) := by decide +kernel
theorem dL_law_759 : decode cL_law 759 = .ok (.invokevirtual 90, 3) := by decide +kernel
theorem dL_law_762 : decode cL_law 762 = .ok (.aload_n 2, 1) := by decide +kernel
theorem dL_law_763 : decode cL_law 763 = .ok (.aload_n 0, 1) := by decide +kernel
theorem dL_law_764 : decode cL_law 764 = .ok (.iload_n 3, 1) := by decide +kernel
theorem dL_law_765 : decode cL_law 765 = .ok (.iconst 1, 1) := by decide +kernel
theorem dL_law_766 : decode cL_law 766 = .ok (.iadd, 1) := by decide +kernel
theorem dL_law_767 : decode cL_law 767 = .ok (.iaload, 1) := by decide +kernel
theorem dL_law_768 : decode cL_law 768 = .ok (.aload_n 0, 1) := by decide +kernel
theorem dL_law_769 : decode cL_law 769 = .ok (.iload_n 3, 1) := by decide +kernel
theorem dL_law_770 : decode cL_law 770 = .ok (.iconst 2, 1) := by decide +kernel
theorem dL_law_771 : decode cL_law 771 = .ok (.iadd, 1) := by decide +kernel
theorem dL_law_772 : decode cL_law 772 = .ok (.iaload, 1) := by decide +kernel
theorem dL_law_773 : decode cL_law 773 = .ok (.invokevirtual 93, 3) := by decide +kernel
theorem dL_law_776 : decode cL_law 776 = .ok (.if_icmp .eq 601, 3) := by decide +kernel
theorem dL_law_779 : decode cL_law 779 = .ok (.iconst 0, 1) := by decide +kernel
theorem dL_law_780 : decode cL_law 780 = .ok (.ireturn, 1) := by decide +kernel
theorem dL_law_781 : decode cL_law 781 = .ok (.aload_n 1, 1) := by decide +kernel
theorem dL_law_782 : decode cL_law 782 = .ok (.aload_n 0, 1) := by decide +kernel
theorem dL_law_783 : decode cL_law 783 = .ok (.iload_n 3, 1) := by decide +kernel
theorem dL_law_784 : decode cL_law 784 = .ok (.iconst 1, 1) := by decide +kernel
theorem dL_law_785 : decode cL_law 785 = .ok (.iadd, 1) := by decide +kernel
theorem dL_law_786 : decode cL_law 786 = .ok (.iaload, 1) := by decide +kernel
theorem dL_law_787 : decode cL_law 787 = .ok (.invokevirtual 94, 3) := by decide +kernel
theorem dL_law_790 : decode cL_law 790 = .ok (.aload_n 2, 1) := by decide +kernel
theorem dL_law_791 : decode cL_law 791 = .ok (.aload_n 0, 1) := by decide +kernel
theorem dL_law_792 : decode cL_law 792 = .ok (.iload_n 3, 1) := by decide +kernel
theorem dL_law_793 : decode cL_law 793 = .ok (.iconst 1, 1) := by decide +kernel
theorem dL_law_794 : decode cL_law 794 = .ok (.iadd, 1) := by decide +kernel
theorem dL_law_795 : decode cL_law 795 = .ok (.iaload, 1) := by decide +kernel
theorem dL_law_796 : decode cL_law 796 = .ok (.invokevirtual 97, 3) := by decide +kernel
theorem dL_law_799 : decode cL_law 799 = .ok (.if_icmp .eq 578, 3) := by decide +kernel
theorem dL_law_802 : decode cL_law 802 = .ok (.iconst 0, 1) := by decide +kernel
theorem dL_law_803 : decode cL_law 803 = .ok (.ireturn, 1) := by decide +kernel
theorem dL_law_804 : decode cL_law 804 = .ok (.aload_n 1, 1) := by decide +kernel
theorem dL_law_805 : decode cL_law 805 = .ok (.aload_n 0, 1) := by decide +kernel
theorem dL_law_806 : decode cL_law 806 = .ok (.iload_n 3, 1) := by decide +kernel
theorem dL_law_807 : decode cL_law 807 = .ok (.iconst 1, 1) := by decide +kernel
theorem dL_law_808 : decode cL_law 808 = .ok (.iadd, 1) := by decide +kernel
theorem dL_law_809 : decode cL_law 809 = .ok (.iaload, 1) := by decide +kernel
theorem dL_law_810 : decode cL_law 810 = .ok (.aload_n 0, 1) := by decide +kernel
theorem dL_law_811 : decode cL_law 811 = .ok (.iload_n 3, 1) := by decide +kernel
theorem dL_law_812 : decode cL_law 812 = .ok (.iconst 2, 1) := by decide +kernel
theorem dL_law_813 : decode cL_law 813 = .ok (.iadd, 1) := by decide +kernel
theorem dL_law_814 : decode cL_law 814 = .ok (.iaload, 1) := by decide +kernel
theorem dL_law_815 : decode cL_law 815 = .ok (.aload_n 0, 1) := by decide +kernel
theorem dL_law_816 : decode cL_law 816 = .ok (.iload_n 3, 1) := by decide +kernel
theorem dL_law_817 : decode cL_law 817 = .ok (.iconst 3, 1) := by decide +kernel
theorem dL_law_818 : decode cL_law 818 = .ok (.iadd, 1) := by decide +kernel
theorem dL_law_819 : decode cL_law 819 = .ok (.iaload, 1) := by decide +kernel
theorem dL_law_820 : decode cL_law 820 = .ok (.aload_n 0, 1) := by decide +kernel
theorem dL_law_821 : decode cL_law 821 = .ok (.iload_n 3, 1) := by decide +kernel
theorem dL_law_822 : decode cL_law 822 = .ok (.iconst 4, 1) := by decide +kernel
theorem dL_law_823 : decode cL_law 823 = .ok (.iadd, 1) := by decide +kernel
theorem dL_law_824 : decode cL_law 824 = .ok (.iaload, 1) := by decide +kernel
theorem dL_law_825 : decode cL_law 825 = .ok (.aload_n 0, 1) := by decide +kernel
theorem dL_law_826 : decode cL_law 826 = .ok (.iload_n 3, 1) := by decide +kernel
theorem dL_law_827 : decode cL_law 827 = .ok (.iconst 5, 1) := by decide +kernel
theorem dL_law_828 : decode cL_law 828 = .ok (.iadd, 1) := by decide +kernel
theorem dL_law_829 : decode cL_law 829 = .ok (.iaload, 1) := by decide +kernel
theorem dL_law_830 : decode cL_law 830 = .ok (.invokevirtual 98, 3) := by decide +kernel
theorem dL_law_833 : decode cL_law 833 = .ok (.aload_n 2, 1) := by decide +kernel
theorem dL_law_834 : decode cL_law 834 = .ok (.aload_n 0, 1) := by decide +kernel
theorem dL_law_835 : decode cL_law 835 = .ok (.iload_n 3, 1) := by decide +kernel
theorem dL_law_836 : decode cL_law 836 = .ok (.iconst 1, 1) := by decide +kernel
theorem dL_law_837 : decode cL_law 837 = .ok (.iadd, 1) := by decide +kernel
theorem dL_law_838 : decode cL_law 838 = .ok (.iaload, 1) := by decide +kernel
theorem dL_law_839 : decode cL_law 839 = .ok (.aload_n 0, 1) := by decide +kernel
theorem dL_law_840 : decode cL_law 840 = .ok (.iload_n 3, 1) := by decide +kernel
theorem dL_law_841 : decode cL_law 841 = .ok (.iconst 2, 1) := by decide +kernel
theorem dL_law_842 : decode cL_law 842 = .ok (.iadd, 1) := by decide +kernel
theorem dL_law_843 : decode cL_law 843 = .ok (.iaload, 1) := by decide +kernel
theorem dL_law_844 : decode cL_law 844 = .ok (.aload_n 0, 1) := by decide +kernel
theorem dL_law_845 : decode cL_law 845 = .ok (.iload_n 3, 1) := by decide +kernel
theorem dL_law_846 : decode cL_law 846 = .ok (.iconst 3, 1) := by decide +kernel
theorem dL_law_847 : decode cL_law 847 = .ok (.iadd, 1) := by decide +kernel
theorem dL_law_848 : decode cL_law 848 = .ok (.iaload, 1) := by decide +kernel
theorem dL_law_849 : decode cL_law 849 = .ok (.aload_n 0, 1) := by decide +kernel
theorem dL_law_850 : decode cL_law 850 = .ok (.iload_n 3, 1) := by decide +kernel
theorem dL_law_851 : decode cL_law 851 = .ok (.iconst 4, 1) := by decide +kernel
theorem dL_law_852 : decode cL_law 852 = .ok (.iadd, 1) := by decide +kernel
theorem dL_law_853 : decode cL_law 853 = .ok (.iaload, 1) := by decide +kernel
theorem dL_law_854 : decode cL_law 854 = .ok (.aload_n 0, 1) := by decide +kernel
theorem dL_law_855 : decode cL_law 855 = .ok (.iload_n 3, 1) := by decide +kernel
theorem dL_law_856 : decode cL_law 856 = .ok (.iconst 5, 1) := by decide +kernel
theorem dL_law_857 : decode cL_law 857 = .ok (.iadd, 1) := by decide +kernel
theorem dL_law_858 : decode cL_law 858 = .ok (.iaload, 1) := by decide +kernel
theorem dL_law_859 : decode cL_law 859 = .ok (.invokevirtual 101, 3) := by decide +kernel
theorem dL_law_862 : decode cL_law 862 = .ok (.if_icmp .eq 515, 3) := by decide +kernel
theorem dL_law_865 : decode cL_law 865 = .ok (.iconst 0, 1) := by decide +kernel
theorem dL_law_866 : decode cL_law 866 = .ok (.ireturn, 1) := by decide +kernel
theorem dL_law_867 : decode cL_law 867 = .ok (.aload_n 1, 1) := by decide +kernel
theorem dL_law_868 : decode cL_law 868 = .ok (.aload_n 0, 1) := by decide +kernel
theorem dL_law_869 : decode cL_law 869 = .ok (.iload_n 3, 1) := by decide +kernel
theorem dL_law_870 : decode cL_law 870 = .ok (.iconst 1, 1) := by decide +kernel
theorem dL_law_871 : decode cL_law 871 = .ok (.iadd, 1) := by decide +kernel
theorem dL_law_872 : decode cL_law 872 = .ok (.iaload, 1) := by decide +kernel
theorem dL_law_873 : decode cL_law 873 = .ok (.aload_n 0, 1) := by decide +kernel
theorem dL_law_874 : decode cL_law 874 = .ok (.iload_n 3, 1) := by decide +kernel
theorem dL_law_875 : decode cL_law 875 = .ok (.iconst 2, 1) := by decide +kernel
theorem dL_law_876 : decode cL_law 876 = .ok (.iadd, 1) := by decide +kernel
theorem dL_law_877 : decode cL_law 877 = .ok (.iaload, 1) := by decide +kernel
theorem dL_law_878 : decode cL_law 878 = .ok (.aload_n 0, 1) := by decide +kernel
theorem dL_law_879 : decode cL_law 879 = .ok (.iload_n 3, 1) := by decide +kernel
theorem dL_law_880 : decode cL_law 880 = .ok (.iconst 3, 1) := by decide +kernel
theorem dL_law_881 : decode cL_law 881 = .ok (.iadd, 1) := by decide +kernel
theorem dL_law_882 : decode cL_law 882 = .ok (.iaload, 1) := by decide +kernel
theorem dL_law_883 : decode cL_law 883 = .ok (.invokevirtual 102, 3) := by decide +kernel
theorem dL_law_886 : decode cL_law 886 = .ok (.aload_n 2, 1) := by decide +kernel
theorem dL_law_887 : decode cL_law 887 = .ok (.aload_n 0, 1) := by decide +kernel
theorem dL_law_888 : decode cL_law 888 = .ok (.iload_n 3, 1) := by decide +kernel
theorem dL_law_889 : decode cL_law 889 = .ok (.iconst 1, 1) := by decide +kernel
theorem dL_law_890 : decode cL_law 890 = .ok (.iadd, 1) := by decide +kernel
theorem dL_law_891 : decode cL_law 891 = .ok (.iaload, 1) := by decide +kernel
theorem dL_law_892 : decode cL_law 892 = .ok (.aload_n 0, 1) := by decide +kernel
theorem dL_law_893 : decode cL_law 893 = .ok (.iload_n 3, 1) := by decide +kernel
theorem dL_law_894 : decode cL_law 894 = .ok (.iconst 2, 1) := by decide +kernel
theorem dL_law_895 : decode cL_law 895 = .ok (.iadd, 1) := by decide +kernel
theorem dL_law_896 : decode cL_law 896 = .ok (.iaload, 1) := by decide +kernel
theorem dL_law_897 : decode cL_law 897 = .ok (.aload_n 0, 1) := by decide +kernel
theorem dL_law_898 : decode cL_law 898 = .ok (.iload_n 3, 1) := by decide +kernel
theorem dL_law_899 : decode cL_law 899 = .ok (.iconst 3, 1) := by decide +kernel
theorem dL_law_900 : decode cL_law 900 = .ok (.iadd, 1) := by decide +kernel
theorem dL_law_901 : decode cL_law 901 = .ok (.iaload, 1) := by decide +kernel
theorem dL_law_902 : decode cL_law 902 = .ok (.invokevirtual 105, 3) := by decide +kernel
theorem dL_law_905 : decode cL_law 905 = .ok (.if_icmp .eq 472, 3) := by decide +kernel
theorem dL_law_908 : decode cL_law 908 = .ok (.iconst 0, 1) := by decide +kernel
theorem dL_law_909 : decode cL_law 909 = .ok (.ireturn, 1) := by decide +kernel
theorem dL_law_910 : decode cL_law 910 = .ok (.aload_n 1, 1) := by decide +kernel
theorem dL_law_911 : decode cL_law 911 = .ok (.invokevirtual 106, 3) := by decide +kernel
theorem dL_law_914 : decode cL_law 914 = .ok (.aload_n 2, 1) := by decide +kernel
theorem dL_law_915 : decode cL_law 915 = .ok (.invokevirtual 109, 3) := by decide +kernel
theorem dL_law_918 : decode cL_law 918 = .ok (.if_icmp .eq 459, 3) := by decide +kernel
theorem dL_law_921 : decode cL_law 921 = .ok (.iconst 0, 1) := by decide +kernel
theorem dL_law_922 : decode cL_law 922 = .ok (.ireturn, 1) := by decide +kernel
theorem dL_law_923 : decode cL_law 923 = .ok (.aload_n 1, 1) := by decide +kernel
theorem dL_law_924 : decode cL_law 924 = .ok (.aload_n 0, 1) := by decide +kernel
theorem dL_law_925 : decode cL_law 925 = .ok (.iload_n 3, 1) := by decide +kernel
theorem dL_law_926 : decode cL_law 926 = .ok (.iconst 1, 1) := by decide +kernel
theorem dL_law_927 : decode cL_law 927 = .ok (.iadd, 1) := by decide +kernel
theorem dL_law_928 : decode cL_law 928 = .ok (.iaload, 1) := by decide +kernel
theorem dL_law_929 : decode cL_law 929 = .ok (.aload_n 0, 1) := by decide +kernel
theorem dL_law_930 : decode cL_law 930 = .ok (.iload_n 3, 1) := by decide +kernel
theorem dL_law_931 : decode cL_law 931 = .ok (.iconst 2, 1) := by decide +kernel
theorem dL_law_932 : decode cL_law 932 = .ok (.iadd, 1) := by decide +kernel
theorem dL_law_933 : decode cL_law 933 = .ok (.iaload, 1) := by decide +kernel
theorem dL_law_934 : decode cL_law 934 = .ok (.invokevirtual 110, 3) := by decide +kernel
theorem dL_law_937 : decode cL_law 937 = .ok (.aload_n 2, 1) := by decide +kernel
theorem dL_law_938 : decode cL_law 938 = .ok (.aload_n 0, 1) := by decide +kernel
theorem dL_law_939 : decode cL_law 939 = .ok (.iload_n 3, 1) := by decide +kernel
theorem dL_law_940 : decode cL_law 940 = .ok (.iconst 1, 1) := by decide +kernel
theorem dL_law_941 : decode cL_law 941 = .ok (.iadd, 1) := by decide +kernel
theorem dL_law_942 : decode cL_law 942 = .ok (.iaload, 1) := by decide +kernel
theorem dL_law_943 : decode cL_law 943 = .ok (.aload_n 0, 1) := by decide +kernel
theorem dL_law_944 : decode cL_law 944 = .ok (.iload_n 3, 1) := by decide +kernel
theorem dL_law_945 : decode cL_law 945 = .ok (.iconst 2, 1) := by decide +kernel
theorem dL_law_946 : decode cL_law 946 = .ok (.iadd, 1) := by decide +kernel
theorem dL_law_947 : decode cL_law 947 = .ok (.iaload, 1) := by decide +kernel
theorem dL_law_948 : decode cL_law 948 = .ok (.invokevirtual 113, 3) := by decide +kernel
theorem dL_law_951 : decode cL_law 951 = .ok (.if_icmp .eq 426, 3) := by decide +kernel
theorem dL_law_954 : decode cL_law 954 = .ok (.iconst 0, 1) := by decide +kernel
theorem dL_law_955 : decode cL_law 955 = .ok (.ireturn, 1) := by decide +kernel
theorem dL_law_956 : decode cL_law 956 = .ok (.aload_n 1, 1) := by decide +kernel
theorem dL_law_957 : decode cL_law 957 = .ok (.invokevirtual 114, 3) := by decide +kernel
theorem dL_law_960 : decode cL_law 960 = .ok (.aload_n 2, 1) := by decide +kernel
theorem dL_law_961 : decode cL_law 961 = .ok (.invokevirtual 117, 3) := by decide +kernel
theorem dL_law_964 : decode cL_law 964 = .ok (.if_icmp .eq 413, 3) := by decide +kernel
theorem dL_law_967 : decode cL_law 967 = .ok (.iconst 0, 1) := by decide +kernel
theorem dL_law_968 : decode cL_law 968 = .ok (.ireturn, 1) := by decide +kernel
theorem dL_law_969 : decode cL_law 969 = .ok (.aload_n 1, 1) := by decide +kernel
theorem dL_law_970 : decode cL_law 970 = .ok (.aload_n 0, 1) := by decide +kernel
theorem dL_law_971 : decode cL_law 971 = .ok (.iload_n 3, 1) := by decide +kernel
theorem dL_law_972 : decode cL_law 972 = .ok (.iconst 1, 1) := by decide +kernel
theorem dL_law_973 : decode cL_law 973 = .ok (.iadd, 1) := by decide +kernel
theorem dL_law_974 : decode cL_law 974 = .ok (.iaload, 1) := by decide +kernel
theorem dL_law_975 : decode cL_law 975 = .ok (.aload_n 0, 1) := by decide +kernel
theorem dL_law_976 : decode cL_law 976 = .ok (.iload_n 3, 1) := by decide +kernel
theorem dL_law_977 : decode cL_law 977 = .ok (.iconst 2, 1) := by decide +kernel
theorem dL_law_978 : decode cL_law 978 = .ok (.iadd, 1) := by decide +kernel
theorem dL_law_979 : decode cL_law 979 = .ok (.iaload, 1) := by decide +kernel
theorem dL_law_980 : decode cL_law 980 = .ok (.aload_n 0, 1) := by decide +kernel
theorem dL_law_981 : decode cL_law 981 = .ok (.iload_n 3, 1) := by decide +kernel
theorem dL_law_982 : decode cL_law 982 = .ok (.iconst 3, 1) := by decide +kernel
theorem dL_law_983 : decode cL_law 983 = .ok (.iadd, 1) := by decide +kernel
theorem dL_law_984 : decode cL_law 984 = .ok (.iaload, 1) := by decide +kernel
theorem dL_law_985 : decode cL_law 985 = .ok (.invokevirtual 118, 3) := by decide +kernel
theorem dL_law_988 : decode cL_law 988 = .ok (.aload_n 2, 1) := by decide +kernel
theorem dL_law_989 : decode cL_law 989 = .ok (.aload_n 0, 1) := by decide +kernel
theorem dL_law_990 : decode cL_law 990 = .ok (.iload_n 3, 1) := by decide +kernel
theorem dL_law_991 : decode cL_law 991 = .ok (.iconst 1, 1) := by decide +kernel
theorem dL_law_992 : decode cL_law 992 = .ok (.iadd, 1) := by decide +kernel
theorem dL_law_993 : decode cL_law 993 = .ok (.iaload, 1) := by decide +kernel
theorem dL_law_994 : decode cL_law 994 = .ok (.aload_n 0, 1) := by decide +kernel
theorem dL_law_995 : decode cL_law 995 = .ok (.iload_n 3, 1) := by decide +kernel
theorem dL_law_996 : decode cL_law 996 = .ok (.iconst 2, 1) := by decide +kernel
theorem dL_law_997 : decode cL_law 997 = .ok (.iadd, 1) := by decide +kernel
theorem dL_law_998 : decode cL_law 998 = .ok (.iaload, 1) := by decide +kernel
theorem dL_law_999 : decode cL_law 999 = .ok (.aload_n 0, 1) := by decide +kernel
theorem dL_law_1000 : decode cL_law 1000 = .ok (.iload_n 3, 1) := by decide +kernel
theorem dL_law_1001 : decode cL_law 1001 = .ok (.iconst 3, 1) := by decide +kernel
theorem dL_law_1002 : decode cL_law 1002 = .ok (.iadd, 1) := by decide +kernel
theorem dL_law_1003 : decode cL_law 1003 = .ok (.iaload, 1) := by decide +kernel
theorem dL_law_1004 : decode cL_law 1004 = .ok (.invokevirtual 121, 3) := by decide +kernel
theorem dL_law_1007 : decode cL_law 1007 = .ok (.if_icmp .eq 370, 3) := by decide +kernel
theorem dL_law_1010 : decode cL_law 1010 = .ok (.iconst 0, 1) := by decide +kernel
theorem dL_law_1011 : decode cL_law 1011 = .ok (.ireturn, 1) := by decide +kernel
theorem dL_law_1012 : decode cL_law 1012 = .ok (.aload_n 1, 1) := by decide +kernel
theorem dL_law_1013 : decode cL_law 1013 = .ok (.aload_n 0, 1) := by decide +kernel
theorem dL_law_1014 : decode cL_law 1014 = .ok (.iload_n 3, 1) := by decide +kernel
theorem dL_law_1015 : decode cL_law 1015 = .ok (.iconst 1, 1) := by decide +kernel
theorem dL_law_1016 : decode cL_law 1016 = .ok (.iadd, 1) := by decide +kernel
theorem dL_law_1017 : decode cL_law 1017 = .ok (.iaload, 1) := by decide +kernel
theorem dL_law_1018 : decode cL_law 1018 = .ok (.invokevirtual 122, 3) := by decide +kernel
theorem dL_law_1021 : decode cL_law 1021 = .ok (.aload_n 2, 1) := by decide +kernel
theorem dL_law_1022 : decode cL_law 1022 = .ok (.aload_n 0, 1) := by decide +kernel
theorem dL_law_1023 : decode cL_law 1023 = .ok (.iload_n 3, 1) := by decide +kernel
theorem dL_law_1024 : decode cL_law 1024 = .ok (.iconst 1, 1) := by decide +kernel
theorem dL_law_1025 : decode cL_law 1025 = .ok (.iadd, 1) := by decide +kernel
theorem dL_law_1026 : decode cL_law 1026 = .ok (.iaload, 1) := by decide +kernel
theorem dL_law_1027 : decode cL_law 1027 = .ok (.invokevirtual 125, 3) := by decide +kernel
theorem dL_law_1030 : decode cL_law 1030 = .ok (.if_icmp .eq 347, 3) := by decide +kernel
theorem dL_law_1033 : decode cL_law 1033 = .ok (.iconst 0, 1) := by decide +kernel
theorem dL_law_1034 : decode cL_law 1034 = .ok (.ireturn, 1) := by decide +kernel
theorem dL_law_1035 : decode cL_law 1035 = .ok (.aload_n 1, 1) := by decide +kernel
theorem dL_law_1036 : decode cL_law 1036 = .ok (.aload_n 0, 1) := by decide +kernel
theorem dL_law_1037 : decode cL_law 1037 = .ok (.iload_n 3, 1) := by decide +kernel
theorem dL_law_1038 : decode cL_law 1038 = .ok (.iconst 1, 1) := by decide +kernel
theorem dL_law_1039 : decode cL_law 1039 = .ok (.iadd, 1) := by decide +kernel
theorem dL_law_1040 : decode cL_law 1040 = .ok (.iaload, 1) := by decide +kernel
theorem dL_law_1041 : decode cL_law 1041 = .ok (.aload_n 0, 1) := by decide +kernel
theorem dL_law_1042 : decode cL_law 1042 = .ok (.iload_n 3, 1) := by decide +kernel
theorem dL_law_1043 : decode cL_law 1043 = .ok (.iconst 2, 1) := by decide +kernel
theorem dL_law_1044 : decode cL_law 1044 = .ok (.iadd, 1) := by decide +kernel
theorem dL_law_1045 : decode cL_law 1045 = .ok (.iaload, 1) := by decide +kernel
theorem dL_law_1046 : decode cL_law 1046 = .ok (.ifCond .eq 7, 3) := by decide +kernel
theorem dL_law_1049 : decode cL_law 1049 = .ok (.iconst 1, 1) := by decide +kernel
theorem dL_law_1050 : decode cL_law 1050 = .ok (.goto 4, 3) := by decide +kernel
theorem dL_law_1053 : decode cL_law 1053 = .ok (.iconst 0, 1) := by decide +kernel
theorem dL_law_1054 : decode cL_law 1054 = .ok (.invokevirtual 126, 3) := by decide +kernel
theorem dL_law_1057 : decode cL_law 1057 = .ok (.aload_n 2, 1) := by decide +kernel
theorem dL_law_1058 : decode cL_law 1058 = .ok (.aload_n 0, 1) := by decide +kernel
theorem dL_law_1059 : decode cL_law 1059 = .ok (.iload_n 3, 1) := by decide +kernel
theorem dL_law_1060 : decode cL_law 1060 = .ok (.iconst 1, 1) := by decide +kernel
theorem dL_law_1061 : decode cL_law 1061 = .ok (.iadd, 1) := by decide +kernel
theorem dL_law_1062 : decode cL_law 1062 = .ok (.iaload, 1) := by decide +kernel
theorem dL_law_1063 : decode cL_law 1063 = .ok (.aload_n 0, 1) := by decide +kernel
theorem dL_law_1064 : decode cL_law 1064 = .ok (.iload_n 3, 1) := by decide +kernel
theorem dL_law_1065 : decode cL_law 1065 = .ok (.iconst 2, 1) := by decide +kernel
theorem dL_law_1066 : decode cL_law 1066 = .ok (.iadd, 1) := by decide +kernel
theorem dL_law_1067 : decode cL_law 1067 = .ok (.iaload, 1) := by decide +kernel
theorem dL_law_1068 : decode cL_law 1068 = .ok (.ifCond .eq 7, 3) := by decide +kernel
theorem dL_law_1071 : decode cL_law 1071 = .ok (.iconst 1, 1) := by decide +kernel
theorem dL_law_1072 : decode cL_law 1072 = .ok (.goto 4, 3) := by decide +kernel
theorem dL_law_1075 : decode cL_law 1075 = .ok (.iconst 0, 1) := by decide +kernel
theorem dL_law_1076 : decode cL_law 1076 = .ok (.invokevirtual 130, 3) := by decide +kernel
theorem dL_law_1079 : decode cL_law 1079 = .ok (.if_icmp .eq 298, 3) := by decide +kernel
theorem dL_law_1082 : decode cL_law 1082 = .ok (.iconst 0, 1) := by decide +kernel
theorem dL_law_1083 : decode cL_law 1083 = .ok (.ireturn, 1) := by decide +kernel
theorem dL_law_1084 : decode cL_law 1084 = .ok (.aload_n 1, 1) := by decide +kernel
theorem dL_law_1085 : decode cL_law 1085 = .ok (.aload_n 0, 1) := by decide +kernel
theorem dL_law_1086 : decode cL_law 1086 = .ok (.iload_n 3, 1) := by decide +kernel
theorem dL_law_1087 : decode cL_law 1087 = .ok (.iconst 1, 1) := by decide +kernel
theorem dL_law_1088 : decode cL_law 1088 = .ok (.iadd, 1) := by decide +kernel
theorem dL_law_1089 : decode cL_law 1089 = .ok (.iaload, 1) := by decide +kernel
theorem dL_law_1090 : decode cL_law 1090 = .ok (.aload_n 0, 1) := by decide +kernel
theorem dL_law_1091 : decode cL_law 1091 = .ok (.iload_n 3, 1) := by decide +kernel
theorem dL_law_1092 : decode cL_law 1092 = .ok (.iconst 2, 1) := by decide +kernel
theorem dL_law_1093 : decode cL_law 1093 = .ok (.iadd, 1) := by decide +kernel
theorem dL_law_1094 : decode cL_law 1094 = .ok (.iaload, 1) := by decide +kernel
theorem dL_law_1095 : decode cL_law 1095 = .ok (.aload_n 0, 1) := by decide +kernel
theorem dL_law_1096 : decode cL_law 1096 = .ok (.iload_n 3, 1) := by decide +kernel
theorem dL_law_1097 : decode cL_law 1097 = .ok (.iconst 3, 1) := by decide +kernel
theorem dL_law_1098 : decode cL_law 1098 = .ok (.iadd, 1) := by decide +kernel
theorem dL_law_1099 : decode cL_law 1099 = .ok (.iaload, 1) := by decide +kernel
theorem dL_law_1100 : decode cL_law 1100 = .ok (.invokevirtual 131, 3) := by decide +kernel
theorem dL_law_1103 : decode cL_law 1103 = .ok (.aload_n 2, 1) := by decide +kernel
theorem dL_law_1104 : decode cL_law 1104 = .ok (.aload_n 0, 1) := by decide +kernel
theorem dL_law_1105 : decode cL_law 1105 = .ok (.iload_n 3, 1) := by decide +kernel
theorem dL_law_1106 : decode cL_law 1106 = .ok (.iconst 1, 1) := by decide +kernel
theorem dL_law_1107 : decode cL_law 1107 = .ok (.iadd, 1) := by decide +kernel
theorem dL_law_1108 : decode cL_law 1108 = .ok (.iaload, 1) := by decide +kernel
theorem dL_law_1109 : decode cL_law 1109 = .ok (.aload_n 0, 1) := by decide +kernel
theorem dL_law_1110 : decode cL_law 1110 = .ok (.iload_n 3, 1) := by decide +kernel
theorem dL_law_1111 : decode cL_law 1111 = .ok (.iconst 2, 1) := by decide +kernel
theorem dL_law_1112 : decode cL_law 1112 = .ok (.iadd, 1) := by decide +kernel
theorem dL_law_1113 : decode cL_law 1113 = .ok (.iaload, 1) := by decide +kernel
theorem dL_law_1114 : decode cL_law 1114 = .ok (.aload_n 0, 1) := by decide +kernel
theorem dL_law_1115 : decode cL_law 1115 = .ok (.iload_n 3, 1) := by decide +kernel
theorem dL_law_1116 : decode cL_law 1116 = .ok (.iconst 3, 1) := by decide +kernel
theorem dL_law_1117 : decode cL_law 1117 = .ok (.iadd, 1) := by decide +kernel
theorem dL_law_1118 : decode cL_law 1118 = .ok (.iaload, 1) := by decide +kernel
theorem dL_law_1119 : decode cL_law 1119 = .ok (.invokevirtual 134, 3) := by decide +kernel
theorem dL_law_1122 : decode cL_law 1122 = .ok (.if_icmp .eq 255, 3) := by decide +kernel
theorem dL_law_1125 : decode cL_law 1125 = .ok (.iconst 0, 1) := by decide +kernel
theorem dL_law_1126 : decode cL_law 1126 = .ok (.ireturn, 1) := by decide +kernel
theorem dL_law_1127 : decode cL_law 1127 = .ok (.aload_n 1, 1) := by decide +kernel
theorem dL_law_1128 : decode cL_law 1128 = .ok (.invokevirtual 135, 3) := by decide +kernel
theorem dL_law_1131 : decode cL_law 1131 = .ok (.aload_n 2, 1) := by decide +kernel
theorem dL_law_1132 : decode cL_law 1132 = .ok (.invokevirtual 138, 3) := by decide +kernel
theorem dL_law_1135 : decode cL_law 1135 = .ok (.if_icmp .eq 242, 3) := by decide +kernel
theorem dL_law_1138 : decode cL_law 1138 = .ok (.iconst 0, 1) := by decide +kernel
theorem dL_law_1139 : decode cL_law 1139 = .ok (.ireturn, 1) := by decide +kernel
theorem dL_law_1140 : decode cL_law 1140 = .ok (.aload_n 1, 1) := by decide +kernel
theorem dL_law_1141 : decode cL_law 1141 = .ok (.aload_n 0, 1) := by decide +kernel
theorem dL_law_1142 : decode cL_law 1142 = .ok (.iload_n 3, 1) := by decide +kernel
theorem dL_law_1143 : decode cL_law 1143 = .ok (.iconst 1, 1) := by decide +kernel
theorem dL_law_1144 : decode cL_law 1144 = .ok (.iadd, 1) := by decide +kernel
theorem dL_law_1145 : decode cL_law 1145 = .ok (.iaload, 1) := by decide +kernel
theorem dL_law_1146 : decode cL_law 1146 = .ok (.aload_n 0, 1) := by decide +kernel
theorem dL_law_1147 : decode cL_law 1147 = .ok (.iload_n 3, 1) := by decide +kernel
theorem dL_law_1148 : decode cL_law 1148 = .ok (.iconst 2, 1) := by decide +kernel
theorem dL_law_1149 : decode cL_law 1149 = .ok (.iadd, 1) := by decide +kernel
theorem dL_law_1150 : decode cL_law 1150 = .ok (.iaload, 1) := by decide +kernel
theorem dL_law_1151 : decode cL_law 1151 = .ok (.invokevirtual 139, 3) := by decide +kernel
theorem dL_law_1154 : decode cL_law 1154 = .ok (.aload_n 2, 1) := by decide +kernel
theorem dL_law_1155 : decode cL_law 1155 = .ok (.aload_n 0, 1) := by decide +kernel
theorem dL_law_1156 : decode cL_law 1156 = .ok (.iload_n 3, 1) := by decide +kernel
theorem dL_law_1157 : decode cL_law 1157 = .ok (.iconst 1, 1) := by decide +kernel
theorem dL_law_1158 : decode cL_law 1158 = .ok (.iadd, 1) := by decide +kernel
theorem dL_law_1159 : decode cL_law 1159 = .ok (.iaload, 1) := by decide +kernel
theorem dL_law_1160 : decode cL_law 1160 = .ok (.aload_n 0, 1) := by decide +kernel
theorem dL_law_1161 : decode cL_law 1161 = .ok (.iload_n 3, 1) := by decide +kernel
theorem dL_law_1162 : decode cL_law 1162 = .ok (.iconst 2, 1) := by decide +kernel
theorem dL_law_1163 : decode cL_law 1163 = .ok (.iadd, 1) := by decide +kernel
theorem dL_law_1164 : decode cL_law 1164 = .ok (.iaload, 1) := by decide +kernel
theorem dL_law_1165 : decode cL_law 1165 = .ok (.invokevirtual 142, 3) := by decide +kernel
theorem dL_law_1168 : decode cL_law 1168 = .ok (.if_icmp .eq 209, 3) := by decide +kernel
theorem dL_law_1171 : decode cL_law 1171 = .ok (.iconst 0, 1) := by decide +kernel
theorem dL_law_1172 : decode cL_law 1172 = .ok (.ireturn, 1) := by decide +kernel
theorem dL_law_1173 : decode cL_law 1173 = .ok (.aload_n 1, 1) := by decide +kernel
theorem dL_law_1174 : decode cL_law 1174 = .ok (.aload_n 0, 1) := by decide +kernel
theorem dL_law_1175 : decode cL_law 1175 = .ok (.iload_n 3, 1) := by decide +kernel
theorem dL_law_1176 : decode cL_law 1176 = .ok (.iconst 1, 1) := by decide +kernel
theorem dL_law_1177 : decode cL_law 1177 = .ok (.iadd, 1) := by decide +kernel
theorem dL_law_1178 : decode cL_law 1178 = .ok (.iaload, 1) := by decide +kernel
theorem dL_law_1179 : decode cL_law 1179 = .ok (.invokevirtual 143, 3) := by decide +kernel
theorem dL_law_1182 : decode cL_law 1182 = .ok (.aload_n 2, 1) := by decide +kernel
theorem dL_law_1183 : decode cL_law 1183 = .ok (.aload_n 0, 1) := by decide +kernel
theorem dL_law_1184 : decode cL_law 1184 = .ok (.iload_n 3, 1) := by decide +kernel
theorem dL_law_1185 : decode cL_law 1185 = .ok (.iconst 1, 1) := by decide +kernel
theorem dL_law_1186 : decode cL_law 1186 = .ok (.iadd, 1) := by decide +kernel
theorem dL_law_1187 : decode cL_law 1187 = .ok (.iaload, 1) := by decide +kernel
theorem dL_law_1188 : decode cL_law 1188 = .ok (.invokevirtual 146, 3) := by decide +kernel
theorem dL_law_1191 : decode cL_law 1191 = .ok (.if_icmp .eq 186, 3) := by decide +kernel
theorem dL_law_1194 : decode cL_law 1194 = .ok (.iconst 0, 1) := by decide +kernel
theorem dL_law_1195 : decode cL_law 1195 = .ok (.ireturn, 1) := by decide +kernel
theorem dL_law_1196 : decode cL_law 1196 = .ok (.aload_n 1, 1) := by decide +kernel
theorem dL_law_1197 : decode cL_law 1197 = .ok (.aload_n 0, 1) := by decide +kernel
theorem dL_law_1198 : decode cL_law 1198 = .ok (.iload_n 3, 1) := by decide +kernel
theorem dL_law_1199 : decode cL_law 1199 = .ok (.iconst 1, 1) := by decide +kernel
theorem dL_law_1200 : decode cL_law 1200 = .ok (.iadd, 1) := by decide +kernel
theorem dL_law_1201 : decode cL_law 1201 = .ok (.iaload, 1) := by decide +kernel
theorem dL_law_1202 : decode cL_law 1202 = .ok (.aload_n 0, 1) := by decide +kernel
theorem dL_law_1203 : decode cL_law 1203 = .ok (.iload_n 3, 1) := by decide +kernel
theorem dL_law_1204 : decode cL_law 1204 = .ok (.iconst 2, 1) := by decide +kernel
theorem dL_law_1205 : decode cL_law 1205 = .ok (.iadd, 1) := by decide +kernel
theorem dL_law_1206 : decode cL_law 1206 = .ok (.iaload, 1) := by decide +kernel
theorem dL_law_1207 : decode cL_law 1207 = .ok (.aload_n 0, 1) := by decide +kernel
theorem dL_law_1208 : decode cL_law 1208 = .ok (.iload_n 3, 1) := by decide +kernel
theorem dL_law_1209 : decode cL_law 1209 = .ok (.iconst 3, 1) := by decide +kernel
theorem dL_law_1210 : decode cL_law 1210 = .ok (.iadd, 1) := by decide +kernel
theorem dL_law_1211 : decode cL_law 1211 = .ok (.iaload, 1) := by decide +kernel
theorem dL_law_1212 : decode cL_law 1212 = .ok (.invokevirtual 147, 3) := by decide +kernel
theorem dL_law_1215 : decode cL_law 1215 = .ok (.aload_n 2, 1) := by decide +kernel
theorem dL_law_1216 : decode cL_law 1216 = .ok (.aload_n 0, 1) := by decide +kernel
theorem dL_law_1217 : decode cL_law 1217 = .ok (.iload_n 3, 1) := by decide +kernel
theorem dL_law_1218 : decode cL_law 1218 = .ok (.iconst 1, 1) := by decide +kernel
theorem dL_law_1219 : decode cL_law 1219 = .ok (.iadd, 1) := by decide +kernel
theorem dL_law_1220 : decode cL_law 1220 = .ok (.iaload, 1) := by decide +kernel
theorem dL_law_1221 : decode cL_law 1221 = .ok (.aload_n 0, 1) := by decide +kernel
theorem dL_law_1222 : decode cL_law 1222 = .ok (.iload_n 3, 1) := by decide +kernel
theorem dL_law_1223 : decode cL_law 1223 = .ok (.iconst 2, 1) := by decide +kernel
theorem dL_law_1224 : decode cL_law 1224 = .ok (.iadd, 1) := by decide +kernel
theorem dL_law_1225 : decode cL_law 1225 = .ok (.iaload, 1) := by decide +kernel
theorem dL_law_1226 : decode cL_law 1226 = .ok (.aload_n 0, 1) := by decide +kernel
theorem dL_law_1227 : decode cL_law 1227 = .ok (.iload_n 3, 1) := by decide +kernel
theorem dL_law_1228 : decode cL_law 1228 = .ok (.iconst 3, 1) := by decide +kernel
theorem dL_law_1229 : decode cL_law 1229 = .ok (.iadd, 1) := by decide +kernel
theorem dL_law_1230 : decode cL_law 1230 = .ok (.iaload, 1) := by decide +kernel
theorem dL_law_1231 : decode cL_law 1231 = .ok (.invokevirtual 150, 3) := by decide +kernel
theorem dL_law_1234 : decode cL_law 1234 = .ok (.if_icmp .eq 143, 3) := by decide +kernel
theorem dL_law_1237 : decode cL_law 1237 = .ok (.iconst 0, 1) := by decide +kernel
theorem dL_law_1238 : decode cL_law 1238 = .ok (.ireturn, 1) := by decide +kernel
theorem dL_law_1239 : decode cL_law 1239 = .ok (.aload_n 1, 1) := by decide +kernel
theorem dL_law_1240 : decode cL_law 1240 = .ok (.aload_n 0, 1) := by decide +kernel
theorem dL_law_1241 : decode cL_law 1241 = .ok (.iload_n 3, 1) := by decide +kernel
theorem dL_law_1242 : decode cL_law 1242 = .ok (.iconst 1, 1) := by decide +kernel
theorem dL_law_1243 : decode cL_law 1243 = .ok (.iadd, 1) := by decide +kernel
theorem dL_law_1244 : decode cL_law 1244 = .ok (.iaload, 1) := by decide +kernel
theorem dL_law_1245 : decode cL_law 1245 = .ok (.aload_n 0, 1) := by decide +kernel
theorem dL_law_1246 : decode cL_law 1246 = .ok (.iload_n 3, 1) := by decide +kernel
theorem dL_law_1247 : decode cL_law 1247 = .ok (.iconst 2, 1) := by decide +kernel
theorem dL_law_1248 : decode cL_law 1248 = .ok (.iadd, 1) := by decide +kernel
theorem dL_law_1249 : decode cL_law 1249 = .ok (.iaload, 1) := by decide +kernel
theorem dL_law_1250 : decode cL_law 1250 = .ok (.aload_n 0, 1) := by decide +kernel
theorem dL_law_1251 : decode cL_law 1251 = .ok (.iload_n 3, 1) := by decide +kernel
theorem dL_law_1252 : decode cL_law 1252 = .ok (.iconst 3, 1) := by decide +kernel
theorem dL_law_1253 : decode cL_law 1253 = .ok (.iadd, 1) := by decide +kernel
theorem dL_law_1254 : decode cL_law 1254 = .ok (.iaload, 1) := by decide +kernel
theorem dL_law_1255 : decode cL_law 1255 = .ok (.invokevirtual 151, 3) := by decide +kernel
theorem dL_law_1258 : decode cL_law 1258 = .ok (.aload_n 2, 1) := by decide +kernel
theorem dL_law_1259 : decode cL_law 1259 = .ok (.aload_n 0, 1) := by decide +kernel
theorem dL_law_1260 : decode cL_law 1260 = .ok (.iload_n 3, 1) := by decide +kernel
theorem dL_law_1261 : decode cL_law 1261 = .ok (.iconst 1, 1) := by decide +kernel
theorem dL_law_1262 : decode cL_law 1262 = .ok (.iadd, 1) := by decide +kernel
theorem dL_law_1263 : decode cL_law 1263 = .ok (.iaload, 1) := by decide +kernel
theorem dL_law_1264 : decode cL_law 1264 = .ok (.aload_n 0, 1) := by decide +kernel
theorem dL_law_1265 : decode cL_law 1265 = .ok (.iload_n 3, 1) := by decide +kernel
theorem dL_law_1266 : decode cL_law 1266 = .ok (.iconst 2, 1) := by decide +kernel
theorem dL_law_1267 : decode cL_law 1267 = .ok (.iadd, 1) := by decide +kernel
theorem dL_law_1268 : decode cL_law 1268 = .ok (.iaload, 1) := by decide +kernel
theorem dL_law_1269 : decode cL_law 1269 = .ok (.aload_n 0, 1) := by decide +kernel
theorem dL_law_1270 : decode cL_law 1270 = .ok (.iload_n 3, 1) := by decide +kernel
theorem dL_law_1271 : decode cL_law 1271 = .ok (.iconst 3, 1) := by decide +kernel
theorem dL_law_1272 : decode cL_law 1272 = .ok (.iadd, 1) := by decide +kernel
theorem dL_law_1273 : decode cL_law 1273 = .ok (.iaload, 1) := by decide +kernel
theorem dL_law_1274 : decode cL_law 1274 = .ok (.invokevirtual 154, 3) := by decide +kernel
theorem dL_law_1277 : decode cL_law 1277 = .ok (.if_icmp .eq 100, 3) := by decide +kernel
theorem dL_law_1280 : decode cL_law 1280 = .ok (.iconst 0, 1) := by decide +kernel
theorem dL_law_1281 : decode cL_law 1281 = .ok (.ireturn, 1) := by decide +kernel
theorem dL_law_1282 : decode cL_law 1282 = .ok (.aload_n 1, 1) := by decide +kernel
theorem dL_law_1283 : decode cL_law 1283 = .ok (.aload_n 0, 1) := by decide +kernel
theorem dL_law_1284 : decode cL_law 1284 = .ok (.iload_n 3, 1) := by decide +kernel
theorem dL_law_1285 : decode cL_law 1285 = .ok (.iconst 1, 1) := by decide +kernel
theorem dL_law_1286 : decode cL_law 1286 = .ok (.iadd, 1) := by decide +kernel
theorem dL_law_1287 : decode cL_law 1287 = .ok (.iaload, 1) := by decide +kernel
theorem dL_law_1288 : decode cL_law 1288 = .ok (.aload_n 0, 1) := by decide +kernel
theorem dL_law_1289 : decode cL_law 1289 = .ok (.iload_n 3, 1) := by decide +kernel
theorem dL_law_1290 : decode cL_law 1290 = .ok (.iconst 2, 1) := by decide +kernel
theorem dL_law_1291 : decode cL_law 1291 = .ok (.iadd, 1) := by decide +kernel
theorem dL_law_1292 : decode cL_law 1292 = .ok (.iaload, 1) := by decide +kernel
theorem dL_law_1293 : decode cL_law 1293 = .ok (.invokevirtual 155, 3) := by decide +kernel
theorem dL_law_1296 : decode cL_law 1296 = .ok (.aload_n 2, 1) := by decide +kernel
theorem dL_law_1297 : decode cL_law 1297 = .ok (.aload_n 0, 1) := by decide +kernel
theorem dL_law_1298 : decode cL_law 1298 = .ok (.iload_n 3, 1) := by decide +kernel
theorem dL_law_1299 : decode cL_law 1299 = .ok (.iconst 1, 1) := by decide +kernel
theorem dL_law_1300 : decode cL_law 1300 = .ok (.iadd, 1) := by decide +kernel
theorem dL_law_1301 : decode cL_law 1301 = .ok (.iaload, 1) := by decide +kernel
theorem dL_law_1302 : decode cL_law 1302 = .ok (.aload_n 0, 1) := by decide +kernel
theorem dL_law_1303 : decode cL_law 1303 = .ok (.iload_n 3, 1) := by decide +kernel
theorem dL_law_1304 : decode cL_law 1304 = .ok (.iconst 2, 1) := by decide +kernel
theorem dL_law_1305 : decode cL_law 1305 = .ok (.iadd, 1) := by decide +kernel
theorem dL_law_1306 : decode cL_law 1306 = .ok (.iaload, 1) := by decide +kernel
theorem dL_law_1307 : decode cL_law 1307 = .ok (.invokevirtual 158, 3) := by decide +kernel
theorem dL_law_1310 : decode cL_law 1310 = .ok (.if_icmp .eq 67, 3) := by decide +kernel
theorem dL_law_1313 : decode cL_law 1313 = .ok (.iconst 0, 1) := by decide +kernel
theorem dL_law_1314 : decode cL_law 1314 = .ok (.ireturn, 1) := by decide +kernel
theorem dL_law_1315 : decode cL_law 1315 = .ok (.aload_n 1, 1) := by decide +kernel
theorem dL_law_1316 : decode cL_law 1316 = .ok (.invokevirtual 159, 3) := by decide +kernel
theorem dL_law_1319 : decode cL_law 1319 = .ok (.aload_n 2, 1) := by decide +kernel
theorem dL_law_1320 : decode cL_law 1320 = .ok (.invokevirtual 162, 3) := by decide +kernel
theorem dL_law_1323 : decode cL_law 1323 = .ok (.if_icmp .eq 54, 3) := by decide +kernel
theorem dL_law_1326 : decode cL_law 1326 = .ok (.iconst 0, 1) := by decide +kernel
theorem dL_law_1327 : decode cL_law 1327 = .ok (.ireturn, 1) := by decide +kernel
theorem dL_law_1328 : decode cL_law 1328 = .ok (.aload_n 1, 1) := by decide +kernel
theorem dL_law_1329 : decode cL_law 1329 = .ok (.aload_n 0, 1) := by decide +kernel
theorem dL_law_1330 : decode cL_law 1330 = .ok (.iload_n 3, 1) := by decide +kernel
theorem dL_law_1331 : decode cL_law 1331 = .ok (.iconst 1, 1) := by decide +kernel
theorem dL_law_1332 : decode cL_law 1332 = .ok (.iadd, 1) := by decide +kernel
theorem dL_law_1333 : decode cL_law 1333 = .ok (.iaload, 1) := by decide +kernel
theorem dL_law_1334 : decode cL_law 1334 = .ok (.invokevirtual 163, 3) := by decide +kernel
theorem dL_law_1337 : decode cL_law 1337 = .ok (.aload_n 2, 1) := by decide +kernel
theorem dL_law_1338 : decode cL_law 1338 = .ok (.aload_n 0, 1) := by decide +kernel
theorem dL_law_1339 : decode cL_law 1339 = .ok (.iload_n 3, 1) := by decide +kernel
theorem dL_law_1340 : decode cL_law 1340 = .ok (.iconst 1, 1) := by decide +kernel
theorem dL_law_1341 : decode cL_law 1341 = .ok (.iadd, 1) := by decide +kernel
theorem dL_law_1342 : decode cL_law 1342 = .ok (.iaload, 1) := by decide +kernel
theorem dL_law_1343 : decode cL_law 1343 = .ok (.invokevirtual 166, 3) := by decide +kernel
theorem dL_law_1346 : decode cL_law 1346 = .ok (.if_icmp .eq 31, 3) := by decide +kernel
theorem dL_law_1349 : decode cL_law 1349 = .ok (.iconst 0, 1) := by decide +kernel
theorem dL_law_1350 : decode cL_law 1350 = .ok (.ireturn, 1) := by decide +kernel
theorem dL_law_1351 : decode cL_law 1351 = .ok (.aload_n 1, 1) := by decide +kernel
theorem dL_law_1352 : decode cL_law 1352 = .ok (.invokevirtual 167, 3) := by decide +kernel
theorem dL_law_1355 : decode cL_law 1355 = .ok (.aload_n 2, 1) := by decide +kernel
theorem dL_law_1356 : decode cL_law 1356 = .ok (.invokevirtual 170, 3) := by decide +kernel
theorem dL_law_1359 : decode cL_law 1359 = .ok (.if_icmp .eq 18, 3) := by decide +kernel
theorem dL_law_1362 : decode cL_law 1362 = .ok (.iconst 0, 1) := by decide +kernel
theorem dL_law_1363 : decode cL_law 1363 = .ok (.ireturn, 1) := by decide +kernel
theorem dL_law_1364 : decode cL_law 1364 = .ok (.aload_n 1, 1) := by decide +kernel
theorem dL_law_1365 : decode cL_law 1365 = .ok (.invokevirtual 171, 3) := by decide +kernel
theorem dL_law_1368 : decode cL_law 1368 = .ok (.aload_n 2, 1) := by decide +kernel
theorem dL_law_1369 : decode cL_law 1369 = .ok (.invokevirtual 174, 3) := by decide +kernel
theorem dL_law_1372 : decode cL_law 1372 = .ok (.if_icmp .eq 5, 3) := by decide +kernel
theorem dL_law_1375 : decode cL_law 1375 = .ok (.iconst 0, 1) := by decide +kernel
theorem dL_law_1376 : decode cL_law 1376 = .ok (.ireturn, 1) := by decide +kernel
theorem dL_law_1377 : decode cL_law 1377 = .ok (.iinc 3 6, 3) := by decide +kernel
theorem dL_law_1380 : decode cL_law 1380 = .ok (.goto (-1362), 3) := by decide +kernel
theorem dL_law_1383 : decode cL_law 1383 = .ok (.iconst 1, 1) := by decide +kernel
theorem dL_law_1384 : decode cL_law 1384 = .ok (.ireturn, 1) := by decide +kernel
abbrev vwCl : List vw_C := [(RJx4a65c, TJx4a65c, 3), (RX0, TX0, 4), (RX1, TX1, 3), (RX2, TX2, 3), (RX3, TX3, 8), (RX4, TX4, 11), (RX5, TX5, 4), (RX6, TX6, 12), (RX7, TX7, 3), (RX8, TX8, 8), (RX9, TX9, 8), (RX10, TX10, 2), (RX11, TX11, 19), (RX12, TX12, 67)]
