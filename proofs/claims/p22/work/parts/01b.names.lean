/-! ===== BEGIN printed: names, fields, word lists, decode rows ===== -/
def RX0 : String := "TwoScribes$Copy"
def TX0 : u_T := fun k => match k with
  | 0 => ("TwoScribes$Copy", "letters", "LTwoScribes$Row;", true)
  | 1 => ("TwoScribes$Copy", "authors", "LTwoScribes$Row;", true)
  | _ => ("TwoScribes$Copy", "marks", "LTwoScribes$Row;", true)
def tyX0 : Nat → FieldType := fun k => match k with
  | 0 => .object "TwoScribes$Row"
  | 1 => .object "TwoScribes$Row"
  | _ => .object "TwoScribes$Row"
abbrev wsX00 : List Cond := u_ws RX0 TX0 3
theorem nmX0 : ∀ a, a < 3 → ∀ b, b < 3 → a ≠ b → (TX0 a).2.1 ≠ (TX0 b).2.1 := by decide +kernel
theorem tyX0_ok : ∀ k, k < 3 → parseFieldDescriptor (TX0 k).2.2.1 = some (tyX0 k) := by decide +kernel
abbrev cX0_init : ByteArray := prog_2_method_1_code
def yX0_init : MethodName := ⟨RX0, "<init>", "()V"⟩
abbrev cX0_size : ByteArray := prog_2_method_2_code
def yX0_size : MethodName := ⟨RX0, "size", "()I"⟩
abbrev cX0_insert : ByteArray := prog_2_method_3_code
def yX0_insert : MethodName := ⟨RX0, "insert", "(IIII)V"⟩
abbrev cX0_remove : ByteArray := prog_2_method_4_code
def yX0_remove : MethodName := ⟨RX0, "remove", "(I)V"⟩
abbrev cX0_placeOf : ByteArray := prog_2_method_5_code
def yX0_placeOf : MethodName := ⟨RX0, "placeOf", "(I)I"⟩
abbrev cX0_lettersOf : ByteArray := prog_2_method_6_code
def yX0_lettersOf : MethodName := ⟨RX0, "lettersOf", "(I)I"⟩
def RX1 : String := "TwoScribes$Past"
def TX1 : u_T := fun k => match k with
  | 0 => ("TwoScribes$Past", "places", "LTwoScribes$Row;", true)
  | 1 => ("TwoScribes$Past", "letters", "LTwoScribes$Row;", true)
  | _ => ("TwoScribes$Past", "marks", "LTwoScribes$Row;", true)
def tyX1 : Nat → FieldType := fun k => match k with
  | 0 => .object "TwoScribes$Row"
  | 1 => .object "TwoScribes$Row"
  | _ => .object "TwoScribes$Row"
abbrev wsX10 : List Cond := u_ws RX1 TX1 3
theorem nmX1 : ∀ a, a < 3 → ∀ b, b < 3 → a ≠ b → (TX1 a).2.1 ≠ (TX1 b).2.1 := by decide +kernel
theorem tyX1_ok : ∀ k, k < 3 → parseFieldDescriptor (TX1 k).2.2.1 = some (tyX1 k) := by decide +kernel
abbrev cX1_init : ByteArray := prog_3_method_1_code
def yX1_init : MethodName := ⟨RX1, "<init>", "()V"⟩
abbrev cX1_size : ByteArray := prog_3_method_2_code
def yX1_size : MethodName := ⟨RX1, "size", "()I"⟩
abbrev cX1_addSet : ByteArray := prog_3_method_3_code
def yX1_addSet : MethodName := ⟨RX1, "addSet", "(I)V"⟩
abbrev cX1_addStrike : ByteArray := prog_3_method_4_code
def yX1_addStrike : MethodName := ⟨RX1, "addStrike", "(II)V"⟩
abbrev cX1_lastStruck : ByteArray := prog_3_method_5_code
def yX1_lastStruck : MethodName := ⟨RX1, "lastStruck", "()Z"⟩
abbrev cX1_lastPlace : ByteArray := prog_3_method_6_code
def yX1_lastPlace : MethodName := ⟨RX1, "lastPlace", "()I"⟩
abbrev cX1_lastLetter : ByteArray := prog_3_method_7_code
def yX1_lastLetter : MethodName := ⟨RX1, "lastLetter", "()I"⟩
abbrev cX1_lastMark : ByteArray := prog_3_method_8_code
def yX1_lastMark : MethodName := ⟨RX1, "lastMark", "()I"⟩
abbrev cX1_forgetLast : ByteArray := prog_3_method_9_code
def yX1_forgetLast : MethodName := ⟨RX1, "forgetLast", "()V"⟩
abbrev cX1_shiftBehind : ByteArray := prog_3_method_10_code
def yX1_shiftBehind : MethodName := ⟨RX1, "shiftBehind", "(II)V"⟩
def RX2 : String := "TwoScribes$Row"
def TX2 : u_T := fun k => match k with
  | 0 => ("TwoScribes$Row", "numbers", "[I", true)
  | _ => ("TwoScribes$Row", "size", "I", false)
def tyX2 : Nat → FieldType := fun k => match k with
  | 0 => .array .int
  | _ => .int
abbrev wsX20 : List Cond := u_ws RX2 TX2 2
theorem nmX2 : ∀ a, a < 2 → ∀ b, b < 2 → a ≠ b → (TX2 a).2.1 ≠ (TX2 b).2.1 := by decide +kernel
theorem tyX2_ok : ∀ k, k < 2 → parseFieldDescriptor (TX2 k).2.2.1 = some (tyX2 k) := by decide +kernel
abbrev cX2_init : ByteArray := prog_4_method_1_code
def yX2_init : MethodName := ⟨RX2, "<init>", "(I)V"⟩
abbrev cX2_has : ByteArray := prog_4_method_2_code
def yX2_has : MethodName := ⟨RX2, "has", "(I)Z"⟩
abbrev cX2_at : ByteArray := prog_4_method_3_code
def yX2_at : MethodName := ⟨RX2, "at", "(I)I"⟩
abbrev cX2_change : ByteArray := prog_4_method_4_code
def yX2_change : MethodName := ⟨RX2, "change", "(II)V"⟩
abbrev cX2_insert : ByteArray := prog_4_method_5_code
def yX2_insert : MethodName := ⟨RX2, "insert", "(II)V"⟩
abbrev cX2_append : ByteArray := prog_4_method_6_code
def yX2_append : MethodName := ⟨RX2, "append", "(I)V"⟩
abbrev cX2_remove : ByteArray := prog_4_method_7_code
def yX2_remove : MethodName := ⟨RX2, "remove", "(I)V"⟩
def RX3 : String := "TwoScribes$Scribe"
def TX3 : u_T := fun k => match k with
  | 0 => ("TwoScribes$Scribe", "copy", "LTwoScribes$Copy;", true)
  | 1 => ("TwoScribes$Scribe", "way", "LTwoScribes$Way;", true)
  | 2 => ("TwoScribes$Scribe", "past", "LTwoScribes$Past;", true)
  | 3 => ("TwoScribes$Scribe", "wrote", "I", false)
  | 4 => ("TwoScribes$Scribe", "came", "I", false)
  | _ => ("TwoScribes$Scribe", "cameIdle", "I", false)
def tyX3 : Nat → FieldType := fun k => match k with
  | 0 => .object "TwoScribes$Copy"
  | 1 => .object "TwoScribes$Way"
  | 2 => .object "TwoScribes$Past"
  | 3 => .int
  | 4 => .int
  | _ => .int
abbrev wsX30 : List Cond := u_ws RX3 TX3 6
theorem nmX3 : ∀ a, a < 6 → ∀ b, b < 6 → a ≠ b → (TX3 a).2.1 ≠ (TX3 b).2.1 := by decide +kernel
theorem tyX3_ok : ∀ k, k < 6 → parseFieldDescriptor (TX3 k).2.2.1 = some (tyX3 k) := by decide +kernel
abbrev cX3_init : ByteArray := prog_5_method_1_code
def yX3_init : MethodName := ⟨RX3, "<init>", "()V"⟩
abbrev cX3_doStroke : ByteArray := prog_5_method_2_code
def yX3_doStroke : MethodName := ⟨RX3, "doStroke", "(LTwoScribes$Stroke;I)V"⟩
def RX4 : String := "TwoScribes$Stroke"
def TX4 : u_T := fun k => match k with
  | 0 => ("TwoScribes$Stroke", "kind", "I", false)
  | 1 => ("TwoScribes$Stroke", "place", "I", false)
  | 2 => ("TwoScribes$Stroke", "letter", "I", false)
  | 3 => ("TwoScribes$Stroke", "intent", "I", false)
  | _ => ("TwoScribes$Stroke", "mark", "I", true)
def tyX4 : Nat → FieldType := fun k => match k with
  | 0 => .int
  | 1 => .int
  | 2 => .int
  | 3 => .int
  | _ => .int
abbrev wsX40 : List Cond := u_ws RX4 TX4 5
theorem nmX4 : ∀ a, a < 5 → ∀ b, b < 5 → a ≠ b → (TX4 a).2.1 ≠ (TX4 b).2.1 := by decide +kernel
theorem tyX4_ok : ∀ k, k < 5 → parseFieldDescriptor (TX4 k).2.2.1 = some (tyX4 k) := by decide +kernel
abbrev cX4_init : ByteArray := prog_6_method_1_code
def yX4_init : MethodName := ⟨RX4, "<init>", "(IIIII)V"⟩
abbrev cX4_moveBy : ByteArray := prog_6_method_2_code
def yX4_moveBy : MethodName := ⟨RX4, "moveBy", "(IIZ)V"⟩
abbrev cX4_moveBySet : ByteArray := prog_6_method_3_code
def yX4_moveBySet : MethodName := ⟨RX4, "moveBySet", "(IZ)V"⟩
abbrev cX4_moveByStrike : ByteArray := prog_6_method_4_code
def yX4_moveByStrike : MethodName := ⟨RX4, "moveByStrike", "(I)V"⟩
def RX5 : String := "TwoScribes$Way"
def TX5 : u_T := fun k => match k with
  | 0 => ("TwoScribes$Way", "kinds", "LTwoScribes$Row;", true)
  | 1 => ("TwoScribes$Way", "places", "LTwoScribes$Row;", true)
  | 2 => ("TwoScribes$Way", "letters", "LTwoScribes$Row;", true)
  | _ => ("TwoScribes$Way", "intents", "LTwoScribes$Row;", true)
def tyX5 : Nat → FieldType := fun k => match k with
  | 0 => .object "TwoScribes$Row"
  | 1 => .object "TwoScribes$Row"
  | 2 => .object "TwoScribes$Row"
  | _ => .object "TwoScribes$Row"
abbrev wsX50 : List Cond := u_ws RX5 TX5 4
theorem nmX5 : ∀ a, a < 4 → ∀ b, b < 4 → a ≠ b → (TX5 a).2.1 ≠ (TX5 b).2.1 := by decide +kernel
theorem tyX5_ok : ∀ k, k < 4 → parseFieldDescriptor (TX5 k).2.2.1 = some (tyX5 k) := by decide +kernel
abbrev cX5_init : ByteArray := prog_7_method_1_code
def yX5_init : MethodName := ⟨RX5, "<init>", "()V"⟩
abbrev cX5_size : ByteArray := prog_7_method_2_code
def yX5_size : MethodName := ⟨RX5, "size", "()I"⟩
abbrev cX5_read : ByteArray := prog_7_method_3_code
def yX5_read : MethodName := ⟨RX5, "read", "(ILTwoScribes$Stroke;)V"⟩
abbrev cX5_append : ByteArray := prog_7_method_4_code
def yX5_append : MethodName := ⟨RX5, "append", "(LTwoScribes$Stroke;)V"⟩
abbrev cX5_move : ByteArray := prog_7_method_5_code
def yX5_move : MethodName := ⟨RX5, "move", "(ILTwoScribes$Stroke;)V"⟩
abbrev cX5_dropFirst : ByteArray := prog_7_method_6_code
def yX5_dropFirst : MethodName := ⟨RX5, "dropFirst", "()V"⟩
abbrev cX5_growth : ByteArray := prog_7_method_7_code
def yX5_growth : MethodName := ⟨RX5, "growth", "()I"⟩
def RX6 : String := "TwoScribes"
def TX6 : u_T := fun k => match k with
  | 0 => ("TwoScribes", "zero", "LTwoScribes$Scribe;", true)
  | 1 => ("TwoScribes", "one", "LTwoScribes$Scribe;", true)
  | 2 => ("TwoScribes", "met", "LTwoScribes$Stroke;", true)
  | 3 => ("TwoScribes", "rule", "I", false)
  | 4 => ("TwoScribes", "ties", "I", false)
  | _ => ("TwoScribes", "marks", "I", false)
def tyX6 : Nat → FieldType := fun k => match k with
  | 0 => .object "TwoScribes$Scribe"
  | 1 => .object "TwoScribes$Scribe"
  | 2 => .object "TwoScribes$Stroke"
  | 3 => .int
  | 4 => .int
  | _ => .int
abbrev wsX60 : List Cond := u_ws RX6 TX6 6
theorem nmX6 : ∀ a, a < 6 → ∀ b, b < 6 → a ≠ b → (TX6 a).2.1 ≠ (TX6 b).2.1 := by decide +kernel
theorem tyX6_ok : ∀ k, k < 6 → parseFieldDescriptor (TX6 k).2.2.1 = some (tyX6 k) := by decide +kernel
abbrev cX6_init : ByteArray := prog_1_method_1_code
def yX6_init : MethodName := ⟨RX6, "<init>", "()V"⟩
abbrev cX6_setRule : ByteArray := prog_1_method_2_code
def yX6_setRule : MethodName := ⟨RX6, "setRule", "(I)I"⟩
abbrev cX6_set : ByteArray := prog_1_method_3_code
def yX6_set : MethodName := ⟨RX6, "set", "(IIII)I"⟩
abbrev cX6_strike : ByteArray := prog_1_method_4_code
def yX6_strike : MethodName := ⟨RX6, "strike", "(II)I"⟩
abbrev cX6_undo : ByteArray := prog_1_method_5_code
def yX6_undo : MethodName := ⟨RX6, "undo", "(I)I"⟩
abbrev cX6_come : ByteArray := prog_1_method_6_code
def yX6_come : MethodName := ⟨RX6, "come", "(I)I"⟩
abbrev cX6_meet : ByteArray := prog_1_method_7_code
def yX6_meet : MethodName := ⟨RX6, "meet", "()I"⟩
abbrev cX6_letter : ByteArray := prog_1_method_8_code
def yX6_letter : MethodName := ⟨RX6, "letter", "(II)I"⟩
abbrev cX6_author : ByteArray := prog_1_method_9_code
def yX6_author : MethodName := ⟨RX6, "author", "(II)I"⟩
abbrev cX6_about : ByteArray := prog_1_method_10_code
def yX6_about : MethodName := ⟨RX6, "about", "(II)I"⟩
abbrev cX6_way : ByteArray := prog_1_method_11_code
def yX6_way : MethodName := ⟨RX6, "way", "(III)I"⟩
abbrev cX6_count : ByteArray := prog_1_method_12_code
def yX6_count : MethodName := ⟨RX6, "count", "(I)I"⟩
abbrev cX6_first : ByteArray := prog_1_method_13_code
def yX6_first : MethodName := ⟨RX6, "first", "()I"⟩
abbrev cX6_page : ByteArray := prog_1_method_14_code
def yX6_page : MethodName := ⟨RX6, "page", "(I)I"⟩
abbrev cX6_goes : ByteArray := prog_1_method_15_code
def yX6_goes : MethodName := ⟨RX6, "goes", "(II)I"⟩
abbrev cX6_would : ByteArray := prog_1_method_17_code
def yX6_would : MethodName := ⟨RX6, "would", "(IIII)I"⟩
abbrev cX6_undoes : ByteArray := prog_1_method_18_code
def yX6_undoes : MethodName := ⟨RX6, "undoes", "(I)I"⟩
abbrev cX6_mean : ByteArray := prog_1_method_19_code
def yX6_mean : MethodName := ⟨RX6, "mean", "()D"⟩
abbrev cX6_checkScribe : ByteArray := prog_1_method_21_code
def yX6_checkScribe : MethodName := ⟨RX6, "checkScribe", "(I)V"⟩
abbrev cX6_checkPlace : ByteArray := prog_1_method_22_code
def yX6_checkPlace : MethodName := ⟨RX6, "checkPlace", "(II)V"⟩
abbrev cX6_checkGap : ByteArray := prog_1_method_23_code
def yX6_checkGap : MethodName := ⟨RX6, "checkGap", "(II)V"⟩
abbrev cX6_checkLetter : ByteArray := prog_1_method_24_code
def yX6_checkLetter : MethodName := ⟨RX6, "checkLetter", "(II)V"⟩
abbrev cX6_checkCopyNotFull : ByteArray := prog_1_method_25_code
def yX6_checkCopyNotFull : MethodName := ⟨RX6, "checkCopyNotFull", "(I)V"⟩
abbrev cX6_checkWayNotFull : ByteArray := prog_1_method_26_code
def yX6_checkWayNotFull : MethodName := ⟨RX6, "checkWayNotFull", "(I)V"⟩
abbrev cX6_who : ByteArray := prog_1_method_27_code
def yX6_who : MethodName := ⟨RX6, "who", "(I)LTwoScribes$Scribe;"⟩
abbrev cX6_other : ByteArray := prog_1_method_28_code
def yX6_other : MethodName := ⟨RX6, "other", "(I)LTwoScribes$Scribe;"⟩
abbrev cX6_newMark : ByteArray := prog_1_method_29_code
def yX6_newMark : MethodName := ⟨RX6, "newMark", "()I"⟩
abbrev cX6_strikeAt : ByteArray := prog_1_method_30_code
def yX6_strikeAt : MethodName := ⟨RX6, "strikeAt", "(I)LTwoScribes$Stroke;"⟩
abbrev cX6_write : ByteArray := prog_1_method_31_code
def yX6_write : MethodName := ⟨RX6, "write", "(ILTwoScribes$Stroke;)V"⟩
abbrev cX6_meetOne : ByteArray := prog_1_method_32_code
def yX6_meetOne : MethodName := ⟨RX6, "meetOne", "(ILTwoScribes$Stroke;)V"⟩
abbrev cX6_goesFirst : ByteArray := prog_1_method_33_code
def yX6_goesFirst : MethodName := ⟨RX6, "goesFirst", "(ILTwoScribes$Stroke;LTwoScribes$Stroke;)Z"⟩
abbrev cX6_takeFirst : ByteArray := prog_1_method_34_code
def yX6_takeFirst : MethodName := ⟨RX6, "takeFirst", "(I)I"⟩
abbrev cX6_takeAll : ByteArray := prog_1_method_35_code
def yX6_takeAll : MethodName := ⟨RX6, "takeAll", "(I)V"⟩
abbrev cX6_placeOfUndoing : ByteArray := prog_1_method_36_code
def yX6_placeOfUndoing : MethodName := ⟨RX6, "placeOfUndoing", "(I)I"⟩
abbrev cX6_strokesOnWay : ByteArray := prog_1_method_37_code
def yX6_strokesOnWay : MethodName := ⟨RX6, "strokesOnWay", "()I"⟩
abbrev cX6_longerCopy : ByteArray := prog_1_method_38_code
def yX6_longerCopy : MethodName := ⟨RX6, "longerCopy", "()I"⟩
abbrev cX6_differAt : ByteArray := prog_1_method_39_code
def yX6_differAt : MethodName := ⟨RX6, "differAt", "(I)Z"⟩
abbrev cX6_differences : ByteArray := prog_1_method_40_code
def yX6_differences : MethodName := ⟨RX6, "differences", "()I"⟩
abbrev cX6_lettersOfPage : ByteArray := prog_1_method_41_code
def yX6_lettersOfPage : MethodName := ⟨RX6, "lettersOfPage", "()I"⟩
abbrev cX6_letterOfPage : ByteArray := prog_1_method_42_code
def yX6_letterOfPage : MethodName := ⟨RX6, "letterOfPage", "(I)I"⟩
abbrev cX6_placeOnPage : ByteArray := prog_1_method_43_code
def yX6_placeOnPage : MethodName := ⟨RX6, "placeOnPage", "(II)I"⟩
def RX7 : String := "TwoScribesLaw$Sim"
def TX7 : u_T := fun k => match k with
  | 0 => ("TwoScribesLaw$Sim", "rule", "I", false)
  | 1 => ("TwoScribesLaw$Sim", "ties", "I", false)
  | 2 => ("TwoScribesLaw$Sim", "letters", "[I", false)
  | 3 => ("TwoScribesLaw$Sim", "authors", "[I", false)
  | 4 => ("TwoScribesLaw$Sim", "copies", "[[I", false)
  | 5 => ("TwoScribesLaw$Sim", "ways", "[[[I", false)
  | 6 => ("TwoScribesLaw$Sim", "done", "[[[I", false)
  | 7 => ("TwoScribesLaw$Sim", "written", "[I", false)
  | 8 => ("TwoScribesLaw$Sim", "came", "[I", false)
  | _ => ("TwoScribesLaw$Sim", "idle", "[I", false)
def tyX7 : Nat → FieldType := fun k => match k with
  | 0 => .int
  | 1 => .int
  | 2 => .array .int
  | 3 => .array .int
  | 4 => .array (.array .int)
  | 5 => .array (.array (.array .int))
  | 6 => .array (.array (.array .int))
  | 7 => .array .int
  | 8 => .array .int
  | _ => .array .int
abbrev wsX70 : List Cond := u_ws RX7 TX7 10
theorem nmX7 : ∀ a, a < 10 → ∀ b, b < 10 → a ≠ b → (TX7 a).2.1 ≠ (TX7 b).2.1 := by decide +kernel
theorem tyX7_ok : ∀ k, k < 10 → parseFieldDescriptor (TX7 k).2.2.1 = some (tyX7 k) := by decide +kernel
abbrev cX7_init : ByteArray := prog_9_method_1_code
def yX7_init : MethodName := ⟨RX7, "<init>", "()V"⟩
abbrev cX7_copy : ByteArray := prog_9_method_2_code
def yX7_copy : MethodName := ⟨RX7, "copy", "()LTwoScribesLaw$Sim;"⟩
abbrev cX7_first : ByteArray := prog_9_method_3_code
def yX7_first : MethodName := ⟨RX7, "first", "([I[I)Z"⟩
abbrev cX7_by : ByteArray := prog_9_method_4_code
def yX7_by : MethodName := ⟨RX7, "by", "([I[I)[I"⟩
abbrev cX7_carry : ByteArray := prog_9_method_5_code
def yX7_carry : MethodName := ⟨RX7, "carry", "(I[I)V"⟩
abbrev cX7_write : ByteArray := prog_9_method_6_code
def yX7_write : MethodName := ⟨RX7, "write", "(I[I)V"⟩
abbrev cX7_fresh : ByteArray := prog_9_method_7_code
def yX7_fresh : MethodName := ⟨RX7, "fresh", "(II)I"⟩
abbrev cX7_set : ByteArray := prog_9_method_8_code
def yX7_set : MethodName := ⟨RX7, "set", "(IIII)V"⟩
abbrev cX7_strike : ByteArray := prog_9_method_9_code
def yX7_strike : MethodName := ⟨RX7, "strike", "(II)I"⟩
abbrev cX7_find : ByteArray := prog_9_method_10_code
def yX7_find : MethodName := ⟨RX7, "find", "(II)I"⟩
abbrev cX7_undoes : ByteArray := prog_9_method_11_code
def yX7_undoes : MethodName := ⟨RX7, "undoes", "(I)I"⟩
abbrev cX7_undo : ByteArray := prog_9_method_12_code
def yX7_undo : MethodName := ⟨RX7, "undo", "(I)I"⟩
abbrev cX7_come : ByteArray := prog_9_method_13_code
def yX7_come : MethodName := ⟨RX7, "come", "(I)I"⟩
abbrev cX7_meet : ByteArray := prog_9_method_14_code
def yX7_meet : MethodName := ⟨RX7, "meet", "()I"⟩
abbrev cX7_isSame : ByteArray := prog_9_method_15_code
def yX7_isSame : MethodName := ⟨RX7, "isSame", "(LTwoScribes;)Z"⟩
def RX8 : String := "TwoScribesModel"
def TX8 : u_T := fun k => match k with
  | _ => ("", "", "", false)
def tyX8 : Nat → FieldType := fun k => match k with
  | _ => .int
abbrev wsX80 : List Cond := u_ws RX8 TX8 0
theorem nmX8 : ∀ a, a < 0 → ∀ b, b < 0 → a ≠ b → (TX8 a).2.1 ≠ (TX8 b).2.1 := by decide +kernel
theorem tyX8_ok : ∀ k, k < 0 → parseFieldDescriptor (TX8 k).2.2.1 = some (tyX8 k) := by decide +kernel
def RJx8e188 : String := "java/lang/Cloneable"
def TJx8e188 : u_T := fun k => match k with
  | _ => ("", "", "", false)
def tyJx8e188 : Nat → FieldType := fun k => match k with
  | _ => .int
abbrev wsJx8e1880 : List Cond := u_ws RJx8e188 TJx8e188 0
theorem nmJx8e188 : ∀ a, a < 0 → ∀ b, b < 0 → a ≠ b → (TJx8e188 a).2.1 ≠ (TJx8e188 b).2.1 := by decide +kernel
theorem tyJx8e188_ok : ∀ k, k < 0 → parseFieldDescriptor (TJx8e188 k).2.2.1 = some (tyJx8e188 k) := by decide +kernel
def RJ9 : String := "java/lang/Math"
def TJ9 : u_T := fun k => match k with
  | _ => ("", "", "", false)
def tyJ9 : Nat → FieldType := fun k => match k with
  | _ => .int
abbrev wsJ90 : List Cond := u_ws RJ9 TJ9 0
theorem nmJ9 : ∀ a, a < 0 → ∀ b, b < 0 → a ≠ b → (TJ9 a).2.1 ≠ (TJ9 b).2.1 := by decide +kernel
theorem tyJ9_ok : ∀ k, k < 0 → parseFieldDescriptor (TJ9 k).2.2.1 = some (tyJ9 k) := by decide +kernel
abbrev cJ9_abs_0f7a4 : ByteArray := prog_16_method_59_code
def yJ9_abs_0f7a4 : MethodName := ⟨RJ9, "abs", "(I)I"⟩
abbrev cJ9_max_7cf53 : ByteArray := prog_16_method_65_code
def yJ9_max_7cf53 : MethodName := ⟨RJ9, "max", "(II)I"⟩
def RJ0 : String := "java/lang/String"
def TJ0 : u_T := fun k => match k with
  | _ => ("", "", "", false)
def tyJ0 : Nat → FieldType := fun k => match k with
  | _ => .int
abbrev wsJ00 : List Cond := u_ws RJ0 TJ0 0
theorem nmJ0 : ∀ a, a < 0 → ∀ b, b < 0 → a ≠ b → (TJ0 a).2.1 ≠ (TJ0 b).2.1 := by decide +kernel
theorem tyJ0_ok : ∀ k, k < 0 → parseFieldDescriptor (TJ0 k).2.2.1 = some (tyJ0 k) := by decide +kernel
def RL : String := "TwoScribesLaw"
abbrev cL_below : ByteArray := method_2_code
def yL_below : MethodName := ⟨RL, "below", "(II)I"⟩
abbrev cL_cell : ByteArray := method_3_code
def yL_cell : MethodName := ⟨RL, "cell", "([II)I"⟩
abbrev cL_with : ByteArray := method_4_code
def yL_with : MethodName := ⟨RL, "with", "([III)[I"⟩
abbrev cL_without : ByteArray := method_5_code
def yL_without : MethodName := ⟨RL, "without", "([II)[I"⟩
abbrev cL_more : ByteArray := method_6_code
def yL_more : MethodName := ⟨RL, "more", "([[I[I)[[I"⟩
abbrev cL_act : ByteArray := method_7_code
def yL_act : MethodName := ⟨RL, "act", "(LTwoScribes;LTwoScribesLaw$Sim;I)Z"⟩
abbrev cL_build : ByteArray := method_8_code
def yL_build : MethodName := ⟨RL, "build", "(LTwoScribes;[I)LTwoScribesLaw$Sim;"⟩
abbrev cL_law : ByteArray := code
def yL_law : MethodName := ⟨RL, "law", "([I)Z"⟩
abbrev vwCl : List vw_C := [(RX0, TX0, 3), (RX1, TX1, 3), (RX2, TX2, 2), (RX3, TX3, 6), (RX4, TX4, 5), (RX5, TX5, 4), (RX6, TX6, 6), (RX7, TX7, 10)]
