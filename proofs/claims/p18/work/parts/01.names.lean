/-! NAMES (out of claim/NAMES.whole.lean.txt, what is reached) -/
def RX0 : String := "NativeWorks$Assemble\x72"
def TX0 : u_T := fun k => match k with
  | 0 => ("NativeWorks$Assemble\x72", "line", "LNativeWorks$Line;", true)
  | 1 => ("NativeWorks$Assemble\x72", "reade\x72", "LNativeWorks$Reader;", true)
  | 2 => ("NativeWorks$Assemble\x72", "units", "LNativeWorks$Units;", true)
  | 3 => ("NativeWorks$Assemble\x72", "expression", "LNativeWorks$Expression;", true)
  | 4 => ("NativeWorks$Assemble\x72", "instruction", "LNativeWorks$Instruction;", true)
  | 5 => ("NativeWorks$Assemble\x72", "told", "[I", true)
  | 6 => ("NativeWorks$Assemble\x72", "section", "I", false)
  | 7 => ("NativeWorks$Assemble\x72", "word", "I", false)
  | 8 => ("NativeWorks$Assemble\x72", "first", "I", false)
  | 9 => ("NativeWorks$Assemble\x72", "macro", "I", false)
  | 10 => ("NativeWorks$Assemble\x72", "numberPlus", "I", false)
  | 11 => ("NativeWorks$Assemble\x72", "numberMinus", "I", false)
  | 12 => ("NativeWorks$Assemble\x72", "displacementPlus", "I", false)
  | 13 => ("NativeWorks$Assemble\x72", "displacementMinus", "I", false)
  | _ => ("NativeWorks$Assemble\x72", "faultLine", "I", false)
def tyX0 : Nat → FieldType := fun k => match k with
  | 0 => .object "NativeWorks$Line"
  | 1 => .object "NativeWorks$Reade\x72"
  | 2 => .object "NativeWorks$Units"
  | 3 => .object "NativeWorks$Expression"
  | 4 => .object "NativeWorks$Instruction"
  | 5 => .array .int
  | 6 => .int
  | 7 => .int
  | 8 => .int
  | 9 => .int
  | 10 => .int
  | 11 => .int
  | 12 => .int
  | 13 => .int
  | _ => .int
theorem nmX0 : ∀ a, a < 15 → ∀ b, b < 15 → a ≠ b → (TX0 a).2.1 ≠ (TX0 b).2.1 := by decide +kernel
theorem tyX0_ok : ∀ k, k < 15 → parseFieldDescriptor (TX0 k).2.2.1 = some (tyX0 k) := by decide +kernel
abbrev cX0_init : ByteArray := prog_2_method_1_code
def yX0_init : MethodName := ⟨RX0, "<init>", "([BLNativeWorks$Units;)V"⟩
abbrev cX0_assemble : ByteArray := prog_2_method_2_code
def yX0_assemble : MethodName := ⟨RX0, "assemble", "(IZ)I"⟩
abbrev cX0_fail : ByteArray := prog_2_method_3_code
def yX0_fail : MethodName := ⟨RX0, "fail", "(II)I"⟩
abbrev cX0_finish : ByteArray := prog_2_method_4_code
def yX0_finish : MethodName := ⟨RX0, "finish", "()I"⟩
abbrev cX0_begin : ByteArray := prog_2_method_5_code
def yX0_begin : MethodName := ⟨RX0, "begin", "()V"⟩
abbrev cX0_wordAt : ByteArray := prog_2_method_6_code
def yX0_wordAt : MethodName := ⟨RX0, "wordAt", "(I)I"⟩
abbrev cX0_blameIf : ByteArray := prog_2_method_7_code
def yX0_blameIf : MethodName := ⟨RX0, "blameIf", "(ZI)V"⟩
abbrev cX0_isMacro : ByteArray := prog_2_method_8_code
def yX0_isMacro : MethodName := ⟨RX0, "isMacro", "()Z"⟩
abbrev cX0_isDefined : ByteArray := prog_2_method_9_code
def yX0_isDefined : MethodName := ⟨RX0, "isDefined", "(I)Z"⟩
abbrev cX0_label : ByteArray := prog_2_method_10_code
def yX0_label : MethodName := ⟨RX0, "label", "(I)V"⟩
abbrev cX0_statement : ByteArray := prog_2_method_11_code
def yX0_statement : MethodName := ⟨RX0, "statement", "()V"⟩
abbrev cX0_ended : ByteArray := prog_2_method_12_code
def yX0_ended : MethodName := ⟨RX0, "ended", "()Z"⟩
abbrev cX0_constant : ByteArray := prog_2_method_13_code
def yX0_constant : MethodName := ⟨RX0, "constant", "()Z"⟩
abbrev cX0_define : ByteArray := prog_2_method_14_code
def yX0_define : MethodName := ⟨RX0, "define", "()V"⟩
abbrev cX0_changeSection : ByteArray := prog_2_method_15_code
def yX0_changeSection : MethodName := ⟨RX0, "changeSection", "()V"⟩
abbrev cX0_flag : ByteArray := prog_2_method_16_code
def yX0_flag : MethodName := ⟨RX0, "flag", "(I)V"⟩
abbrev cX0_data : ByteArray := prog_2_method_17_code
def yX0_data : MethodName := ⟨RX0, "data", "(I)V"⟩
abbrev cX0_characters : ByteArray := prog_2_method_18_code
def yX0_characters : MethodName := ⟨RX0, "characters", "(I)I"⟩
abbrev cX0_item : ByteArray := prog_2_method_19_code
def yX0_item : MethodName := ⟨RX0, "item", "(II)V"⟩
abbrev cX0_space : ByteArray := prog_2_method_20_code
def yX0_space : MethodName := ⟨RX0, "space", "()V"⟩
abbrev cX0_control : ByteArray := prog_2_method_21_code
def yX0_control : MethodName := ⟨RX0, "control", "()V"⟩
abbrev cX0_rept : ByteArray := prog_2_method_22_code
def yX0_rept : MethodName := ⟨RX0, "rept", "(J)V"⟩
abbrev cX0_defineMacro : ByteArray := prog_2_method_23_code
def yX0_defineMacro : MethodName := ⟨RX0, "defineMacro", "()V"⟩
abbrev cX0_operation : ByteArray := prog_2_method_24_code
def yX0_operation : MethodName := ⟨RX0, "operation", "()Z"⟩
abbrev cX0_operands : ByteArray := prog_2_method_25_code
def yX0_operands : MethodName := ⟨RX0, "operands", "()Z"⟩
abbrev cX0_registerOperand : ByteArray := prog_2_method_26_code
def yX0_registerOperand : MethodName := ⟨RX0, "registerOperand", "(I)Z"⟩
abbrev cX0_numberOperand : ByteArray := prog_2_method_27_code
def yX0_numberOperand : MethodName := ⟨RX0, "numberOperand", "(I)Z"⟩
abbrev cX0_address : ByteArray := prog_2_method_28_code
def yX0_address : MethodName := ⟨RX0, "address", "()Z"⟩
abbrev cX0_registerTerm : ByteArray := prog_2_method_29_code
def yX0_registerTerm : MethodName := ⟨RX0, "registerTerm", "()Z"⟩
abbrev cX0_memoryOperand : ByteArray := prog_2_method_30_code
def yX0_memoryOperand : MethodName := ⟨RX0, "memoryOperand", "(I)Z"⟩
abbrev cX0_instruction : ByteArray := prog_2_method_31_code
def yX0_instruction : MethodName := ⟨RX0, "instruction", "()V"⟩
abbrev cX0_settleSize : ByteArray := prog_2_method_32_code
def yX0_settleSize : MethodName := ⟨RX0, "settleSize", "()Z"⟩
abbrev cX0_settleNumber : ByteArray := prog_2_method_33_code
def yX0_settleNumber : MethodName := ⟨RX0, "settleNumbe\x72", "(Z)V"⟩
abbrev cX0_jump : ByteArray := prog_2_method_34_code
def yX0_jump : MethodName := ⟨RX0, "jump", "()V"⟩
abbrev cX0_code : ByteArray := prog_2_method_35_code
def yX0_code : MethodName := ⟨RX0, "code", "()V"⟩
def RX1 : String := "NativeWorks$Expression"
def TX1 : u_T := fun k => match k with
  | 0 => ("NativeWorks$Expression", "line", "LNativeWorks$Line;", true)
  | 1 => ("NativeWorks$Expression", "units", "LNativeWorks$Units;", true)
  | 2 => ("NativeWorks$Expression", "numbe\x72", "[J", true)
  | 3 => ("NativeWorks$Expression", "plus", "[I", true)
  | 4 => ("NativeWorks$Expression", "minus", "[I", true)
  | 5 => ("NativeWorks$Expression", "signs", "[I", true)
  | 6 => ("NativeWorks$Expression", "name", "[B", true)
  | 7 => ("NativeWorks$Expression", "latest", "[B", true)
  | 8 => ("NativeWorks$Expression", "values", "I", false)
  | 9 => ("NativeWorks$Expression", "nameLength", "I", false)
  | _ => ("NativeWorks$Expression", "latestLength", "I", false)
def tyX1 : Nat → FieldType := fun k => match k with
  | 0 => .object "NativeWorks$Line"
  | 1 => .object "NativeWorks$Units"
  | 2 => .array .long
  | 3 => .array .int
  | 4 => .array .int
  | 5 => .array .int
  | 6 => .array .byte
  | 7 => .array .byte
  | 8 => .int
  | 9 => .int
  | _ => .int
theorem nmX1 : ∀ a, a < 11 → ∀ b, b < 11 → a ≠ b → (TX1 a).2.1 ≠ (TX1 b).2.1 := by decide +kernel
theorem tyX1_ok : ∀ k, k < 11 → parseFieldDescriptor (TX1 k).2.2.1 = some (tyX1 k) := by decide +kernel
abbrev cX1_init : ByteArray := prog_3_method_1_code
def yX1_init : MethodName := ⟨RX1, "<init>", "(LNativeWorks$Line;LNativeWorks$Units;)V"⟩
abbrev cX1_isConstant : ByteArray := prog_3_method_2_code
def yX1_isConstant : MethodName := ⟨RX1, "isConstant", "()Z"⟩
abbrev cX1_beZero : ByteArray := prog_3_method_3_code
def yX1_beZero : MethodName := ⟨RX1, "beZero", "()V"⟩
abbrev cX1_spell : ByteArray := prog_3_method_4_code
def yX1_spell : MethodName := ⟨RX1, "spell", "(IZ)V"⟩
abbrev cX1_beLatest : ByteArray := prog_3_method_5_code
def yX1_beLatest : MethodName := ⟨RX1, "beLatest", "(I)V"⟩
abbrev cX1_known : ByteArray := prog_3_method_6_code
def yX1_known : MethodName := ⟨RX1, "known", "()I"⟩
abbrev cX1_made : ByteArray := prog_3_method_7_code
def yX1_made : MethodName := ⟨RX1, "made", "()I"⟩
abbrev cX1_read : ByteArray := prog_3_method_8_code
def yX1_read : MethodName := ⟨RX1, "read", "(IZI)Z"⟩
abbrev cX1_priority : ByteArray := prog_3_method_9_code
def yX1_priority : MethodName := ⟨RX1, "priority", "(I)I"⟩
abbrev cX1_operand : ByteArray := prog_3_method_10_code
def yX1_operand : MethodName := ⟨RX1, "operand", "(I)Z"⟩
abbrev cX1_push : ByteArray := prog_3_method_11_code
def yX1_push : MethodName := ⟨RX1, "push", "(JI)V"⟩
abbrev cX1_apply : ByteArray := prog_3_method_12_code
def yX1_apply : MethodName := ⟨RX1, "apply", "(I)V"⟩
abbrev cX1_constantAt : ByteArray := prog_3_method_13_code
def yX1_constantAt : MethodName := ⟨RX1, "constantAt", "(I)Z"⟩
abbrev cX1_front : ByteArray := prog_3_method_14_code
def yX1_front : MethodName := ⟨RX1, "front", "(II)V"⟩
abbrev cX1_sum : ByteArray := prog_3_method_15_code
def yX1_sum : MethodName := ⟨RX1, "sum", "(ZZ)Z"⟩
abbrev cX1_difference : ByteArray := prog_3_method_16_code
def yX1_difference : MethodName := ⟨RX1, "difference", "(ZZ)Z"⟩
abbrev cX1_calculation : ByteArray := prog_3_method_17_code
def yX1_calculation : MethodName := ⟨RX1, "calculation", "(I)Z"⟩
def RX2 : String := "NativeWorks$Instruction"
def TX2 : u_T := fun k => match k with
  | 0 => ("NativeWorks$Instruction", "rows", "[I", true)
  | 1 => ("NativeWorks$Instruction", "firstRow", "[I", true)
  | 2 => ("NativeWorks$Instruction", "rowAt", "[I", true)
  | 3 => ("NativeWorks$Instruction", "kind", "[I", true)
  | 4 => ("NativeWorks$Instruction", "reg", "[I", true)
  | 5 => ("NativeWorks$Instruction", "bytes", "[B", true)
  | 6 => ("NativeWorks$Instruction", "op", "I", false)
  | 7 => ("NativeWorks$Instruction", "condition", "I", false)
  | 8 => ("NativeWorks$Instruction", "size", "I", false)
  | 9 => ("NativeWorks$Instruction", "count", "I", false)
  | 10 => ("NativeWorks$Instruction", "base", "I", false)
  | 11 => ("NativeWorks$Instruction", "index", "I", false)
  | 12 => ("NativeWorks$Instruction", "shift", "I", false)
  | 13 => ("NativeWorks$Instruction", "odd", "Z", false)
  | 14 => ("NativeWorks$Instruction", "displacement", "J", false)
  | 15 => ("NativeWorks$Instruction", "displacementWaits", "Z", false)
  | 16 => ("NativeWorks$Instruction", "numbe\x72", "J", false)
  | 17 => ("NativeWorks$Instruction", "numberWidth", "I", false)
  | 18 => ("NativeWorks$Instruction", "displacementAt", "I", false)
  | 19 => ("NativeWorks$Instruction", "numberAt", "I", false)
  | _ => ("NativeWorks$Instruction", "length", "I", false)
def tyX2 : Nat → FieldType := fun k => match k with
  | 0 => .array .int
  | 1 => .array .int
  | 2 => .array .int
  | 3 => .array .int
  | 4 => .array .int
  | 5 => .array .byte
  | 6 => .int
  | 7 => .int
  | 8 => .int
  | 9 => .int
  | 10 => .int
  | 11 => .int
  | 12 => .int
  | 13 => .boolean
  | 14 => .long
  | 15 => .boolean
  | 16 => .long
  | 17 => .int
  | 18 => .int
  | 19 => .int
  | _ => .int
theorem nmX2 : ∀ a, a < 21 → ∀ b, b < 21 → a ≠ b → (TX2 a).2.1 ≠ (TX2 b).2.1 := by decide +kernel
theorem tyX2_ok : ∀ k, k < 21 → parseFieldDescriptor (TX2 k).2.2.1 = some (tyX2 k) := by decide +kernel
abbrev cX2_init : ByteArray := prog_4_method_1_code
def yX2_init : MethodName := ⟨RX2, "<init>", "()V"⟩
abbrev cX2_enter : ByteArray := prog_4_method_2_code
def yX2_enter : MethodName := ⟨RX2, "ente\x72", "(I)V"⟩
abbrev cX2_isConditional : ByteArray := prog_4_method_3_code
def yX2_isConditional : MethodName := ⟨RX2, "isConditional", "(I)Z"⟩
abbrev cX2_beginAddress : ByteArray := prog_4_method_4_code
def yX2_beginAddress : MethodName := ⟨RX2, "beginAddress", "()V"⟩
abbrev cX2_addRegister : ByteArray := prog_4_method_5_code
def yX2_addRegister : MethodName := ⟨RX2, "addRegiste\x72", "(I)V"⟩
abbrev cX2_addIndex : ByteArray := prog_4_method_6_code
def yX2_addIndex : MethodName := ⟨RX2, "addIndex", "(II)V"⟩
abbrev cX2_endAddress : ByteArray := prog_4_method_7_code
def yX2_endAddress : MethodName := ⟨RX2, "endAddress", "()Z"⟩
abbrev cX2_beProduct : ByteArray := prog_4_method_8_code
def yX2_beProduct : MethodName := ⟨RX2, "beProduct", "()V"⟩
abbrev cX2_encode : ByteArray := prog_4_method_9_code
def yX2_encode : MethodName := ⟨RX2, "encode", "()Z"⟩
abbrev cX2_matches : ByteArray := prog_4_method_10_code
def yX2_matches : MethodName := ⟨RX2, "matches", "(I)Z"⟩
abbrev cX2_sizeFits : ByteArray := prog_4_method_11_code
def yX2_sizeFits : MethodName := ⟨RX2, "sizeFits", "(I)Z"⟩
abbrev cX2_numberFits : ByteArray := prog_4_method_12_code
def yX2_numberFits : MethodName := ⟨RX2, "numberFits", "(I)Z"⟩
abbrev cX2_emit : ByteArray := prog_4_method_13_code
def yX2_emit : MethodName := ⟨RX2, "emit", "(I)V"⟩
abbrev cX2_emitPrefix : ByteArray := prog_4_method_14_code
def yX2_emitPrefix : MethodName := ⟨RX2, "emitPrefix", "(I)V"⟩
abbrev cX2_sizeOfM : ByteArray := prog_4_method_15_code
def yX2_sizeOfM : MethodName := ⟨RX2, "sizeOfM", "()I"⟩
abbrev cX2_emitForm : ByteArray := prog_4_method_16_code
def yX2_emitForm : MethodName := ⟨RX2, "emitForm", "(II)V"⟩
abbrev cX2_put : ByteArray := prog_4_method_17_code
def yX2_put : MethodName := ⟨RX2, "put", "(I)V"⟩
abbrev cX2_putNumber : ByteArray := prog_4_method_18_code
def yX2_putNumber : MethodName := ⟨RX2, "putNumbe\x72", "(JI)V"⟩
abbrev cX2_decode : ByteArray := prog_4_method_19_code
def yX2_decode : MethodName := ⟨RX2, "decode", "([BI)V"⟩
abbrev cX2_next : ByteArray := prog_4_method_20_code
def yX2_next : MethodName := ⟨RX2, "next", "([BI)I"⟩
abbrev cX2_decodeOperands : ByteArray := prog_4_method_21_code
def yX2_decodeOperands : MethodName := ⟨RX2, "decodeOperands", "([BIIII)V"⟩
abbrev cX2_decodeForm : ByteArray := prog_4_method_22_code
def yX2_decodeForm : MethodName := ⟨RX2, "decodeForm", "([BIIII)V"⟩
abbrev cX2_nextNumber : ByteArray := prog_4_method_23_code
def yX2_nextNumber : MethodName := ⟨RX2, "nextNumbe\x72", "([BII)J"⟩
def RX3 : String := "NativeWorks$Line"
def TX3 : u_T := fun k => match k with
  | 0 => ("NativeWorks$Line", "text", "[B", true)
  | 1 => ("NativeWorks$Line", "words", "LNativeWorks$Names;", true)
  | 2 => ("NativeWorks$Line", "kind", "[I", true)
  | 3 => ("NativeWorks$Line", "value", "[J", true)
  | 4 => ("NativeWorks$Line", "from", "[I", true)
  | 5 => ("NativeWorks$Line", "to", "[I", true)
  | 6 => ("NativeWorks$Line", "length", "I", false)
  | 7 => ("NativeWorks$Line", "count", "I", false)
  | 8 => ("NativeWorks$Line", "at", "I", false)
  | _ => ("NativeWorks$Line", "worst", "I", false)
def tyX3 : Nat → FieldType := fun k => match k with
  | 0 => .array .byte
  | 1 => .object "NativeWorks$Names"
  | 2 => .array .int
  | 3 => .array .long
  | 4 => .array .int
  | 5 => .array .int
  | 6 => .int
  | 7 => .int
  | 8 => .int
  | _ => .int
theorem nmX3 : ∀ a, a < 10 → ∀ b, b < 10 → a ≠ b → (TX3 a).2.1 ≠ (TX3 b).2.1 := by decide +kernel
theorem tyX3_ok : ∀ k, k < 10 → parseFieldDescriptor (TX3 k).2.2.1 = some (tyX3 k) := by decide +kernel
abbrev cX3_init : ByteArray := prog_5_method_1_code
def yX3_init : MethodName := ⟨RX3, "<init>", "()V"⟩
abbrev cX3_teach : ByteArray := prog_5_method_2_code
def yX3_teach : MethodName := ⟨RX3, "teach", "(Ljava/lang/String;)V"⟩
abbrev cX3_blame : ByteArray := prog_5_method_3_code
def yX3_blame : MethodName := ⟨RX3, "blame", "(I)V"⟩
abbrev cX3_blamed : ByteArray := prog_5_method_4_code
def yX3_blamed : MethodName := ⟨RX3, "blamed", "(I)Z"⟩
abbrev cX3_faultKind : ByteArray := prog_5_method_5_code
def yX3_faultKind : MethodName := ⟨RX3, "faultKind", "()I"⟩
abbrev cX3_inName : ByteArray := prog_5_method_6_code
def yX3_inName : MethodName := ⟨RX3, "inName", "(I)Z"⟩
abbrev cX3_isDigit : ByteArray := prog_5_method_7_code
def yX3_isDigit : MethodName := ⟨RX3, "isDigit", "(I)Z"⟩
abbrev cX3_letter : ByteArray := prog_5_method_8_code
def yX3_letter : MethodName := ⟨RX3, "lette\x72", "(I)I"⟩
abbrev cX3_isRegister : ByteArray := prog_5_method_9_code
def yX3_isRegister : MethodName := ⟨RX3, "isRegiste\x72", "(I)Z"⟩
abbrev cX3_isWord : ByteArray := prog_5_method_10_code
def yX3_isWord : MethodName := ⟨RX3, "isWord", "(I)Z"⟩
abbrev cX3_isMark : ByteArray := prog_5_method_11_code
def yX3_isMark : MethodName := ⟨RX3, "isMark", "(II)Z"⟩
abbrev cX3_cut : ByteArray := prog_5_method_12_code
def yX3_cut : MethodName := ⟨RX3, "cut", "()Z"⟩
abbrev cX3_name : ByteArray := prog_5_method_13_code
def yX3_name : MethodName := ⟨RX3, "name", "(I)I"⟩
abbrev cX3_number : ByteArray := prog_5_method_14_code
def yX3_number : MethodName := ⟨RX3, "numbe\x72", "(I)I"⟩
abbrev cX3_digit : ByteArray := prog_5_method_15_code
def yX3_digit : MethodName := ⟨RX3, "digit", "(I)I"⟩
abbrev cX3_overflows : ByteArray := prog_5_method_16_code
def yX3_overflows : MethodName := ⟨RX3, "overflows", "(JII)Z"⟩
abbrev cX3_character : ByteArray := prog_5_method_17_code
def yX3_character : MethodName := ⟨RX3, "characte\x72", "(I)I"⟩
abbrev cX3_isCharacter : ByteArray := prog_5_method_18_code
def yX3_isCharacter : MethodName := ⟨RX3, "isCharacte\x72", "(I)Z"⟩
abbrev cX3_meant : ByteArray := prog_5_method_19_code
def yX3_meant : MethodName := ⟨RX3, "meant", "(I)I"⟩
abbrev cX3_quoted : ByteArray := prog_5_method_20_code
def yX3_quoted : MethodName := ⟨RX3, "quoted", "(I)I"⟩
abbrev cX3_sign : ByteArray := prog_5_method_21_code
def yX3_sign : MethodName := ⟨RX3, "sign", "(I)I"⟩
def RX4 : String := "NativeWorks$Linke\x72"
def TX4 : u_T := fun k => match k with
  | 0 => ("NativeWorks$Linke\x72", "units", "LNativeWorks$Units;", true)
  | 1 => ("NativeWorks$Linke\x72", "taken", "[Z", true)
  | 2 => ("NativeWorks$Linke\x72", "needed", "[Z", true)
  | 3 => ("NativeWorks$Linke\x72", "places", "[I", true)
  | 4 => ("NativeWorks$Linke\x72", "stands", "[I", true)
  | 5 => ("NativeWorks$Linke\x72", "from", "[I", true)
  | 6 => ("NativeWorks$Linke\x72", "to", "[I", true)
  | 7 => ("NativeWorks$Linke\x72", "bytes", "[B", true)
  | 8 => ("NativeWorks$Linke\x72", "origins", "[I", true)
  | 9 => ("NativeWorks$Linke\x72", "names", "LNativeWorks$Names;", true)
  | 10 => ("NativeWorks$Linke\x72", "addresses", "[J", true)
  | 11 => ("NativeWorks$Linke\x72", "made", "Z", false)
  | 12 => ("NativeWorks$Linke\x72", "start", "I", false)
  | 13 => ("NativeWorks$Linke\x72", "length", "I", false)
  | 14 => ("NativeWorks$Linke\x72", "end", "I", false)
  | 15 => ("NativeWorks$Linke\x72", "faultKind", "I", false)
  | 16 => ("NativeWorks$Linke\x72", "faultLine", "I", false)
  | _ => ("NativeWorks$Linke\x72", "faultUnit", "I", false)
def tyX4 : Nat → FieldType := fun k => match k with
  | 0 => .object "NativeWorks$Units"
  | 1 => .array .boolean
  | 2 => .array .boolean
  | 3 => .array .int
  | 4 => .array .int
  | 5 => .array .int
  | 6 => .array .int
  | 7 => .array .byte
  | 8 => .array .int
  | 9 => .object "NativeWorks$Names"
  | 10 => .array .long
  | 11 => .boolean
  | 12 => .int
  | 13 => .int
  | 14 => .int
  | 15 => .int
  | 16 => .int
  | _ => .int
theorem nmX4 : ∀ a, a < 18 → ∀ b, b < 18 → a ≠ b → (TX4 a).2.1 ≠ (TX4 b).2.1 := by decide +kernel
theorem tyX4_ok : ∀ k, k < 18 → parseFieldDescriptor (TX4 k).2.2.1 = some (tyX4 k) := by decide +kernel
abbrev cX4_init : ByteArray := prog_6_method_1_code
def yX4_init : MethodName := ⟨RX4, "<init>", "(LNativeWorks$Units;)V"⟩
abbrev cX4_make : ByteArray := prog_6_method_2_code
def yX4_make : MethodName := ⟨RX4, "make", "()Z"⟩
abbrev cX4_tell : ByteArray := prog_6_method_3_code
def yX4_tell : MethodName := ⟨RX4, "tell", "(III)V"⟩
abbrev cX4_hasFlags : ByteArray := prog_6_method_4_code
def yX4_hasFlags : MethodName := ⟨RX4, "hasFlags", "(III)Z"⟩
abbrev cX4_isTaken : ByteArray := prog_6_method_5_code
def yX4_isTaken : MethodName := ⟨RX4, "isTaken", "(I)Z"⟩
abbrev cX4_isGlobal : ByteArray := prog_6_method_6_code
def yX4_isGlobal : MethodName := ⟨RX4, "isGlobal", "(I)Z"⟩
abbrev cX4_isWeakLabel : ByteArray := prog_6_method_7_code
def yX4_isWeakLabel : MethodName := ⟨RX4, "isWeakLabel", "(I)Z"⟩
abbrev cX4_older : ByteArray := prog_6_method_8_code
def yX4_older : MethodName := ⟨RX4, "olde\x72", "(II)I"⟩
abbrev cX4_takeUnits : ByteArray := prog_6_method_9_code
def yX4_takeUnits : MethodName := ⟨RX4, "takeUnits", "()V"⟩
abbrev cX4_isWanted : ByteArray := prog_6_method_10_code
def yX4_isWanted : MethodName := ⟨RX4, "isWanted", "(I)Z"⟩
abbrev cX4_isMissed : ByteArray := prog_6_method_11_code
def yX4_isMissed : MethodName := ⟨RX4, "isMissed", "(I)Z"⟩
abbrev cX4_winner : ByteArray := prog_6_method_12_code
def yX4_winner : MethodName := ⟨RX4, "winne\x72", "(I)I"⟩
abbrev cX4_hasDoubles : ByteArray := prog_6_method_13_code
def yX4_hasDoubles : MethodName := ⟨RX4, "hasDoubles", "()Z"⟩
abbrev cX4_resolve : ByteArray := prog_6_method_14_code
def yX4_resolve : MethodName := ⟨RX4, "resolve", "()V"⟩
abbrev cX4_sectionOf : ByteArray := prog_6_method_15_code
def yX4_sectionOf : MethodName := ⟨RX4, "sectionOf", "(I)I"⟩
abbrev cX4_addressOf : ByteArray := prog_6_method_16_code
def yX4_addressOf : MethodName := ⟨RX4, "addressOf", "(I)I"⟩
abbrev cX4_findNeeded : ByteArray := prog_6_method_17_code
def yX4_findNeeded : MethodName := ⟨RX4, "findNeeded", "(I)V"⟩
abbrev cX4_awakens : ByteArray := prog_6_method_18_code
def yX4_awakens : MethodName := ⟨RX4, "awakens", "(I[I)Z"⟩
abbrev cX4_up : ByteArray := prog_6_method_19_code
def yX4_up : MethodName := ⟨RX4, "up", "(II)I"⟩
abbrev cX4_placeSections : ByteArray := prog_6_method_20_code
def yX4_placeSections : MethodName := ⟨RX4, "placeSections", "(II)I"⟩
abbrev cX4_hasBadWait : ByteArray := prog_6_method_21_code
def yX4_hasBadWait : MethodName := ⟨RX4, "hasBadWait", "()Z"⟩
abbrev cX4_valueOf : ByteArray := prog_6_method_22_code
def yX4_valueOf : MethodName := ⟨RX4, "valueOf", "(II)J"⟩
abbrev cX4_write : ByteArray := prog_6_method_23_code
def yX4_write : MethodName := ⟨RX4, "write", "()V"⟩
abbrev cX4_writeWait : ByteArray := prog_6_method_24_code
def yX4_writeWait : MethodName := ⟨RX4, "writeWait", "(II)V"⟩
abbrev cX4_writeNames : ByteArray := prog_6_method_25_code
def yX4_writeNames : MethodName := ⟨RX4, "writeNames", "()V"⟩
def RX5 : String := "NativeWorks$Machine"
def TX5 : u_T := fun k => match k with
  | 0 => ("NativeWorks$Machine", "memory", "LNativeWorks$Memory;", true)
  | 1 => ("NativeWorks$Machine", "it", "LNativeWorks$Instruction;", true)
  | 2 => ("NativeWorks$Machine", "\x72", "[J", true)
  | 3 => ("NativeWorks$Machine", "input", "[B", true)
  | 4 => ("NativeWorks$Machine", "output", "[B", true)
  | 5 => ("NativeWorks$Machine", "stops", "[J", true)
  | 6 => ("NativeWorks$Machine", "ip", "J", false)
  | 7 => ("NativeWorks$Machine", "flags", "I", false)
  | 8 => ("NativeWorks$Machine", "waiting", "I", false)
  | 9 => ("NativeWorks$Machine", "written", "I", false)
  | 10 => ("NativeWorks$Machine", "stopCount", "I", false)
  | 11 => ("NativeWorks$Machine", "stop", "I", false)
  | 12 => ("NativeWorks$Machine", "stopValue", "J", false)
  | 13 => ("NativeWorks$Machine", "steps", "I", false)
  | 14 => ("NativeWorks$Machine", "next", "J", false)
  | 15 => ("NativeWorks$Machine", "place", "J", false)
  | _ => ("NativeWorks$Machine", "rest", "J", false)
def tyX5 : Nat → FieldType := fun k => match k with
  | 0 => .object "NativeWorks$Memory"
  | 1 => .object "NativeWorks$Instruction"
  | 2 => .array .long
  | 3 => .array .byte
  | 4 => .array .byte
  | 5 => .array .long
  | 6 => .long
  | 7 => .int
  | 8 => .int
  | 9 => .int
  | 10 => .int
  | 11 => .int
  | 12 => .long
  | 13 => .int
  | 14 => .long
  | 15 => .long
  | _ => .long
theorem nmX5 : ∀ a, a < 17 → ∀ b, b < 17 → a ≠ b → (TX5 a).2.1 ≠ (TX5 b).2.1 := by decide +kernel
theorem tyX5_ok : ∀ k, k < 17 → parseFieldDescriptor (TX5 k).2.2.1 = some (tyX5 k) := by decide +kernel
abbrev cX5_init : ByteArray := prog_7_method_1_code
def yX5_init : MethodName := ⟨RX5, "<init>", "()V"⟩
abbrev cX5_boot : ByteArray := prog_7_method_2_code
def yX5_boot : MethodName := ⟨RX5, "boot", "(LNativeWorks$Linker;)V"⟩
abbrev cX5_told : ByteArray := prog_7_method_3_code
def yX5_told : MethodName := ⟨RX5, "told", "()I"⟩
abbrev cX5_take : ByteArray := prog_7_method_4_code
def yX5_take : MethodName := ⟨RX5, "take", "([BI)I"⟩
abbrev cX5_stopPlace : ByteArray := prog_7_method_5_code
def yX5_stopPlace : MethodName := ⟨RX5, "stopPlace", "(J)I"⟩
abbrev cX5_addPlace : ByteArray := prog_7_method_6_code
def yX5_addPlace : MethodName := ⟨RX5, "addPlace", "(J)Z"⟩
abbrev cX5_dropPlace : ByteArray := prog_7_method_7_code
def yX5_dropPlace : MethodName := ⟨RX5, "dropPlace", "(J)Z"⟩
abbrev cX5_go : ByteArray := prog_7_method_8_code
def yX5_go : MethodName := ⟨RX5, "go", "(I)I"⟩
abbrev cX5_halt : ByteArray := prog_7_method_9_code
def yX5_halt : MethodName := ⟨RX5, "halt", "(IJ)V"⟩
abbrev cX5_step : ByteArray := prog_7_method_10_code
def yX5_step : MethodName := ⟨RX5, "step", "()V"⟩
abbrev cX5_address : ByteArray := prog_7_method_11_code
def yX5_address : MethodName := ⟨RX5, "address", "()J"⟩
abbrev cX5_execute : ByteArray := prog_7_method_12_code
def yX5_execute : MethodName := ⟨RX5, "execute", "()V"⟩
abbrev cX5_mask : ByteArray := prog_7_method_13_code
def yX5_mask : MethodName := ⟨RX5, "mask", "(I)J"⟩
abbrev cX5_top : ByteArray := prog_7_method_14_code
def yX5_top : MethodName := ⟨RX5, "top", "(I)J"⟩
abbrev cX5_signed : ByteArray := prog_7_method_15_code
def yX5_signed : MethodName := ⟨RX5, "signed", "(JI)J"⟩
abbrev cX5_value : ByteArray := prog_7_method_16_code
def yX5_value : MethodName := ⟨RX5, "value", "(II)J"⟩
abbrev cX5_fetched : ByteArray := prog_7_method_17_code
def yX5_fetched : MethodName := ⟨RX5, "fetched", "(JI)J"⟩
abbrev cX5_put : ByteArray := prog_7_method_18_code
def yX5_put : MethodName := ⟨RX5, "put", "(IIJ)Z"⟩
abbrev cX5_store : ByteArray := prog_7_method_19_code
def yX5_store : MethodName := ⟨RX5, "store", "(JIJ)Z"⟩
abbrev cX5_change : ByteArray := prog_7_method_20_code
def yX5_change : MethodName := ⟨RX5, "change", "(IIJ)V"⟩
abbrev cX5_flag : ByteArray := prog_7_method_21_code
def yX5_flag : MethodName := ⟨RX5, "flag", "(IZ)V"⟩
abbrev cX5_has : ByteArray := prog_7_method_22_code
def yX5_has : MethodName := ⟨RX5, "has", "(I)Z"⟩
abbrev cX5_setResult : ByteArray := prog_7_method_23_code
def yX5_setResult : MethodName := ⟨RX5, "setResult", "(JI)V"⟩
abbrev cX5_setSum : ByteArray := prog_7_method_24_code
def yX5_setSum : MethodName := ⟨RX5, "setSum", "(JJJI)V"⟩
abbrev cX5_setDifference : ByteArray := prog_7_method_25_code
def yX5_setDifference : MethodName := ⟨RX5, "setDifference", "(JJJI)V"⟩
abbrev cX5_setSpill : ByteArray := prog_7_method_26_code
def yX5_setSpill : MethodName := ⟨RX5, "setSpill", "(Z)V"⟩
abbrev cX5_arithmetic : ByteArray := prog_7_method_27_code
def yX5_arithmetic : MethodName := ⟨RX5, "arithmetic", "(I)V"⟩
abbrev cX5_move : ByteArray := prog_7_method_28_code
def yX5_move : MethodName := ⟨RX5, "move", "(I)V"⟩
abbrev cX5_single : ByteArray := prog_7_method_29_code
def yX5_single : MethodName := ⟨RX5, "single", "(I)V"⟩
abbrev cX5_multiply : ByteArray := prog_7_method_30_code
def yX5_multiply : MethodName := ⟨RX5, "multiply", "(JIZ)V"⟩
abbrev cX5_high : ByteArray := prog_7_method_31_code
def yX5_high : MethodName := ⟨RX5, "high", "(JJZ)J"⟩
abbrev cX5_product : ByteArray := prog_7_method_32_code
def yX5_product : MethodName := ⟨RX5, "product", "()V"⟩
abbrev cX5_divide : ByteArray := prog_7_method_33_code
def yX5_divide : MethodName := ⟨RX5, "divide", "(JIZ)V"⟩
abbrev cX5_below : ByteArray := prog_7_method_34_code
def yX5_below : MethodName := ⟨RX5, "below", "(JJ)Z"⟩
abbrev cX5_quotient : ByteArray := prog_7_method_35_code
def yX5_quotient : MethodName := ⟨RX5, "quotient", "(JJJ)J"⟩
abbrev cX5_shift : ByteArray := prog_7_method_36_code
def yX5_shift : MethodName := ⟨RX5, "shift", "(I)V"⟩
abbrev cX5_push : ByteArray := prog_7_method_37_code
def yX5_push : MethodName := ⟨RX5, "push", "(J)Z"⟩
abbrev cX5_pushOrPop : ByteArray := prog_7_method_38_code
def yX5_pushOrPop : MethodName := ⟨RX5, "pushOrPop", "(I)V"⟩
abbrev cX5_holds : ByteArray := prog_7_method_39_code
def yX5_holds : MethodName := ⟨RX5, "holds", "()Z"⟩
abbrev cX5_flow : ByteArray := prog_7_method_40_code
def yX5_flow : MethodName := ⟨RX5, "flow", "(I)V"⟩
abbrev cX5_plain : ByteArray := prog_7_method_41_code
def yX5_plain : MethodName := ⟨RX5, "plain", "(I)V"⟩
abbrev cX5_serve : ByteArray := prog_7_method_42_code
def yX5_serve : MethodName := ⟨RX5, "serve", "()V"⟩
abbrev cX5_readInput : ByteArray := prog_7_method_43_code
def yX5_readInput : MethodName := ⟨RX5, "readInput", "()J"⟩
abbrev cX5_writeOutput : ByteArray := prog_7_method_44_code
def yX5_writeOutput : MethodName := ⟨RX5, "writeOutput", "()J"⟩
abbrev cX5_bits : ByteArray := prog_7_method_45_code
def yX5_bits : MethodName := ⟨RX5, "bits", "(I)V"⟩
abbrev cX5_lowest : ByteArray := prog_7_method_46_code
def yX5_lowest : MethodName := ⟨RX5, "lowest", "(J)I"⟩
abbrev cX5_highest : ByteArray := prog_7_method_47_code
def yX5_highest : MethodName := ⟨RX5, "highest", "(J)I"⟩
abbrev cX5_reversed : ByteArray := prog_7_method_48_code
def yX5_reversed : MethodName := ⟨RX5, "reversed", "(JI)J"⟩
abbrev cX5_copyOrFill : ByteArray := prog_7_method_49_code
def yX5_copyOrFill : MethodName := ⟨RX5, "copyOrFill", "(I)V"⟩
def RX6 : String := "NativeWorks$Memory"
def TX6 : u_T := fun k => match k with
  | 0 => ("NativeWorks$Memory", "low", "[B", true)
  | 1 => ("NativeWorks$Memory", "stack", "[B", true)
  | 2 => ("NativeWorks$Memory", "begins", "[Z", true)
  | 3 => ("NativeWorks$Memory", "loaded", "Z", false)
  | 4 => ("NativeWorks$Memory", "textFrom", "J", false)
  | 5 => ("NativeWorks$Memory", "textTo", "J", false)
  | 6 => ("NativeWorks$Memory", "rodataFrom", "J", false)
  | 7 => ("NativeWorks$Memory", "rodataTo", "J", false)
  | 8 => ("NativeWorks$Memory", "dataFrom", "J", false)
  | 9 => ("NativeWorks$Memory", "dataTo", "J", false)
  | 10 => ("NativeWorks$Memory", "heap", "J", false)
  | _ => ("NativeWorks$Memory", "end", "J", false)
def tyX6 : Nat → FieldType := fun k => match k with
  | 0 => .array .byte
  | 1 => .array .byte
  | 2 => .array .boolean
  | 3 => .boolean
  | 4 => .long
  | 5 => .long
  | 6 => .long
  | 7 => .long
  | 8 => .long
  | 9 => .long
  | 10 => .long
  | _ => .long
theorem nmX6 : ∀ a, a < 12 → ∀ b, b < 12 → a ≠ b → (TX6 a).2.1 ≠ (TX6 b).2.1 := by decide +kernel
theorem tyX6_ok : ∀ k, k < 12 → parseFieldDescriptor (TX6 k).2.2.1 = some (tyX6 k) := by decide +kernel
abbrev cX6_init : ByteArray := prog_8_method_1_code
def yX6_init : MethodName := ⟨RX6, "<init>", "()V"⟩
abbrev cX6_fill : ByteArray := prog_8_method_2_code
def yX6_fill : MethodName := ⟨RX6, "fill", "(LNativeWorks$Linker;)V"⟩
abbrev cX6_codeAt : ByteArray := prog_8_method_3_code
def yX6_codeAt : MethodName := ⟨RX6, "codeAt", "(J)I"⟩
abbrev cX6_may : ByteArray := prog_8_method_4_code
def yX6_may : MethodName := ⟨RX6, "may", "(JJZ)Z"⟩
abbrev cX6_number : ByteArray := prog_8_method_5_code
def yX6_number : MethodName := ⟨RX6, "numbe\x72", "(JI)J"⟩
abbrev cX6_change : ByteArray := prog_8_method_6_code
def yX6_change : MethodName := ⟨RX6, "change", "(JIJ)V"⟩
abbrev cX6_moveEnd : ByteArray := prog_8_method_7_code
def yX6_moveEnd : MethodName := ⟨RX6, "moveEnd", "(J)V"⟩
def RX7 : String := "NativeWorks$Names"
def TX7 : u_T := fun k => match k with
  | 0 => ("NativeWorks$Names", "letters", "[B", true)
  | 1 => ("NativeWorks$Names", "from", "[I", true)
  | 2 => ("NativeWorks$Names", "olde\x72", "[I", true)
  | 3 => ("NativeWorks$Names", "slot", "[I", true)
  | 4 => ("NativeWorks$Names", "newest", "[I", true)
  | _ => ("NativeWorks$Names", "count", "I", false)
def tyX7 : Nat → FieldType := fun k => match k with
  | 0 => .array .byte
  | 1 => .array .int
  | 2 => .array .int
  | 3 => .array .int
  | 4 => .array .int
  | _ => .int
theorem nmX7 : ∀ a, a < 6 → ∀ b, b < 6 → a ≠ b → (TX7 a).2.1 ≠ (TX7 b).2.1 := by decide +kernel
theorem tyX7_ok : ∀ k, k < 6 → parseFieldDescriptor (TX7 k).2.2.1 = some (tyX7 k) := by decide +kernel
abbrev cX7_init : ByteArray := prog_9_method_1_code
def yX7_init : MethodName := ⟨RX7, "<init>", "(II)V"⟩
abbrev cX7_find : ByteArray := prog_9_method_2_code
def yX7_find : MethodName := ⟨RX7, "find", "([BIII)I"⟩
abbrev cX7_add : ByteArray := prog_9_method_3_code
def yX7_add : MethodName := ⟨RX7, "add", "([BII)I"⟩
abbrev cX7_cut : ByteArray := prog_9_method_4_code
def yX7_cut : MethodName := ⟨RX7, "cut", "(I)V"⟩
def RX8 : String := "NativeWorks$Reade\x72"
def TX8 : u_T := fun k => match k with
  | 0 => ("NativeWorks$Reade\x72", "source", "LNativeWorks$Source;", true)
  | 1 => ("NativeWorks$Reade\x72", "line", "LNativeWorks$Line;", true)
  | 2 => ("NativeWorks$Reade\x72", "depth", "I", false)
  | 3 => ("NativeWorks$Reade\x72", "first", "[I", true)
  | 4 => ("NativeWorks$Reade\x72", "end", "[I", true)
  | 5 => ("NativeWorks$Reade\x72", "next", "[I", true)
  | 6 => ("NativeWorks$Reade\x72", "left", "[I", true)
  | 7 => ("NativeWorks$Reade\x72", "make\x72", "[I", true)
  | 8 => ("NativeWorks$Reade\x72", "ifsBelow", "[I", true)
  | 9 => ("NativeWorks$Reade\x72", "macro", "[I", true)
  | 10 => ("NativeWorks$Reade\x72", "made", "[I", true)
  | 11 => ("NativeWorks$Reade\x72", "arguments", "[B", true)
  | 12 => ("NativeWorks$Reade\x72", "argumentFrom", "[I", true)
  | 13 => ("NativeWorks$Reade\x72", "argumentTo", "[I", true)
  | 14 => ("NativeWorks$Reade\x72", "elseRead", "[Z", true)
  | 15 => ("NativeWorks$Reade\x72", "ifs", "I", false)
  | 16 => ("NativeWorks$Reade\x72", "told", "I", false)
  | 17 => ("NativeWorks$Reade\x72", "read", "I", false)
  | 18 => ("NativeWorks$Reade\x72", "used", "I", false)
  | _ => ("NativeWorks$Reade\x72", "unended", "Z", false)
def tyX8 : Nat → FieldType := fun k => match k with
  | 0 => .object "NativeWorks$Source"
  | 1 => .object "NativeWorks$Line"
  | 2 => .int
  | 3 => .array .int
  | 4 => .array .int
  | 5 => .array .int
  | 6 => .array .int
  | 7 => .array .int
  | 8 => .array .int
  | 9 => .array .int
  | 10 => .array .int
  | 11 => .array .byte
  | 12 => .array .int
  | 13 => .array .int
  | 14 => .array .boolean
  | 15 => .int
  | 16 => .int
  | 17 => .int
  | 18 => .int
  | _ => .boolean
theorem nmX8 : ∀ a, a < 20 → ∀ b, b < 20 → a ≠ b → (TX8 a).2.1 ≠ (TX8 b).2.1 := by decide +kernel
theorem tyX8_ok : ∀ k, k < 20 → parseFieldDescriptor (TX8 k).2.2.1 = some (tyX8 k) := by decide +kernel
abbrev cX8_init : ByteArray := prog_10_method_1_code
def yX8_init : MethodName := ⟨RX8, "<init>", "(LNativeWorks$Source;LNativeWorks$Line;)V"⟩
abbrev cX8_open : ByteArray := prog_10_method_2_code
def yX8_open : MethodName := ⟨RX8, "open", "(I)V"⟩
abbrev cX8_advance : ByteArray := prog_10_method_3_code
def yX8_advance : MethodName := ⟨RX8, "advance", "()Z"⟩
abbrev cX8_bring : ByteArray := prog_10_method_4_code
def yX8_bring : MethodName := ⟨RX8, "bring", "(I)V"⟩
abbrev cX8_replace : ByteArray := prog_10_method_5_code
def yX8_replace : MethodName := ⟨RX8, "replace", "(III)V"⟩
abbrev cX8_append : ByteArray := prog_10_method_6_code
def yX8_append : MethodName := ⟨RX8, "append", "(B)V"⟩
abbrev cX8_appendNumber : ByteArray := prog_10_method_7_code
def yX8_appendNumber : MethodName := ⟨RX8, "appendNumbe\x72", "(I)V"⟩
abbrev cX8_appendArgument : ByteArray := prog_10_method_8_code
def yX8_appendArgument : MethodName := ⟨RX8, "appendArgument", "(II)V"⟩
abbrev cX8_current : ByteArray := prog_10_method_9_code
def yX8_current : MethodName := ⟨RX8, "current", "()I"⟩
abbrev cX8_tooMuch : ByteArray := prog_10_method_10_code
def yX8_tooMuch : MethodName := ⟨RX8, "tooMuch", "()Z"⟩
abbrev cX8_full : ByteArray := prog_10_method_11_code
def yX8_full : MethodName := ⟨RX8, "full", "()Z"⟩
abbrev cX8_misplaced : ByteArray := prog_10_method_12_code
def yX8_misplaced : MethodName := ⟨RX8, "misplaced", "(I)Z"⟩
abbrev cX8_readIf : ByteArray := prog_10_method_13_code
def yX8_readIf : MethodName := ⟨RX8, "readIf", "(Z)V"⟩
abbrev cX8_openIf : ByteArray := prog_10_method_14_code
def yX8_openIf : MethodName := ⟨RX8, "openIf", "(Z)V"⟩
abbrev cX8_readElse : ByteArray := prog_10_method_15_code
def yX8_readElse : MethodName := ⟨RX8, "readElse", "()V"⟩
abbrev cX8_readEndif : ByteArray := prog_10_method_16_code
def yX8_readEndif : MethodName := ⟨RX8, "readEndif", "()V"⟩
abbrev cX8_goBehind : ByteArray := prog_10_method_17_code
def yX8_goBehind : MethodName := ⟨RX8, "goBehind", "(I)Z"⟩
abbrev cX8_readRept : ByteArray := prog_10_method_18_code
def yX8_readRept : MethodName := ⟨RX8, "readRept", "(I)V"⟩
abbrev cX8_readMacro : ByteArray := prog_10_method_19_code
def yX8_readMacro : MethodName := ⟨RX8, "readMacro", "(I)V"⟩
abbrev cX8_overused : ByteArray := prog_10_method_20_code
def yX8_overused : MethodName := ⟨RX8, "overused", "(II)Z"⟩
abbrev cX8_use : ByteArray := prog_10_method_21_code
def yX8_use : MethodName := ⟨RX8, "use", "(I)V"⟩
abbrev cX8_push : ByteArray := prog_10_method_22_code
def yX8_push : MethodName := ⟨RX8, "push", "(IIII)V"⟩
abbrev cX8_split : ByteArray := prog_10_method_23_code
def yX8_split : MethodName := ⟨RX8, "split", "(III)I"⟩
def RX9 : String := "NativeWorks$Source"
def TX9 : u_T := fun k => match k with
  | 0 => ("NativeWorks$Source", "bytes", "[B", true)
  | 1 => ("NativeWorks$Source", "words", "LNativeWorks$Names;", true)
  | 2 => ("NativeWorks$Source", "lineAt", "[I", true)
  | 3 => ("NativeWorks$Source", "sorts", "[B", true)
  | 4 => ("NativeWorks$Source", "ifEnds", "[I", true)
  | 5 => ("NativeWorks$Source", "elses", "[I", true)
  | 6 => ("NativeWorks$Source", "reptEnds", "[I", true)
  | 7 => ("NativeWorks$Source", "macros", "LNativeWorks$Names;", true)
  | 8 => ("NativeWorks$Source", "bodyFrom", "[I", true)
  | 9 => ("NativeWorks$Source", "bodyTo", "[I", true)
  | 10 => ("NativeWorks$Source", "firstParamete\x72", "[I", true)
  | 11 => ("NativeWorks$Source", "parameterFrom", "[I", true)
  | 12 => ("NativeWorks$Source", "parameterTo", "[I", true)
  | _ => ("NativeWorks$Source", "lines", "I", false)
def tyX9 : Nat → FieldType := fun k => match k with
  | 0 => .array .byte
  | 1 => .object "NativeWorks$Names"
  | 2 => .array .int
  | 3 => .array .byte
  | 4 => .array .int
  | 5 => .array .int
  | 6 => .array .int
  | 7 => .object "NativeWorks$Names"
  | 8 => .array .int
  | 9 => .array .int
  | 10 => .array .int
  | 11 => .array .int
  | 12 => .array .int
  | _ => .int
theorem nmX9 : ∀ a, a < 14 → ∀ b, b < 14 → a ≠ b → (TX9 a).2.1 ≠ (TX9 b).2.1 := by decide +kernel
theorem tyX9_ok : ∀ k, k < 14 → parseFieldDescriptor (TX9 k).2.2.1 = some (tyX9 k) := by decide +kernel
abbrev cX9_init : ByteArray := prog_11_method_1_code
def yX9_init : MethodName := ⟨RX9, "<init>", "([BLNativeWorks$Names;)V"⟩
abbrev cX9_split : ByteArray := prog_11_method_2_code
def yX9_split : MethodName := ⟨RX9, "split", "(I)V"⟩
abbrev cX9_sortOf : ByteArray := prog_11_method_3_code
def yX9_sortOf : MethodName := ⟨RX9, "sortOf", "(I)I"⟩
abbrev cX9_match : ByteArray := prog_11_method_4_code
def yX9_match : MethodName := ⟨RX9, "match", "()V"⟩
abbrev cX9_behind : ByteArray := prog_11_method_5_code
def yX9_behind : MethodName := ⟨RX9, "behind", "([II)I"⟩
abbrev cX9_macroEnd : ByteArray := prog_11_method_6_code
def yX9_macroEnd : MethodName := ⟨RX9, "macroEnd", "(I)I"⟩
abbrev cX9_addMacro : ByteArray := prog_11_method_7_code
def yX9_addMacro : MethodName := ⟨RX9, "addMacro", "(LNativeWorks$Line;II)I"⟩
abbrev cX9_parameterAt : ByteArray := prog_11_method_8_code
def yX9_parameterAt : MethodName := ⟨RX9, "parameterAt", "(III)I"⟩
def RX10 : String := "NativeWorks$Units"
def TX10 : u_T := fun k => match k with
  | 0 => ("NativeWorks$Units", "names", "LNativeWorks$Names;", true)
  | 1 => ("NativeWorks$Units", "symbols", "[[I", true)
  | 2 => ("NativeWorks$Units", "constants", "[J", true)
  | 3 => ("NativeWorks$Units", "labels", "[I", true)
  | 4 => ("NativeWorks$Units", "statements", "[[I", true)
  | 5 => ("NativeWorks$Units", "waits", "[[I", true)
  | 6 => ("NativeWorks$Units", "waitNumbers", "[J", true)
  | 7 => ("NativeWorks$Units", "put", "[B", true)
  | 8 => ("NativeWorks$Units", "bytes", "[B", true)
  | 9 => ("NativeWorks$Units", "rows", "[[I", true)
  | 10 => ("NativeWorks$Units", "ends", "[I", true)
  | 11 => ("NativeWorks$Units", "count", "I", false)
  | 12 => ("NativeWorks$Units", "symbolsFrom", "I", false)
  | 13 => ("NativeWorks$Units", "labelCount", "I", false)
  | 14 => ("NativeWorks$Units", "statementCount", "I", false)
  | 15 => ("NativeWorks$Units", "waitCount", "I", false)
  | 16 => ("NativeWorks$Units", "putCount", "I", false)
  | 17 => ("NativeWorks$Units", "byteCount", "I", false)
  | _ => ("NativeWorks$Units", "counted", "I", false)
def tyX10 : Nat → FieldType := fun k => match k with
  | 0 => .object "NativeWorks$Names"
  | 1 => .array (.array .int)
  | 2 => .array .long
  | 3 => .array .int
  | 4 => .array (.array .int)
  | 5 => .array (.array .int)
  | 6 => .array .long
  | 7 => .array .byte
  | 8 => .array .byte
  | 9 => .array (.array .int)
  | 10 => .array .int
  | 11 => .int
  | 12 => .int
  | 13 => .int
  | 14 => .int
  | 15 => .int
  | 16 => .int
  | 17 => .int
  | _ => .int
theorem nmX10 : ∀ a, a < 19 → ∀ b, b < 19 → a ≠ b → (TX10 a).2.1 ≠ (TX10 b).2.1 := by decide +kernel
theorem tyX10_ok : ∀ k, k < 19 → parseFieldDescriptor (TX10 k).2.2.1 = some (tyX10 k) := by decide +kernel
abbrev cX10_init : ByteArray := prog_12_method_1_code
def yX10_init : MethodName := ⟨RX10, "<init>", "()V"⟩
abbrev cX10_has : ByteArray := prog_12_method_2_code
def yX10_has : MethodName := ⟨RX10, "has", "(II)Z"⟩
abbrev cX10_empty : ByteArray := prog_12_method_3_code
def yX10_empty : MethodName := ⟨RX10, "empty", "()V"⟩
abbrev cX10_begin : ByteArray := prog_12_method_4_code
def yX10_begin : MethodName := ⟨RX10, "begin", "(Z)V"⟩
abbrev cX10_drop : ByteArray := prog_12_method_5_code
def yX10_drop : MethodName := ⟨RX10, "drop", "()V"⟩
abbrev cX10_keepAll : ByteArray := prog_12_method_6_code
def yX10_keepAll : MethodName := ⟨RX10, "keepAll", "()V"⟩
abbrev cX10_beginSymbol : ByteArray := prog_12_method_7_code
def yX10_beginSymbol : MethodName := ⟨RX10, "beginSymbol", "(I)V"⟩
abbrev cX10_beLabel : ByteArray := prog_12_method_8_code
def yX10_beLabel : MethodName := ⟨RX10, "beLabel", "(III)V"⟩
abbrev cX10_putNumber : ByteArray := prog_12_method_9_code
def yX10_putNumber : MethodName := ⟨RX10, "putNumbe\x72", "(JI)V"⟩
abbrev cX10_addWait : ByteArray := prog_12_method_10_code
def yX10_addWait : MethodName := ⟨RX10, "addWait", "(IIZIIJ)Z"⟩
abbrev cX10_add : ByteArray := prog_12_method_11_code
def yX10_add : MethodName := ⟨RX10, "add", "(IIIII)Z"⟩
abbrev cX10_brokenSpan : ByteArray := prog_12_method_12_code
def yX10_brokenSpan : MethodName := ⟨RX10, "brokenSpan", "()I"⟩
abbrev cX10_sectionOf : ByteArray := prog_12_method_13_code
def yX10_sectionOf : MethodName := ⟨RX10, "sectionOf", "(I[I)I"⟩
abbrev cX10_placeOf : ByteArray := prog_12_method_14_code
def yX10_placeOf : MethodName := ⟨RX10, "placeOf", "(I[I)I"⟩
abbrev cX10_layOut : ByteArray := prog_12_method_15_code
def yX10_layOut : MethodName := ⟨RX10, "layOut", "()V"⟩
abbrev cX10_mayBeShort : ByteArray := prog_12_method_16_code
def yX10_mayBeShort : MethodName := ⟨RX10, "mayBeShort", "([I[I)Z"⟩
abbrev cX10_place : ByteArray := prog_12_method_17_code
def yX10_place : MethodName := ⟨RX10, "place", "()V"⟩
abbrev cX10_lengthen : ByteArray := prog_12_method_18_code
def yX10_lengthen : MethodName := ⟨RX10, "lengthen", "()Z"⟩
abbrev cX10_distance : ByteArray := prog_12_method_19_code
def yX10_distance : MethodName := ⟨RX10, "distance", "([I)J"⟩
abbrev cX10_settleWaits : ByteArray := prog_12_method_20_code
def yX10_settleWaits : MethodName := ⟨RX10, "settleWaits", "()V"⟩
abbrev cX10_overlong : ByteArray := prog_12_method_21_code
def yX10_overlong : MethodName := ⟨RX10, "overlong", "()I"⟩
abbrev cX10_write : ByteArray := prog_12_method_22_code
def yX10_write : MethodName := ⟨RX10, "write", "()Z"⟩
abbrev cX10_writeStatement : ByteArray := prog_12_method_23_code
def yX10_writeStatement : MethodName := ⟨RX10, "writeStatement", "([II)V"⟩
def RX11 : String := "NativeWorks"
def TX11 : u_T := fun k => match k with
  | 0 => ("NativeWorks", "tape", "[B", true)
  | 1 => ("NativeWorks", "units", "LNativeWorks$Units;", true)
  | 2 => ("NativeWorks", "assemble\x72", "LNativeWorks$Assembler;", true)
  | 3 => ("NativeWorks", "linke\x72", "LNativeWorks$Linker;", true)
  | 4 => ("NativeWorks", "machine", "LNativeWorks$Machine;", true)
  | 5 => ("NativeWorks", "fed", "I", false)
  | 6 => ("NativeWorks", "faultKind", "I", false)
  | 7 => ("NativeWorks", "faultLine", "I", false)
  | _ => ("NativeWorks", "faultUnit", "I", false)
def tyX11 : Nat → FieldType := fun k => match k with
  | 0 => .array .byte
  | 1 => .object "NativeWorks$Units"
  | 2 => .object "NativeWorks$Assemble\x72"
  | 3 => .object "NativeWorks$Linke\x72"
  | 4 => .object "NativeWorks$Machine"
  | 5 => .int
  | 6 => .int
  | 7 => .int
  | _ => .int
theorem nmX11 : ∀ a, a < 9 → ∀ b, b < 9 → a ≠ b → (TX11 a).2.1 ≠ (TX11 b).2.1 := by decide +kernel
theorem tyX11_ok : ∀ k, k < 9 → parseFieldDescriptor (TX11 k).2.2.1 = some (tyX11 k) := by decide +kernel
abbrev cX11_init : ByteArray := prog_1_method_1_code
def yX11_init : MethodName := ⟨RX11, "<init>", "()V"⟩
abbrev cX11_feed : ByteArray := prog_1_method_2_code
def yX11_feed : MethodName := ⟨RX11, "feed", "(IIIII)I"⟩
abbrev cX11_unit : ByteArray := prog_1_method_3_code
def yX11_unit : MethodName := ⟨RX11, "unit", "(IZ)I"⟩
abbrev cX11_clear : ByteArray := prog_1_method_4_code
def yX11_clear : MethodName := ⟨RX11, "clea\x72", "()V"⟩
abbrev cX11_fault : ByteArray := prog_1_method_5_code
def yX11_fault : MethodName := ⟨RX11, "fault", "(I)I"⟩
abbrev cX11_size : ByteArray := prog_1_method_6_code
def yX11_size : MethodName := ⟨RX11, "size", "(II)I"⟩
abbrev cX11_octet : ByteArray := prog_1_method_7_code
def yX11_octet : MethodName := ⟨RX11, "octet", "(III)I"⟩
abbrev cX11_link : ByteArray := prog_1_method_8_code
def yX11_link : MethodName := ⟨RX11, "link", "()I"⟩
abbrev cX11_symbol : ByteArray := prog_1_method_9_code
def yX11_symbol : MethodName := ⟨RX11, "symbol", "(I)J"⟩
abbrev cX11_load : ByteArray := prog_1_method_10_code
def yX11_load : MethodName := ⟨RX11, "load", "()J"⟩
abbrev cX11_input : ByteArray := prog_1_method_11_code
def yX11_input : MethodName := ⟨RX11, "input", "(I)I"⟩
abbrev cX11_run : ByteArray := prog_1_method_12_code
def yX11_run : MethodName := ⟨RX11, "run", "(I)I"⟩
abbrev cX11_stop : ByteArray := prog_1_method_13_code
def yX11_stop : MethodName := ⟨RX11, "stop", "(I)J"⟩
abbrev cX11_register : ByteArray := prog_1_method_14_code
def yX11_register : MethodName := ⟨RX11, "registe\x72", "(I)J"⟩
abbrev cX11_set : ByteArray := prog_1_method_15_code
def yX11_set : MethodName := ⟨RX11, "set", "(IJ)Z"⟩
abbrev cX11_peek : ByteArray := prog_1_method_16_code
def yX11_peek : MethodName := ⟨RX11, "peek", "(J)I"⟩
abbrev cX11_poke : ByteArray := prog_1_method_17_code
def yX11_poke : MethodName := ⟨RX11, "poke", "(JI)Z"⟩
abbrev cX11_stopAt : ByteArray := prog_1_method_18_code
def yX11_stopAt : MethodName := ⟨RX11, "stopAt", "(JZ)Z"⟩
abbrev cX11_output : ByteArray := prog_1_method_19_code
def yX11_output : MethodName := ⟨RX11, "output", "(I)I"⟩
abbrev cX11_where : ByteArray := prog_1_method_20_code
def yX11_where : MethodName := ⟨RX11, "where", "(J)I"⟩
abbrev cX11_append : ByteArray := prog_1_method_21_code
def yX11_append : MethodName := ⟨RX11, "append", "(I)V"⟩
abbrev cX11_emptied : ByteArray := prog_1_method_22_code
def yX11_emptied : MethodName := ⟨RX11, "emptied", "(I)I"⟩
abbrev cX11_tell : ByteArray := prog_1_method_23_code
def yX11_tell : MethodName := ⟨RX11, "tell", "(III)V"⟩
def RX12 : String := "NativeWorksModel$Code"
def TX12 : u_T := fun k => match k with
  | 0 => ("NativeWorksModel$Code", "many", "I", false)
  | 1 => ("NativeWorksModel$Code", "end", "I", false)
  | 2 => ("NativeWorksModel$Code", "textEnd", "I", false)
  | 3 => ("NativeWorksModel$Code", "rodataBegin", "I", false)
  | 4 => ("NativeWorksModel$Code", "rodataEnd", "I", false)
  | 5 => ("NativeWorksModel$Code", "dataBegin", "I", false)
  | 6 => ("NativeWorksModel$Code", "dataEnd", "I", false)
  | 7 => ("NativeWorksModel$Code", "start", "J", false)
  | 8 => ("NativeWorksModel$Code", "address", "[I", true)
  | 9 => ("NativeWorksModel$Code", "where", "[I", true)
  | 10 => ("NativeWorksModel$Code", "shape", "[J", true)
  | 11 => ("NativeWorksModel$Code", "displacement", "[J", true)
  | _ => ("NativeWorksModel$Code", "numbe\x72", "[J", true)
def tyX12 : Nat → FieldType := fun k => match k with
  | 0 => .int
  | 1 => .int
  | 2 => .int
  | 3 => .int
  | 4 => .int
  | 5 => .int
  | 6 => .int
  | 7 => .long
  | 8 => .array .int
  | 9 => .array .int
  | 10 => .array .long
  | 11 => .array .long
  | _ => .array .long
theorem nmX12 : ∀ a, a < 13 → ∀ b, b < 13 → a ≠ b → (TX12 a).2.1 ≠ (TX12 b).2.1 := by decide +kernel
theorem tyX12_ok : ∀ k, k < 13 → parseFieldDescriptor (TX12 k).2.2.1 = some (tyX12 k) := by decide +kernel
abbrev cX12_init : ByteArray := prog_15_method_1_code
def yX12_init : MethodName := ⟨RX12, "<init>", "()V"⟩
abbrev cX12_copy : ByteArray := prog_15_method_2_code
def yX12_copy : MethodName := ⟨RX12, "copy", "(LNativeWorksModel$Code;)V"⟩
abbrev cX12_at : ByteArray := prog_15_method_3_code
def yX12_at : MethodName := ⟨RX12, "at", "(J)I"⟩
def RX13 : String := "NativeWorksModel"
def TX13 : u_T := fun k => match k with
  | 0 => ("NativeWorksModel", "thrown", "I", false)
  | 1 => ("NativeWorksModel", "tape", "[B", true)
  | 2 => ("NativeWorksModel", "taped", "I", false)
  | 3 => ("NativeWorksModel", "words", "I", false)
  | 4 => ("NativeWorksModel", "registers", "I", false)
  | 5 => ("NativeWorksModel", "wordName", "[J", true)
  | 6 => ("NativeWorksModel", "registerName", "[J", true)
  | 7 => ("NativeWorksModel", "wordCode", "[I", true)
  | 8 => ("NativeWorksModel", "registerCode", "[I", true)
  | 9 => ("NativeWorksModel", "textWord", "J", true)
  | 10 => ("NativeWorksModel", "rodataWord", "J", true)
  | 11 => ("NativeWorksModel", "dataWord", "J", true)
  | 12 => ("NativeWorksModel", "bssWord", "J", true)
  | 13 => ("NativeWorksModel", "byteWord", "J", true)
  | 14 => ("NativeWorksModel", "dwordWord", "J", true)
  | 15 => ("NativeWorksModel", "qwordWord", "J", true)
  | 16 => ("NativeWorksModel", "relWord", "J", true)
  | 17 => ("NativeWorksModel", "equWord", "J", true)
  | 18 => ("NativeWorksModel", "repWord", "J", true)
  | 19 => ("NativeWorksModel", "startWord", "J", true)
  | 20 => ("NativeWorksModel", "units", "I", false)
  | 21 => ("NativeWorksModel", "symbolUnit", "[I", true)
  | 22 => ("NativeWorksModel", "isLibrary", "[Z", true)
  | 23 => ("NativeWorksModel", "firstItem", "[I", true)
  | 24 => ("NativeWorksModel", "firstSymbol", "[I", true)
  | 25 => ("NativeWorksModel", "firstWait", "[I", true)
  | 26 => ("NativeWorksModel", "sectionSize", "[I", true)
  | 27 => ("NativeWorksModel", "kept", "[Z", true)
  | 28 => ("NativeWorksModel", "faultKind", "I", false)
  | 29 => ("NativeWorksModel", "faultLine", "I", false)
  | 30 => ("NativeWorksModel", "faultUnit", "I", false)
  | 31 => ("NativeWorksModel", "symbols", "I", false)
  | 32 => ("NativeWorksModel", "pooled", "I", false)
  | 33 => ("NativeWorksModel", "pool", "[B", true)
  | 34 => ("NativeWorksModel", "nameAt", "[I", true)
  | 35 => ("NativeWorksModel", "nameLength", "[I", true)
  | 36 => ("NativeWorksModel", "nameSum", "[J", true)
  | 37 => ("NativeWorksModel", "labelItem", "[I", true)
  | 38 => ("NativeWorksModel", "isConstant", "[Z", true)
  | 39 => ("NativeWorksModel", "isUsed", "[Z", true)
  | 40 => ("NativeWorksModel", "isGlobal", "[Z", true)
  | 41 => ("NativeWorksModel", "isWeak", "[Z", true)
  | 42 => ("NativeWorksModel", "constant", "[J", true)
  | 43 => ("NativeWorksModel", "items", "I", false)
  | 44 => ("NativeWorksModel", "statements", "I", false)
  | 45 => ("NativeWorksModel", "itemKind", "[B", true)
  | 46 => ("NativeWorksModel", "itemSection", "[B", true)
  | 47 => ("NativeWorksModel", "itemLine", "[I", true)
  | 48 => ("NativeWorksModel", "itemSize", "[I", true)
  | 49 => ("NativeWorksModel", "itemOffset", "[I", true)
  | 50 => ("NativeWorksModel", "itemData", "[I", true)
  | 51 => ("NativeWorksModel", "itemShape", "[J", true)
  | 52 => ("NativeWorksModel", "itemDisplacement", "[I", true)
  | 53 => ("NativeWorksModel", "itemNumbe\x72", "[J", true)
  | 54 => ("NativeWorksModel", "datas", "I", false)
  | 55 => ("NativeWorksModel", "plain", "I", false)
  | 56 => ("NativeWorksModel", "data", "[B", true)
  | 57 => ("NativeWorksModel", "waits", "I", false)
  | 58 => ("NativeWorksModel", "waitItem", "[I", true)
  | 59 => ("NativeWorksModel", "waitAt", "[I", true)
  | 60 => ("NativeWorksModel", "waitPlus", "[I", true)
  | 61 => ("NativeWorksModel", "waitMinus", "[I", true)
  | 62 => ("NativeWorksModel", "waitSize", "[B", true)
  | 63 => ("NativeWorksModel", "waitWhat", "[B", true)
  | 64 => ("NativeWorksModel", "waitConstant", "[J", true)
  | 65 => ("NativeWorksModel", "sourceEnd", "I", false)
  | 66 => ("NativeWorksModel", "at", "I", false)
  | 67 => ("NativeWorksModel", "lineNumbe\x72", "I", false)
  | 68 => ("NativeWorksModel", "lineStart", "I", false)
  | 69 => ("NativeWorksModel", "lineEnd", "I", false)
  | 70 => ("NativeWorksModel", "linesRead", "I", false)
  | 71 => ("NativeWorksModel", "macrosRead", "I", false)
  | 72 => ("NativeWorksModel", "section", "I", false)
  | 73 => ("NativeWorksModel", "bad", "I", false)
  | 74 => ("NativeWorksModel", "badLine", "I", false)
  | 75 => ("NativeWorksModel", "unit", "I", false)
  | 76 => ("NativeWorksModel", "notEnded", "Z", false)
  | 77 => ("NativeWorksModel", "latest", "I", false)
  | 78 => ("NativeWorksModel", "line", "[B", true)
  | 79 => ("NativeWorksModel", "lineLength", "I", false)
  | 80 => ("NativeWorksModel", "frames", "I", false)
  | 81 => ("NativeWorksModel", "frameKind", "[I", true)
  | 82 => ("NativeWorksModel", "frameStop", "[I", true)
  | 83 => ("NativeWorksModel", "frameStopLine", "[I", true)
  | 84 => ("NativeWorksModel", "frameBody", "[I", true)
  | 85 => ("NativeWorksModel", "frameBodyLine", "[I", true)
  | 86 => ("NativeWorksModel", "frameLeft", "[I", true)
  | 87 => ("NativeWorksModel", "frameOwn", "[I", true)
  | 88 => ("NativeWorksModel", "frameMacro", "[I", true)
  | 89 => ("NativeWorksModel", "frameNumbe\x72", "[I", true)
  | 90 => ("NativeWorksModel", "frameElse", "[Z", true)
  | 91 => ("NativeWorksModel", "argument", "[[B", true)
  | 92 => ("NativeWorksModel", "argumentAt", "[[I", true)
  | 93 => ("NativeWorksModel", "arguments", "[I", true)
  | 94 => ("NativeWorksModel", "macros", "I", false)
  | 95 => ("NativeWorksModel", "macroName", "[I", true)
  | 96 => ("NativeWorksModel", "macroLength", "[I", true)
  | 97 => ("NativeWorksModel", "macroParameters", "[I", true)
  | 98 => ("NativeWorksModel", "macroBody", "[I", true)
  | 99 => ("NativeWorksModel", "macroBodyLine", "[I", true)
  | 100 => ("NativeWorksModel", "macroEnd", "[I", true)
  | 101 => ("NativeWorksModel", "macroEndLine", "[I", true)
  | 102 => ("NativeWorksModel", "tokens", "I", false)
  | 103 => ("NativeWorksModel", "token", "[I", true)
  | 104 => ("NativeWorksModel", "tokenStart", "[I", true)
  | 105 => ("NativeWorksModel", "tokenLength", "[I", true)
  | 106 => ("NativeWorksModel", "tokenValue", "[J", true)
  | 107 => ("NativeWorksModel", "name", "[B", true)
  | 108 => ("NativeWorksModel", "nameSize", "I", false)
  | 109 => ("NativeWorksModel", "values", "I", false)
  | 110 => ("NativeWorksModel", "operators", "I", false)
  | 111 => ("NativeWorksModel", "value", "[J", true)
  | 112 => ("NativeWorksModel", "plus", "[I", true)
  | 113 => ("NativeWorksModel", "minus", "[I", true)
  | 114 => ("NativeWorksModel", "operato\x72", "[I", true)
  | 115 => ("NativeWorksModel", "wrongValue", "Z", false)
  | 116 => ("NativeWorksModel", "piece", "[I", true)
  | 117 => ("NativeWorksModel", "pieces", "I", false)
  | 118 => ("NativeWorksModel", "spans", "I", false)
  | 119 => ("NativeWorksModel", "spanPlus", "[I", true)
  | 120 => ("NativeWorksModel", "spanMinus", "[I", true)
  | 121 => ("NativeWorksModel", "spanLine", "[I", true)
  | 122 => ("NativeWorksModel", "operands", "I", false)
  | 123 => ("NativeWorksModel", "op", "I", false)
  | 124 => ("NativeWorksModel", "width", "I", false)
  | 125 => ("NativeWorksModel", "condition", "I", false)
  | 126 => ("NativeWorksModel", "kind", "[I", true)
  | 127 => ("NativeWorksModel", "registe\x72", "[I", true)
  | 128 => ("NativeWorksModel", "told", "[I", true)
  | 129 => ("NativeWorksModel", "from", "[I", true)
  | 130 => ("NativeWorksModel", "to", "[I", true)
  | 131 => ("NativeWorksModel", "base", "I", false)
  | 132 => ("NativeWorksModel", "index", "I", false)
  | 133 => ("NativeWorksModel", "scale", "I", false)
  | 134 => ("NativeWorksModel", "isRelative", "Z", false)
  | 135 => ("NativeWorksModel", "displacement", "J", false)
  | 136 => ("NativeWorksModel", "numbe\x72", "J", false)
  | 137 => ("NativeWorksModel", "displacementPlus", "I", false)
  | 138 => ("NativeWorksModel", "displacementMinus", "I", false)
  | 139 => ("NativeWorksModel", "numberPlus", "I", false)
  | 140 => ("NativeWorksModel", "numberMinus", "I", false)
  | 141 => ("NativeWorksModel", "rows", "I", false)
  | 142 => ("NativeWorksModel", "rowOp", "[I", true)
  | 143 => ("NativeWorksModel", "rowSizes", "[I", true)
  | 144 => ("NativeWorksModel", "rowPattern", "[I", true)
  | 145 => ("NativeWorksModel", "rowLead", "[I", true)
  | 146 => ("NativeWorksModel", "rowCode", "[I", true)
  | 147 => ("NativeWorksModel", "rowTell", "[I", true)
  | 148 => ("NativeWorksModel", "rowNumbe\x72", "[I", true)
  | 149 => ("NativeWorksModel", "best", "[B", true)
  | 150 => ("NativeWorksModel", "trial", "[B", true)
  | 151 => ("NativeWorksModel", "bestLength", "I", false)
  | 152 => ("NativeWorksModel", "tried", "I", false)
  | 153 => ("NativeWorksModel", "bestDisplacement", "I", false)
  | 154 => ("NativeWorksModel", "bestNumbe\x72", "I", false)
  | 155 => ("NativeWorksModel", "triedDisplacement", "I", false)
  | 156 => ("NativeWorksModel", "triedNumbe\x72", "I", false)
  | 157 => ("NativeWorksModel", "foundAt", "I", false)
  | 158 => ("NativeWorksModel", "foundLine", "I", false)
  | 159 => ("NativeWorksModel", "foundWord", "I", false)
  | 160 => ("NativeWorksModel", "foundBehind", "I", false)
  | 161 => ("NativeWorksModel", "full", "Z", false)
  | 162 => ("NativeWorksModel", "scaled", "I", false)
  | 163 => ("NativeWorksModel", "terms", "I", false)
  | 164 => ("NativeWorksModel", "termRegiste\x72", "[I", true)
  | 165 => ("NativeWorksModel", "termScale", "[I", true)
  | 166 => ("NativeWorksModel", "image", "LNativeWorksModel$Code;", true)
  | 167 => ("NativeWorksModel", "code", "LNativeWorksModel$Code;", true)
  | 168 => ("NativeWorksModel", "hasImage", "Z", false)
  | 169 => ("NativeWorksModel", "imageBytes", "[B", true)
  | 170 => ("NativeWorksModel", "taken", "[Z", true)
  | 171 => ("NativeWorksModel", "needed", "[Z", true)
  | 172 => ("NativeWorksModel", "addressOf", "[I", true)
  | 173 => ("NativeWorksModel", "imageNames", "I", false)
  | 174 => ("NativeWorksModel", "imagePooled", "I", false)
  | 175 => ("NativeWorksModel", "imagePool", "[B", true)
  | 176 => ("NativeWorksModel", "imageNameAt", "[I", true)
  | 177 => ("NativeWorksModel", "imageNameLength", "[I", true)
  | 178 => ("NativeWorksModel", "imageNameAddress", "[I", true)
  | 179 => ("NativeWorksModel", "loaded", "Z", false)
  | 180 => ("NativeWorksModel", "memory", "[B", true)
  | 181 => ("NativeWorksModel", "heap", "[B", true)
  | 182 => ("NativeWorksModel", "stack", "[B", true)
  | 183 => ("NativeWorksModel", "given", "[B", true)
  | 184 => ("NativeWorksModel", "shown", "[B", true)
  | 185 => ("NativeWorksModel", "heapSize", "I", false)
  | 186 => ("NativeWorksModel", "givenSize", "I", false)
  | 187 => ("NativeWorksModel", "shownSize", "I", false)
  | 188 => ("NativeWorksModel", "registers0", "[J", true)
  | 189 => ("NativeWorksModel", "kept0", "[J", true)
  | 190 => ("NativeWorksModel", "ip", "J", false)
  | 191 => ("NativeWorksModel", "stopValue", "J", false)
  | 192 => ("NativeWorksModel", "stepsDone", "J", false)
  | 193 => ("NativeWorksModel", "carry", "Z", false)
  | 194 => ("NativeWorksModel", "parity", "Z", false)
  | 195 => ("NativeWorksModel", "zero", "Z", false)
  | 196 => ("NativeWorksModel", "negative", "Z", false)
  | 197 => ("NativeWorksModel", "ove\x72", "Z", false)
  | 198 => ("NativeWorksModel", "stopKind", "I", false)
  | 199 => ("NativeWorksModel", "places", "[J", true)
  | 200 => ("NativeWorksModel", "placesMany", "I", false)
  | 201 => ("NativeWorksModel", "now", "I", false)
  | 202 => ("NativeWorksModel", "halt", "I", false)
  | 203 => ("NativeWorksModel", "haltValue", "J", false)
  | _ => ("NativeWorksModel", "operandAt", "J", false)
def tyX13 : Nat → FieldType := fun k => match k with
  | 0 => .int
  | 1 => .array .byte
  | 2 => .int
  | 3 => .int
  | 4 => .int
  | 5 => .array .long
  | 6 => .array .long
  | 7 => .array .int
  | 8 => .array .int
  | 9 => .long
  | 10 => .long
  | 11 => .long
  | 12 => .long
  | 13 => .long
  | 14 => .long
  | 15 => .long
  | 16 => .long
  | 17 => .long
  | 18 => .long
  | 19 => .long
  | 20 => .int
  | 21 => .array .int
  | 22 => .array .boolean
  | 23 => .array .int
  | 24 => .array .int
  | 25 => .array .int
  | 26 => .array .int
  | 27 => .array .boolean
  | 28 => .int
  | 29 => .int
  | 30 => .int
  | 31 => .int
  | 32 => .int
  | 33 => .array .byte
  | 34 => .array .int
  | 35 => .array .int
  | 36 => .array .long
  | 37 => .array .int
  | 38 => .array .boolean
  | 39 => .array .boolean
  | 40 => .array .boolean
  | 41 => .array .boolean
  | 42 => .array .long
  | 43 => .int
  | 44 => .int
  | 45 => .array .byte
  | 46 => .array .byte
  | 47 => .array .int
  | 48 => .array .int
  | 49 => .array .int
  | 50 => .array .int
  | 51 => .array .long
  | 52 => .array .int
  | 53 => .array .long
  | 54 => .int
  | 55 => .int
  | 56 => .array .byte
  | 57 => .int
  | 58 => .array .int
  | 59 => .array .int
  | 60 => .array .int
  | 61 => .array .int
  | 62 => .array .byte
  | 63 => .array .byte
  | 64 => .array .long
  | 65 => .int
  | 66 => .int
  | 67 => .int
  | 68 => .int
  | 69 => .int
  | 70 => .int
  | 71 => .int
  | 72 => .int
  | 73 => .int
  | 74 => .int
  | 75 => .int
  | 76 => .boolean
  | 77 => .int
  | 78 => .array .byte
  | 79 => .int
  | 80 => .int
  | 81 => .array .int
  | 82 => .array .int
  | 83 => .array .int
  | 84 => .array .int
  | 85 => .array .int
  | 86 => .array .int
  | 87 => .array .int
  | 88 => .array .int
  | 89 => .array .int
  | 90 => .array .boolean
  | 91 => .array (.array .byte)
  | 92 => .array (.array .int)
  | 93 => .array .int
  | 94 => .int
  | 95 => .array .int
  | 96 => .array .int
  | 97 => .array .int
  | 98 => .array .int
  | 99 => .array .int
  | 100 => .array .int
  | 101 => .array .int
  | 102 => .int
  | 103 => .array .int
  | 104 => .array .int
  | 105 => .array .int
  | 106 => .array .long
  | 107 => .array .byte
  | 108 => .int
  | 109 => .int
  | 110 => .int
  | 111 => .array .long
  | 112 => .array .int
  | 113 => .array .int
  | 114 => .array .int
  | 115 => .boolean
  | 116 => .array .int
  | 117 => .int
  | 118 => .int
  | 119 => .array .int
  | 120 => .array .int
  | 121 => .array .int
  | 122 => .int
  | 123 => .int
  | 124 => .int
  | 125 => .int
  | 126 => .array .int
  | 127 => .array .int
  | 128 => .array .int
  | 129 => .array .int
  | 130 => .array .int
  | 131 => .int
  | 132 => .int
  | 133 => .int
  | 134 => .boolean
  | 135 => .long
  | 136 => .long
  | 137 => .int
  | 138 => .int
  | 139 => .int
  | 140 => .int
  | 141 => .int
  | 142 => .array .int
  | 143 => .array .int
  | 144 => .array .int
  | 145 => .array .int
  | 146 => .array .int
  | 147 => .array .int
  | 148 => .array .int
  | 149 => .array .byte
  | 150 => .array .byte
  | 151 => .int
  | 152 => .int
  | 153 => .int
  | 154 => .int
  | 155 => .int
  | 156 => .int
  | 157 => .int
  | 158 => .int
  | 159 => .int
  | 160 => .int
  | 161 => .boolean
  | 162 => .int
  | 163 => .int
  | 164 => .array .int
  | 165 => .array .int
  | 166 => .object "NativeWorksModel$Code"
  | 167 => .object "NativeWorksModel$Code"
  | 168 => .boolean
  | 169 => .array .byte
  | 170 => .array .boolean
  | 171 => .array .boolean
  | 172 => .array .int
  | 173 => .int
  | 174 => .int
  | 175 => .array .byte
  | 176 => .array .int
  | 177 => .array .int
  | 178 => .array .int
  | 179 => .boolean
  | 180 => .array .byte
  | 181 => .array .byte
  | 182 => .array .byte
  | 183 => .array .byte
  | 184 => .array .byte
  | 185 => .int
  | 186 => .int
  | 187 => .int
  | 188 => .array .long
  | 189 => .array .long
  | 190 => .long
  | 191 => .long
  | 192 => .long
  | 193 => .boolean
  | 194 => .boolean
  | 195 => .boolean
  | 196 => .boolean
  | 197 => .boolean
  | 198 => .int
  | 199 => .array .long
  | 200 => .int
  | 201 => .int
  | 202 => .int
  | 203 => .long
  | _ => .long
theorem nmX13 : ∀ a, a < 205 → ∀ b, b < 205 → a ≠ b → (TX13 a).2.1 ≠ (TX13 b).2.1 := by decide +kernel
theorem tyX13_ok : ∀ k, k < 205 → parseFieldDescriptor (TX13 k).2.2.1 = some (tyX13 k) := by decide +kernel
abbrev cX13_init : ByteArray := prog_14_method_1_code
def yX13_init : MethodName := ⟨RX13, "<init>", "()V"⟩
abbrev cX13_pack : ByteArray := prog_14_method_2_code
def yX13_pack : MethodName := ⟨RX13, "pack", "(Ljava/lang/String;)J"⟩
abbrev cX13_wordsOf : ByteArray := prog_14_method_3_code
def yX13_wordsOf : MethodName := ⟨RX13, "wordsOf", "(Ljava/lang/String;I)V"⟩
abbrev cX13_word : ByteArray := prog_14_method_4_code
def yX13_word : MethodName := ⟨RX13, "word", "(Ljava/lang/String;I)V"⟩
abbrev cX13_conditions : ByteArray := prog_14_method_5_code
def yX13_conditions : MethodName := ⟨RX13, "conditions", "(Ljava/lang/String;I)V"⟩
abbrev cX13_joined : ByteArray := prog_14_method_6_code
def yX13_joined : MethodName := ⟨RX13, "joined", "(Ljava/lang/String;Ljava/lang/String;)Ljava/lang/String;"⟩
abbrev cX13_numbered : ByteArray := prog_14_method_7_code
def yX13_numbered : MethodName := ⟨RX13, "numbered", "(ILjava/lang/String;)Ljava/lang/String;"⟩
abbrev cX13_registerNames : ByteArray := prog_14_method_8_code
def yX13_registerNames : MethodName := ⟨RX13, "registerNames", "()V"⟩
abbrev cX13_registerNamed : ByteArray := prog_14_method_9_code
def yX13_registerNamed : MethodName := ⟨RX13, "registerNamed", "(Ljava/lang/String;I)V"⟩
abbrev cX13_give : ByteArray := prog_14_method_10_code
def yX13_give : MethodName := ⟨RX13, "give", "(II)I"⟩
abbrev cX13_feed : ByteArray := prog_14_method_12_code
def yX13_feed : MethodName := ⟨RX13, "feed", "(IIIII)I"⟩
abbrev cX13_used : ByteArray := prog_14_method_13_code
def yX13_used : MethodName := ⟨RX13, "used", "(I)I"⟩
abbrev cX13_isLetter : ByteArray := prog_14_method_14_code
def yX13_isLetter : MethodName := ⟨RX13, "isLette\x72", "(I)Z"⟩
abbrev cX13_isDigit : ByteArray := prog_14_method_15_code
def yX13_isDigit : MethodName := ⟨RX13, "isDigit", "(I)Z"⟩
abbrev cX13_isNamed : ByteArray := prog_14_method_16_code
def yX13_isNamed : MethodName := ⟨RX13, "isNamed", "(I)Z"⟩
abbrev cX13_digitOf : ByteArray := prog_14_method_17_code
def yX13_digitOf : MethodName := ⟨RX13, "digitOf", "(I)I"⟩
abbrev cX13_packed : ByteArray := prog_14_method_18_code
def yX13_packed : MethodName := ⟨RX13, "packed", "([BII)J"⟩
abbrev cX13_wordOf : ByteArray := prog_14_method_19_code
def yX13_wordOf : MethodName := ⟨RX13, "wordOf", "(J)I"⟩
abbrev cX13_registerOf : ByteArray := prog_14_method_20_code
def yX13_registerOf : MethodName := ⟨RX13, "registerOf", "(J)I"⟩
abbrev cX13_ownLine : ByteArray := prog_14_method_21_code
def yX13_ownLine : MethodName := ⟨RX13, "ownLine", "()I"⟩
abbrev cX13_fail : ByteArray := prog_14_method_22_code
def yX13_fail : MethodName := ⟨RX13, "fail", "(I)V"⟩
abbrev cX13_firstWord : ByteArray := prog_14_method_23_code
def yX13_firstWord : MethodName := ⟨RX13, "firstWord", "(II)I"⟩
abbrev cX13_endOfLine : ByteArray := prog_14_method_24_code
def yX13_endOfLine : MethodName := ⟨RX13, "endOfLine", "(I)I"⟩
abbrev cX13_findEnd : ByteArray := prog_14_method_25_code
def yX13_findEnd : MethodName := ⟨RX13, "findEnd", "(IIIIIZ)Z"⟩
abbrev cX13_reader : ByteArray := prog_14_method_26_code
def yX13_reader : MethodName := ⟨RX13, "reade\x72", "()I"⟩
abbrev cX13_macroFrame : ByteArray := prog_14_method_27_code
def yX13_macroFrame : MethodName := ⟨RX13, "macroFrame", "()I"⟩
abbrev cX13_nextLine : ByteArray := prog_14_method_28_code
def yX13_nextLine : MethodName := ⟨RX13, "nextLine", "()Z"⟩
abbrev cX13_append : ByteArray := prog_14_method_29_code
def yX13_append : MethodName := ⟨RX13, "append", "(I)V"⟩
abbrev cX13_parameterAt : ByteArray := prog_14_method_30_code
def yX13_parameterAt : MethodName := ⟨RX13, "parameterAt", "(III)I"⟩
abbrev cX13_appendNumber : ByteArray := prog_14_method_31_code
def yX13_appendNumber : MethodName := ⟨RX13, "appendNumbe\x72", "(I)V"⟩
abbrev cX13_expand : ByteArray := prog_14_method_32_code
def yX13_expand : MethodName := ⟨RX13, "expand", "()V"⟩
abbrev cX13_token : ByteArray := prog_14_method_33_code
def yX13_token : MethodName := ⟨RX13, "token", "(IIIJ)V"⟩
abbrev cX13_character : ByteArray := prog_14_method_34_code
def yX13_character : MethodName := ⟨RX13, "characte\x72", "(II)I"⟩
abbrev cX13_numberToken : ByteArray := prog_14_method_35_code
def yX13_numberToken : MethodName := ⟨RX13, "numberToken", "(I)I"⟩
abbrev cX13_readToken : ByteArray := prog_14_method_36_code
def yX13_readToken : MethodName := ⟨RX13, "readToken", "(I)I"⟩
abbrev cX13_readTokens : ByteArray := prog_14_method_37_code
def yX13_readTokens : MethodName := ⟨RX13, "readTokens", "()V"⟩
abbrev cX13_isSign : ByteArray := prog_14_method_38_code
def yX13_isSign : MethodName := ⟨RX13, "isSign", "(II)Z"⟩
abbrev cX13_isName : ByteArray := prog_14_method_39_code
def yX13_isName : MethodName := ⟨RX13, "isName", "(I)Z"⟩
abbrev cX13_isNamedAs : ByteArray := prog_14_method_40_code
def yX13_isNamedAs : MethodName := ⟨RX13, "isNamedAs", "(IJ)Z"⟩
abbrev cX13_takeName : ByteArray := prog_14_method_41_code
def yX13_takeName : MethodName := ⟨RX13, "takeName", "(I)V"⟩
abbrev cX13_isCalled : ByteArray := prog_14_method_42_code
def yX13_isCalled : MethodName := ⟨RX13, "isCalled", "(I)Z"⟩
abbrev cX13_symbolNamed : ByteArray := prog_14_method_43_code
def yX13_symbolNamed : MethodName := ⟨RX13, "symbolNamed", "()I"⟩
abbrev cX13_symbolFor : ByteArray := prog_14_method_44_code
def yX13_symbolFor : MethodName := ⟨RX13, "symbolFo\x72", "()I"⟩
abbrev cX13_isMacro : ByteArray := prog_14_method_45_code
def yX13_isMacro : MethodName := ⟨RX13, "isMacro", "()Z"⟩
abbrev cX13_macroNamed : ByteArray := prog_14_method_46_code
def yX13_macroNamed : MethodName := ⟨RX13, "macroNamed", "()I"⟩
abbrev cX13_takePlain : ByteArray := prog_14_method_47_code
def yX13_takePlain : MethodName := ⟨RX13, "takePlain", "(I)V"⟩
abbrev cX13_isReserved : ByteArray := prog_14_method_48_code
def yX13_isReserved : MethodName := ⟨RX13, "isReserved", "(I)Z"⟩
abbrev cX13_isFree : ByteArray := prog_14_method_49_code
def yX13_isFree : MethodName := ⟨RX13, "isFree", "(IZZ)Z"⟩
abbrev cX13_item : ByteArray := prog_14_method_50_code
def yX13_item : MethodName := ⟨RX13, "item", "(II)I"⟩
abbrev cX13_defineLabel : ByteArray := prog_14_method_51_code
def yX13_defineLabel : MethodName := ⟨RX13, "defineLabel", "(I)V"⟩
abbrev cX13_strength : ByteArray := prog_14_method_52_code
def yX13_strength : MethodName := ⟨RX13, "strength", "(I)I"⟩
abbrev cX13_isValue : ByteArray := prog_14_method_53_code
def yX13_isValue : MethodName := ⟨RX13, "isValue", "(I)Z"⟩
abbrev cX13_isFront : ByteArray := prog_14_method_54_code
def yX13_isFront : MethodName := ⟨RX13, "isFront", "(I)Z"⟩
abbrev cX13_pass : ByteArray := prog_14_method_55_code
def yX13_pass : MethodName := ⟨RX13, "pass", "(IZ)I"⟩
abbrev cX13_valueOf : ByteArray := prog_14_method_56_code
def yX13_valueOf : MethodName := ⟨RX13, "valueOf", "(JII)V"⟩
abbrev cX13_reduce : ByteArray := prog_14_method_57_code
def yX13_reduce : MethodName := ⟨RX13, "reduce", "()V"⟩
abbrev cX13_evaluatePieces : ByteArray := prog_14_method_58_code
def yX13_evaluatePieces : MethodName := ⟨RX13, "evaluatePieces", "(I)V"⟩
abbrev cX13_leaf : ByteArray := prog_14_method_59_code
def yX13_leaf : MethodName := ⟨RX13, "leaf", "(III)V"⟩
abbrev cX13_evaluate : ByteArray := prog_14_method_60_code
def yX13_evaluate : MethodName := ⟨RX13, "evaluate", "(II)V"⟩
abbrev cX13_isConstantValue : ByteArray := prog_14_method_61_code
def yX13_isConstantValue : MethodName := ⟨RX13, "isConstantValue", "()Z"⟩
abbrev cX13_room : ByteArray := prog_14_method_62_code
def yX13_room : MethodName := ⟨RX13, "room", "()V"⟩
abbrev cX13_statement : ByteArray := prog_14_method_63_code
def yX13_statement : MethodName := ⟨RX13, "statement", "(II)I"⟩
abbrev cX13_put : ByteArray := prog_14_method_64_code
def yX13_put : MethodName := ⟨RX13, "put", "(JI)V"⟩
abbrev cX13_waitFor : ByteArray := prog_14_method_65_code
def yX13_waitFor : MethodName := ⟨RX13, "waitFo\x72", "(IIIIIIJ)V"⟩
abbrev cX13_readLine : ByteArray := prog_14_method_66_code
def yX13_readLine : MethodName := ⟨RX13, "readLine", "()V"⟩
abbrev cX13_nesting : ByteArray := prog_14_method_67_code
def yX13_nesting : MethodName := ⟨RX13, "nesting", "(III)V"⟩
abbrev cX13_parametersOf : ByteArray := prog_14_method_68_code
def yX13_parametersOf : MethodName := ⟨RX13, "parametersOf", "(I)I"⟩
abbrev cX13_split : ByteArray := prog_14_method_69_code
def yX13_split : MethodName := ⟨RX13, "split", "(I)V"⟩
abbrev cX13_labels : ByteArray := prog_14_method_70_code
def yX13_labels : MethodName := ⟨RX13, "labels", "(II)V"⟩
abbrev cX13_act : ByteArray := prog_14_method_71_code
def yX13_act : MethodName := ⟨RX13, "act", "(III)V"⟩
abbrev cX13_nameAll : ByteArray := prog_14_method_72_code
def yX13_nameAll : MethodName := ⟨RX13, "nameAll", "(II)V"⟩
abbrev cX13_constantAt : ByteArray := prog_14_method_73_code
def yX13_constantAt : MethodName := ⟨RX13, "constantAt", "(I)Z"⟩
abbrev cX13_define : ByteArray := prog_14_method_74_code
def yX13_define : MethodName := ⟨RX13, "define", "(I)V"⟩
abbrev cX13_partEnd : ByteArray := prog_14_method_75_code
def yX13_partEnd : MethodName := ⟨RX13, "partEnd", "(IZ)I"⟩
abbrev cX13_dataOf : ByteArray := prog_14_method_76_code
def yX13_dataOf : MethodName := ⟨RX13, "dataOf", "(II)V"⟩
abbrev cX13_evaluateAt : ByteArray := prog_14_method_77_code
def yX13_evaluateAt : MethodName := ⟨RX13, "evaluateAt", "(III)V"⟩
abbrev cX13_textLength : ByteArray := prog_14_method_78_code
def yX13_textLength : MethodName := ⟨RX13, "textLength", "(I)I"⟩
abbrev cX13_putText : ByteArray := prog_14_method_79_code
def yX13_putText : MethodName := ⟨RX13, "putText", "(I)I"⟩
abbrev cX13_fill : ByteArray := prog_14_method_80_code
def yX13_fill : MethodName := ⟨RX13, "fill", "(II)V"⟩
abbrev cX13_enter : ByteArray := prog_14_method_81_code
def yX13_enter : MethodName := ⟨RX13, "ente\x72", "(III)V"⟩
abbrev cX13_goBehind : ByteArray := prog_14_method_82_code
def yX13_goBehind : MethodName := ⟨RX13, "goBehind", "()V"⟩
abbrev cX13_structure : ByteArray := prog_14_method_83_code
def yX13_structure : MethodName := ⟨RX13, "structure", "(II)V"⟩
abbrev cX13_macro : ByteArray := prog_14_method_84_code
def yX13_macro : MethodName := ⟨RX13, "macro", "(I)V"⟩
abbrev cX13_call : ByteArray := prog_14_method_85_code
def yX13_call : MethodName := ⟨RX13, "call", "(I)V"⟩
abbrev cX13_sizeWord : ByteArray := prog_14_method_86_code
def yX13_sizeWord : MethodName := ⟨RX13, "sizeWord", "(JJJJ)I"⟩
abbrev cX13_passAddress : ByteArray := prog_14_method_87_code
def yX13_passAddress : MethodName := ⟨RX13, "passAddress", "(I)I"⟩
abbrev cX13_readOperands : ByteArray := prog_14_method_88_code
def yX13_readOperands : MethodName := ⟨RX13, "readOperands", "(I)Z"⟩
abbrev cX13_readAddress : ByteArray := prog_14_method_89_code
def yX13_readAddress : MethodName := ⟨RX13, "readAddress", "(II)Z"⟩
abbrev cX13_placeTerms : ByteArray := prog_14_method_90_code
def yX13_placeTerms : MethodName := ⟨RX13, "placeTerms", "()Z"⟩
abbrev cX13_isWaitingNumber : ByteArray := prog_14_method_91_code
def yX13_isWaitingNumber : MethodName := ⟨RX13, "isWaitingNumbe\x72", "()Z"⟩
abbrev cX13_isWaitingDisplacement : ByteArray := prog_14_method_92_code
def yX13_isWaitingDisplacement : MethodName := ⟨RX13, "isWaitingDisplacement", "()Z"⟩
abbrev cX13_instruction : ByteArray := prog_14_method_93_code
def yX13_instruction : MethodName := ⟨RX13, "instruction", "(II)V"⟩
abbrev cX13_fourth : ByteArray := prog_14_method_94_code
def yX13_fourth : MethodName := ⟨RX13, "fourth", "()Z"⟩
abbrev cX13_findSize : ByteArray := prog_14_method_95_code
def yX13_findSize : MethodName := ⟨RX13, "findSize", "(I)Z"⟩
abbrev cX13_assemble : ByteArray := prog_14_method_96_code
def yX13_assemble : MethodName := ⟨RX13, "assemble", "()V"⟩
abbrev cX13_fields : ByteArray := prog_14_method_97_code
def yX13_fields : MethodName := ⟨RX13, "fields", "(I)V"⟩
abbrev cX13_opOf : ByteArray := prog_14_method_98_code
def yX13_opOf : MethodName := ⟨RX13, "opOf", "(J)I"⟩
abbrev cX13_conditionOf : ByteArray := prog_14_method_99_code
def yX13_conditionOf : MethodName := ⟨RX13, "conditionOf", "(J)I"⟩
abbrev cX13_bytesOf : ByteArray := prog_14_method_100_code
def yX13_bytesOf : MethodName := ⟨RX13, "bytesOf", "(J)I"⟩
abbrev cX13_branch : ByteArray := prog_14_method_101_code
def yX13_branch : MethodName := ⟨RX13, "branch", "()V"⟩
abbrev cX13_row : ByteArray := prog_14_method_102_code
def yX13_row : MethodName := ⟨RX13, "row", "(IIIIIII)V"⟩
abbrev cX13_fillTable : ByteArray := prog_14_method_103_code
def yX13_fillTable : MethodName := ⟨RX13, "fillTable", "()V"⟩
abbrev cX13_fillRest : ByteArray := prog_14_method_104_code
def yX13_fillRest : MethodName := ⟨RX13, "fillRest", "()V"⟩
abbrev cX13_hasForm : ByteArray := prog_14_method_105_code
def yX13_hasForm : MethodName := ⟨RX13, "hasForm", "(I)Z"⟩
abbrev cX13_allows : ByteArray := prog_14_method_106_code
def yX13_allows : MethodName := ⟨RX13, "allows", "(II)Z"⟩
abbrev cX13_bytesFor : ByteArray := prog_14_method_107_code
def yX13_bytesFor : MethodName := ⟨RX13, "bytesFo\x72", "(II)I"⟩
abbrev cX13_holds : ByteArray := prog_14_method_108_code
def yX13_holds : MethodName := ⟨RX13, "holds", "(I)Z"⟩
abbrev cX13_place : ByteArray := prog_14_method_109_code
def yX13_place : MethodName := ⟨RX13, "place", "(II)I"⟩
abbrev cX13_suits : ByteArray := prog_14_method_110_code
def yX13_suits : MethodName := ⟨RX13, "suits", "(II)Z"⟩
abbrev cX13_byteOf : ByteArray := prog_14_method_111_code
def yX13_byteOf : MethodName := ⟨RX13, "byteOf", "(I)V"⟩
abbrev cX13_putBytes : ByteArray := prog_14_method_112_code
def yX13_putBytes : MethodName := ⟨RX13, "putBytes", "(JI)V"⟩
abbrev cX13_memoryOf : ByteArray := prog_14_method_113_code
def yX13_memoryOf : MethodName := ⟨RX13, "memoryOf", "(I)V"⟩
abbrev cX13_tries : ByteArray := prog_14_method_114_code
def yX13_tries : MethodName := ⟨RX13, "tries", "(I)Z"⟩
abbrev cX13_layOut : ByteArray := prog_14_method_115_code
def yX13_layOut : MethodName := ⟨RX13, "layOut", "()V"⟩
abbrev cX13_itemOf : ByteArray := prog_14_method_116_code
def yX13_itemOf : MethodName := ⟨RX13, "itemOf", "(I)I"⟩
abbrev cX13_isNear : ByteArray := prog_14_method_117_code
def yX13_isNear : MethodName := ⟨RX13, "isNea\x72", "(I)Z"⟩
abbrev cX13_shorten : ByteArray := prog_14_method_118_code
def yX13_shorten : MethodName := ⟨RX13, "shorten", "()V"⟩
abbrev cX13_linesOfSource : ByteArray := prog_14_method_119_code
def yX13_linesOfSource : MethodName := ⟨RX13, "linesOfSource", "()I"⟩
abbrev cX13_finish : ByteArray := prog_14_method_120_code
def yX13_finish : MethodName := ⟨RX13, "finish", "()V"⟩
abbrev cX13_unit : ByteArray := prog_14_method_121_code
def yX13_unit : MethodName := ⟨RX13, "unit", "(IZ)I"⟩
abbrev cX13_clear : ByteArray := prog_14_method_122_code
def yX13_clear : MethodName := ⟨RX13, "clea\x72", "()V"⟩
abbrev cX13_fault : ByteArray := prog_14_method_123_code
def yX13_fault : MethodName := ⟨RX13, "fault", "(I)I"⟩
abbrev cX13_size : ByteArray := prog_14_method_124_code
def yX13_size : MethodName := ⟨RX13, "size", "(II)I"⟩
abbrev cX13_byteAt : ByteArray := prog_14_method_125_code
def yX13_byteAt : MethodName := ⟨RX13, "byteAt", "(II)I"⟩
abbrev cX13_octet : ByteArray := prog_14_method_126_code
def yX13_octet : MethodName := ⟨RX13, "octet", "(III)I"⟩
abbrev cX13_isSameName : ByteArray := prog_14_method_127_code
def yX13_isSameName : MethodName := ⟨RX13, "isSameName", "(II)Z"⟩
abbrev cX13_isSeen : ByteArray := prog_14_method_128_code
def yX13_isSeen : MethodName := ⟨RX13, "isSeen", "(I)Z"⟩
abbrev cX13_isStrong : ByteArray := prog_14_method_129_code
def yX13_isStrong : MethodName := ⟨RX13, "isStrong", "(I)Z"⟩
abbrev cX13_knownAs : ByteArray := prog_14_method_130_code
def yX13_knownAs : MethodName := ⟨RX13, "knownAs", "(I)I"⟩
abbrev cX13_standsFor : ByteArray := prog_14_method_131_code
def yX13_standsFor : MethodName := ⟨RX13, "standsFo\x72", "(I)I"⟩
abbrev cX13_isWanted : ByteArray := prog_14_method_132_code
def yX13_isWanted : MethodName := ⟨RX13, "isWanted", "(I)Z"⟩
abbrev cX13_takeUnits : ByteArray := prog_14_method_133_code
def yX13_takeUnits : MethodName := ⟨RX13, "takeUnits", "()V"⟩
abbrev cX13_labelSection : ByteArray := prog_14_method_134_code
def yX13_labelSection : MethodName := ⟨RX13, "labelSection", "(I)I"⟩
abbrev cX13_waitUnit : ByteArray := prog_14_method_135_code
def yX13_waitUnit : MethodName := ⟨RX13, "waitUnit", "(I)I"⟩
abbrev cX13_findNeeded : ByteArray := prog_14_method_136_code
def yX13_findNeeded : MethodName := ⟨RX13, "findNeeded", "(I)V"⟩
abbrev cX13_place_ : ByteArray := prog_14_method_137_code
def yX13_place_ : MethodName := ⟨RX13, "place", "()I"⟩
abbrev cX13_itemAddress : ByteArray := prog_14_method_138_code
def yX13_itemAddress : MethodName := ⟨RX13, "itemAddress", "(II)J"⟩
abbrev cX13_resolved : ByteArray := prog_14_method_139_code
def yX13_resolved : MethodName := ⟨RX13, "resolved", "(II)J"⟩
abbrev cX13_fieldOf : ByteArray := prog_14_method_140_code
def yX13_fieldOf : MethodName := ⟨RX13, "fieldOf", "(II)J"⟩
abbrev cX13_isIn : ByteArray := prog_14_method_141_code
def yX13_isIn : MethodName := ⟨RX13, "isIn", "(II)Z"⟩
abbrev cX13_linkFault : ByteArray := prog_14_method_142_code
def yX13_linkFault : MethodName := ⟨RX13, "linkFault", "(III)V"⟩
abbrev cX13_startSymbol : ByteArray := prog_14_method_143_code
def yX13_startSymbol : MethodName := ⟨RX13, "startSymbol", "()I"⟩
abbrev cX13_findTwice : ByteArray := prog_14_method_144_code
def yX13_findTwice : MethodName := ⟨RX13, "findTwice", "()V"⟩
abbrev cX13_link : ByteArray := prog_14_method_145_code
def yX13_link : MethodName := ⟨RX13, "link", "()I"⟩
abbrev cX13_build : ByteArray := prog_14_method_146_code
def yX13_build : MethodName := ⟨RX13, "build", "(II)V"⟩
abbrev cX13_copyUnit : ByteArray := prog_14_method_147_code
def yX13_copyUnit : MethodName := ⟨RX13, "copyUnit", "(I)V"⟩
abbrev cX13_keepNames : ByteArray := prog_14_method_148_code
def yX13_keepNames : MethodName := ⟨RX13, "keepNames", "()V"⟩
abbrev cX13_symbol : ByteArray := prog_14_method_149_code
def yX13_symbol : MethodName := ⟨RX13, "symbol", "(I)J"⟩
abbrev cX13_where : ByteArray := prog_14_method_150_code
def yX13_where : MethodName := ⟨RX13, "where", "(J)I"⟩
abbrev cX13_heapBegin : ByteArray := prog_14_method_151_code
def yX13_heapBegin : MethodName := ⟨RX13, "heapBegin", "()J"⟩
abbrev cX13_find : ByteArray := prog_14_method_152_code
def yX13_find : MethodName := ⟨RX13, "find", "(JZ)I"⟩
abbrev cX13_byteAtPlace : ByteArray := prog_14_method_153_code
def yX13_byteAtPlace : MethodName := ⟨RX13, "byteAtPlace", "(I)I"⟩
abbrev cX13_setPlace : ByteArray := prog_14_method_154_code
def yX13_setPlace : MethodName := ⟨RX13, "setPlace", "(II)V"⟩
abbrev cX13_stopWith : ByteArray := prog_14_method_155_code
def yX13_stopWith : MethodName := ⟨RX13, "stopWith", "(IJ)V"⟩
abbrev cX13_wordAt : ByteArray := prog_14_method_156_code
def yX13_wordAt : MethodName := ⟨RX13, "wordAt", "(JI)J"⟩
abbrev cX13_store : ByteArray := prog_14_method_157_code
def yX13_store : MethodName := ⟨RX13, "store", "(JIJ)V"⟩
abbrev cX13_cut : ByteArray := prog_14_method_158_code
def yX13_cut : MethodName := ⟨RX13, "cut", "(JI)J"⟩
abbrev cX13_signed : ByteArray := prog_14_method_159_code
def yX13_signed : MethodName := ⟨RX13, "signed", "(JI)J"⟩
abbrev cX13_addressNow : ByteArray := prog_14_method_160_code
def yX13_addressNow : MethodName := ⟨RX13, "addressNow", "()J"⟩
abbrev cX13_kindAt : ByteArray := prog_14_method_161_code
def yX13_kindAt : MethodName := ⟨RX13, "kindAt", "(I)I"⟩
abbrev cX13_registerAt : ByteArray := prog_14_method_162_code
def yX13_registerAt : MethodName := ⟨RX13, "registerAt", "(I)I"⟩
abbrev cX13_take : ByteArray := prog_14_method_163_code
def yX13_take : MethodName := ⟨RX13, "take", "(II)J"⟩
abbrev cX13_setRegister : ByteArray := prog_14_method_164_code
def yX13_setRegister : MethodName := ⟨RX13, "setRegiste\x72", "(IIJ)V"⟩
abbrev cX13_put_ : ByteArray := prog_14_method_165_code
def yX13_put_ : MethodName := ⟨RX13, "put", "(IIJ)V"⟩
abbrev cX13_upper : ByteArray := prog_14_method_166_code
def yX13_upper : MethodName := ⟨RX13, "uppe\x72", "(JI)J"⟩
abbrev cX13_zsp : ByteArray := prog_14_method_167_code
def yX13_zsp : MethodName := ⟨RX13, "zsp", "(JI)V"⟩
abbrev cX13_add : ByteArray := prog_14_method_168_code
def yX13_add : MethodName := ⟨RX13, "add", "(JJZI)J"⟩
abbrev cX13_subtract : ByteArray := prog_14_method_169_code
def yX13_subtract : MethodName := ⟨RX13, "subtract", "(JJZI)J"⟩
abbrev cX13_isMet : ByteArray := prog_14_method_170_code
def yX13_isMet : MethodName := ⟨RX13, "isMet", "(I)Z"⟩
abbrev cX13_flags : ByteArray := prog_14_method_171_code
def yX13_flags : MethodName := ⟨RX13, "flags", "()J"⟩
abbrev cX13_setFlags : ByteArray := prog_14_method_172_code
def yX13_setFlags : MethodName := ⟨RX13, "setFlags", "(J)V"⟩
abbrev cX13_arithmetic : ByteArray := prog_14_method_173_code
def yX13_arithmetic : MethodName := ⟨RX13, "arithmetic", "(II)V"⟩
abbrev cX13_moves : ByteArray := prog_14_method_174_code
def yX13_moves : MethodName := ⟨RX13, "moves", "(II)V"⟩
abbrev cX13_single : ByteArray := prog_14_method_175_code
def yX13_single : MethodName := ⟨RX13, "single", "(II)V"⟩
abbrev cX13_highUnsigned : ByteArray := prog_14_method_176_code
def yX13_highUnsigned : MethodName := ⟨RX13, "highUnsigned", "(JJ)J"⟩
abbrev cX13_multiply : ByteArray := prog_14_method_177_code
def yX13_multiply : MethodName := ⟨RX13, "multiply", "(ZI)V"⟩
abbrev cX13_divideSmall : ByteArray := prog_14_method_178_code
def yX13_divideSmall : MethodName := ⟨RX13, "divideSmall", "(ZIJ)V"⟩
abbrev cX13_divide : ByteArray := prog_14_method_179_code
def yX13_divide : MethodName := ⟨RX13, "divide", "(ZI)V"⟩
abbrev cX13_product : ByteArray := prog_14_method_180_code
def yX13_product : MethodName := ⟨RX13, "product", "(I)V"⟩
abbrev cX13_shift : ByteArray := prog_14_method_181_code
def yX13_shift : MethodName := ⟨RX13, "shift", "(II)V"⟩
abbrev cX13_push : ByteArray := prog_14_method_182_code
def yX13_push : MethodName := ⟨RX13, "push", "(J)V"⟩
abbrev cX13_pop : ByteArray := prog_14_method_183_code
def yX13_pop : MethodName := ⟨RX13, "pop", "()J"⟩
abbrev cX13_goes : ByteArray := prog_14_method_184_code
def yX13_goes : MethodName := ⟨RX13, "goes", "(I)V"⟩
abbrev cX13_spread : ByteArray := prog_14_method_185_code
def yX13_spread : MethodName := ⟨RX13, "spread", "(II)V"⟩
abbrev cX13_bits : ByteArray := prog_14_method_186_code
def yX13_bits : MethodName := ⟨RX13, "bits", "(II)V"⟩
abbrev cX13_together : ByteArray := prog_14_method_187_code
def yX13_together : MethodName := ⟨RX13, "togethe\x72", "(II)V"⟩
abbrev cX13_strings : ByteArray := prog_14_method_188_code
def yX13_strings : MethodName := ⟨RX13, "strings", "(II)V"⟩
abbrev cX13_may : ByteArray := prog_14_method_189_code
def yX13_may : MethodName := ⟨RX13, "may", "(JJZ)Z"⟩
abbrev cX13_service : ByteArray := prog_14_method_190_code
def yX13_service : MethodName := ⟨RX13, "service", "()V"⟩
abbrev cX13_perform : ByteArray := prog_14_method_191_code
def yX13_perform : MethodName := ⟨RX13, "perform", "()V"⟩
abbrev cX13_choose : ByteArray := prog_14_method_192_code
def yX13_choose : MethodName := ⟨RX13, "choose", "(I)V"⟩
abbrev cX13_step : ByteArray := prog_14_method_193_code
def yX13_step : MethodName := ⟨RX13, "step", "()Z"⟩
abbrev cX13_load : ByteArray := prog_14_method_194_code
def yX13_load : MethodName := ⟨RX13, "load", "()J"⟩
abbrev cX13_input : ByteArray := prog_14_method_195_code
def yX13_input : MethodName := ⟨RX13, "input", "(I)I"⟩
abbrev cX13_isPlace : ByteArray := prog_14_method_196_code
def yX13_isPlace : MethodName := ⟨RX13, "isPlace", "(J)Z"⟩
abbrev cX13_run : ByteArray := prog_14_method_197_code
def yX13_run : MethodName := ⟨RX13, "run", "(I)I"⟩
abbrev cX13_stop : ByteArray := prog_14_method_198_code
def yX13_stop : MethodName := ⟨RX13, "stop", "(I)J"⟩
abbrev cX13_register : ByteArray := prog_14_method_199_code
def yX13_register : MethodName := ⟨RX13, "registe\x72", "(I)J"⟩
abbrev cX13_set : ByteArray := prog_14_method_200_code
def yX13_set : MethodName := ⟨RX13, "set", "(IJ)Z"⟩
abbrev cX13_peek : ByteArray := prog_14_method_201_code
def yX13_peek : MethodName := ⟨RX13, "peek", "(J)I"⟩
abbrev cX13_poke : ByteArray := prog_14_method_202_code
def yX13_poke : MethodName := ⟨RX13, "poke", "(JI)Z"⟩
abbrev cX13_stopAt : ByteArray := prog_14_method_203_code
def yX13_stopAt : MethodName := ⟨RX13, "stopAt", "(JZ)Z"⟩
abbrev cX13_output : ByteArray := prog_14_method_204_code
def yX13_output : MethodName := ⟨RX13, "output", "(I)I"⟩
def RJx145de : String := "java/io/Serializable"
def RJ5 : String := "java/lang/AbstractStringBuilde\x72"
abbrev cJ5_init_d00df : ByteArray := prog_17_method_2_code
def yJ5_init_d00df : MethodName := ⟨RJ5, "<init>", "(I)V"⟩
abbrev cJ5_length_8abf5 : ByteArray := prog_17_method_6_code
def yJ5_length_8abf5 : MethodName := ⟨RJ5, "length", "()I"⟩
abbrev cJ5_ensureCapacityInternal_d00df : ByteArray := prog_17_method_9_code
def yJ5_ensureCapacityInternal_d00df : MethodName := ⟨RJ5, "ensureCapacityInternal", "(I)V"⟩
abbrev cJ5_append_cf1ce : ByteArray := prog_17_method_22_code
def yJ5_append_cf1ce : MethodName := ⟨RJ5, "append", "(Ljava/lang/String;)Ljava/lang/AbstractStringBuilder;"⟩
abbrev cJ5_append_c97b9 : ByteArray := prog_17_method_32_code
def yJ5_append_c97b9 : MethodName := ⟨RJ5, "append", "(I)Ljava/lang/AbstractStringBuilder;"⟩
abbrev cJ5_getValue_6d5f1 : ByteArray := prog_17_method_64_code
def yJ5_getValue_6d5f1 : MethodName := ⟨RJ5, "getValue", "()[B"⟩
abbrev cJ5_isLatin1_aae02 : ByteArray := prog_17_method_68_code
def yJ5_isLatin1_aae02 : MethodName := ⟨RJ5, "isLatin1", "()Z"⟩
abbrev cJ5_inflateIfNeededFor_a7421 : ByteArray := prog_17_method_71_code
def yJ5_inflateIfNeededFor_a7421 : MethodName := ⟨RJ5, "inflateIfNeededFo\x72", "(Ljava/lang/String;)V"⟩
abbrev cJ5_putStringAt_47b60 : ByteArray := prog_17_method_73_code
def yJ5_putStringAt_47b60 : MethodName := ⟨RJ5, "putStringAt", "(ILjava/lang/String;)V"⟩
def RJx2cfe8 : String := "java/lang/Appendable"
def RJx9f9b0 : String := "java/lang/CharSequence"
def RJx8e188 : String := "java/lang/Cloneable"
def RJxb160c : String := "java/lang/Comparable"
def RJ6 : String := "java/lang/Intege\x72"
abbrev cJ6_getChars_ba4f3 : ByteArray := prog_25_method_12_code
def yJ6_getChars_ba4f3 : MethodName := ⟨RJ6, "getChars", "(II[B)I"⟩
abbrev cJ6_stringSize_0f7a4 : ByteArray := prog_25_method_13_code
def yJ6_stringSize_0f7a4 : MethodName := ⟨RJ6, "stringSize", "(I)I"⟩
abbrev cJ6_numberOfLeadingZeros_0f7a4 : ByteArray := prog_25_method_47_code
def yJ6_numberOfLeadingZeros_0f7a4 : MethodName := ⟨RJ6, "numberOfLeadingZeros", "(I)I"⟩
abbrev cJ6_numberOfTrailingZeros_0f7a4 : ByteArray := prog_25_method_48_code
def yJ6_numberOfTrailingZeros_0f7a4 : MethodName := ⟨RJ6, "numberOfTrailingZeros", "(I)I"⟩
abbrev cJ6_reverseBytes_0f7a4 : ByteArray := prog_25_method_57_code
def yJ6_reverseBytes_0f7a4 : MethodName := ⟨RJ6, "reverseBytes", "(I)I"⟩
def RJ13 : String := "java/lang/Long"
abbrev cJ13_compare_74951 : ByteArray := prog_26_method_42_code
def yJ13_compare_74951 : MethodName := ⟨RJ13, "compare", "(JJ)I"⟩
abbrev cJ13_compareUnsigned_74951 : ByteArray := prog_26_method_43_code
def yJ13_compareUnsigned_74951 : MethodName := ⟨RJ13, "compareUnsigned", "(JJ)I"⟩
abbrev cJ13_divideUnsigned_f86c9 : ByteArray := prog_26_method_44_code
def yJ13_divideUnsigned_f86c9 : MethodName := ⟨RJ13, "divideUnsigned", "(JJ)J"⟩
abbrev cJ13_remainderUnsigned_f86c9 : ByteArray := prog_26_method_45_code
def yJ13_remainderUnsigned_f86c9 : MethodName := ⟨RJ13, "remainderUnsigned", "(JJ)J"⟩
abbrev cJ13_numberOfLeadingZeros_95d88 : ByteArray := prog_26_method_48_code
def yJ13_numberOfLeadingZeros_95d88 : MethodName := ⟨RJ13, "numberOfLeadingZeros", "(J)I"⟩
abbrev cJ13_numberOfTrailingZeros_95d88 : ByteArray := prog_26_method_49_code
def yJ13_numberOfTrailingZeros_95d88 : MethodName := ⟨RJ13, "numberOfTrailingZeros", "(J)I"⟩
abbrev cJ13_bitCount_95d88 : ByteArray := prog_26_method_50_code
def yJ13_bitCount_95d88 : MethodName := ⟨RJ13, "bitCount", "(J)I"⟩
abbrev cJ13_reverseBytes_067f4 : ByteArray := prog_26_method_58_code
def yJ13_reverseBytes_067f4 : MethodName := ⟨RJ13, "reverseBytes", "(J)J"⟩
def RJ9 : String := "java/lang/Math"
abbrev cJ9_multiplyHigh_f86c9 : ByteArray := prog_27_method_45_code
def yJ9_multiplyHigh_f86c9 : MethodName := ⟨RJ9, "multiplyHigh", "(JJ)J"⟩
def RJxd2413 : String := "java/lang/Numbe\x72"
def RJ0 : String := "java/lang/String"
def TJ0 : u_T := fun k => match k with
  | 0 => ("java/lang/String", "value", "[B", true)
  | 1 => ("java/lang/String", "code\x72", "B", true)
  | 2 => ("java/lang/String", "hash", "I", false)
  | _ => ("java/lang/String", "hashIsZero", "Z", false)
def tyJ0 : Nat → FieldType := fun k => match k with
  | 0 => .array .byte
  | 1 => .byte
  | 2 => .int
  | _ => .boolean
theorem nmJ0 : ∀ a, a < 4 → ∀ b, b < 4 → a ≠ b → (TJ0 a).2.1 ≠ (TJ0 b).2.1 := by decide +kernel
theorem tyJ0_ok : ∀ k, k < 4 → parseFieldDescriptor (TJ0 k).2.2.1 = some (tyJ0 k) := by decide +kernel
abbrev cJ0_init_81219 : ByteArray := prog_30_method_53_code
def yJ0_init_81219 : MethodName := ⟨RJ0, "<init>", "(Ljava/lang/StringBuilder;)V"⟩
abbrev cJ0_length_8abf5 : ByteArray := prog_30_method_54_code
def yJ0_length_8abf5 : MethodName := ⟨RJ0, "length", "()I"⟩
abbrev cJ0_charAt_5068e : ByteArray := prog_30_method_56_code
def yJ0_charAt_5068e : MethodName := ⟨RJ0, "charAt", "(I)C"⟩
abbrev cJ0_substring_37a41 : ByteArray := prog_30_method_92_code
def yJ0_substring_37a41 : MethodName := ⟨RJ0, "substring", "(II)Ljava/lang/String;"⟩
abbrev cJ0_getBytes_840e7 : ByteArray := prog_30_method_147_code
def yJ0_getBytes_840e7 : MethodName := ⟨RJ0, "getBytes", "([BIB)V"⟩
abbrev cJ0_init_db425 : ByteArray := prog_30_method_150_code
def yJ0_init_db425 : MethodName := ⟨RJ0, "<init>", "(Ljava/lang/AbstractStringBuilder;Ljava/lang/Void;)V"⟩
abbrev cJ0_init_031fb : ByteArray := prog_30_method_151_code
def yJ0_init_031fb : MethodName := ⟨RJ0, "<init>", "([BB)V"⟩
abbrev cJ0_coder_7d493 : ByteArray := prog_30_method_152_code
def yJ0_coder_7d493 : MethodName := ⟨RJ0, "code\x72", "()B"⟩
abbrev cJ0_isLatin1_aae02 : ByteArray := prog_30_method_154_code
def yJ0_isLatin1_aae02 : MethodName := ⟨RJ0, "isLatin1", "()Z"⟩
abbrev cJ0_checkIndex_df160 : ByteArray := prog_30_method_155_code
def yJ0_checkIndex_df160 : MethodName := ⟨RJ0, "checkIndex", "(II)V"⟩
abbrev cJ0_checkBoundsBeginEnd_23922 : ByteArray := prog_30_method_158_code
def yJ0_checkBoundsBeginEnd_23922 : MethodName := ⟨RJ0, "checkBoundsBeginEnd", "(III)V"⟩
def RJ4 : String := "java/lang/StringBuilde\x72"
def TJ4 : u_T := fun k => match k with
  | 0 => ("java/lang/AbstractStringBuilde\x72", "value", "[B", false)
  | 1 => ("java/lang/AbstractStringBuilde\x72", "code\x72", "B", false)
  | 2 => ("java/lang/AbstractStringBuilde\x72", "maybeLatin1", "Z", false)
  | _ => ("java/lang/AbstractStringBuilde\x72", "count", "I", false)
def tyJ4 : Nat → FieldType := fun k => match k with
  | 0 => .array .byte
  | 1 => .byte
  | 2 => .boolean
  | _ => .int
theorem nmJ4 : ∀ a, a < 4 → ∀ b, b < 4 → a ≠ b → (TJ4 a).2.1 ≠ (TJ4 b).2.1 := by decide +kernel
theorem tyJ4_ok : ∀ k, k < 4 → parseFieldDescriptor (TJ4 k).2.2.1 = some (tyJ4 k) := by decide +kernel
abbrev cJ4_init_da8c8 : ByteArray := prog_31_method_1_code
def yJ4_init_da8c8 : MethodName := ⟨RJ4, "<init>", "()V"⟩
abbrev cJ4_append_15ec4 : ByteArray := prog_31_method_7_code
def yJ4_append_15ec4 : MethodName := ⟨RJ4, "append", "(Ljava/lang/String;)Ljava/lang/StringBuilder;"⟩
abbrev cJ4_append_bf812 : ByteArray := prog_31_method_15_code
def yJ4_append_bf812 : MethodName := ⟨RJ4, "append", "(I)Ljava/lang/StringBuilder;"⟩
abbrev cJ4_toString_0e30d : ByteArray := prog_31_method_42_code
def yJ4_toString_0e30d : MethodName := ⟨RJ4, "toString", "()Ljava/lang/String;"⟩
abbrev cJ4_length_8abf5 : ByteArray := prog_31_method_93_code
def yJ4_length_8abf5 : MethodName := ⟨RJ4, "length", "()I"⟩
def RJ1 : String := "java/lang/StringLatin1"
abbrev cJ1_charAt_3b067 : ByteArray := prog_32_method_2_code
def yJ1_charAt_3b067 : MethodName := ⟨RJ1, "charAt", "([BI)C"⟩
abbrev cJ1_newString_b4f7a : ByteArray := prog_32_method_47_code
def yJ1_newString_b4f7a : MethodName := ⟨RJ1, "newString", "([BII)Ljava/lang/String;"⟩
def RJ2 : String := "java/lang/StringUTF16"
def RJ10 : String := "java/lang/System"
def RJxfd54e : String := "java/lang/constant/Constable"
def RJx3cf43 : String := "java/lang/constant/ConstantDesc"
def RJ7 : String := "java/util/Arrays"
abbrev cJ7_rangeCheck_23922 : ByteArray := prog_38_method_30_code
def yJ7_rangeCheck_23922 : MethodName := ⟨RJ7, "rangeCheck", "(III)V"⟩
abbrev cJ7_fill_d0a16 : ByteArray := prog_38_method_101_code
def yJ7_fill_d0a16 : MethodName := ⟨RJ7, "fill", "([JJ)V"⟩
abbrev cJ7_fill_53178 : ByteArray := prog_38_method_103_code
def yJ7_fill_53178 : MethodName := ⟨RJ7, "fill", "([II)V"⟩
abbrev cJ7_fill_fda19 : ByteArray := prog_38_method_104_code
def yJ7_fill_fda19 : MethodName := ⟨RJ7, "fill", "([IIII)V"⟩
abbrev cJ7_fill_031fb : ByteArray := prog_38_method_109_code
def yJ7_fill_031fb : MethodName := ⟨RJ7, "fill", "([BB)V"⟩
abbrev cJ7_fill_eb02e : ByteArray := prog_38_method_110_code
def yJ7_fill_eb02e : MethodName := ⟨RJ7, "fill", "([BIIB)V"⟩
abbrev cJ7_checkLength_df160 : ByteArray := prog_38_method_131_code
def yJ7_checkLength_df160 : MethodName := ⟨RJ7, "checkLength", "(II)V"⟩
abbrev cJ7_copyOfRange_39247 : ByteArray := prog_38_method_132_code
def yJ7_copyOfRange_39247 : MethodName := ⟨RJ7, "copyOfRange", "([BII)[B"⟩
abbrev cJ7_copyOfRangeByte_39247 : ByteArray := prog_38_method_133_code
def yJ7_copyOfRangeByte_39247 : MethodName := ⟨RJ7, "copyOfRangeByte", "([BII)[B"⟩
def RJ8 : String := "jdk/internal/util/ArraysSupport"
def RJ3 : String := "jdk/internal/util/Preconditions"
abbrev cJ3_checkIndex_8e157 : ByteArray := prog_41_method_11_code
def yJ3_checkIndex_8e157 : MethodName := ⟨RJ3, "checkIndex", "(IILjava/util/function/BiFunction;)I"⟩
abbrev cJ3_checkFromToIndex_8c36e : ByteArray := prog_41_method_12_code
def yJ3_checkFromToIndex_8c36e : MethodName := ⟨RJ3, "checkFromToIndex", "(IIILjava/util/function/BiFunction;)I"⟩
def RL : String := "NativeWorksLaw"
abbrev cL_unit : ByteArray := method_3_code
def yL_unit : MethodName := ⟨RL, "unit", "(LNativeWorks;IZ[J)I"⟩
abbrev cL_link : ByteArray := method_4_code
def yL_link : MethodName := ⟨RL, "link", "(LNativeWorks;[J)I"⟩
abbrev cL_symbol : ByteArray := method_5_code
def yL_symbol : MethodName := ⟨RL, "symbol", "(LNativeWorks;I[J)I"⟩
abbrev cL_load : ByteArray := method_6_code
def yL_load : MethodName := ⟨RL, "load", "(LNativeWorks;[J)I"⟩
abbrev cL_run : ByteArray := method_7_code
def yL_run : MethodName := ⟨RL, "run", "(LNativeWorks;I[J)I"⟩
abbrev cL_law : ByteArray := code
def yL_law : MethodName := ⟨RL, "law", "([I)Z"⟩
theorem dX0_init_0 : decode cX0_init 0 = .ok (.aload_n 0, 1) := by decide +kernel
theorem dX0_init_1 : decode cX0_init 1 = .ok (.invokespecial 3, 3) := by decide +kernel
theorem dX0_init_4 : decode cX0_init 4 = .ok (.new 9, 3) := by decide +kernel
theorem dX0_init_7 : decode cX0_init 7 = .ok (.dup, 1) := by decide +kernel
theorem dX0_init_8 : decode cX0_init 8 = .ok (.invokespecial 11, 3) := by decide +kernel
theorem dX0_init_11 : decode cX0_init 11 = .ok (.astore_n 3, 1) := by decide +kernel
theorem dX0_init_12 : decode cX0_init 12 = .ok (.aload_n 0, 1) := by decide +kernel
theorem dX0_init_13 : decode cX0_init 13 = .ok (.aload_n 3, 1) := by decide +kernel
theorem dX0_init_14 : decode cX0_init 14 = .ok (.putfield 12, 3) := by decide +kernel
theorem dX0_init_17 : decode cX0_init 17 = .ok (.aload_n 0, 1) := by decide +kernel
theorem dX0_init_18 : decode cX0_init 18 = .ok (.aload_n 2, 1) := by decide +kernel
theorem dX0_init_19 : decode cX0_init 19 = .ok (.putfield 18, 3) := by decide +kernel
theorem dX0_init_22 : decode cX0_init 22 = .ok (.aload_n 0, 1) := by decide +kernel
theorem dX0_init_23 : decode cX0_init 23 = .ok (.new 22, 3) := by decide +kernel
theorem dX0_init_26 : decode cX0_init 26 = .ok (.dup, 1) := by decide +kernel
theorem dX0_init_27 : decode cX0_init 27 = .ok (.new 24, 3) := by decide +kernel
theorem dX0_init_30 : decode cX0_init 30 = .ok (.dup, 1) := by decide +kernel
theorem dX0_init_31 : decode cX0_init 31 = .ok (.aload_n 1, 1) := by decide +kernel
theorem dX0_init_32 : decode cX0_init 32 = .ok (.aload_n 3, 1) := by decide +kernel
theorem dX0_init_33 : decode cX0_init 33 = .ok (.getfield 26, 3) := by decide +kernel
theorem dX0_init_36 : decode cX0_init 36 = .ok (.invokespecial 30, 3) := by decide +kernel
theorem dX0_init_39 : decode cX0_init 39 = .ok (.aload_n 3, 1) := by decide +kernel
theorem dX0_init_40 : decode cX0_init 40 = .ok (.invokespecial 33, 3) := by decide +kernel
theorem dX0_init_43 : decode cX0_init 43 = .ok (.putfield 36, 3) := by decide +kernel
theorem dX0_init_46 : decode cX0_init 46 = .ok (.aload_n 0, 1) := by decide +kernel
theorem dX0_init_47 : decode cX0_init 47 = .ok (.new 40, 3) := by decide +kernel
theorem dX0_init_50 : decode cX0_init 50 = .ok (.dup, 1) := by decide +kernel
theorem dX0_init_51 : decode cX0_init 51 = .ok (.aload_n 3, 1) := by decide +kernel
theorem dX0_init_52 : decode cX0_init 52 = .ok (.aload_n 2, 1) := by decide +kernel
theorem dX0_init_53 : decode cX0_init 53 = .ok (.invokespecial 42, 3) := by decide +kernel
theorem dX0_init_56 : decode cX0_init 56 = .ok (.putfield 45, 3) := by decide +kernel
theorem dX0_init_59 : decode cX0_init 59 = .ok (.aload_n 0, 1) := by decide +kernel
theorem dX0_init_60 : decode cX0_init 60 = .ok (.new 49, 3) := by decide +kernel
theorem dX0_init_63 : decode cX0_init 63 = .ok (.dup, 1) := by decide +kernel
theorem dX0_init_64 : decode cX0_init 64 = .ok (.invokespecial 51, 3) := by decide +kernel
theorem dX0_init_67 : decode cX0_init 67 = .ok (.putfield 52, 3) := by decide +kernel
theorem dX0_init_70 : decode cX0_init 70 = .ok (.aload_n 0, 1) := by decide +kernel
theorem dX0_init_71 : decode cX0_init 71 = .ok (.iconst 4, 1) := by decide +kernel
theorem dX0_init_72 : decode cX0_init 72 = .ok (.newarray .int, 2) := by decide +kernel
theorem dX0_init_74 : decode cX0_init 74 = .ok (.putfield 56, 3) := by decide +kernel
theorem dX0_init_77 : decode cX0_init 77 = .ok (.return_, 1) := by decide +kernel
theorem dX1_init_0 : decode cX1_init 0 = .ok (.aload_n 0, 1) := by decide +kernel
theorem dX1_init_1 : decode cX1_init 1 = .ok (.invokespecial 3, 3) := by decide +kernel
theorem dX1_init_4 : decode cX1_init 4 = .ok (.aload_n 0, 1) := by decide +kernel
theorem dX1_init_5 : decode cX1_init 5 = .ok (.aload_n 1, 1) := by decide +kernel
theorem dX1_init_6 : decode cX1_init 6 = .ok (.putfield 9, 3) := by decide +kernel
theorem dX1_init_9 : decode cX1_init 9 = .ok (.aload_n 0, 1) := by decide +kernel
theorem dX1_init_10 : decode cX1_init 10 = .ok (.aload_n 2, 1) := by decide +kernel
theorem dX1_init_11 : decode cX1_init 11 = .ok (.putfield 15, 3) := by decide +kernel
theorem dX1_init_14 : decode cX1_init 14 = .ok (.aload_n 0, 1) := by decide +kernel
theorem dX1_init_15 : decode cX1_init 15 = .ok (.sipush 1026, 3) := by decide +kernel
theorem dX1_init_18 : decode cX1_init 18 = .ok (.newarray .long, 2) := by decide +kernel
theorem dX1_init_20 : decode cX1_init 20 = .ok (.putfield 21, 3) := by decide +kernel
theorem dX1_init_23 : decode cX1_init 23 = .ok (.aload_n 0, 1) := by decide +kernel
theorem dX1_init_24 : decode cX1_init 24 = .ok (.sipush 1026, 3) := by decide +kernel
theorem dX1_init_27 : decode cX1_init 27 = .ok (.newarray .int, 2) := by decide +kernel
theorem dX1_init_29 : decode cX1_init 29 = .ok (.putfield 25, 3) := by decide +kernel
theorem dX1_init_32 : decode cX1_init 32 = .ok (.aload_n 0, 1) := by decide +kernel
theorem dX1_init_33 : decode cX1_init 33 = .ok (.sipush 1026, 3) := by decide +kernel
theorem dX1_init_36 : decode cX1_init 36 = .ok (.newarray .int, 2) := by decide +kernel
theorem dX1_init_38 : decode cX1_init 38 = .ok (.putfield 29, 3) := by decide +kernel
theorem dX1_init_41 : decode cX1_init 41 = .ok (.aload_n 0, 1) := by decide +kernel
theorem dX1_init_42 : decode cX1_init 42 = .ok (.sipush 1026, 3) := by decide +kernel
theorem dX1_init_45 : decode cX1_init 45 = .ok (.newarray .int, 2) := by decide +kernel
theorem dX1_init_47 : decode cX1_init 47 = .ok (.putfield 32, 3) := by decide +kernel
theorem dX1_init_50 : decode cX1_init 50 = .ok (.aload_n 0, 1) := by decide +kernel
theorem dX1_init_51 : decode cX1_init 51 = .ok (.sipush 128, 3) := by decide +kernel
theorem dX1_init_54 : decode cX1_init 54 = .ok (.newarray .byte, 2) := by decide +kernel
theorem dX1_init_56 : decode cX1_init 56 = .ok (.putfield 35, 3) := by decide +kernel
theorem dX1_init_59 : decode cX1_init 59 = .ok (.aload_n 0, 1) := by decide +kernel
theorem dX1_init_60 : decode cX1_init 60 = .ok (.bipush 64, 2) := by decide +kernel
theorem dX1_init_62 : decode cX1_init 62 = .ok (.newarray .byte, 2) := by decide +kernel
theorem dX1_init_64 : decode cX1_init 64 = .ok (.putfield 39, 3) := by decide +kernel
theorem dX1_init_67 : decode cX1_init 67 = .ok (.return_, 1) := by decide +kernel
theorem dX2_init_0 : decode cX2_init 0 = .ok (.aload_n 0, 1) := by decide +kernel
theorem dX2_init_1 : decode cX2_init 1 = .ok (.invokespecial 3, 3) := by decide +kernel
theorem dX2_init_4 : decode cX2_init 4 = .ok (.aload_n 0, 1) := by decide +kernel
theorem dX2_init_5 : decode cX2_init 5 = .ok (.bipush 8, 2) := by decide +kernel
theorem dX2_init_7 : decode cX2_init 7 = .ok (.getstatic 9, 3) := by decide +kernel
theorem dX2_init_10 : decode cX2_init 10 = .ok (.arraylength, 1) := by decide +kernel
theorem dX2_init_11 : decode cX2_init 11 = .ok (.imul, 1) := by decide +kernel
theorem dX2_init_12 : decode cX2_init 12 = .ok (.getstatic 15, 3) := by decide +kernel
theorem dX2_init_15 : decode cX2_init 15 = .ok (.arraylength, 1) := by decide +kernel
theorem dX2_init_16 : decode cX2_init 16 = .ok (.iadd, 1) := by decide +kernel
theorem dX2_init_17 : decode cX2_init 17 = .ok (.newarray .int, 2) := by decide +kernel
theorem dX2_init_19 : decode cX2_init 19 = .ok (.putfield 18, 3) := by decide +kernel
theorem dX2_init_22 : decode cX2_init 22 = .ok (.aload_n 0, 1) := by decide +kernel
theorem dX2_init_23 : decode cX2_init 23 = .ok (.bipush 55, 2) := by decide +kernel
theorem dX2_init_25 : decode cX2_init 25 = .ok (.newarray .int, 2) := by decide +kernel
theorem dX2_init_27 : decode cX2_init 27 = .ok (.putfield 21, 3) := by decide +kernel
theorem dX2_init_30 : decode cX2_init 30 = .ok (.aload_n 0, 1) := by decide +kernel
theorem dX2_init_31 : decode cX2_init 31 = .ok (.sipush 6144, 3) := by decide +kernel
theorem dX2_init_34 : decode cX2_init 34 = .ok (.newarray .int, 2) := by decide +kernel
theorem dX2_init_36 : decode cX2_init 36 = .ok (.putfield 24, 3) := by decide +kernel
theorem dX2_init_39 : decode cX2_init 39 = .ok (.aload_n 0, 1) := by decide +kernel
theorem dX2_init_40 : decode cX2_init 40 = .ok (.iconst 4, 1) := by decide +kernel
theorem dX2_init_41 : decode cX2_init 41 = .ok (.newarray .int, 2) := by decide +kernel
theorem dX2_init_43 : decode cX2_init 43 = .ok (.putfield 27, 3) := by decide +kernel
theorem dX2_init_46 : decode cX2_init 46 = .ok (.aload_n 0, 1) := by decide +kernel
theorem dX2_init_47 : decode cX2_init 47 = .ok (.iconst 4, 1) := by decide +kernel
theorem dX2_init_48 : decode cX2_init 48 = .ok (.newarray .int, 2) := by decide +kernel
theorem dX2_init_50 : decode cX2_init 50 = .ok (.putfield 30, 3) := by decide +kernel
theorem dX2_init_53 : decode cX2_init 53 = .ok (.aload_n 0, 1) := by decide +kernel
theorem dX2_init_54 : decode cX2_init 54 = .ok (.bipush 32, 2) := by decide +kernel
theorem dX2_init_56 : decode cX2_init 56 = .ok (.newarray .byte, 2) := by decide +kernel
theorem dX2_init_58 : decode cX2_init 58 = .ok (.putfield 33, 3) := by decide +kernel
theorem dX2_init_61 : decode cX2_init 61 = .ok (.aload_n 0, 1) := by decide +kernel
theorem dX2_init_62 : decode cX2_init 62 = .ok (.getfield 24, 3) := by decide +kernel
theorem dX2_init_65 : decode cX2_init 65 = .ok (.iconst (-1), 1) := by decide +kernel
theorem dX2_init_66 : decode cX2_init 66 = .ok (.invokestatic 37, 3) := by decide +kernel
theorem dX2_init_69 : decode cX2_init 69 = .ok (.iconst 0, 1) := by decide +kernel
theorem dX2_init_70 : decode cX2_init 70 = .ok (.istore_n 1, 1) := by decide +kernel
theorem dX2_init_71 : decode cX2_init 71 = .ok (.iload_n 1, 1) := by decide +kernel
theorem dX2_init_72 : decode cX2_init 72 = .ok (.bipush 8, 2) := by decide +kernel
theorem dX2_init_74 : decode cX2_init 74 = .ok (.getstatic 9, 3) := by decide +kernel
theorem dX2_init_77 : decode cX2_init 77 = .ok (.arraylength, 1) := by decide +kernel
theorem dX2_init_78 : decode cX2_init 78 = .ok (.imul, 1) := by decide +kernel
theorem dX2_init_79 : decode cX2_init 79 = .ok (.if_icmp .ge 94, 3) := by decide +kernel
theorem dX2_init_82 : decode cX2_init 82 = .ok (.iload_n 1, 1) := by decide +kernel
theorem dX2_init_83 : decode cX2_init 83 = .ok (.getstatic 9, 3) := by decide +kernel
theorem dX2_init_86 : decode cX2_init 86 = .ok (.arraylength, 1) := by decide +kernel
theorem dX2_init_87 : decode cX2_init 87 = .ok (.idiv, 1) := by decide +kernel
theorem dX2_init_88 : decode cX2_init 88 = .ok (.istore_n 2, 1) := by decide +kernel
theorem dX2_init_89 : decode cX2_init 89 = .ok (.iload_n 1, 1) := by decide +kernel
theorem dX2_init_90 : decode cX2_init 90 = .ok (.bipush 6, 2) := by decide +kernel
theorem dX2_init_92 : decode cX2_init 92 = .ok (.irem, 1) := by decide +kernel
theorem dX2_init_93 : decode cX2_init 93 = .ok (.istore_n 3, 1) := by decide +kernel
theorem dX2_init_94 : decode cX2_init 94 = .ok (.getstatic 9, 3) := by decide +kernel
theorem dX2_init_97 : decode cX2_init 97 = .ok (.iload_n 1, 1) := by decide +kernel
theorem dX2_init_98 : decode cX2_init 98 = .ok (.getstatic 9, 3) := by decide +kernel
theorem dX2_init_101 : decode cX2_init 101 = .ok (.arraylength, 1) := by decide +kernel
theorem dX2_init_102 : decode cX2_init 102 = .ok (.irem, 1) := by decide +kernel
theorem dX2_init_103 : decode cX2_init 103 = .ok (.iaload, 1) := by decide +kernel
theorem dX2_init_104 : decode cX2_init 104 = .ok (.istore 4, 2) := by decide +kernel
theorem dX2_init_106 : decode cX2_init 106 = .ok (.iload_n 3, 1) := by decide +kernel
theorem dX2_init_107 : decode cX2_init 107 = .ok (.ifCond .eq 13, 3) := by decide +kernel
theorem dX2_init_110 : decode cX2_init 110 = .ok (.iload_n 3, 1) := by decide +kernel
theorem dX2_init_111 : decode cX2_init 111 = .ok (.iconst 5, 1) := by decide +kernel
theorem dX2_init_112 : decode cX2_init 112 = .ok (.if_icmp .ne 12, 3) := by decide +kernel
theorem dX2_init_115 : decode cX2_init 115 = .ok (.iload 4, 2) := by decide +kernel
theorem dX2_init_117 : decode cX2_init 117 = .ok (.ifCond .ne 7, 3) := by decide +kernel
theorem dX2_init_120 : decode cX2_init 120 = .ok (.iconst 1, 1) := by decide +kernel
theorem dX2_init_121 : decode cX2_init 121 = .ok (.goto 4, 3) := by decide +kernel
theorem dX2_init_124 : decode cX2_init 124 = .ok (.iconst 0, 1) := by decide +kernel
theorem dX2_init_125 : decode cX2_init 125 = .ok (.istore 5, 2) := by decide +kernel
theorem dX2_init_127 : decode cX2_init 127 = .ok (.aload_n 0, 1) := by decide +kernel
theorem dX2_init_128 : decode cX2_init 128 = .ok (.getfield 18, 3) := by decide +kernel
theorem dX2_init_131 : decode cX2_init 131 = .ok (.iload_n 1, 1) := by decide +kernel
theorem dX2_init_132 : decode cX2_init 132 = .ok (.iload 5, 2) := by decide +kernel
theorem dX2_init_134 : decode cX2_init 134 = .ok (.ifCond .eq 7, 3) := by decide +kernel
theorem dX2_init_137 : decode cX2_init 137 = .ok (.iload_n 2, 1) := by decide +kernel
theorem dX2_init_138 : decode cX2_init 138 = .ok (.goto 28, 3) := by decide +kernel
theorem dX2_init_141 : decode cX2_init 141 = .ok (.iload_n 3, 1) := by decide +kernel
theorem dX2_init_142 : decode cX2_init 142 = .ok (.iconst 4, 1) := by decide +kernel
theorem dX2_init_143 : decode cX2_init 143 = .ok (.if_icmp .ne 21, 3) := by decide +kernel
theorem dX2_init_146 : decode cX2_init 146 = .ok (.iload 4, 2) := by decide +kernel
theorem dX2_init_148 : decode cX2_init 148 = .ok (.sipush 128, 3) := by decide +kernel
theorem dX2_init_151 : decode cX2_init 151 = .ok (.if_icmp .ge 13, 3) := by decide +kernel
theorem dX2_init_154 : decode cX2_init 154 = .ok (.iload 4, 2) := by decide +kernel
theorem dX2_init_156 : decode cX2_init 156 = .ok (.bipush 8, 2) := by decide +kernel
theorem dX2_init_158 : decode cX2_init 158 = .ok (.iload_n 2, 1) := by decide +kernel
theorem dX2_init_159 : decode cX2_init 159 = .ok (.imul, 1) := by decide +kernel
theorem dX2_init_160 : decode cX2_init 160 = .ok (.iadd, 1) := by decide +kernel
theorem dX2_init_161 : decode cX2_init 161 = .ok (.goto 5, 3) := by decide +kernel
theorem dX2_init_164 : decode cX2_init 164 = .ok (.iload 4, 2) := by decide +kernel
theorem dX2_init_166 : decode cX2_init 166 = .ok (.iastore, 1) := by decide +kernel
theorem dX2_init_167 : decode cX2_init 167 = .ok (.iinc 1 1, 3) := by decide +kernel
theorem dX2_init_170 : decode cX2_init 170 = .ok (.goto (-99), 3) := by decide +kernel
theorem dX2_init_173 : decode cX2_init 173 = .ok (.getstatic 15, 3) := by decide +kernel
theorem dX2_init_176 : decode cX2_init 176 = .ok (.iconst 0, 1) := by decide +kernel
theorem dX2_init_177 : decode cX2_init 177 = .ok (.aload_n 0, 1) := by decide +kernel
theorem dX2_init_178 : decode cX2_init 178 = .ok (.getfield 18, 3) := by decide +kernel
theorem dX2_init_181 : decode cX2_init 181 = .ok (.bipush 8, 2) := by decide +kernel
theorem dX2_init_183 : decode cX2_init 183 = .ok (.getstatic 9, 3) := by decide +kernel
theorem dX2_init_186 : decode cX2_init 186 = .ok (.arraylength, 1) := by decide +kernel
theorem dX2_init_187 : decode cX2_init 187 = .ok (.imul, 1) := by decide +kernel
theorem dX2_init_188 : decode cX2_init 188 = .ok (.getstatic 15, 3) := by decide +kernel
theorem dX2_init_191 : decode cX2_init 191 = .ok (.arraylength, 1) := by decide +kernel
theorem dX2_init_192 : decode cX2_init 192 = .ok (.invokestatic 43, 3) := by decide +kernel
theorem dX2_init_195 : decode cX2_init 195 = .ok (.iconst 0, 1) := by decide +kernel
theorem dX2_init_196 : decode cX2_init 196 = .ok (.istore_n 1, 1) := by decide +kernel
theorem dX2_init_197 : decode cX2_init 197 = .ok (.iload_n 1, 1) := by decide +kernel
theorem dX2_init_198 : decode cX2_init 198 = .ok (.aload_n 0, 1) := by decide +kernel
theorem dX2_init_199 : decode cX2_init 199 = .ok (.getfield 18, 3) := by decide +kernel
theorem dX2_init_202 : decode cX2_init 202 = .ok (.arraylength, 1) := by decide +kernel
theorem dX2_init_203 : decode cX2_init 203 = .ok (.if_icmp .ge 31, 3) := by decide +kernel
theorem dX2_init_206 : decode cX2_init 206 = .ok (.aload_n 0, 1) := by decide +kernel
theorem dX2_init_207 : decode cX2_init 207 = .ok (.getfield 21, 3) := by decide +kernel
theorem dX2_init_210 : decode cX2_init 210 = .ok (.aload_n 0, 1) := by decide +kernel
theorem dX2_init_211 : decode cX2_init 211 = .ok (.getfield 18, 3) := by decide +kernel
theorem dX2_init_214 : decode cX2_init 214 = .ok (.iload_n 1, 1) := by decide +kernel
theorem dX2_init_215 : decode cX2_init 215 = .ok (.iaload, 1) := by decide +kernel
theorem dX2_init_216 : decode cX2_init 216 = .ok (.iconst 1, 1) := by decide +kernel
theorem dX2_init_217 : decode cX2_init 217 = .ok (.iadd, 1) := by decide +kernel
theorem dX2_init_218 : decode cX2_init 218 = .ok (.iload_n 1, 1) := by decide +kernel
theorem dX2_init_219 : decode cX2_init 219 = .ok (.bipush 6, 2) := by decide +kernel
theorem dX2_init_221 : decode cX2_init 221 = .ok (.iadd, 1) := by decide +kernel
theorem dX2_init_222 : decode cX2_init 222 = .ok (.iastore, 1) := by decide +kernel
theorem dX2_init_223 : decode cX2_init 223 = .ok (.aload_n 0, 1) := by decide +kernel
theorem dX2_init_224 : decode cX2_init 224 = .ok (.iload_n 1, 1) := by decide +kernel
theorem dX2_init_225 : decode cX2_init 225 = .ok (.invokevirtual 49, 3) := by decide +kernel
theorem dX2_init_228 : decode cX2_init 228 = .ok (.iinc 1 6, 3) := by decide +kernel
theorem dX2_init_231 : decode cX2_init 231 = .ok (.goto (-34), 3) := by decide +kernel
theorem dX2_init_234 : decode cX2_init 234 = .ok (.return_, 1) := by decide +kernel
theorem dX2_enter_0 : decode cX2_enter 0 = .ok (.aload_n 0, 1) := by decide +kernel
theorem dX2_enter_1 : decode cX2_enter 1 = .ok (.getfield 18, 3) := by decide +kernel
theorem dX2_enter_4 : decode cX2_enter 4 = .ok (.iload_n 1, 1) := by decide +kernel
theorem dX2_enter_5 : decode cX2_enter 5 = .ok (.iconst 4, 1) := by decide +kernel
theorem dX2_enter_6 : decode cX2_enter 6 = .ok (.iadd, 1) := by decide +kernel
theorem dX2_enter_7 : decode cX2_enter 7 = .ok (.iaload, 1) := by decide +kernel
theorem dX2_enter_8 : decode cX2_enter 8 = .ok (.istore_n 2, 1) := by decide +kernel
theorem dX2_enter_9 : decode cX2_enter 9 = .ok (.iload_n 2, 1) := by decide +kernel
theorem dX2_enter_10 : decode cX2_enter 10 = .ok (.bipush 8, 2) := by decide +kernel
theorem dX2_enter_12 : decode cX2_enter 12 = .ok (.ishr, 1) := by decide +kernel
theorem dX2_enter_13 : decode cX2_enter 13 = .ok (.bipush 15, 2) := by decide +kernel
theorem dX2_enter_15 : decode cX2_enter 15 = .ok (.if_icmp .ne 7, 3) := by decide +kernel
theorem dX2_enter_18 : decode cX2_enter 18 = .ok (.iconst 1, 1) := by decide +kernel
theorem dX2_enter_19 : decode cX2_enter 19 = .ok (.goto 18, 3) := by decide +kernel
theorem dX2_enter_22 : decode cX2_enter 22 = .ok (.iload_n 2, 1) := by decide +kernel
theorem dX2_enter_23 : decode cX2_enter 23 = .ok (.bipush 8, 2) := by decide +kernel
theorem dX2_enter_25 : decode cX2_enter 25 = .ok (.ishr, 1) := by decide +kernel
theorem dX2_enter_26 : decode cX2_enter 26 = .ok (.sipush 243, 3) := by decide +kernel
theorem dX2_enter_29 : decode cX2_enter 29 = .ok (.if_icmp .ne 7, 3) := by decide +kernel
theorem dX2_enter_32 : decode cX2_enter 32 = .ok (.iconst 2, 1) := by decide +kernel
theorem dX2_enter_33 : decode cX2_enter 33 = .ok (.goto 4, 3) := by decide +kernel
theorem dX2_enter_36 : decode cX2_enter 36 = .ok (.iconst 0, 1) := by decide +kernel
theorem dX2_enter_37 : decode cX2_enter 37 = .ok (.istore_n 3, 1) := by decide +kernel
theorem dX2_enter_38 : decode cX2_enter 38 = .ok (.getstatic 53, 3) := by decide +kernel
theorem dX2_enter_41 : decode cX2_enter 41 = .ok (.aload_n 0, 1) := by decide +kernel
theorem dX2_enter_42 : decode cX2_enter 42 = .ok (.getfield 18, 3) := by decide +kernel
theorem dX2_enter_45 : decode cX2_enter 45 = .ok (.iload_n 1, 1) := by decide +kernel
theorem dX2_enter_46 : decode cX2_enter 46 = .ok (.iconst 2, 1) := by decide +kernel
theorem dX2_enter_47 : decode cX2_enter 47 = .ok (.iadd, 1) := by decide +kernel
theorem dX2_enter_48 : decode cX2_enter 48 = .ok (.iaload, 1) := by decide +kernel
theorem dX2_enter_49 : decode cX2_enter 49 = .ok (.iaload, 1) := by decide +kernel
theorem dX2_enter_50 : decode cX2_enter 50 = .ok (.iconst (-1), 1) := by decide +kernel
theorem dX2_enter_51 : decode cX2_enter 51 = .ok (.if_icmp .eq 8, 3) := by decide +kernel
theorem dX2_enter_54 : decode cX2_enter 54 = .ok (.bipush 8, 2) := by decide +kernel
theorem dX2_enter_56 : decode cX2_enter 56 = .ok (.goto 21, 3) := by decide +kernel
theorem dX2_enter_59 : decode cX2_enter 59 = .ok (.aload_n 0, 1) := by decide +kernel
theorem dX2_enter_60 : decode cX2_enter 60 = .ok (.getfield 18, 3) := by decide +kernel
theorem dX2_enter_63 : decode cX2_enter 63 = .ok (.iload_n 1, 1) := by decide +kernel
theorem dX2_enter_64 : decode cX2_enter 64 = .ok (.iaload, 1) := by decide +kernel
theorem dX2_enter_65 : decode cX2_enter 65 = .ok (.invokestatic 56, 3) := by decide +kernel
theorem dX2_enter_68 : decode cX2_enter 68 = .ok (.ifCond .eq 8, 3) := by decide +kernel
theorem dX2_enter_71 : decode cX2_enter 71 = .ok (.bipush 16, 2) := by decide +kernel
theorem dX2_enter_73 : decode cX2_enter 73 = .ok (.goto 4, 3) := by decide +kernel
theorem dX2_enter_76 : decode cX2_enter 76 = .ok (.iconst 1, 1) := by decide +kernel
theorem dX2_enter_77 : decode cX2_enter 77 = .ok (.istore 4, 2) := by decide +kernel
theorem dX2_enter_79 : decode cX2_enter 79 = .ok (.iload_n 3, 1) := by decide +kernel
theorem dX2_enter_80 : decode cX2_enter 80 = .ok (.sipush 256, 3) := by decide +kernel
theorem dX2_enter_83 : decode cX2_enter 83 = .ok (.imul, 1) := by decide +kernel
theorem dX2_enter_84 : decode cX2_enter 84 = .ok (.iload_n 2, 1) := by decide +kernel
theorem dX2_enter_85 : decode cX2_enter 85 = .ok (.sipush 255, 3) := by decide +kernel
theorem dX2_enter_88 : decode cX2_enter 88 = .ok (.iand, 1) := by decide +kernel
theorem dX2_enter_89 : decode cX2_enter 89 = .ok (.iadd, 1) := by decide +kernel
theorem dX2_enter_90 : decode cX2_enter 90 = .ok (.bipush 8, 2) := by decide +kernel
theorem dX2_enter_92 : decode cX2_enter 92 = .ok (.imul, 1) := by decide +kernel
theorem dX2_enter_93 : decode cX2_enter 93 = .ok (.istore 5, 2) := by decide +kernel
theorem dX2_enter_95 : decode cX2_enter 95 = .ok (.iload 5, 2) := by decide +kernel
theorem dX2_enter_97 : decode cX2_enter 97 = .ok (.istore 6, 2) := by decide +kernel
theorem dX2_enter_99 : decode cX2_enter 99 = .ok (.iload 6, 2) := by decide +kernel
theorem dX2_enter_101 : decode cX2_enter 101 = .ok (.iload 5, 2) := by decide +kernel
theorem dX2_enter_103 : decode cX2_enter 103 = .ok (.bipush 8, 2) := by decide +kernel
theorem dX2_enter_105 : decode cX2_enter 105 = .ok (.iload 4, 2) := by decide +kernel
theorem dX2_enter_107 : decode cX2_enter 107 = .ok (.imul, 1) := by decide +kernel
theorem dX2_enter_108 : decode cX2_enter 108 = .ok (.iadd, 1) := by decide +kernel
theorem dX2_enter_109 : decode cX2_enter 109 = .ok (.if_icmp .ge 64, 3) := by decide +kernel
theorem dX2_enter_112 : decode cX2_enter 112 = .ok (.iload 6, 2) := by decide +kernel
theorem dX2_enter_114 : decode cX2_enter 114 = .ok (.aload_n 0, 1) := by decide +kernel
theorem dX2_enter_115 : decode cX2_enter 115 = .ok (.getfield 24, 3) := by decide +kernel
theorem dX2_enter_118 : decode cX2_enter 118 = .ok (.arraylength, 1) := by decide +kernel
theorem dX2_enter_119 : decode cX2_enter 119 = .ok (.if_icmp .ge 54, 3) := by decide +kernel
theorem dX2_enter_122 : decode cX2_enter 122 = .ok (.aload_n 0, 1) := by decide +kernel
theorem dX2_enter_123 : decode cX2_enter 123 = .ok (.getfield 18, 3) := by decide +kernel
theorem dX2_enter_126 : decode cX2_enter 126 = .ok (.iload_n 1, 1) := by decide +kernel
theorem dX2_enter_127 : decode cX2_enter 127 = .ok (.iconst 5, 1) := by decide +kernel
theorem dX2_enter_128 : decode cX2_enter 128 = .ok (.iadd, 1) := by decide +kernel
theorem dX2_enter_129 : decode cX2_enter 129 = .ok (.iaload, 1) := by decide +kernel
theorem dX2_enter_130 : decode cX2_enter 130 = .ok (.istore 7, 2) := by decide +kernel
theorem dX2_enter_132 : decode cX2_enter 132 = .ok (.iload 7, 2) := by decide +kernel
theorem dX2_enter_134 : decode cX2_enter 134 = .ok (.iconst (-1), 1) := by decide +kernel
theorem dX2_enter_135 : decode cX2_enter 135 = .ok (.if_icmp .eq 13, 3) := by decide +kernel
theorem dX2_enter_138 : decode cX2_enter 138 = .ok (.iload 7, 2) := by decide +kernel
theorem dX2_enter_140 : decode cX2_enter 140 = .ok (.iload 6, 2) := by decide +kernel
theorem dX2_enter_142 : decode cX2_enter 142 = .ok (.bipush 8, 2) := by decide +kernel
theorem dX2_enter_144 : decode cX2_enter 144 = .ok (.irem, 1) := by decide +kernel
theorem dX2_enter_145 : decode cX2_enter 145 = .ok (.if_icmp .ne 22, 3) := by decide +kernel
theorem dX2_enter_148 : decode cX2_enter 148 = .ok (.aload_n 0, 1) := by decide +kernel
theorem dX2_enter_149 : decode cX2_enter 149 = .ok (.getfield 24, 3) := by decide +kernel
theorem dX2_enter_152 : decode cX2_enter 152 = .ok (.iload 6, 2) := by decide +kernel
theorem dX2_enter_154 : decode cX2_enter 154 = .ok (.iaload, 1) := by decide +kernel
theorem dX2_enter_155 : decode cX2_enter 155 = .ok (.iconst (-1), 1) := by decide +kernel
theorem dX2_enter_156 : decode cX2_enter 156 = .ok (.if_icmp .ne 11, 3) := by decide +kernel
theorem dX2_enter_159 : decode cX2_enter 159 = .ok (.aload_n 0, 1) := by decide +kernel
theorem dX2_enter_160 : decode cX2_enter 160 = .ok (.getfield 24, 3) := by decide +kernel
theorem dX2_enter_163 : decode cX2_enter 163 = .ok (.iload 6, 2) := by decide +kernel
theorem dX2_enter_165 : decode cX2_enter 165 = .ok (.iload_n 1, 1) := by decide +kernel
theorem dX2_enter_166 : decode cX2_enter 166 = .ok (.iastore, 1) := by decide +kernel
theorem dX2_enter_167 : decode cX2_enter 167 = .ok (.iinc 6 1, 3) := by decide +kernel
theorem dX2_enter_170 : decode cX2_enter 170 = .ok (.goto (-71), 3) := by decide +kernel
theorem dX2_enter_173 : decode cX2_enter 173 = .ok (.return_, 1) := by decide +kernel
theorem dX2_isConditional_0 : decode cX2_isConditional 0 = .ok (.iload_n 0, 1) := by decide +kernel
theorem dX2_isConditional_1 : decode cX2_isConditional 1 = .ok (.bipush 34, 2) := by decide +kernel
theorem dX2_isConditional_3 : decode cX2_isConditional 3 = .ok (.if_icmp .eq 15, 3) := by decide +kernel
theorem dX2_isConditional_6 : decode cX2_isConditional 6 = .ok (.iload_n 0, 1) := by decide +kernel
theorem dX2_isConditional_7 : decode cX2_isConditional 7 = .ok (.bipush 35, 2) := by decide +kernel
theorem dX2_isConditional_9 : decode cX2_isConditional 9 = .ok (.if_icmp .eq 9, 3) := by decide +kernel
theorem dX2_isConditional_12 : decode cX2_isConditional 12 = .ok (.iload_n 0, 1) := by decide +kernel
theorem dX2_isConditional_13 : decode cX2_isConditional 13 = .ok (.bipush 36, 2) := by decide +kernel
theorem dX2_isConditional_15 : decode cX2_isConditional 15 = .ok (.if_icmp .ne 7, 3) := by decide +kernel
theorem dX2_isConditional_18 : decode cX2_isConditional 18 = .ok (.iconst 1, 1) := by decide +kernel
theorem dX2_isConditional_19 : decode cX2_isConditional 19 = .ok (.goto 4, 3) := by decide +kernel
theorem dX2_isConditional_22 : decode cX2_isConditional 22 = .ok (.iconst 0, 1) := by decide +kernel
theorem dX2_isConditional_23 : decode cX2_isConditional 23 = .ok (.ireturn, 1) := by decide +kernel
theorem dX3_init_0 : decode cX3_init 0 = .ok (.aload_n 0, 1) := by decide +kernel
theorem dX3_init_1 : decode cX3_init 1 = .ok (.invokespecial 3, 3) := by decide +kernel
theorem dX3_init_4 : decode cX3_init 4 = .ok (.aload_n 0, 1) := by decide +kernel
theorem dX3_init_5 : decode cX3_init 5 = .ok (.sipush 1024, 3) := by decide +kernel
theorem dX3_init_8 : decode cX3_init 8 = .ok (.newarray .byte, 2) := by decide +kernel
theorem dX3_init_10 : decode cX3_init 10 = .ok (.putfield 11, 3) := by decide +kernel
theorem dX3_init_13 : decode cX3_init 13 = .ok (.aload_n 0, 1) := by decide +kernel
theorem dX3_init_14 : decode cX3_init 14 = .ok (.new 15, 3) := by decide +kernel
theorem dX3_init_17 : decode cX3_init 17 = .ok (.dup, 1) := by decide +kernel
theorem dX3_init_18 : decode cX3_init 18 = .ok (.sipush 200, 3) := by decide +kernel
theorem dX3_init_21 : decode cX3_init 21 = .ok (.sipush 1200, 3) := by decide +kernel
theorem dX3_init_24 : decode cX3_init 24 = .ok (.invokespecial 17, 3) := by decide +kernel
theorem dX3_init_27 : decode cX3_init 27 = .ok (.putfield 20, 3) := by decide +kernel
theorem dX3_init_30 : decode cX3_init 30 = .ok (.aload_n 0, 1) := by decide +kernel
theorem dX3_init_31 : decode cX3_init 31 = .ok (.sipush 1026, 3) := by decide +kernel
theorem dX3_init_34 : decode cX3_init 34 = .ok (.newarray .int, 2) := by decide +kernel
theorem dX3_init_36 : decode cX3_init 36 = .ok (.putfield 24, 3) := by decide +kernel
theorem dX3_init_39 : decode cX3_init 39 = .ok (.aload_n 0, 1) := by decide +kernel
theorem dX3_init_40 : decode cX3_init 40 = .ok (.sipush 1026, 3) := by decide +kernel
theorem dX3_init_43 : decode cX3_init 43 = .ok (.newarray .long, 2) := by decide +kernel
theorem dX3_init_45 : decode cX3_init 45 = .ok (.putfield 28, 3) := by decide +kernel
theorem dX3_init_48 : decode cX3_init 48 = .ok (.aload_n 0, 1) := by decide +kernel
theorem dX3_init_49 : decode cX3_init 49 = .ok (.sipush 1026, 3) := by decide +kernel
theorem dX3_init_52 : decode cX3_init 52 = .ok (.newarray .int, 2) := by decide +kernel
theorem dX3_init_54 : decode cX3_init 54 = .ok (.putfield 32, 3) := by decide +kernel
theorem dX3_init_57 : decode cX3_init 57 = .ok (.aload_n 0, 1) := by decide +kernel
theorem dX3_init_58 : decode cX3_init 58 = .ok (.sipush 1026, 3) := by decide +kernel
theorem dX3_init_61 : decode cX3_init 61 = .ok (.newarray .int, 2) := by decide +kernel
theorem dX3_init_63 : decode cX3_init 63 = .ok (.putfield 35, 3) := by decide +kernel
theorem dX3_init_66 : decode cX3_init 66 = .ok (.aload_n 0, 1) := by decide +kernel
theorem dX3_init_67 : decode cX3_init 67 = .ok (.ldc 38, 2) := by decide +kernel
theorem dX3_init_69 : decode cX3_init 69 = .ok (.invokevirtual 40, 3) := by decide +kernel
theorem dX3_init_72 : decode cX3_init 72 = .ok (.aload_n 0, 1) := by decide +kernel
theorem dX3_init_73 : decode cX3_init 73 = .ok (.ldc 44, 2) := by decide +kernel
theorem dX3_init_75 : decode cX3_init 75 = .ok (.invokevirtual 40, 3) := by decide +kernel
theorem dX3_init_78 : decode cX3_init 78 = .ok (.aload_n 0, 1) := by decide +kernel
theorem dX3_init_79 : decode cX3_init 79 = .ok (.ldc 46, 2) := by decide +kernel
theorem dX3_init_81 : decode cX3_init 81 = .ok (.invokevirtual 40, 3) := by decide +kernel
theorem dX3_init_84 : decode cX3_init 84 = .ok (.aload_n 0, 1) := by decide +kernel
theorem dX3_init_85 : decode cX3_init 85 = .ok (.ldc 48, 2) := by decide +kernel
theorem dX3_init_87 : decode cX3_init 87 = .ok (.invokevirtual 40, 3) := by decide +kernel
theorem dX3_init_90 : decode cX3_init 90 = .ok (.aload_n 0, 1) := by decide +kernel
theorem dX3_init_91 : decode cX3_init 91 = .ok (.ldc 50, 2) := by decide +kernel
theorem dX3_init_93 : decode cX3_init 93 = .ok (.invokevirtual 40, 3) := by decide +kernel
theorem dX3_init_96 : decode cX3_init 96 = .ok (.aload_n 0, 1) := by decide +kernel
theorem dX3_init_97 : decode cX3_init 97 = .ok (.ldc 52, 2) := by decide +kernel
theorem dX3_init_99 : decode cX3_init 99 = .ok (.invokevirtual 40, 3) := by decide +kernel
theorem dX3_init_102 : decode cX3_init 102 = .ok (.aload_n 0, 1) := by decide +kernel
theorem dX3_init_103 : decode cX3_init 103 = .ok (.ldc 54, 2) := by decide +kernel
theorem dX3_init_105 : decode cX3_init 105 = .ok (.invokevirtual 40, 3) := by decide +kernel
theorem dX3_init_108 : decode cX3_init 108 = .ok (.aload_n 0, 1) := by decide +kernel
theorem dX3_init_109 : decode cX3_init 109 = .ok (.ldc 56, 2) := by decide +kernel
theorem dX3_init_111 : decode cX3_init 111 = .ok (.invokevirtual 40, 3) := by decide +kernel
theorem dX3_init_114 : decode cX3_init 114 = .ok (.aload_n 0, 1) := by decide +kernel
theorem dX3_init_115 : decode cX3_init 115 = .ok (.ldc 58, 2) := by decide +kernel
theorem dX3_init_117 : decode cX3_init 117 = .ok (.invokevirtual 40, 3) := by decide +kernel
theorem dX3_init_120 : decode cX3_init 120 = .ok (.aload_n 0, 1) := by decide +kernel
theorem dX3_init_121 : decode cX3_init 121 = .ok (.ldc 60, 2) := by decide +kernel
theorem dX3_init_123 : decode cX3_init 123 = .ok (.invokevirtual 40, 3) := by decide +kernel
theorem dX3_init_126 : decode cX3_init 126 = .ok (.aload_n 0, 1) := by decide +kernel
theorem dX3_init_127 : decode cX3_init 127 = .ok (.ldc 62, 2) := by decide +kernel
theorem dX3_init_129 : decode cX3_init 129 = .ok (.invokevirtual 40, 3) := by decide +kernel
theorem dX3_init_132 : decode cX3_init 132 = .ok (.aload_n 0, 1) := by decide +kernel
theorem dX3_init_133 : decode cX3_init 133 = .ok (.ldc 64, 2) := by decide +kernel
theorem dX3_init_135 : decode cX3_init 135 = .ok (.invokevirtual 40, 3) := by decide +kernel
theorem dX3_init_138 : decode cX3_init 138 = .ok (.aload_n 0, 1) := by decide +kernel
theorem dX3_init_139 : decode cX3_init 139 = .ok (.ldc 66, 2) := by decide +kernel
theorem dX3_init_141 : decode cX3_init 141 = .ok (.invokevirtual 40, 3) := by decide +kernel
theorem dX3_init_144 : decode cX3_init 144 = .ok (.aload_n 0, 1) := by decide +kernel
theorem dX3_init_145 : decode cX3_init 145 = .ok (.ldc 68, 2) := by decide +kernel
theorem dX3_init_147 : decode cX3_init 147 = .ok (.invokevirtual 40, 3) := by decide +kernel
theorem dX3_init_150 : decode cX3_init 150 = .ok (.aload_n 0, 1) := by decide +kernel
theorem dX3_init_151 : decode cX3_init 151 = .ok (.ldc 70, 2) := by decide +kernel
theorem dX3_init_153 : decode cX3_init 153 = .ok (.invokevirtual 40, 3) := by decide +kernel
theorem dX3_init_156 : decode cX3_init 156 = .ok (.aload_n 0, 1) := by decide +kernel
theorem dX3_init_157 : decode cX3_init 157 = .ok (.ldc 72, 2) := by decide +kernel
theorem dX3_init_159 : decode cX3_init 159 = .ok (.invokevirtual 40, 3) := by decide +kernel
theorem dX3_init_162 : decode cX3_init 162 = .ok (.aload_n 0, 1) := by decide +kernel
theorem dX3_init_163 : decode cX3_init 163 = .ok (.ldc 74, 2) := by decide +kernel
theorem dX3_init_165 : decode cX3_init 165 = .ok (.invokevirtual 40, 3) := by decide +kernel
theorem dX3_init_168 : decode cX3_init 168 = .ok (.return_, 1) := by decide +kernel
theorem dX3_teach_0 : decode cX3_teach 0 = .ok (.iconst 0, 1) := by decide +kernel
theorem dX3_teach_1 : decode cX3_teach 1 = .ok (.istore_n 2, 1) := by decide +kernel
theorem dX3_teach_2 : decode cX3_teach 2 = .ok (.iconst 0, 1) := by decide +kernel
theorem dX3_teach_3 : decode cX3_teach 3 = .ok (.istore_n 3, 1) := by decide +kernel
theorem dX3_teach_4 : decode cX3_teach 4 = .ok (.iload_n 3, 1) := by decide +kernel
theorem dX3_teach_5 : decode cX3_teach 5 = .ok (.aload_n 1, 1) := by decide +kernel
theorem dX3_teach_6 : decode cX3_teach 6 = .ok (.invokevirtual 76, 3) := by decide +kernel
theorem dX3_teach_9 : decode cX3_teach 9 = .ok (.if_icmp .ge 59, 3) := by decide +kernel
theorem dX3_teach_12 : decode cX3_teach 12 = .ok (.iload_n 3, 1) := by decide +kernel
theorem dX3_teach_13 : decode cX3_teach 13 = .ok (.sipush 1024, 3) := by decide +kernel
theorem dX3_teach_16 : decode cX3_teach 16 = .ok (.if_icmp .ge 52, 3) := by decide +kernel
theorem dX3_teach_19 : decode cX3_teach 19 = .ok (.aload_n 0, 1) := by decide +kernel
theorem dX3_teach_20 : decode cX3_teach 20 = .ok (.getfield 11, 3) := by decide +kernel
theorem dX3_teach_23 : decode cX3_teach 23 = .ok (.iload_n 3, 1) := by decide +kernel
theorem dX3_teach_24 : decode cX3_teach 24 = .ok (.aload_n 1, 1) := by decide +kernel
theorem dX3_teach_25 : decode cX3_teach 25 = .ok (.iload_n 3, 1) := by decide +kernel
theorem dX3_teach_26 : decode cX3_teach 26 = .ok (.invokevirtual 82, 3) := by decide +kernel
theorem dX3_teach_29 : decode cX3_teach 29 = .ok (.i2b, 1) := by decide +kernel
theorem dX3_teach_30 : decode cX3_teach 30 = .ok (.bastore, 1) := by decide +kernel
theorem dX3_teach_31 : decode cX3_teach 31 = .ok (.aload_n 0, 1) := by decide +kernel
theorem dX3_teach_32 : decode cX3_teach 32 = .ok (.getfield 11, 3) := by decide +kernel
theorem dX3_teach_35 : decode cX3_teach 35 = .ok (.iload_n 3, 1) := by decide +kernel
theorem dX3_teach_36 : decode cX3_teach 36 = .ok (.baload, 1) := by decide +kernel
theorem dX3_teach_37 : decode cX3_teach 37 = .ok (.bipush 32, 2) := by decide +kernel
theorem dX3_teach_39 : decode cX3_teach 39 = .ok (.if_icmp .ne 23, 3) := by decide +kernel
theorem dX3_teach_42 : decode cX3_teach 42 = .ok (.aload_n 0, 1) := by decide +kernel
theorem dX3_teach_43 : decode cX3_teach 43 = .ok (.getfield 20, 3) := by decide +kernel
theorem dX3_teach_46 : decode cX3_teach 46 = .ok (.aload_n 0, 1) := by decide +kernel
theorem dX3_teach_47 : decode cX3_teach 47 = .ok (.getfield 11, 3) := by decide +kernel
theorem dX3_teach_50 : decode cX3_teach 50 = .ok (.iload_n 2, 1) := by decide +kernel
theorem dX3_teach_51 : decode cX3_teach 51 = .ok (.iload_n 3, 1) := by decide +kernel
theorem dX3_teach_52 : decode cX3_teach 52 = .ok (.iload_n 2, 1) := by decide +kernel
theorem dX3_teach_53 : decode cX3_teach 53 = .ok (.isub, 1) := by decide +kernel
theorem dX3_teach_54 : decode cX3_teach 54 = .ok (.invokevirtual 86, 3) := by decide +kernel
theorem dX3_teach_57 : decode cX3_teach 57 = .ok (.pop, 1) := by decide +kernel
theorem dX3_teach_58 : decode cX3_teach 58 = .ok (.iload_n 3, 1) := by decide +kernel
theorem dX3_teach_59 : decode cX3_teach 59 = .ok (.iconst 1, 1) := by decide +kernel
theorem dX3_teach_60 : decode cX3_teach 60 = .ok (.iadd, 1) := by decide +kernel
theorem dX3_teach_61 : decode cX3_teach 61 = .ok (.istore_n 2, 1) := by decide +kernel
theorem dX3_teach_62 : decode cX3_teach 62 = .ok (.iinc 3 1, 3) := by decide +kernel
theorem dX3_teach_65 : decode cX3_teach 65 = .ok (.goto (-61), 3) := by decide +kernel
theorem dX3_teach_68 : decode cX3_teach 68 = .ok (.return_, 1) := by decide +kernel
theorem dX4_init_0 : decode cX4_init 0 = .ok (.aload_n 0, 1) := by decide +kernel
theorem dX4_init_1 : decode cX4_init 1 = .ok (.invokespecial 3, 3) := by decide +kernel
theorem dX4_init_4 : decode cX4_init 4 = .ok (.aload_n 0, 1) := by decide +kernel
theorem dX4_init_5 : decode cX4_init 5 = .ok (.aload_n 1, 1) := by decide +kernel
theorem dX4_init_6 : decode cX4_init 6 = .ok (.putfield 9, 3) := by decide +kernel
theorem dX4_init_9 : decode cX4_init 9 = .ok (.aload_n 0, 1) := by decide +kernel
theorem dX4_init_10 : decode cX4_init 10 = .ok (.bipush 32, 2) := by decide +kernel
theorem dX4_init_12 : decode cX4_init 12 = .ok (.newarray .boolean, 2) := by decide +kernel
theorem dX4_init_14 : decode cX4_init 14 = .ok (.putfield 17, 3) := by decide +kernel
theorem dX4_init_17 : decode cX4_init 17 = .ok (.aload_n 0, 1) := by decide +kernel
theorem dX4_init_18 : decode cX4_init 18 = .ok (.sipush 128, 3) := by decide +kernel
theorem dX4_init_21 : decode cX4_init 21 = .ok (.newarray .boolean, 2) := by decide +kernel
theorem dX4_init_23 : decode cX4_init 23 = .ok (.putfield 21, 3) := by decide +kernel
theorem dX4_init_26 : decode cX4_init 26 = .ok (.aload_n 0, 1) := by decide +kernel
theorem dX4_init_27 : decode cX4_init 27 = .ok (.sipush 128, 3) := by decide +kernel
theorem dX4_init_30 : decode cX4_init 30 = .ok (.newarray .int, 2) := by decide +kernel
theorem dX4_init_32 : decode cX4_init 32 = .ok (.putfield 24, 3) := by decide +kernel
theorem dX4_init_35 : decode cX4_init 35 = .ok (.aload_n 0, 1) := by decide +kernel
theorem dX4_init_36 : decode cX4_init 36 = .ok (.sipush 1024, 3) := by decide +kernel
theorem dX4_init_39 : decode cX4_init 39 = .ok (.newarray .int, 2) := by decide +kernel
theorem dX4_init_41 : decode cX4_init 41 = .ok (.putfield 28, 3) := by decide +kernel
theorem dX4_init_44 : decode cX4_init 44 = .ok (.aload_n 0, 1) := by decide +kernel
theorem dX4_init_45 : decode cX4_init 45 = .ok (.iconst 4, 1) := by decide +kernel
theorem dX4_init_46 : decode cX4_init 46 = .ok (.newarray .int, 2) := by decide +kernel
theorem dX4_init_48 : decode cX4_init 48 = .ok (.putfield 31, 3) := by decide +kernel
theorem dX4_init_51 : decode cX4_init 51 = .ok (.aload_n 0, 1) := by decide +kernel
theorem dX4_init_52 : decode cX4_init 52 = .ok (.iconst 4, 1) := by decide +kernel
theorem dX4_init_53 : decode cX4_init 53 = .ok (.newarray .int, 2) := by decide +kernel
theorem dX4_init_55 : decode cX4_init 55 = .ok (.putfield 34, 3) := by decide +kernel
theorem dX4_init_58 : decode cX4_init 58 = .ok (.aload_n 0, 1) := by decide +kernel
theorem dX4_init_59 : decode cX4_init 59 = .ok (.ldc 37, 2) := by decide +kernel
theorem dX4_init_61 : decode cX4_init 61 = .ok (.newarray .byte, 2) := by decide +kernel
theorem dX4_init_63 : decode cX4_init 63 = .ok (.putfield 38, 3) := by decide +kernel
theorem dX4_init_66 : decode cX4_init 66 = .ok (.aload_n 0, 1) := by decide +kernel
theorem dX4_init_67 : decode cX4_init 67 = .ok (.ldc 37, 2) := by decide +kernel
theorem dX4_init_69 : decode cX4_init 69 = .ok (.newarray .int, 2) := by decide +kernel
theorem dX4_init_71 : decode cX4_init 71 = .ok (.putfield 42, 3) := by decide +kernel
theorem dX4_init_74 : decode cX4_init 74 = .ok (.aload_n 0, 1) := by decide +kernel
theorem dX4_init_75 : decode cX4_init 75 = .ok (.new 45, 3) := by decide +kernel
theorem dX4_init_78 : decode cX4_init 78 = .ok (.dup, 1) := by decide +kernel
theorem dX4_init_79 : decode cX4_init 79 = .ok (.sipush 1024, 3) := by decide +kernel
theorem dX4_init_82 : decode cX4_init 82 = .ok (.ldc 47, 2) := by decide +kernel
theorem dX4_init_84 : decode cX4_init 84 = .ok (.invokespecial 48, 3) := by decide +kernel
theorem dX4_init_87 : decode cX4_init 87 = .ok (.putfield 51, 3) := by decide +kernel
theorem dX4_init_90 : decode cX4_init 90 = .ok (.aload_n 0, 1) := by decide +kernel
theorem dX4_init_91 : decode cX4_init 91 = .ok (.sipush 1024, 3) := by decide +kernel
theorem dX4_init_94 : decode cX4_init 94 = .ok (.newarray .long, 2) := by decide +kernel
theorem dX4_init_96 : decode cX4_init 96 = .ok (.putfield 55, 3) := by decide +kernel
theorem dX4_init_99 : decode cX4_init 99 = .ok (.aload_n 0, 1) := by decide +kernel
theorem dX4_init_100 : decode cX4_init 100 = .ok (.getfield 42, 3) := by decide +kernel
theorem dX4_init_103 : decode cX4_init 103 = .ok (.iconst (-1), 1) := by decide +kernel
theorem dX4_init_104 : decode cX4_init 104 = .ok (.invokestatic 59, 3) := by decide +kernel
theorem dX4_init_107 : decode cX4_init 107 = .ok (.return_, 1) := by decide +kernel
theorem dX5_init_0 : decode cX5_init 0 = .ok (.aload_n 0, 1) := by decide +kernel
theorem dX5_init_1 : decode cX5_init 1 = .ok (.invokespecial 3, 3) := by decide +kernel
theorem dX5_init_4 : decode cX5_init 4 = .ok (.aload_n 0, 1) := by decide +kernel
theorem dX5_init_5 : decode cX5_init 5 = .ok (.new 9, 3) := by decide +kernel
theorem dX5_init_8 : decode cX5_init 8 = .ok (.dup, 1) := by decide +kernel
theorem dX5_init_9 : decode cX5_init 9 = .ok (.invokespecial 11, 3) := by decide +kernel
theorem dX5_init_12 : decode cX5_init 12 = .ok (.putfield 12, 3) := by decide +kernel
theorem dX5_init_15 : decode cX5_init 15 = .ok (.aload_n 0, 1) := by decide +kernel
theorem dX5_init_16 : decode cX5_init 16 = .ok (.new 18, 3) := by decide +kernel
theorem dX5_init_19 : decode cX5_init 19 = .ok (.dup, 1) := by decide +kernel
theorem dX5_init_20 : decode cX5_init 20 = .ok (.invokespecial 20, 3) := by decide +kernel
theorem dX5_init_23 : decode cX5_init 23 = .ok (.putfield 21, 3) := by decide +kernel
theorem dX5_init_26 : decode cX5_init 26 = .ok (.aload_n 0, 1) := by decide +kernel
theorem dX5_init_27 : decode cX5_init 27 = .ok (.bipush 16, 2) := by decide +kernel
theorem dX5_init_29 : decode cX5_init 29 = .ok (.newarray .long, 2) := by decide +kernel
theorem dX5_init_31 : decode cX5_init 31 = .ok (.putfield 25, 3) := by decide +kernel
theorem dX5_init_34 : decode cX5_init 34 = .ok (.aload_n 0, 1) := by decide +kernel
theorem dX5_init_35 : decode cX5_init 35 = .ok (.ldc 29, 2) := by decide +kernel
theorem dX5_init_37 : decode cX5_init 37 = .ok (.newarray .byte, 2) := by decide +kernel
theorem dX5_init_39 : decode cX5_init 39 = .ok (.putfield 30, 3) := by decide +kernel
theorem dX5_init_42 : decode cX5_init 42 = .ok (.aload_n 0, 1) := by decide +kernel
theorem dX5_init_43 : decode cX5_init 43 = .ok (.ldc 29, 2) := by decide +kernel
theorem dX5_init_45 : decode cX5_init 45 = .ok (.newarray .byte, 2) := by decide +kernel
theorem dX5_init_47 : decode cX5_init 47 = .ok (.putfield 34, 3) := by decide +kernel
theorem dX5_init_50 : decode cX5_init 50 = .ok (.aload_n 0, 1) := by decide +kernel
theorem dX5_init_51 : decode cX5_init 51 = .ok (.bipush 16, 2) := by decide +kernel
theorem dX5_init_53 : decode cX5_init 53 = .ok (.newarray .long, 2) := by decide +kernel
theorem dX5_init_55 : decode cX5_init 55 = .ok (.putfield 37, 3) := by decide +kernel
theorem dX5_init_58 : decode cX5_init 58 = .ok (.return_, 1) := by decide +kernel
theorem dX6_init_0 : decode cX6_init 0 = .ok (.aload_n 0, 1) := by decide +kernel
theorem dX6_init_1 : decode cX6_init 1 = .ok (.invokespecial 3, 3) := by decide +kernel
theorem dX6_init_4 : decode cX6_init 4 = .ok (.aload_n 0, 1) := by decide +kernel
theorem dX6_init_5 : decode cX6_init 5 = .ok (.ldc 13, 2) := by decide +kernel
theorem dX6_init_7 : decode cX6_init 7 = .ok (.newarray .byte, 2) := by decide +kernel
theorem dX6_init_9 : decode cX6_init 9 = .ok (.putfield 14, 3) := by decide +kernel
theorem dX6_init_12 : decode cX6_init 12 = .ok (.aload_n 0, 1) := by decide +kernel
theorem dX6_init_13 : decode cX6_init 13 = .ok (.ldc 18, 2) := by decide +kernel
theorem dX6_init_15 : decode cX6_init 15 = .ok (.newarray .byte, 2) := by decide +kernel
theorem dX6_init_17 : decode cX6_init 17 = .ok (.putfield 19, 3) := by decide +kernel
theorem dX6_init_20 : decode cX6_init 20 = .ok (.aload_n 0, 1) := by decide +kernel
theorem dX6_init_21 : decode cX6_init 21 = .ok (.ldc 22, 2) := by decide +kernel
theorem dX6_init_23 : decode cX6_init 23 = .ok (.newarray .boolean, 2) := by decide +kernel
theorem dX6_init_25 : decode cX6_init 25 = .ok (.putfield 23, 3) := by decide +kernel
theorem dX6_init_28 : decode cX6_init 28 = .ok (.aload_n 0, 1) := by decide +kernel
theorem dX6_init_29 : decode cX6_init 29 = .ok (.iconst 0, 1) := by decide +kernel
theorem dX6_init_30 : decode cX6_init 30 = .ok (.putfield 27, 3) := by decide +kernel
theorem dX6_init_33 : decode cX6_init 33 = .ok (.aload_n 0, 1) := by decide +kernel
theorem dX6_init_34 : decode cX6_init 34 = .ok (.ldc2_w 31, 3) := by decide +kernel
theorem dX6_init_37 : decode cX6_init 37 = .ok (.putfield 33, 3) := by decide +kernel
theorem dX6_init_40 : decode cX6_init 40 = .ok (.aload_n 0, 1) := by decide +kernel
theorem dX6_init_41 : decode cX6_init 41 = .ok (.ldc2_w 31, 3) := by decide +kernel
theorem dX6_init_44 : decode cX6_init 44 = .ok (.putfield 37, 3) := by decide +kernel
theorem dX6_init_47 : decode cX6_init 47 = .ok (.return_, 1) := by decide +kernel
theorem dX7_init_0 : decode cX7_init 0 = .ok (.aload_n 0, 1) := by decide +kernel
theorem dX7_init_1 : decode cX7_init 1 = .ok (.invokespecial 3, 3) := by decide +kernel
theorem dX7_init_4 : decode cX7_init 4 = .ok (.aload_n 0, 1) := by decide +kernel
theorem dX7_init_5 : decode cX7_init 5 = .ok (.iload_n 2, 1) := by decide +kernel
theorem dX7_init_6 : decode cX7_init 6 = .ok (.newarray .byte, 2) := by decide +kernel
theorem dX7_init_8 : decode cX7_init 8 = .ok (.putfield 9, 3) := by decide +kernel
theorem dX7_init_11 : decode cX7_init 11 = .ok (.aload_n 0, 1) := by decide +kernel
theorem dX7_init_12 : decode cX7_init 12 = .ok (.iload_n 1, 1) := by decide +kernel
theorem dX7_init_13 : decode cX7_init 13 = .ok (.iconst 1, 1) := by decide +kernel
theorem dX7_init_14 : decode cX7_init 14 = .ok (.iadd, 1) := by decide +kernel
theorem dX7_init_15 : decode cX7_init 15 = .ok (.newarray .int, 2) := by decide +kernel
theorem dX7_init_17 : decode cX7_init 17 = .ok (.putfield 15, 3) := by decide +kernel
theorem dX7_init_20 : decode cX7_init 20 = .ok (.aload_n 0, 1) := by decide +kernel
theorem dX7_init_21 : decode cX7_init 21 = .ok (.iload_n 1, 1) := by decide +kernel
theorem dX7_init_22 : decode cX7_init 22 = .ok (.newarray .int, 2) := by decide +kernel
theorem dX7_init_24 : decode cX7_init 24 = .ok (.putfield 19, 3) := by decide +kernel
theorem dX7_init_27 : decode cX7_init 27 = .ok (.aload_n 0, 1) := by decide +kernel
theorem dX7_init_28 : decode cX7_init 28 = .ok (.iload_n 1, 1) := by decide +kernel
theorem dX7_init_29 : decode cX7_init 29 = .ok (.newarray .int, 2) := by decide +kernel
theorem dX7_init_31 : decode cX7_init 31 = .ok (.putfield 22, 3) := by decide +kernel
theorem dX7_init_34 : decode cX7_init 34 = .ok (.aload_n 0, 1) := by decide +kernel
theorem dX7_init_35 : decode cX7_init 35 = .ok (.sipush 1024, 3) := by decide +kernel
theorem dX7_init_38 : decode cX7_init 38 = .ok (.newarray .int, 2) := by decide +kernel
theorem dX7_init_40 : decode cX7_init 40 = .ok (.putfield 25, 3) := by decide +kernel
theorem dX7_init_43 : decode cX7_init 43 = .ok (.aload_n 0, 1) := by decide +kernel
theorem dX7_init_44 : decode cX7_init 44 = .ok (.getfield 25, 3) := by decide +kernel
theorem dX7_init_47 : decode cX7_init 47 = .ok (.iconst (-1), 1) := by decide +kernel
theorem dX7_init_48 : decode cX7_init 48 = .ok (.invokestatic 28, 3) := by decide +kernel
theorem dX7_init_51 : decode cX7_init 51 = .ok (.aload_n 0, 1) := by decide +kernel
theorem dX7_init_52 : decode cX7_init 52 = .ok (.iconst 0, 1) := by decide +kernel
theorem dX7_init_53 : decode cX7_init 53 = .ok (.putfield 34, 3) := by decide +kernel
theorem dX7_init_56 : decode cX7_init 56 = .ok (.return_, 1) := by decide +kernel
theorem dX7_add_0 : decode cX7_add 0 = .ok (.aload_n 0, 1) := by decide +kernel
theorem dX7_add_1 : decode cX7_add 1 = .ok (.getfield 34, 3) := by decide +kernel
theorem dX7_add_4 : decode cX7_add 4 = .ok (.aload_n 0, 1) := by decide +kernel
theorem dX7_add_5 : decode cX7_add 5 = .ok (.getfield 19, 3) := by decide +kernel
theorem dX7_add_8 : decode cX7_add 8 = .ok (.arraylength, 1) := by decide +kernel
theorem dX7_add_9 : decode cX7_add 9 = .ok (.if_icmp .eq 22, 3) := by decide +kernel
theorem dX7_add_12 : decode cX7_add 12 = .ok (.aload_n 0, 1) := by decide +kernel
theorem dX7_add_13 : decode cX7_add 13 = .ok (.getfield 15, 3) := by decide +kernel
theorem dX7_add_16 : decode cX7_add 16 = .ok (.aload_n 0, 1) := by decide +kernel
theorem dX7_add_17 : decode cX7_add 17 = .ok (.getfield 34, 3) := by decide +kernel
theorem dX7_add_20 : decode cX7_add 20 = .ok (.iaload, 1) := by decide +kernel
theorem dX7_add_21 : decode cX7_add 21 = .ok (.iload_n 3, 1) := by decide +kernel
theorem dX7_add_22 : decode cX7_add 22 = .ok (.iadd, 1) := by decide +kernel
theorem dX7_add_23 : decode cX7_add 23 = .ok (.aload_n 0, 1) := by decide +kernel
theorem dX7_add_24 : decode cX7_add 24 = .ok (.getfield 9, 3) := by decide +kernel
theorem dX7_add_27 : decode cX7_add 27 = .ok (.arraylength, 1) := by decide +kernel
theorem dX7_add_28 : decode cX7_add 28 = .ok (.if_icmp .le 5, 3) := by decide +kernel
theorem dX7_add_33 : decode cX7_add 33 = .ok (.iconst 0, 1) := by decide +kernel
theorem dX7_add_34 : decode cX7_add 34 = .ok (.istore 4, 2) := by decide +kernel
theorem dX7_add_36 : decode cX7_add 36 = .ok (.iload_n 2, 1) := by decide +kernel
theorem dX7_add_37 : decode cX7_add 37 = .ok (.istore 5, 2) := by decide +kernel
theorem dX7_add_39 : decode cX7_add 39 = .ok (.iload 5, 2) := by decide +kernel
theorem dX7_add_41 : decode cX7_add 41 = .ok (.iload_n 2, 1) := by decide +kernel
theorem dX7_add_42 : decode cX7_add 42 = .ok (.iload_n 3, 1) := by decide +kernel
theorem dX7_add_43 : decode cX7_add 43 = .ok (.iadd, 1) := by decide +kernel
theorem dX7_add_44 : decode cX7_add 44 = .ok (.if_icmp .ge 21, 3) := by decide +kernel
theorem dX7_add_47 : decode cX7_add 47 = .ok (.bipush 31, 2) := by decide +kernel
theorem dX7_add_49 : decode cX7_add 49 = .ok (.iload 4, 2) := by decide +kernel
theorem dX7_add_51 : decode cX7_add 51 = .ok (.imul, 1) := by decide +kernel
theorem dX7_add_52 : decode cX7_add 52 = .ok (.aload_n 1, 1) := by decide +kernel
theorem dX7_add_53 : decode cX7_add 53 = .ok (.iload 5, 2) := by decide +kernel
theorem dX7_add_55 : decode cX7_add 55 = .ok (.baload, 1) := by decide +kernel
theorem dX7_add_56 : decode cX7_add 56 = .ok (.iadd, 1) := by decide +kernel
theorem dX7_add_57 : decode cX7_add 57 = .ok (.istore 4, 2) := by decide +kernel
theorem dX7_add_59 : decode cX7_add 59 = .ok (.iinc 5 1, 3) := by decide +kernel
theorem dX7_add_62 : decode cX7_add 62 = .ok (.goto (-23), 3) := by decide +kernel
theorem dX7_add_65 : decode cX7_add 65 = .ok (.aload_n 1, 1) := by decide +kernel
theorem dX7_add_66 : decode cX7_add 66 = .ok (.iload_n 2, 1) := by decide +kernel
theorem dX7_add_67 : decode cX7_add 67 = .ok (.aload_n 0, 1) := by decide +kernel
theorem dX7_add_68 : decode cX7_add 68 = .ok (.getfield 9, 3) := by decide +kernel
theorem dX7_add_71 : decode cX7_add 71 = .ok (.aload_n 0, 1) := by decide +kernel
theorem dX7_add_72 : decode cX7_add 72 = .ok (.getfield 15, 3) := by decide +kernel
theorem dX7_add_75 : decode cX7_add 75 = .ok (.aload_n 0, 1) := by decide +kernel
theorem dX7_add_76 : decode cX7_add 76 = .ok (.getfield 34, 3) := by decide +kernel
theorem dX7_add_79 : decode cX7_add 79 = .ok (.iaload, 1) := by decide +kernel
theorem dX7_add_80 : decode cX7_add 80 = .ok (.iload_n 3, 1) := by decide +kernel
theorem dX7_add_81 : decode cX7_add 81 = .ok (.invokestatic 38, 3) := by decide +kernel
theorem dX7_add_84 : decode cX7_add 84 = .ok (.aload_n 0, 1) := by decide +kernel
theorem dX7_add_85 : decode cX7_add 85 = .ok (.getfield 15, 3) := by decide +kernel
theorem dX7_add_88 : decode cX7_add 88 = .ok (.aload_n 0, 1) := by decide +kernel
theorem dX7_add_89 : decode cX7_add 89 = .ok (.getfield 34, 3) := by decide +kernel
theorem dX7_add_92 : decode cX7_add 92 = .ok (.iconst 1, 1) := by decide +kernel
theorem dX7_add_93 : decode cX7_add 93 = .ok (.iadd, 1) := by decide +kernel
theorem dX7_add_94 : decode cX7_add 94 = .ok (.aload_n 0, 1) := by decide +kernel
theorem dX7_add_95 : decode cX7_add 95 = .ok (.getfield 15, 3) := by decide +kernel
theorem dX7_add_98 : decode cX7_add 98 = .ok (.aload_n 0, 1) := by decide +kernel
theorem dX7_add_99 : decode cX7_add 99 = .ok (.getfield 34, 3) := by decide +kernel
theorem dX7_add_102 : decode cX7_add 102 = .ok (.iaload, 1) := by decide +kernel
theorem dX7_add_103 : decode cX7_add 103 = .ok (.iload_n 3, 1) := by decide +kernel
theorem dX7_add_104 : decode cX7_add 104 = .ok (.iadd, 1) := by decide +kernel
theorem dX7_add_105 : decode cX7_add 105 = .ok (.iastore, 1) := by decide +kernel
theorem dX7_add_106 : decode cX7_add 106 = .ok (.aload_n 0, 1) := by decide +kernel
theorem dX7_add_107 : decode cX7_add 107 = .ok (.getfield 22, 3) := by decide +kernel
theorem dX7_add_110 : decode cX7_add 110 = .ok (.aload_n 0, 1) := by decide +kernel
theorem dX7_add_111 : decode cX7_add 111 = .ok (.getfield 34, 3) := by decide +kernel
theorem dX7_add_114 : decode cX7_add 114 = .ok (.iload 4, 2) := by decide +kernel
theorem dX7_add_116 : decode cX7_add 116 = .ok (.sipush 1023, 3) := by decide +kernel
theorem dX7_add_119 : decode cX7_add 119 = .ok (.iand, 1) := by decide +kernel
theorem dX7_add_120 : decode cX7_add 120 = .ok (.iastore, 1) := by decide +kernel
theorem dX7_add_121 : decode cX7_add 121 = .ok (.aload_n 0, 1) := by decide +kernel
theorem dX7_add_122 : decode cX7_add 122 = .ok (.getfield 19, 3) := by decide +kernel
theorem dX7_add_125 : decode cX7_add 125 = .ok (.aload_n 0, 1) := by decide +kernel
theorem dX7_add_126 : decode cX7_add 126 = .ok (.getfield 34, 3) := by decide +kernel
theorem dX7_add_129 : decode cX7_add 129 = .ok (.aload_n 0, 1) := by decide +kernel
theorem dX7_add_130 : decode cX7_add 130 = .ok (.getfield 25, 3) := by decide +kernel
theorem dX7_add_133 : decode cX7_add 133 = .ok (.aload_n 0, 1) := by decide +kernel
theorem dX7_add_134 : decode cX7_add 134 = .ok (.getfield 22, 3) := by decide +kernel
theorem dX7_add_137 : decode cX7_add 137 = .ok (.aload_n 0, 1) := by decide +kernel
theorem dX7_add_138 : decode cX7_add 138 = .ok (.getfield 34, 3) := by decide +kernel
theorem dX7_add_141 : decode cX7_add 141 = .ok (.iaload, 1) := by decide +kernel
theorem dX7_add_142 : decode cX7_add 142 = .ok (.iaload, 1) := by decide +kernel
theorem dX7_add_143 : decode cX7_add 143 = .ok (.iastore, 1) := by decide +kernel
theorem dX7_add_144 : decode cX7_add 144 = .ok (.aload_n 0, 1) := by decide +kernel
theorem dX7_add_145 : decode cX7_add 145 = .ok (.getfield 25, 3) := by decide +kernel
theorem dX7_add_148 : decode cX7_add 148 = .ok (.aload_n 0, 1) := by decide +kernel
theorem dX7_add_149 : decode cX7_add 149 = .ok (.getfield 22, 3) := by decide +kernel
theorem dX7_add_152 : decode cX7_add 152 = .ok (.aload_n 0, 1) := by decide +kernel
theorem dX7_add_153 : decode cX7_add 153 = .ok (.getfield 34, 3) := by decide +kernel
theorem dX7_add_156 : decode cX7_add 156 = .ok (.iaload, 1) := by decide +kernel
theorem dX7_add_157 : decode cX7_add 157 = .ok (.aload_n 0, 1) := by decide +kernel
theorem dX7_add_158 : decode cX7_add 158 = .ok (.getfield 34, 3) := by decide +kernel
theorem dX7_add_161 : decode cX7_add 161 = .ok (.iastore, 1) := by decide +kernel
theorem dX7_add_162 : decode cX7_add 162 = .ok (.aload_n 0, 1) := by decide +kernel
theorem dX7_add_163 : decode cX7_add 163 = .ok (.dup, 1) := by decide +kernel
theorem dX7_add_164 : decode cX7_add 164 = .ok (.getfield 34, 3) := by decide +kernel
theorem dX7_add_167 : decode cX7_add 167 = .ok (.dup_x1, 1) := by decide +kernel
theorem dX7_add_168 : decode cX7_add 168 = .ok (.iconst 1, 1) := by decide +kernel
theorem dX7_add_169 : decode cX7_add 169 = .ok (.iadd, 1) := by decide +kernel
theorem dX7_add_170 : decode cX7_add 170 = .ok (.putfield 34, 3) := by decide +kernel
theorem dX7_add_173 : decode cX7_add 173 = .ok (.ireturn, 1) := by decide +kernel
theorem dX8_init_0 : decode cX8_init 0 = .ok (.aload_n 0, 1) := by decide +kernel
theorem dX8_init_1 : decode cX8_init 1 = .ok (.invokespecial 3, 3) := by decide +kernel
theorem dX8_init_4 : decode cX8_init 4 = .ok (.aload_n 0, 1) := by decide +kernel
theorem dX8_init_5 : decode cX8_init 5 = .ok (.aload_n 1, 1) := by decide +kernel
theorem dX8_init_6 : decode cX8_init 6 = .ok (.putfield 9, 3) := by decide +kernel
theorem dX8_init_9 : decode cX8_init 9 = .ok (.aload_n 0, 1) := by decide +kernel
theorem dX8_init_10 : decode cX8_init 10 = .ok (.aload_n 2, 1) := by decide +kernel
theorem dX8_init_11 : decode cX8_init 11 = .ok (.putfield 15, 3) := by decide +kernel
theorem dX8_init_14 : decode cX8_init 14 = .ok (.aload_n 0, 1) := by decide +kernel
theorem dX8_init_15 : decode cX8_init 15 = .ok (.bipush 21, 2) := by decide +kernel
theorem dX8_init_17 : decode cX8_init 17 = .ok (.newarray .int, 2) := by decide +kernel
theorem dX8_init_19 : decode cX8_init 19 = .ok (.putfield 19, 3) := by decide +kernel
theorem dX8_init_22 : decode cX8_init 22 = .ok (.aload_n 0, 1) := by decide +kernel
theorem dX8_init_23 : decode cX8_init 23 = .ok (.bipush 21, 2) := by decide +kernel
theorem dX8_init_25 : decode cX8_init 25 = .ok (.newarray .int, 2) := by decide +kernel
theorem dX8_init_27 : decode cX8_init 27 = .ok (.putfield 23, 3) := by decide +kernel
theorem dX8_init_30 : decode cX8_init 30 = .ok (.aload_n 0, 1) := by decide +kernel
theorem dX8_init_31 : decode cX8_init 31 = .ok (.bipush 21, 2) := by decide +kernel
theorem dX8_init_33 : decode cX8_init 33 = .ok (.newarray .int, 2) := by decide +kernel
theorem dX8_init_35 : decode cX8_init 35 = .ok (.putfield 26, 3) := by decide +kernel
theorem dX8_init_38 : decode cX8_init 38 = .ok (.aload_n 0, 1) := by decide +kernel
theorem dX8_init_39 : decode cX8_init 39 = .ok (.bipush 21, 2) := by decide +kernel
theorem dX8_init_41 : decode cX8_init 41 = .ok (.newarray .int, 2) := by decide +kernel
theorem dX8_init_43 : decode cX8_init 43 = .ok (.putfield 29, 3) := by decide +kernel
theorem dX8_init_46 : decode cX8_init 46 = .ok (.aload_n 0, 1) := by decide +kernel
theorem dX8_init_47 : decode cX8_init 47 = .ok (.bipush 21, 2) := by decide +kernel
theorem dX8_init_49 : decode cX8_init 49 = .ok (.newarray .int, 2) := by decide +kernel
theorem dX8_init_51 : decode cX8_init 51 = .ok (.putfield 32, 3) := by decide +kernel
theorem dX8_init_54 : decode cX8_init 54 = .ok (.aload_n 0, 1) := by decide +kernel
theorem dX8_init_55 : decode cX8_init 55 = .ok (.bipush 21, 2) := by decide +kernel
theorem dX8_init_57 : decode cX8_init 57 = .ok (.newarray .int, 2) := by decide +kernel
theorem dX8_init_59 : decode cX8_init 59 = .ok (.putfield 35, 3) := by decide +kernel
theorem dX8_init_62 : decode cX8_init 62 = .ok (.aload_n 0, 1) := by decide +kernel
theorem dX8_init_63 : decode cX8_init 63 = .ok (.bipush 21, 2) := by decide +kernel
theorem dX8_init_65 : decode cX8_init 65 = .ok (.newarray .int, 2) := by decide +kernel
theorem dX8_init_67 : decode cX8_init 67 = .ok (.putfield 38, 3) := by decide +kernel
theorem dX8_init_70 : decode cX8_init 70 = .ok (.aload_n 0, 1) := by decide +kernel
theorem dX8_init_71 : decode cX8_init 71 = .ok (.bipush 21, 2) := by decide +kernel
theorem dX8_init_73 : decode cX8_init 73 = .ok (.newarray .int, 2) := by decide +kernel
theorem dX8_init_75 : decode cX8_init 75 = .ok (.putfield 41, 3) := by decide +kernel
theorem dX8_init_78 : decode cX8_init 78 = .ok (.aload_n 0, 1) := by decide +kernel
theorem dX8_init_79 : decode cX8_init 79 = .ok (.sipush 21504, 3) := by decide +kernel
theorem dX8_init_82 : decode cX8_init 82 = .ok (.newarray .byte, 2) := by decide +kernel
theorem dX8_init_84 : decode cX8_init 84 = .ok (.putfield 46, 3) := by decide +kernel
theorem dX8_init_87 : decode cX8_init 87 = .ok (.aload_n 0, 1) := by decide +kernel
theorem dX8_init_88 : decode cX8_init 88 = .ok (.sipush 10752, 3) := by decide +kernel
theorem dX8_init_91 : decode cX8_init 91 = .ok (.newarray .int, 2) := by decide +kernel
theorem dX8_init_93 : decode cX8_init 93 = .ok (.putfield 50, 3) := by decide +kernel
theorem dX8_init_96 : decode cX8_init 96 = .ok (.aload_n 0, 1) := by decide +kernel
theorem dX8_init_97 : decode cX8_init 97 = .ok (.sipush 10752, 3) := by decide +kernel
theorem dX8_init_100 : decode cX8_init 100 = .ok (.newarray .int, 2) := by decide +kernel
theorem dX8_init_102 : decode cX8_init 102 = .ok (.putfield 53, 3) := by decide +kernel
theorem dX8_init_105 : decode cX8_init 105 = .ok (.aload_n 0, 1) := by decide +kernel
theorem dX8_init_106 : decode cX8_init 106 = .ok (.bipush 20, 2) := by decide +kernel
theorem dX8_init_108 : decode cX8_init 108 = .ok (.newarray .boolean, 2) := by decide +kernel
theorem dX8_init_110 : decode cX8_init 110 = .ok (.putfield 56, 3) := by decide +kernel
theorem dX8_init_113 : decode cX8_init 113 = .ok (.return_, 1) := by decide +kernel
theorem dX9_init_0 : decode cX9_init 0 = .ok (.aload_n 0, 1) := by decide +kernel
theorem dX9_init_1 : decode cX9_init 1 = .ok (.invokespecial 3, 3) := by decide +kernel
theorem dX9_init_4 : decode cX9_init 4 = .ok (.aload_n 0, 1) := by decide +kernel
theorem dX9_init_5 : decode cX9_init 5 = .ok (.aload_n 1, 1) := by decide +kernel
theorem dX9_init_6 : decode cX9_init 6 = .ok (.putfield 9, 3) := by decide +kernel
theorem dX9_init_9 : decode cX9_init 9 = .ok (.aload_n 0, 1) := by decide +kernel
theorem dX9_init_10 : decode cX9_init 10 = .ok (.aload_n 2, 1) := by decide +kernel
theorem dX9_init_11 : decode cX9_init 11 = .ok (.putfield 15, 3) := by decide +kernel
theorem dX9_init_14 : decode cX9_init 14 = .ok (.aload_n 0, 1) := by decide +kernel
theorem dX9_init_15 : decode cX9_init 15 = .ok (.ldc 19, 2) := by decide +kernel
theorem dX9_init_17 : decode cX9_init 17 = .ok (.newarray .int, 2) := by decide +kernel
theorem dX9_init_19 : decode cX9_init 19 = .ok (.putfield 20, 3) := by decide +kernel
theorem dX9_init_22 : decode cX9_init 22 = .ok (.aload_n 0, 1) := by decide +kernel
theorem dX9_init_23 : decode cX9_init 23 = .ok (.ldc 24, 2) := by decide +kernel
theorem dX9_init_25 : decode cX9_init 25 = .ok (.newarray .byte, 2) := by decide +kernel
theorem dX9_init_27 : decode cX9_init 27 = .ok (.putfield 25, 3) := by decide +kernel
theorem dX9_init_30 : decode cX9_init 30 = .ok (.aload_n 0, 1) := by decide +kernel
theorem dX9_init_31 : decode cX9_init 31 = .ok (.ldc 19, 2) := by decide +kernel
theorem dX9_init_33 : decode cX9_init 33 = .ok (.newarray .int, 2) := by decide +kernel
theorem dX9_init_35 : decode cX9_init 35 = .ok (.putfield 28, 3) := by decide +kernel
theorem dX9_init_38 : decode cX9_init 38 = .ok (.aload_n 0, 1) := by decide +kernel
theorem dX9_init_39 : decode cX9_init 39 = .ok (.ldc 19, 2) := by decide +kernel
theorem dX9_init_41 : decode cX9_init 41 = .ok (.newarray .int, 2) := by decide +kernel
theorem dX9_init_43 : decode cX9_init 43 = .ok (.putfield 31, 3) := by decide +kernel
theorem dX9_init_46 : decode cX9_init 46 = .ok (.aload_n 0, 1) := by decide +kernel
theorem dX9_init_47 : decode cX9_init 47 = .ok (.ldc 19, 2) := by decide +kernel
theorem dX9_init_49 : decode cX9_init 49 = .ok (.newarray .int, 2) := by decide +kernel
theorem dX9_init_51 : decode cX9_init 51 = .ok (.putfield 34, 3) := by decide +kernel
theorem dX9_init_54 : decode cX9_init 54 = .ok (.aload_n 0, 1) := by decide +kernel
theorem dX9_init_55 : decode cX9_init 55 = .ok (.new 37, 3) := by decide +kernel
theorem dX9_init_58 : decode cX9_init 58 = .ok (.dup, 1) := by decide +kernel
theorem dX9_init_59 : decode cX9_init 59 = .ok (.sipush 5500, 3) := by decide +kernel
theorem dX9_init_62 : decode cX9_init 62 = .ok (.ldc 39, 2) := by decide +kernel
theorem dX9_init_64 : decode cX9_init 64 = .ok (.invokespecial 40, 3) := by decide +kernel
theorem dX9_init_67 : decode cX9_init 67 = .ok (.putfield 43, 3) := by decide +kernel
theorem dX9_init_70 : decode cX9_init 70 = .ok (.aload_n 0, 1) := by decide +kernel
theorem dX9_init_71 : decode cX9_init 71 = .ok (.sipush 5500, 3) := by decide +kernel
theorem dX9_init_74 : decode cX9_init 74 = .ok (.newarray .int, 2) := by decide +kernel
theorem dX9_init_76 : decode cX9_init 76 = .ok (.putfield 46, 3) := by decide +kernel
theorem dX9_init_79 : decode cX9_init 79 = .ok (.aload_n 0, 1) := by decide +kernel
theorem dX9_init_80 : decode cX9_init 80 = .ok (.sipush 5500, 3) := by decide +kernel
theorem dX9_init_83 : decode cX9_init 83 = .ok (.newarray .int, 2) := by decide +kernel
theorem dX9_init_85 : decode cX9_init 85 = .ok (.putfield 49, 3) := by decide +kernel
theorem dX9_init_88 : decode cX9_init 88 = .ok (.aload_n 0, 1) := by decide +kernel
theorem dX9_init_89 : decode cX9_init 89 = .ok (.sipush 5501, 3) := by decide +kernel
theorem dX9_init_92 : decode cX9_init 92 = .ok (.newarray .int, 2) := by decide +kernel
theorem dX9_init_94 : decode cX9_init 94 = .ok (.putfield 52, 3) := by decide +kernel
theorem dX9_init_97 : decode cX9_init 97 = .ok (.aload_n 0, 1) := by decide +kernel
theorem dX9_init_98 : decode cX9_init 98 = .ok (.ldc 55, 2) := by decide +kernel
theorem dX9_init_100 : decode cX9_init 100 = .ok (.newarray .int, 2) := by decide +kernel
theorem dX9_init_102 : decode cX9_init 102 = .ok (.putfield 56, 3) := by decide +kernel
theorem dX9_init_105 : decode cX9_init 105 = .ok (.aload_n 0, 1) := by decide +kernel
theorem dX9_init_106 : decode cX9_init 106 = .ok (.ldc 55, 2) := by decide +kernel
theorem dX9_init_108 : decode cX9_init 108 = .ok (.newarray .int, 2) := by decide +kernel
theorem dX9_init_110 : decode cX9_init 110 = .ok (.putfield 59, 3) := by decide +kernel
theorem dX9_init_113 : decode cX9_init 113 = .ok (.aload_n 0, 1) := by decide +kernel
theorem dX9_init_114 : decode cX9_init 114 = .ok (.iconst 0, 1) := by decide +kernel
theorem dX9_init_115 : decode cX9_init 115 = .ok (.putfield 62, 3) := by decide +kernel
theorem dX9_init_118 : decode cX9_init 118 = .ok (.return_, 1) := by decide +kernel
theorem dX10_init_0 : decode cX10_init 0 = .ok (.aload_n 0, 1) := by decide +kernel
theorem dX10_init_1 : decode cX10_init 1 = .ok (.invokespecial 3, 3) := by decide +kernel
theorem dX10_init_4 : decode cX10_init 4 = .ok (.aload_n 0, 1) := by decide +kernel
theorem dX10_init_5 : decode cX10_init 5 = .ok (.new 9, 3) := by decide +kernel
theorem dX10_init_8 : decode cX10_init 8 = .ok (.dup, 1) := by decide +kernel
theorem dX10_init_9 : decode cX10_init 9 = .ok (.sipush 1024, 3) := by decide +kernel
theorem dX10_init_12 : decode cX10_init 12 = .ok (.ldc 13, 2) := by decide +kernel
theorem dX10_init_14 : decode cX10_init 14 = .ok (.invokespecial 14, 3) := by decide +kernel
theorem dX10_init_17 : decode cX10_init 17 = .ok (.putfield 17, 3) := by decide +kernel
theorem dX10_init_20 : decode cX10_init 20 = .ok (.aload_n 0, 1) := by decide +kernel
theorem dX10_init_21 : decode cX10_init 21 = .ok (.sipush 1024, 3) := by decide +kernel
theorem dX10_init_24 : decode cX10_init 24 = .ok (.bipush 6, 2) := by decide +kernel
theorem dX10_init_26 : decode cX10_init 26 = .ok (.multianewarray 21 2, 4) := by decide +kernel
theorem dX10_init_30 : decode cX10_init 30 = .ok (.putfield 23, 3) := by decide +kernel
theorem dX10_init_33 : decode cX10_init 33 = .ok (.aload_n 0, 1) := by decide +kernel
theorem dX10_init_34 : decode cX10_init 34 = .ok (.sipush 1024, 3) := by decide +kernel
theorem dX10_init_37 : decode cX10_init 37 = .ok (.newarray .long, 2) := by decide +kernel
theorem dX10_init_39 : decode cX10_init 39 = .ok (.putfield 26, 3) := by decide +kernel
theorem dX10_init_42 : decode cX10_init 42 = .ok (.aload_n 0, 1) := by decide +kernel
theorem dX10_init_43 : decode cX10_init 43 = .ok (.sipush 1024, 3) := by decide +kernel
theorem dX10_init_46 : decode cX10_init 46 = .ok (.newarray .int, 2) := by decide +kernel
theorem dX10_init_48 : decode cX10_init 48 = .ok (.putfield 30, 3) := by decide +kernel
theorem dX10_init_51 : decode cX10_init 51 = .ok (.aload_n 0, 1) := by decide +kernel
theorem dX10_init_52 : decode cX10_init 52 = .ok (.sipush 8192, 3) := by decide +kernel
theorem dX10_init_55 : decode cX10_init 55 = .ok (.bipush 7, 2) := by decide +kernel
theorem dX10_init_57 : decode cX10_init 57 = .ok (.multianewarray 21 2, 4) := by decide +kernel
theorem dX10_init_61 : decode cX10_init 61 = .ok (.putfield 34, 3) := by decide +kernel
theorem dX10_init_64 : decode cX10_init 64 = .ok (.aload_n 0, 1) := by decide +kernel
theorem dX10_init_65 : decode cX10_init 65 = .ok (.sipush 4096, 3) := by decide +kernel
theorem dX10_init_68 : decode cX10_init 68 = .ok (.bipush 6, 2) := by decide +kernel
theorem dX10_init_70 : decode cX10_init 70 = .ok (.multianewarray 21 2, 4) := by decide +kernel
theorem dX10_init_74 : decode cX10_init 74 = .ok (.putfield 37, 3) := by decide +kernel
theorem dX10_init_77 : decode cX10_init 77 = .ok (.aload_n 0, 1) := by decide +kernel
theorem dX10_init_78 : decode cX10_init 78 = .ok (.sipush 4096, 3) := by decide +kernel
theorem dX10_init_81 : decode cX10_init 81 = .ok (.newarray .long, 2) := by decide +kernel
theorem dX10_init_83 : decode cX10_init 83 = .ok (.putfield 40, 3) := by decide +kernel
theorem dX10_init_86 : decode cX10_init 86 = .ok (.aload_n 0, 1) := by decide +kernel
theorem dX10_init_87 : decode cX10_init 87 = .ok (.ldc 43, 2) := by decide +kernel
theorem dX10_init_89 : decode cX10_init 89 = .ok (.newarray .byte, 2) := by decide +kernel
theorem dX10_init_91 : decode cX10_init 91 = .ok (.putfield 44, 3) := by decide +kernel
theorem dX10_init_94 : decode cX10_init 94 = .ok (.aload_n 0, 1) := by decide +kernel
theorem dX10_init_95 : decode cX10_init 95 = .ok (.ldc 43, 2) := by decide +kernel
theorem dX10_init_97 : decode cX10_init 97 = .ok (.newarray .byte, 2) := by decide +kernel
theorem dX10_init_99 : decode cX10_init 99 = .ok (.putfield 48, 3) := by decide +kernel
theorem dX10_init_102 : decode cX10_init 102 = .ok (.aload_n 0, 1) := by decide +kernel
theorem dX10_init_103 : decode cX10_init 103 = .ok (.bipush 33, 2) := by decide +kernel
theorem dX10_init_105 : decode cX10_init 105 = .ok (.bipush 17, 2) := by decide +kernel
theorem dX10_init_107 : decode cX10_init 107 = .ok (.multianewarray 21 2, 4) := by decide +kernel
theorem dX10_init_111 : decode cX10_init 111 = .ok (.putfield 51, 3) := by decide +kernel
theorem dX10_init_114 : decode cX10_init 114 = .ok (.aload_n 0, 1) := by decide +kernel
theorem dX10_init_115 : decode cX10_init 115 = .ok (.iconst 4, 1) := by decide +kernel
theorem dX10_init_116 : decode cX10_init 116 = .ok (.newarray .int, 2) := by decide +kernel
theorem dX10_init_118 : decode cX10_init 118 = .ok (.putfield 54, 3) := by decide +kernel
theorem dX10_init_121 : decode cX10_init 121 = .ok (.return_, 1) := by decide +kernel
theorem dX11_init_0 : decode cX11_init 0 = .ok (.aload_n 0, 1) := by decide +kernel
theorem dX11_init_1 : decode cX11_init 1 = .ok (.invokespecial 1, 3) := by decide +kernel
theorem dX11_init_4 : decode cX11_init 4 = .ok (.ldc 9, 2) := by decide +kernel
theorem dX11_init_6 : decode cX11_init 6 = .ok (.newarray .byte, 2) := by decide +kernel
theorem dX11_init_8 : decode cX11_init 8 = .ok (.astore_n 1, 1) := by decide +kernel
theorem dX11_init_9 : decode cX11_init 9 = .ok (.new 10, 3) := by decide +kernel
theorem dX11_init_12 : decode cX11_init 12 = .ok (.dup, 1) := by decide +kernel
theorem dX11_init_13 : decode cX11_init 13 = .ok (.invokespecial 12, 3) := by decide +kernel
theorem dX11_init_16 : decode cX11_init 16 = .ok (.astore_n 2, 1) := by decide +kernel
theorem dX11_init_17 : decode cX11_init 17 = .ok (.aload_n 0, 1) := by decide +kernel
theorem dX11_init_18 : decode cX11_init 18 = .ok (.aload_n 1, 1) := by decide +kernel
theorem dX11_init_19 : decode cX11_init 19 = .ok (.putfield 13, 3) := by decide +kernel
theorem dX11_init_22 : decode cX11_init 22 = .ok (.aload_n 0, 1) := by decide +kernel
theorem dX11_init_23 : decode cX11_init 23 = .ok (.aload_n 2, 1) := by decide +kernel
theorem dX11_init_24 : decode cX11_init 24 = .ok (.putfield 17, 3) := by decide +kernel
theorem dX11_init_27 : decode cX11_init 27 = .ok (.aload_n 0, 1) := by decide +kernel
theorem dX11_init_28 : decode cX11_init 28 = .ok (.new 21, 3) := by decide +kernel
theorem dX11_init_31 : decode cX11_init 31 = .ok (.dup, 1) := by decide +kernel
theorem dX11_init_32 : decode cX11_init 32 = .ok (.aload_n 1, 1) := by decide +kernel
theorem dX11_init_33 : decode cX11_init 33 = .ok (.aload_n 2, 1) := by decide +kernel
theorem dX11_init_34 : decode cX11_init 34 = .ok (.invokespecial 23, 3) := by decide +kernel
theorem dX11_init_37 : decode cX11_init 37 = .ok (.putfield 26, 3) := by decide +kernel
theorem dX11_init_40 : decode cX11_init 40 = .ok (.aload_n 0, 1) := by decide +kernel
theorem dX11_init_41 : decode cX11_init 41 = .ok (.new 30, 3) := by decide +kernel
theorem dX11_init_44 : decode cX11_init 44 = .ok (.dup, 1) := by decide +kernel
theorem dX11_init_45 : decode cX11_init 45 = .ok (.aload_n 2, 1) := by decide +kernel
theorem dX11_init_46 : decode cX11_init 46 = .ok (.invokespecial 32, 3) := by decide +kernel
theorem dX11_init_49 : decode cX11_init 49 = .ok (.putfield 35, 3) := by decide +kernel
theorem dX11_init_52 : decode cX11_init 52 = .ok (.aload_n 0, 1) := by decide +kernel
theorem dX11_init_53 : decode cX11_init 53 = .ok (.new 39, 3) := by decide +kernel
theorem dX11_init_56 : decode cX11_init 56 = .ok (.dup, 1) := by decide +kernel
theorem dX11_init_57 : decode cX11_init 57 = .ok (.invokespecial 41, 3) := by decide +kernel
theorem dX11_init_60 : decode cX11_init 60 = .ok (.putfield 42, 3) := by decide +kernel
theorem dX11_init_63 : decode cX11_init 63 = .ok (.aload_n 0, 1) := by decide +kernel
theorem dX11_init_64 : decode cX11_init 64 = .ok (.iconst 0, 1) := by decide +kernel
theorem dX11_init_65 : decode cX11_init 65 = .ok (.putfield 46, 3) := by decide +kernel
theorem dX11_init_68 : decode cX11_init 68 = .ok (.aload_n 0, 1) := by decide +kernel
theorem dX11_init_69 : decode cX11_init 69 = .ok (.iconst 0, 1) := by decide +kernel
theorem dX11_init_70 : decode cX11_init 70 = .ok (.putfield 50, 3) := by decide +kernel
theorem dX11_init_73 : decode cX11_init 73 = .ok (.aload_n 0, 1) := by decide +kernel
theorem dX11_init_74 : decode cX11_init 74 = .ok (.iconst 0, 1) := by decide +kernel
theorem dX11_init_75 : decode cX11_init 75 = .ok (.putfield 53, 3) := by decide +kernel
theorem dX11_init_78 : decode cX11_init 78 = .ok (.aload_n 0, 1) := by decide +kernel
theorem dX11_init_79 : decode cX11_init 79 = .ok (.iconst (-1), 1) := by decide +kernel
theorem dX11_init_80 : decode cX11_init 80 = .ok (.putfield 56, 3) := by decide +kernel
theorem dX11_init_83 : decode cX11_init 83 = .ok (.return_, 1) := by decide +kernel
theorem dX12_init_0 : decode cX12_init 0 = .ok (.aload_n 0, 1) := by decide +kernel
theorem dX12_init_1 : decode cX12_init 1 = .ok (.invokespecial 3, 3) := by decide +kernel
theorem dX12_init_4 : decode cX12_init 4 = .ok (.aload_n 0, 1) := by decide +kernel
theorem dX12_init_5 : decode cX12_init 5 = .ok (.sipush 8194, 3) := by decide +kernel
theorem dX12_init_8 : decode cX12_init 8 = .ok (.newarray .int, 2) := by decide +kernel
theorem dX12_init_10 : decode cX12_init 10 = .ok (.putfield 9, 3) := by decide +kernel
theorem dX12_init_13 : decode cX12_init 13 = .ok (.aload_n 0, 1) := by decide +kernel
theorem dX12_init_14 : decode cX12_init 14 = .ok (.sipush 8194, 3) := by decide +kernel
theorem dX12_init_17 : decode cX12_init 17 = .ok (.newarray .int, 2) := by decide +kernel
theorem dX12_init_19 : decode cX12_init 19 = .ok (.putfield 15, 3) := by decide +kernel
theorem dX12_init_22 : decode cX12_init 22 = .ok (.aload_n 0, 1) := by decide +kernel
theorem dX12_init_23 : decode cX12_init 23 = .ok (.sipush 8194, 3) := by decide +kernel
theorem dX12_init_26 : decode cX12_init 26 = .ok (.newarray .long, 2) := by decide +kernel
theorem dX12_init_28 : decode cX12_init 28 = .ok (.putfield 18, 3) := by decide +kernel
theorem dX12_init_31 : decode cX12_init 31 = .ok (.aload_n 0, 1) := by decide +kernel
theorem dX12_init_32 : decode cX12_init 32 = .ok (.sipush 8194, 3) := by decide +kernel
theorem dX12_init_35 : decode cX12_init 35 = .ok (.newarray .long, 2) := by decide +kernel
theorem dX12_init_37 : decode cX12_init 37 = .ok (.putfield 22, 3) := by decide +kernel
theorem dX12_init_40 : decode cX12_init 40 = .ok (.aload_n 0, 1) := by decide +kernel
theorem dX12_init_41 : decode cX12_init 41 = .ok (.sipush 8194, 3) := by decide +kernel
theorem dX12_init_44 : decode cX12_init 44 = .ok (.newarray .long, 2) := by decide +kernel
theorem dX12_init_46 : decode cX12_init 46 = .ok (.putfield 25, 3) := by decide +kernel
theorem dX12_init_49 : decode cX12_init 49 = .ok (.return_, 1) := by decide +kernel
theorem dX13_init_0 : decode cX13_init 0 = .ok (.aload_n 0, 1) := by decide +kernel
theorem dX13_init_1 : decode cX13_init 1 = .ok (.invokespecial 1, 3) := by decide +kernel
theorem dX13_init_4 : decode cX13_init 4 = .ok (.aload_n 0, 1) := by decide +kernel
theorem dX13_init_5 : decode cX13_init 5 = .ok (.ldc 9, 2) := by decide +kernel
theorem dX13_init_7 : decode cX13_init 7 = .ok (.newarray .byte, 2) := by decide +kernel
theorem dX13_init_9 : decode cX13_init 9 = .ok (.putfield 10, 3) := by decide +kernel
theorem dX13_init_12 : decode cX13_init 12 = .ok (.aload_n 0, 1) := by decide +kernel
theorem dX13_init_13 : decode cX13_init 13 = .ok (.sipush 200, 3) := by decide +kernel
theorem dX13_init_16 : decode cX13_init 16 = .ok (.newarray .long, 2) := by decide +kernel
theorem dX13_init_18 : decode cX13_init 18 = .ok (.putfield 14, 3) := by decide +kernel
theorem dX13_init_21 : decode cX13_init 21 = .ok (.aload_n 0, 1) := by decide +kernel
theorem dX13_init_22 : decode cX13_init 22 = .ok (.bipush 50, 2) := by decide +kernel
theorem dX13_init_24 : decode cX13_init 24 = .ok (.newarray .long, 2) := by decide +kernel
theorem dX13_init_26 : decode cX13_init 26 = .ok (.putfield 18, 3) := by decide +kernel
theorem dX13_init_29 : decode cX13_init 29 = .ok (.aload_n 0, 1) := by decide +kernel
theorem dX13_init_30 : decode cX13_init 30 = .ok (.sipush 200, 3) := by decide +kernel
theorem dX13_init_33 : decode cX13_init 33 = .ok (.newarray .int, 2) := by decide +kernel
theorem dX13_init_35 : decode cX13_init 35 = .ok (.putfield 21, 3) := by decide +kernel
theorem dX13_init_38 : decode cX13_init 38 = .ok (.aload_n 0, 1) := by decide +kernel
theorem dX13_init_39 : decode cX13_init 39 = .ok (.bipush 50, 2) := by decide +kernel
theorem dX13_init_41 : decode cX13_init 41 = .ok (.newarray .int, 2) := by decide +kernel
theorem dX13_init_43 : decode cX13_init 43 = .ok (.putfield 25, 3) := by decide +kernel
theorem dX13_init_46 : decode cX13_init 46 = .ok (.aload_n 0, 1) := by decide +kernel
theorem dX13_init_47 : decode cX13_init 47 = .ok (.sipush 1025, 3) := by decide +kernel
theorem dX13_init_50 : decode cX13_init 50 = .ok (.newarray .int, 2) := by decide +kernel
theorem dX13_init_52 : decode cX13_init 52 = .ok (.putfield 28, 3) := by decide +kernel
theorem dX13_init_55 : decode cX13_init 55 = .ok (.aload_n 0, 1) := by decide +kernel
theorem dX13_init_56 : decode cX13_init 56 = .ok (.bipush 32, 2) := by decide +kernel
theorem dX13_init_58 : decode cX13_init 58 = .ok (.newarray .boolean, 2) := by decide +kernel
theorem dX13_init_60 : decode cX13_init 60 = .ok (.putfield 31, 3) := by decide +kernel
theorem dX13_init_63 : decode cX13_init 63 = .ok (.aload_n 0, 1) := by decide +kernel
theorem dX13_init_64 : decode cX13_init 64 = .ok (.bipush 33, 2) := by decide +kernel
theorem dX13_init_66 : decode cX13_init 66 = .ok (.newarray .int, 2) := by decide +kernel
theorem dX13_init_68 : decode cX13_init 68 = .ok (.putfield 35, 3) := by decide +kernel
theorem dX13_init_71 : decode cX13_init 71 = .ok (.aload_n 0, 1) := by decide +kernel
theorem dX13_init_72 : decode cX13_init 72 = .ok (.bipush 33, 2) := by decide +kernel
theorem dX13_init_74 : decode cX13_init 74 = .ok (.newarray .int, 2) := by decide +kernel
theorem dX13_init_76 : decode cX13_init 76 = .ok (.putfield 38, 3) := by decide +kernel
theorem dX13_init_79 : decode cX13_init 79 = .ok (.aload_n 0, 1) := by decide +kernel
theorem dX13_init_80 : decode cX13_init 80 = .ok (.bipush 33, 2) := by decide +kernel
theorem dX13_init_82 : decode cX13_init 82 = .ok (.newarray .int, 2) := by decide +kernel
theorem dX13_init_84 : decode cX13_init 84 = .ok (.putfield 41, 3) := by decide +kernel
theorem dX13_init_87 : decode cX13_init 87 = .ok (.aload_n 0, 1) := by decide +kernel
theorem dX13_init_88 : decode cX13_init 88 = .ok (.sipush 128, 3) := by decide +kernel
theorem dX13_init_91 : decode cX13_init 91 = .ok (.newarray .int, 2) := by decide +kernel
theorem dX13_init_93 : decode cX13_init 93 = .ok (.putfield 44, 3) := by decide +kernel
theorem dX13_init_96 : decode cX13_init 96 = .ok (.aload_n 0, 1) := by decide +kernel
theorem dX13_init_97 : decode cX13_init 97 = .ok (.sipush 128, 3) := by decide +kernel
theorem dX13_init_100 : decode cX13_init 100 = .ok (.newarray .boolean, 2) := by decide +kernel
theorem dX13_init_102 : decode cX13_init 102 = .ok (.putfield 47, 3) := by decide +kernel
theorem dX13_init_105 : decode cX13_init 105 = .ok (.aload_n 0, 1) := by decide +kernel
theorem dX13_init_106 : decode cX13_init 106 = .ok (.iconst (-1), 1) := by decide +kernel
theorem dX13_init_107 : decode cX13_init 107 = .ok (.putfield 50, 3) := by decide +kernel
theorem dX13_init_110 : decode cX13_init 110 = .ok (.aload_n 0, 1) := by decide +kernel
theorem dX13_init_111 : decode cX13_init 111 = .ok (.ldc 54, 2) := by decide +kernel
theorem dX13_init_113 : decode cX13_init 113 = .ok (.newarray .byte, 2) := by decide +kernel
theorem dX13_init_115 : decode cX13_init 115 = .ok (.putfield 55, 3) := by decide +kernel
theorem dX13_init_118 : decode cX13_init 118 = .ok (.aload_n 0, 1) := by decide +kernel
theorem dX13_init_119 : decode cX13_init 119 = .ok (.sipush 1025, 3) := by decide +kernel
theorem dX13_init_122 : decode cX13_init 122 = .ok (.newarray .int, 2) := by decide +kernel
theorem dX13_init_124 : decode cX13_init 124 = .ok (.putfield 58, 3) := by decide +kernel
theorem dX13_init_127 : decode cX13_init 127 = .ok (.aload_n 0, 1) := by decide +kernel
theorem dX13_init_128 : decode cX13_init 128 = .ok (.sipush 1025, 3) := by decide +kernel
theorem dX13_init_131 : decode cX13_init 131 = .ok (.newarray .int, 2) := by decide +kernel
theorem dX13_init_133 : decode cX13_init 133 = .ok (.putfield 61, 3) := by decide +kernel
theorem dX13_init_136 : decode cX13_init 136 = .ok (.aload_n 0, 1) := by decide +kernel
theorem dX13_init_137 : decode cX13_init 137 = .ok (.sipush 1025, 3) := by decide +kernel
theorem dX13_init_140 : decode cX13_init 140 = .ok (.newarray .long, 2) := by decide +kernel
theorem dX13_init_142 : decode cX13_init 142 = .ok (.putfield 64, 3) := by decide +kernel
theorem dX13_init_145 : decode cX13_init 145 = .ok (.aload_n 0, 1) := by decide +kernel
theorem dX13_init_146 : decode cX13_init 146 = .ok (.sipush 1025, 3) := by decide +kernel
theorem dX13_init_149 : decode cX13_init 149 = .ok (.newarray .int, 2) := by decide +kernel
theorem dX13_init_151 : decode cX13_init 151 = .ok (.putfield 67, 3) := by decide +kernel
theorem dX13_init_154 : decode cX13_init 154 = .ok (.aload_n 0, 1) := by decide +kernel
theorem dX13_init_155 : decode cX13_init 155 = .ok (.sipush 1025, 3) := by decide +kernel
theorem dX13_init_158 : decode cX13_init 158 = .ok (.newarray .boolean, 2) := by decide +kernel
theorem dX13_init_160 : decode cX13_init 160 = .ok (.putfield 70, 3) := by decide +kernel
theorem dX13_init_163 : decode cX13_init 163 = .ok (.aload_n 0, 1) := by decide +kernel
theorem dX13_init_164 : decode cX13_init 164 = .ok (.sipush 1025, 3) := by decide +kernel
theorem dX13_init_167 : decode cX13_init 167 = .ok (.newarray .boolean, 2) := by decide +kernel
theorem dX13_init_169 : decode cX13_init 169 = .ok (.putfield 73, 3) := by decide +kernel
theorem dX13_init_172 : decode cX13_init 172 = .ok (.aload_n 0, 1) := by decide +kernel
theorem dX13_init_173 : decode cX13_init 173 = .ok (.sipush 1025, 3) := by decide +kernel
theorem dX13_init_176 : decode cX13_init 176 = .ok (.newarray .boolean, 2) := by decide +kernel
theorem dX13_init_178 : decode cX13_init 178 = .ok (.putfield 76, 3) := by decide +kernel
theorem dX13_init_181 : decode cX13_init 181 = .ok (.aload_n 0, 1) := by decide +kernel
theorem dX13_init_182 : decode cX13_init 182 = .ok (.sipush 1025, 3) := by decide +kernel
theorem dX13_init_185 : decode cX13_init 185 = .ok (.newarray .boolean, 2) := by decide +kernel
theorem dX13_init_187 : decode cX13_init 187 = .ok (.putfield 79, 3) := by decide +kernel
theorem dX13_init_190 : decode cX13_init 190 = .ok (.aload_n 0, 1) := by decide +kernel
theorem dX13_init_191 : decode cX13_init 191 = .ok (.sipush 1025, 3) := by decide +kernel
theorem dX13_init_194 : decode cX13_init 194 = .ok (.newarray .long, 2) := by decide +kernel
theorem dX13_init_196 : decode cX13_init 196 = .ok (.putfield 82, 3) := by decide +kernel
theorem dX13_init_199 : decode cX13_init 199 = .ok (.aload_n 0, 1) := by decide +kernel
theorem dX13_init_200 : decode cX13_init 200 = .ok (.sipush 9218, 3) := by decide +kernel
theorem dX13_init_203 : decode cX13_init 203 = .ok (.newarray .byte, 2) := by decide +kernel
theorem dX13_init_205 : decode cX13_init 205 = .ok (.putfield 85, 3) := by decide +kernel
theorem dX13_init_208 : decode cX13_init 208 = .ok (.aload_n 0, 1) := by decide +kernel
theorem dX13_init_209 : decode cX13_init 209 = .ok (.sipush 9218, 3) := by decide +kernel
theorem dX13_init_212 : decode cX13_init 212 = .ok (.newarray .byte, 2) := by decide +kernel
theorem dX13_init_214 : decode cX13_init 214 = .ok (.putfield 88, 3) := by decide +kernel
theorem dX13_init_217 : decode cX13_init 217 = .ok (.aload_n 0, 1) := by decide +kernel
theorem dX13_init_218 : decode cX13_init 218 = .ok (.sipush 9218, 3) := by decide +kernel
theorem dX13_init_221 : decode cX13_init 221 = .ok (.newarray .int, 2) := by decide +kernel
theorem dX13_init_223 : decode cX13_init 223 = .ok (.putfield 91, 3) := by decide +kernel
theorem dX13_init_226 : decode cX13_init 226 = .ok (.aload_n 0, 1) := by decide +kernel
theorem dX13_init_227 : decode cX13_init 227 = .ok (.sipush 9218, 3) := by decide +kernel
theorem dX13_init_230 : decode cX13_init 230 = .ok (.newarray .int, 2) := by decide +kernel
theorem dX13_init_232 : decode cX13_init 232 = .ok (.putfield 94, 3) := by decide +kernel
theorem dX13_init_235 : decode cX13_init 235 = .ok (.aload_n 0, 1) := by decide +kernel
theorem dX13_init_236 : decode cX13_init 236 = .ok (.sipush 9218, 3) := by decide +kernel
theorem dX13_init_239 : decode cX13_init 239 = .ok (.newarray .int, 2) := by decide +kernel
theorem dX13_init_241 : decode cX13_init 241 = .ok (.putfield 97, 3) := by decide +kernel
theorem dX13_init_244 : decode cX13_init 244 = .ok (.aload_n 0, 1) := by decide +kernel
theorem dX13_init_245 : decode cX13_init 245 = .ok (.sipush 9218, 3) := by decide +kernel
theorem dX13_init_248 : decode cX13_init 248 = .ok (.newarray .int, 2) := by decide +kernel
theorem dX13_init_250 : decode cX13_init 250 = .ok (.putfield 100, 3) := by decide +kernel
theorem dX13_init_253 : decode cX13_init 253 = .ok (.aload_n 0, 1) := by decide +kernel
theorem dX13_init_254 : decode cX13_init 254 = .ok (.sipush 9218, 3) := by decide +kernel
theorem dX13_init_257 : decode cX13_init 257 = .ok (.newarray .long, 2) := by decide +kernel
theorem dX13_init_259 : decode cX13_init 259 = .ok (.putfield 103, 3) := by decide +kernel
theorem dX13_init_262 : decode cX13_init 262 = .ok (.aload_n 0, 1) := by decide +kernel
theorem dX13_init_263 : decode cX13_init 263 = .ok (.sipush 9218, 3) := by decide +kernel
theorem dX13_init_266 : decode cX13_init 266 = .ok (.newarray .int, 2) := by decide +kernel
theorem dX13_init_268 : decode cX13_init 268 = .ok (.putfield 106, 3) := by decide +kernel
theorem dX13_init_271 : decode cX13_init 271 = .ok (.aload_n 0, 1) := by decide +kernel
theorem dX13_init_272 : decode cX13_init 272 = .ok (.sipush 9218, 3) := by decide +kernel
theorem dX13_init_275 : decode cX13_init 275 = .ok (.newarray .long, 2) := by decide +kernel
theorem dX13_init_277 : decode cX13_init 277 = .ok (.putfield 109, 3) := by decide +kernel
theorem dX13_init_280 : decode cX13_init 280 = .ok (.aload_n 0, 1) := by decide +kernel
theorem dX13_init_281 : decode cX13_init 281 = .ok (.ldc 112, 2) := by decide +kernel
theorem dX13_init_283 : decode cX13_init 283 = .ok (.newarray .byte, 2) := by decide +kernel
theorem dX13_init_285 : decode cX13_init 285 = .ok (.putfield 113, 3) := by decide +kernel
theorem dX13_init_288 : decode cX13_init 288 = .ok (.aload_n 0, 1) := by decide +kernel
theorem dX13_init_289 : decode cX13_init 289 = .ok (.sipush 4104, 3) := by decide +kernel
theorem dX13_init_292 : decode cX13_init 292 = .ok (.newarray .int, 2) := by decide +kernel
theorem dX13_init_294 : decode cX13_init 294 = .ok (.putfield 116, 3) := by decide +kernel
theorem dX13_init_297 : decode cX13_init 297 = .ok (.aload_n 0, 1) := by decide +kernel
theorem dX13_init_298 : decode cX13_init 298 = .ok (.sipush 4104, 3) := by decide +kernel
theorem dX13_init_301 : decode cX13_init 301 = .ok (.newarray .int, 2) := by decide +kernel
theorem dX13_init_303 : decode cX13_init 303 = .ok (.putfield 119, 3) := by decide +kernel
theorem dX13_init_306 : decode cX13_init 306 = .ok (.aload_n 0, 1) := by decide +kernel
theorem dX13_init_307 : decode cX13_init 307 = .ok (.sipush 4104, 3) := by decide +kernel
theorem dX13_init_310 : decode cX13_init 310 = .ok (.newarray .int, 2) := by decide +kernel
theorem dX13_init_312 : decode cX13_init 312 = .ok (.putfield 122, 3) := by decide +kernel
theorem dX13_init_315 : decode cX13_init 315 = .ok (.aload_n 0, 1) := by decide +kernel
theorem dX13_init_316 : decode cX13_init 316 = .ok (.sipush 4104, 3) := by decide +kernel
theorem dX13_init_319 : decode cX13_init 319 = .ok (.newarray .int, 2) := by decide +kernel
theorem dX13_init_321 : decode cX13_init 321 = .ok (.putfield 125, 3) := by decide +kernel
theorem dX13_init_324 : decode cX13_init 324 = .ok (.aload_n 0, 1) := by decide +kernel
theorem dX13_init_325 : decode cX13_init 325 = .ok (.sipush 4104, 3) := by decide +kernel
theorem dX13_init_328 : decode cX13_init 328 = .ok (.newarray .byte, 2) := by decide +kernel
theorem dX13_init_330 : decode cX13_init 330 = .ok (.putfield 128, 3) := by decide +kernel
theorem dX13_init_333 : decode cX13_init 333 = .ok (.aload_n 0, 1) := by decide +kernel
theorem dX13_init_334 : decode cX13_init 334 = .ok (.sipush 4104, 3) := by decide +kernel
theorem dX13_init_337 : decode cX13_init 337 = .ok (.newarray .byte, 2) := by decide +kernel
theorem dX13_init_339 : decode cX13_init 339 = .ok (.putfield 131, 3) := by decide +kernel
theorem dX13_init_342 : decode cX13_init 342 = .ok (.aload_n 0, 1) := by decide +kernel
theorem dX13_init_343 : decode cX13_init 343 = .ok (.sipush 4104, 3) := by decide +kernel
theorem dX13_init_346 : decode cX13_init 346 = .ok (.newarray .long, 2) := by decide +kernel
theorem dX13_init_348 : decode cX13_init 348 = .ok (.putfield 134, 3) := by decide +kernel
theorem dX13_init_351 : decode cX13_init 351 = .ok (.aload_n 0, 1) := by decide +kernel
theorem dX13_init_352 : decode cX13_init 352 = .ok (.sipush 1100, 3) := by decide +kernel
theorem dX13_init_355 : decode cX13_init 355 = .ok (.newarray .byte, 2) := by decide +kernel
theorem dX13_init_357 : decode cX13_init 357 = .ok (.putfield 137, 3) := by decide +kernel
theorem dX13_init_360 : decode cX13_init 360 = .ok (.aload_n 0, 1) := by decide +kernel
theorem dX13_init_361 : decode cX13_init 361 = .ok (.bipush 24, 2) := by decide +kernel
theorem dX13_init_363 : decode cX13_init 363 = .ok (.newarray .int, 2) := by decide +kernel
theorem dX13_init_365 : decode cX13_init 365 = .ok (.putfield 140, 3) := by decide +kernel
theorem dX13_init_368 : decode cX13_init 368 = .ok (.aload_n 0, 1) := by decide +kernel
theorem dX13_init_369 : decode cX13_init 369 = .ok (.bipush 24, 2) := by decide +kernel
theorem dX13_init_371 : decode cX13_init 371 = .ok (.newarray .int, 2) := by decide +kernel
theorem dX13_init_373 : decode cX13_init 373 = .ok (.putfield 143, 3) := by decide +kernel
theorem dX13_init_376 : decode cX13_init 376 = .ok (.aload_n 0, 1) := by decide +kernel
theorem dX13_init_377 : decode cX13_init 377 = .ok (.bipush 24, 2) := by decide +kernel
theorem dX13_init_379 : decode cX13_init 379 = .ok (.newarray .int, 2) := by decide +kernel
theorem dX13_init_381 : decode cX13_init 381 = .ok (.putfield 146, 3) := by decide +kernel
theorem dX13_init_384 : decode cX13_init 384 = .ok (.aload_n 0, 1) := by decide +kernel
theorem dX13_init_385 : decode cX13_init 385 = .ok (.bipush 24, 2) := by decide +kernel
theorem dX13_init_387 : decode cX13_init 387 = .ok (.newarray .int, 2) := by decide +kernel
theorem dX13_init_389 : decode cX13_init 389 = .ok (.putfield 149, 3) := by decide +kernel
theorem dX13_init_392 : decode cX13_init 392 = .ok (.aload_n 0, 1) := by decide +kernel
theorem dX13_init_393 : decode cX13_init 393 = .ok (.bipush 24, 2) := by decide +kernel
theorem dX13_init_395 : decode cX13_init 395 = .ok (.newarray .int, 2) := by decide +kernel
theorem dX13_init_397 : decode cX13_init 397 = .ok (.putfield 152, 3) := by decide +kernel
theorem dX13_init_400 : decode cX13_init 400 = .ok (.aload_n 0, 1) := by decide +kernel
theorem dX13_init_401 : decode cX13_init 401 = .ok (.bipush 24, 2) := by decide +kernel
theorem dX13_init_403 : decode cX13_init 403 = .ok (.newarray .int, 2) := by decide +kernel
theorem dX13_init_405 : decode cX13_init 405 = .ok (.putfield 155, 3) := by decide +kernel
theorem dX13_init_408 : decode cX13_init 408 = .ok (.aload_n 0, 1) := by decide +kernel
theorem dX13_init_409 : decode cX13_init 409 = .ok (.bipush 24, 2) := by decide +kernel
theorem dX13_init_411 : decode cX13_init 411 = .ok (.newarray .int, 2) := by decide +kernel
theorem dX13_init_413 : decode cX13_init 413 = .ok (.putfield 158, 3) := by decide +kernel
theorem dX13_init_416 : decode cX13_init 416 = .ok (.aload_n 0, 1) := by decide +kernel
theorem dX13_init_417 : decode cX13_init 417 = .ok (.bipush 24, 2) := by decide +kernel
theorem dX13_init_419 : decode cX13_init 419 = .ok (.newarray .int, 2) := by decide +kernel
theorem dX13_init_421 : decode cX13_init 421 = .ok (.putfield 161, 3) := by decide +kernel
theorem dX13_init_424 : decode cX13_init 424 = .ok (.aload_n 0, 1) := by decide +kernel
theorem dX13_init_425 : decode cX13_init 425 = .ok (.bipush 24, 2) := by decide +kernel
theorem dX13_init_427 : decode cX13_init 427 = .ok (.newarray .int, 2) := by decide +kernel
theorem dX13_init_429 : decode cX13_init 429 = .ok (.putfield 164, 3) := by decide +kernel
theorem dX13_init_432 : decode cX13_init 432 = .ok (.aload_n 0, 1) := by decide +kernel
theorem dX13_init_433 : decode cX13_init 433 = .ok (.bipush 24, 2) := by decide +kernel
theorem dX13_init_435 : decode cX13_init 435 = .ok (.newarray .boolean, 2) := by decide +kernel
theorem dX13_init_437 : decode cX13_init 437 = .ok (.putfield 167, 3) := by decide +kernel
theorem dX13_init_440 : decode cX13_init 440 = .ok (.aload_n 0, 1) := by decide +kernel
theorem dX13_init_441 : decode cX13_init 441 = .ok (.bipush 21, 2) := by decide +kernel
theorem dX13_init_443 : decode cX13_init 443 = .ok (.sipush 1100, 3) := by decide +kernel
theorem dX13_init_446 : decode cX13_init 446 = .ok (.multianewarray 170 2, 4) := by decide +kernel
theorem dX13_init_450 : decode cX13_init 450 = .ok (.putfield 172, 3) := by decide +kernel
theorem dX13_init_453 : decode cX13_init 453 = .ok (.aload_n 0, 1) := by decide +kernel
theorem dX13_init_454 : decode cX13_init 454 = .ok (.bipush 21, 2) := by decide +kernel
theorem dX13_init_456 : decode cX13_init 456 = .ok (.sipush 2100, 3) := by decide +kernel
theorem dX13_init_459 : decode cX13_init 459 = .ok (.multianewarray 175 2, 4) := by decide +kernel
theorem dX13_init_463 : decode cX13_init 463 = .ok (.putfield 177, 3) := by decide +kernel
theorem dX13_init_466 : decode cX13_init 466 = .ok (.aload_n 0, 1) := by decide +kernel
theorem dX13_init_467 : decode cX13_init 467 = .ok (.bipush 21, 2) := by decide +kernel
theorem dX13_init_469 : decode cX13_init 469 = .ok (.newarray .int, 2) := by decide +kernel
theorem dX13_init_471 : decode cX13_init 471 = .ok (.putfield 180, 3) := by decide +kernel
theorem dX13_init_474 : decode cX13_init 474 = .ok (.aload_n 0, 1) := by decide +kernel
theorem dX13_init_475 : decode cX13_init 475 = .ok (.sipush 5100, 3) := by decide +kernel
theorem dX13_init_478 : decode cX13_init 478 = .ok (.newarray .int, 2) := by decide +kernel
theorem dX13_init_480 : decode cX13_init 480 = .ok (.putfield 183, 3) := by decide +kernel
theorem dX13_init_483 : decode cX13_init 483 = .ok (.aload_n 0, 1) := by decide +kernel
theorem dX13_init_484 : decode cX13_init 484 = .ok (.sipush 5100, 3) := by decide +kernel
theorem dX13_init_487 : decode cX13_init 487 = .ok (.newarray .int, 2) := by decide +kernel
theorem dX13_init_489 : decode cX13_init 489 = .ok (.putfield 186, 3) := by decide +kernel
theorem dX13_init_492 : decode cX13_init 492 = .ok (.aload_n 0, 1) := by decide +kernel
theorem dX13_init_493 : decode cX13_init 493 = .ok (.sipush 5100, 3) := by decide +kernel
theorem dX13_init_496 : decode cX13_init 496 = .ok (.newarray .int, 2) := by decide +kernel
theorem dX13_init_498 : decode cX13_init 498 = .ok (.putfield 189, 3) := by decide +kernel
theorem dX13_init_501 : decode cX13_init 501 = .ok (.aload_n 0, 1) := by decide +kernel
theorem dX13_init_502 : decode cX13_init 502 = .ok (.sipush 5100, 3) := by decide +kernel
theorem dX13_init_505 : decode cX13_init 505 = .ok (.newarray .int, 2) := by decide +kernel
theorem dX13_init_507 : decode cX13_init 507 = .ok (.putfield 192, 3) := by decide +kernel
theorem dX13_init_510 : decode cX13_init 510 = .ok (.aload_n 0, 1) := by decide +kernel
theorem dX13_init_511 : decode cX13_init 511 = .ok (.sipush 5100, 3) := by decide +kernel
theorem dX13_init_514 : decode cX13_init 514 = .ok (.newarray .int, 2) := by decide +kernel
theorem dX13_init_516 : decode cX13_init 516 = .ok (.putfield 195, 3) := by decide +kernel
theorem dX13_init_519 : decode cX13_init 519 = .ok (.aload_n 0, 1) := by decide +kernel
theorem dX13_init_520 : decode cX13_init 520 = .ok (.sipush 5100, 3) := by decide +kernel
theorem dX13_init_523 : decode cX13_init 523 = .ok (.newarray .int, 2) := by decide +kernel
theorem dX13_init_525 : decode cX13_init 525 = .ok (.putfield 198, 3) := by decide +kernel
theorem dX13_init_528 : decode cX13_init 528 = .ok (.aload_n 0, 1) := by decide +kernel
theorem dX13_init_529 : decode cX13_init 529 = .ok (.sipush 5100, 3) := by decide +kernel
theorem dX13_init_532 : decode cX13_init 532 = .ok (.newarray .int, 2) := by decide +kernel
theorem dX13_init_534 : decode cX13_init 534 = .ok (.putfield 201, 3) := by decide +kernel
theorem dX13_init_537 : decode cX13_init 537 = .ok (.aload_n 0, 1) := by decide +kernel
theorem dX13_init_538 : decode cX13_init 538 = .ok (.sipush 1110, 3) := by decide +kernel
theorem dX13_init_541 : decode cX13_init 541 = .ok (.newarray .int, 2) := by decide +kernel
theorem dX13_init_543 : decode cX13_init 543 = .ok (.putfield 204, 3) := by decide +kernel
theorem dX13_init_546 : decode cX13_init 546 = .ok (.aload_n 0, 1) := by decide +kernel
theorem dX13_init_547 : decode cX13_init 547 = .ok (.sipush 1110, 3) := by decide +kernel
theorem dX13_init_550 : decode cX13_init 550 = .ok (.newarray .int, 2) := by decide +kernel
theorem dX13_init_552 : decode cX13_init 552 = .ok (.putfield 207, 3) := by decide +kernel
theorem dX13_init_555 : decode cX13_init 555 = .ok (.aload_n 0, 1) := by decide +kernel
theorem dX13_init_556 : decode cX13_init 556 = .ok (.sipush 1110, 3) := by decide +kernel
theorem dX13_init_559 : decode cX13_init 559 = .ok (.newarray .int, 2) := by decide +kernel
theorem dX13_init_561 : decode cX13_init 561 = .ok (.putfield 210, 3) := by decide +kernel
theorem dX13_init_564 : decode cX13_init 564 = .ok (.aload_n 0, 1) := by decide +kernel
theorem dX13_init_565 : decode cX13_init 565 = .ok (.sipush 1110, 3) := by decide +kernel
theorem dX13_init_568 : decode cX13_init 568 = .ok (.newarray .long, 2) := by decide +kernel
theorem dX13_init_570 : decode cX13_init 570 = .ok (.putfield 213, 3) := by decide +kernel
theorem dX13_init_573 : decode cX13_init 573 = .ok (.aload_n 0, 1) := by decide +kernel
theorem dX13_init_574 : decode cX13_init 574 = .ok (.sipush 140, 3) := by decide +kernel
theorem dX13_init_577 : decode cX13_init 577 = .ok (.newarray .byte, 2) := by decide +kernel
theorem dX13_init_579 : decode cX13_init 579 = .ok (.putfield 216, 3) := by decide +kernel
theorem dX13_init_582 : decode cX13_init 582 = .ok (.aload_n 0, 1) := by decide +kernel
theorem dX13_init_583 : decode cX13_init 583 = .ok (.sipush 1110, 3) := by decide +kernel
theorem dX13_init_586 : decode cX13_init 586 = .ok (.newarray .long, 2) := by decide +kernel
theorem dX13_init_588 : decode cX13_init 588 = .ok (.putfield 219, 3) := by decide +kernel
theorem dX13_init_591 : decode cX13_init 591 = .ok (.aload_n 0, 1) := by decide +kernel
theorem dX13_init_592 : decode cX13_init 592 = .ok (.sipush 1110, 3) := by decide +kernel
theorem dX13_init_595 : decode cX13_init 595 = .ok (.newarray .int, 2) := by decide +kernel
theorem dX13_init_597 : decode cX13_init 597 = .ok (.putfield 222, 3) := by decide +kernel
theorem dX13_init_600 : decode cX13_init 600 = .ok (.aload_n 0, 1) := by decide +kernel
theorem dX13_init_601 : decode cX13_init 601 = .ok (.sipush 1110, 3) := by decide +kernel
theorem dX13_init_604 : decode cX13_init 604 = .ok (.newarray .int, 2) := by decide +kernel
theorem dX13_init_606 : decode cX13_init 606 = .ok (.putfield 225, 3) := by decide +kernel
theorem dX13_init_609 : decode cX13_init 609 = .ok (.aload_n 0, 1) := by decide +kernel
theorem dX13_init_610 : decode cX13_init 610 = .ok (.sipush 1110, 3) := by decide +kernel
theorem dX13_init_613 : decode cX13_init 613 = .ok (.newarray .int, 2) := by decide +kernel
theorem dX13_init_615 : decode cX13_init 615 = .ok (.putfield 228, 3) := by decide +kernel
theorem dX13_init_618 : decode cX13_init 618 = .ok (.aload_n 0, 1) := by decide +kernel
theorem dX13_init_619 : decode cX13_init 619 = .ok (.sipush 1110, 3) := by decide +kernel
theorem dX13_init_622 : decode cX13_init 622 = .ok (.newarray .int, 2) := by decide +kernel
theorem dX13_init_624 : decode cX13_init 624 = .ok (.putfield 231, 3) := by decide +kernel
theorem dX13_init_627 : decode cX13_init 627 = .ok (.aload_n 0, 1) := by decide +kernel
theorem dX13_init_628 : decode cX13_init 628 = .ok (.sipush 4104, 3) := by decide +kernel
theorem dX13_init_631 : decode cX13_init 631 = .ok (.newarray .int, 2) := by decide +kernel
theorem dX13_init_633 : decode cX13_init 633 = .ok (.putfield 234, 3) := by decide +kernel
theorem dX13_init_636 : decode cX13_init 636 = .ok (.aload_n 0, 1) := by decide +kernel
theorem dX13_init_637 : decode cX13_init 637 = .ok (.sipush 4104, 3) := by decide +kernel
theorem dX13_init_640 : decode cX13_init 640 = .ok (.newarray .int, 2) := by decide +kernel
theorem dX13_init_642 : decode cX13_init 642 = .ok (.putfield 237, 3) := by decide +kernel
theorem dX13_init_645 : decode cX13_init 645 = .ok (.aload_n 0, 1) := by decide +kernel
theorem dX13_init_646 : decode cX13_init 646 = .ok (.sipush 4104, 3) := by decide +kernel
theorem dX13_init_649 : decode cX13_init 649 = .ok (.newarray .int, 2) := by decide +kernel
theorem dX13_init_651 : decode cX13_init 651 = .ok (.putfield 240, 3) := by decide +kernel
theorem dX13_init_654 : decode cX13_init 654 = .ok (.aload_n 0, 1) := by decide +kernel
theorem dX13_init_655 : decode cX13_init 655 = .ok (.iconst 4, 1) := by decide +kernel
theorem dX13_init_656 : decode cX13_init 656 = .ok (.newarray .int, 2) := by decide +kernel
theorem dX13_init_658 : decode cX13_init 658 = .ok (.putfield 243, 3) := by decide +kernel
theorem dX13_init_661 : decode cX13_init 661 = .ok (.aload_n 0, 1) := by decide +kernel
theorem dX13_init_662 : decode cX13_init 662 = .ok (.iconst 4, 1) := by decide +kernel
theorem dX13_init_663 : decode cX13_init 663 = .ok (.newarray .int, 2) := by decide +kernel
theorem dX13_init_665 : decode cX13_init 665 = .ok (.putfield 246, 3) := by decide +kernel
theorem dX13_init_668 : decode cX13_init 668 = .ok (.aload_n 0, 1) := by decide +kernel
theorem dX13_init_669 : decode cX13_init 669 = .ok (.iconst 4, 1) := by decide +kernel
theorem dX13_init_670 : decode cX13_init 670 = .ok (.newarray .int, 2) := by decide +kernel
theorem dX13_init_672 : decode cX13_init 672 = .ok (.putfield 249, 3) := by decide +kernel
theorem dX13_init_675 : decode cX13_init 675 = .ok (.aload_n 0, 1) := by decide +kernel
theorem dX13_init_676 : decode cX13_init 676 = .ok (.iconst 4, 1) := by decide +kernel
theorem dX13_init_677 : decode cX13_init 677 = .ok (.newarray .int, 2) := by decide +kernel
theorem dX13_init_679 : decode cX13_init 679 = .ok (.putfield 252, 3) := by decide +kernel
theorem dX13_init_682 : decode cX13_init 682 = .ok (.aload_n 0, 1) := by decide +kernel
theorem dX13_init_683 : decode cX13_init 683 = .ok (.iconst 4, 1) := by decide +kernel
theorem dX13_init_684 : decode cX13_init 684 = .ok (.newarray .int, 2) := by decide +kernel
theorem dX13_init_686 : decode cX13_init 686 = .ok (.putfield 255, 3) := by decide +kernel
theorem dX13_init_689 : decode cX13_init 689 = .ok (.aload_n 0, 1) := by decide +kernel
theorem dX13_init_690 : decode cX13_init 690 = .ok (.sipush 160, 3) := by decide +kernel
theorem dX13_init_693 : decode cX13_init 693 = .ok (.newarray .int, 2) := by decide +kernel
theorem dX13_init_695 : decode cX13_init 695 = .ok (.putfield 258, 3) := by decide +kernel
theorem dX13_init_698 : decode cX13_init 698 = .ok (.aload_n 0, 1) := by decide +kernel
theorem dX13_init_699 : decode cX13_init 699 = .ok (.sipush 160, 3) := by decide +kernel
theorem dX13_init_702 : decode cX13_init 702 = .ok (.newarray .int, 2) := by decide +kernel
theorem dX13_init_704 : decode cX13_init 704 = .ok (.putfield 261, 3) := by decide +kernel
theorem dX13_init_707 : decode cX13_init 707 = .ok (.aload_n 0, 1) := by decide +kernel
theorem dX13_init_708 : decode cX13_init 708 = .ok (.sipush 160, 3) := by decide +kernel
theorem dX13_init_711 : decode cX13_init 711 = .ok (.newarray .int, 2) := by decide +kernel
theorem dX13_init_713 : decode cX13_init 713 = .ok (.putfield 264, 3) := by decide +kernel
theorem dX13_init_716 : decode cX13_init 716 = .ok (.aload_n 0, 1) := by decide +kernel
theorem dX13_init_717 : decode cX13_init 717 = .ok (.sipush 160, 3) := by decide +kernel
theorem dX13_init_720 : decode cX13_init 720 = .ok (.newarray .int, 2) := by decide +kernel
theorem dX13_init_722 : decode cX13_init 722 = .ok (.putfield 267, 3) := by decide +kernel
theorem dX13_init_725 : decode cX13_init 725 = .ok (.aload_n 0, 1) := by decide +kernel
theorem dX13_init_726 : decode cX13_init 726 = .ok (.sipush 160, 3) := by decide +kernel
theorem dX13_init_729 : decode cX13_init 729 = .ok (.newarray .int, 2) := by decide +kernel
theorem dX13_init_731 : decode cX13_init 731 = .ok (.putfield 270, 3) := by decide +kernel
theorem dX13_init_734 : decode cX13_init 734 = .ok (.aload_n 0, 1) := by decide +kernel
theorem dX13_init_735 : decode cX13_init 735 = .ok (.sipush 160, 3) := by decide +kernel
theorem dX13_init_738 : decode cX13_init 738 = .ok (.newarray .int, 2) := by decide +kernel
theorem dX13_init_740 : decode cX13_init 740 = .ok (.putfield 273, 3) := by decide +kernel
theorem dX13_init_743 : decode cX13_init 743 = .ok (.aload_n 0, 1) := by decide +kernel
theorem dX13_init_744 : decode cX13_init 744 = .ok (.sipush 160, 3) := by decide +kernel
theorem dX13_init_747 : decode cX13_init 747 = .ok (.newarray .int, 2) := by decide +kernel
theorem dX13_init_749 : decode cX13_init 749 = .ok (.putfield 276, 3) := by decide +kernel
theorem dX13_init_752 : decode cX13_init 752 = .ok (.aload_n 0, 1) := by decide +kernel
theorem dX13_init_753 : decode cX13_init 753 = .ok (.bipush 20, 2) := by decide +kernel
theorem dX13_init_755 : decode cX13_init 755 = .ok (.newarray .byte, 2) := by decide +kernel
theorem dX13_init_757 : decode cX13_init 757 = .ok (.putfield 279, 3) := by decide +kernel
theorem dX13_init_760 : decode cX13_init 760 = .ok (.aload_n 0, 1) := by decide +kernel
theorem dX13_init_761 : decode cX13_init 761 = .ok (.bipush 20, 2) := by decide +kernel
theorem dX13_init_763 : decode cX13_init 763 = .ok (.newarray .byte, 2) := by decide +kernel
theorem dX13_init_765 : decode cX13_init 765 = .ok (.putfield 282, 3) := by decide +kernel
theorem dX13_init_768 : decode cX13_init 768 = .ok (.aload_n 0, 1) := by decide +kernel
theorem dX13_init_769 : decode cX13_init 769 = .ok (.sipush 600, 3) := by decide +kernel
theorem dX13_init_772 : decode cX13_init 772 = .ok (.newarray .int, 2) := by decide +kernel
theorem dX13_init_774 : decode cX13_init 774 = .ok (.putfield 285, 3) := by decide +kernel
theorem dX13_init_777 : decode cX13_init 777 = .ok (.aload_n 0, 1) := by decide +kernel
theorem dX13_init_778 : decode cX13_init 778 = .ok (.sipush 600, 3) := by decide +kernel
theorem dX13_init_781 : decode cX13_init 781 = .ok (.newarray .int, 2) := by decide +kernel
theorem dX13_init_783 : decode cX13_init 783 = .ok (.putfield 288, 3) := by decide +kernel
theorem dX13_init_786 : decode cX13_init 786 = .ok (.aload_n 0, 1) := by decide +kernel
theorem dX13_init_787 : decode cX13_init 787 = .ok (.new 291, 3) := by decide +kernel
theorem dX13_init_790 : decode cX13_init 790 = .ok (.dup, 1) := by decide +kernel
theorem dX13_init_791 : decode cX13_init 791 = .ok (.invokespecial 293, 3) := by decide +kernel
theorem dX13_init_794 : decode cX13_init 794 = .ok (.putfield 294, 3) := by decide +kernel
theorem dX13_init_797 : decode cX13_init 797 = .ok (.aload_n 0, 1) := by decide +kernel
theorem dX13_init_798 : decode cX13_init 798 = .ok (.new 291, 3) := by decide +kernel
theorem dX13_init_801 : decode cX13_init 801 = .ok (.dup, 1) := by decide +kernel
theorem dX13_init_802 : decode cX13_init 802 = .ok (.invokespecial 293, 3) := by decide +kernel
theorem dX13_init_805 : decode cX13_init 805 = .ok (.putfield 298, 3) := by decide +kernel
theorem dX13_init_808 : decode cX13_init 808 = .ok (.aload_n 0, 1) := by decide +kernel
theorem dX13_init_809 : decode cX13_init 809 = .ok (.ldc_w 301, 3) := by decide +kernel
theorem dX13_init_812 : decode cX13_init 812 = .ok (.newarray .byte, 2) := by decide +kernel
theorem dX13_init_814 : decode cX13_init 814 = .ok (.putfield 302, 3) := by decide +kernel
theorem dX13_init_817 : decode cX13_init 817 = .ok (.aload_n 0, 1) := by decide +kernel
theorem dX13_init_818 : decode cX13_init 818 = .ok (.bipush 32, 2) := by decide +kernel
theorem dX13_init_820 : decode cX13_init 820 = .ok (.newarray .boolean, 2) := by decide +kernel
theorem dX13_init_822 : decode cX13_init 822 = .ok (.putfield 305, 3) := by decide +kernel
theorem dX13_init_825 : decode cX13_init 825 = .ok (.aload_n 0, 1) := by decide +kernel
theorem dX13_init_826 : decode cX13_init 826 = .ok (.sipush 128, 3) := by decide +kernel
theorem dX13_init_829 : decode cX13_init 829 = .ok (.newarray .boolean, 2) := by decide +kernel
theorem dX13_init_831 : decode cX13_init 831 = .ok (.putfield 308, 3) := by decide +kernel
theorem dX13_init_834 : decode cX13_init 834 = .ok (.aload_n 0, 1) := by decide +kernel
theorem dX13_init_835 : decode cX13_init 835 = .ok (.sipush 128, 3) := by decide +kernel
theorem dX13_init_838 : decode cX13_init 838 = .ok (.newarray .int, 2) := by decide +kernel
theorem dX13_init_840 : decode cX13_init 840 = .ok (.putfield 311, 3) := by decide +kernel
theorem dX13_init_843 : decode cX13_init 843 = .ok (.aload_n 0, 1) := by decide +kernel
theorem dX13_init_844 : decode cX13_init 844 = .ok (.ldc 54, 2) := by decide +kernel
theorem dX13_init_846 : decode cX13_init 846 = .ok (.newarray .byte, 2) := by decide +kernel
theorem dX13_init_848 : decode cX13_init 848 = .ok (.putfield 314, 3) := by decide +kernel
theorem dX13_init_851 : decode cX13_init 851 = .ok (.aload_n 0, 1) := by decide +kernel
theorem dX13_init_852 : decode cX13_init 852 = .ok (.sipush 1025, 3) := by decide +kernel
theorem dX13_init_855 : decode cX13_init 855 = .ok (.newarray .int, 2) := by decide +kernel
theorem dX13_init_857 : decode cX13_init 857 = .ok (.putfield 317, 3) := by decide +kernel
theorem dX13_init_860 : decode cX13_init 860 = .ok (.aload_n 0, 1) := by decide +kernel
theorem dX13_init_861 : decode cX13_init 861 = .ok (.sipush 1025, 3) := by decide +kernel
theorem dX13_init_864 : decode cX13_init 864 = .ok (.newarray .int, 2) := by decide +kernel
theorem dX13_init_866 : decode cX13_init 866 = .ok (.putfield 320, 3) := by decide +kernel
theorem dX13_init_869 : decode cX13_init 869 = .ok (.aload_n 0, 1) := by decide +kernel
theorem dX13_init_870 : decode cX13_init 870 = .ok (.sipush 1025, 3) := by decide +kernel
theorem dX13_init_873 : decode cX13_init 873 = .ok (.newarray .int, 2) := by decide +kernel
theorem dX13_init_875 : decode cX13_init 875 = .ok (.putfield 323, 3) := by decide +kernel
theorem dX13_init_878 : decode cX13_init 878 = .ok (.aload_n 0, 1) := by decide +kernel
theorem dX13_init_879 : decode cX13_init 879 = .ok (.ldc_w 301, 3) := by decide +kernel
theorem dX13_init_882 : decode cX13_init 882 = .ok (.newarray .byte, 2) := by decide +kernel
theorem dX13_init_884 : decode cX13_init 884 = .ok (.putfield 326, 3) := by decide +kernel
theorem dX13_init_887 : decode cX13_init 887 = .ok (.aload_n 0, 1) := by decide +kernel
theorem dX13_init_888 : decode cX13_init 888 = .ok (.ldc 9, 2) := by decide +kernel
theorem dX13_init_890 : decode cX13_init 890 = .ok (.newarray .byte, 2) := by decide +kernel
theorem dX13_init_892 : decode cX13_init 892 = .ok (.putfield 329, 3) := by decide +kernel
theorem dX13_init_895 : decode cX13_init 895 = .ok (.aload_n 0, 1) := by decide +kernel
theorem dX13_init_896 : decode cX13_init 896 = .ok (.ldc 9, 2) := by decide +kernel
theorem dX13_init_898 : decode cX13_init 898 = .ok (.newarray .byte, 2) := by decide +kernel
theorem dX13_init_900 : decode cX13_init 900 = .ok (.putfield 332, 3) := by decide +kernel
theorem dX13_init_903 : decode cX13_init 903 = .ok (.aload_n 0, 1) := by decide +kernel
theorem dX13_init_904 : decode cX13_init 904 = .ok (.ldc 9, 2) := by decide +kernel
theorem dX13_init_906 : decode cX13_init 906 = .ok (.newarray .byte, 2) := by decide +kernel
theorem dX13_init_908 : decode cX13_init 908 = .ok (.putfield 335, 3) := by decide +kernel
theorem dX13_init_911 : decode cX13_init 911 = .ok (.aload_n 0, 1) := by decide +kernel
theorem dX13_init_912 : decode cX13_init 912 = .ok (.ldc 9, 2) := by decide +kernel
theorem dX13_init_914 : decode cX13_init 914 = .ok (.newarray .byte, 2) := by decide +kernel
theorem dX13_init_916 : decode cX13_init 916 = .ok (.putfield 338, 3) := by decide +kernel
theorem dX13_init_919 : decode cX13_init 919 = .ok (.aload_n 0, 1) := by decide +kernel
theorem dX13_init_920 : decode cX13_init 920 = .ok (.bipush 16, 2) := by decide +kernel
theorem dX13_init_922 : decode cX13_init 922 = .ok (.newarray .long, 2) := by decide +kernel
theorem dX13_init_924 : decode cX13_init 924 = .ok (.putfield 341, 3) := by decide +kernel
theorem dX13_init_927 : decode cX13_init 927 = .ok (.aload_n 0, 1) := by decide +kernel
theorem dX13_init_928 : decode cX13_init 928 = .ok (.bipush 16, 2) := by decide +kernel
theorem dX13_init_930 : decode cX13_init 930 = .ok (.newarray .long, 2) := by decide +kernel
theorem dX13_init_932 : decode cX13_init 932 = .ok (.putfield 344, 3) := by decide +kernel
theorem dX13_init_935 : decode cX13_init 935 = .ok (.aload_n 0, 1) := by decide +kernel
theorem dX13_init_936 : decode cX13_init 936 = .ok (.bipush 16, 2) := by decide +kernel
theorem dX13_init_938 : decode cX13_init 938 = .ok (.newarray .long, 2) := by decide +kernel
theorem dX13_init_940 : decode cX13_init 940 = .ok (.putfield 347, 3) := by decide +kernel
theorem dX13_init_943 : decode cX13_init 943 = .ok (.aload_n 0, 1) := by decide +kernel
theorem dX13_init_944 : decode cX13_init 944 = .ok (.ldc_w 350, 3) := by decide +kernel
theorem dX13_init_947 : decode cX13_init 947 = .ok (.iconst 0, 1) := by decide +kernel
theorem dX13_init_948 : decode cX13_init 948 = .ok (.invokevirtual 352, 3) := by decide +kernel
theorem dX13_init_951 : decode cX13_init 951 = .ok (.aload_n 0, 1) := by decide +kernel
theorem dX13_init_952 : decode cX13_init 952 = .ok (.ldc_w 356, 3) := by decide +kernel
theorem dX13_init_955 : decode cX13_init 955 = .ok (.bipush 24, 2) := by decide +kernel
theorem dX13_init_957 : decode cX13_init 957 = .ok (.invokevirtual 352, 3) := by decide +kernel
theorem dX13_init_960 : decode cX13_init 960 = .ok (.aload_n 0, 1) := by decide +kernel
theorem dX13_init_961 : decode cX13_init 961 = .ok (.ldc_w 358, 3) := by decide +kernel
theorem dX13_init_964 : decode cX13_init 964 = .ok (.bipush 34, 2) := by decide +kernel
theorem dX13_init_966 : decode cX13_init 966 = .ok (.invokevirtual 360, 3) := by decide +kernel
theorem dX13_init_969 : decode cX13_init 969 = .ok (.aload_n 0, 1) := by decide +kernel
theorem dX13_init_970 : decode cX13_init 970 = .ok (.ldc_w 363, 3) := by decide +kernel
theorem dX13_init_973 : decode cX13_init 973 = .ok (.bipush 35, 2) := by decide +kernel
theorem dX13_init_975 : decode cX13_init 975 = .ok (.invokevirtual 360, 3) := by decide +kernel
theorem dX13_init_978 : decode cX13_init 978 = .ok (.aload_n 0, 1) := by decide +kernel
theorem dX13_init_979 : decode cX13_init 979 = .ok (.ldc_w 365, 3) := by decide +kernel
theorem dX13_init_982 : decode cX13_init 982 = .ok (.bipush 36, 2) := by decide +kernel
theorem dX13_init_984 : decode cX13_init 984 = .ok (.invokevirtual 360, 3) := by decide +kernel
theorem dX13_init_987 : decode cX13_init 987 = .ok (.aload_n 0, 1) := by decide +kernel
theorem dX13_init_988 : decode cX13_init 988 = .ok (.ldc_w 367, 3) := by decide +kernel
theorem dX13_init_991 : decode cX13_init 991 = .ok (.ldc_w 369, 3) := by decide +kernel
theorem dX13_init_994 : decode cX13_init 994 = .ok (.invokevirtual 370, 3) := by decide +kernel
theorem dX13_init_997 : decode cX13_init 997 = .ok (.aload_n 0, 1) := by decide +kernel
theorem dX13_init_998 : decode cX13_init 998 = .ok (.ldc_w 373, 3) := by decide +kernel
theorem dX13_init_1001 : decode cX13_init 1001 = .ok (.ldc_w 375, 3) := by decide +kernel
theorem dX13_init_1004 : decode cX13_init 1004 = .ok (.invokevirtual 370, 3) := by decide +kernel
theorem dX13_init_1007 : decode cX13_init 1007 = .ok (.aload_n 0, 1) := by decide +kernel
theorem dX13_init_1008 : decode cX13_init 1008 = .ok (.ldc_w 376, 3) := by decide +kernel
theorem dX13_init_1011 : decode cX13_init 1011 = .ok (.ldc_w 378, 3) := by decide +kernel
theorem dX13_init_1014 : decode cX13_init 1014 = .ok (.invokevirtual 370, 3) := by decide +kernel
theorem dX13_init_1017 : decode cX13_init 1017 = .ok (.aload_n 0, 1) := by decide +kernel
theorem dX13_init_1018 : decode cX13_init 1018 = .ok (.ldc_w 379, 3) := by decide +kernel
theorem dX13_init_1021 : decode cX13_init 1021 = .ok (.ldc_w 381, 3) := by decide +kernel
theorem dX13_init_1024 : decode cX13_init 1024 = .ok (.invokevirtual 370, 3) := by decide +kernel
theorem dX13_init_1027 : decode cX13_init 1027 = .ok (.aload_n 0, 1) := by decide +kernel
theorem dX13_init_1028 : decode cX13_init 1028 = .ok (.ldc_w 382, 3) := by decide +kernel
theorem dX13_init_1031 : decode cX13_init 1031 = .ok (.bipush 39, 2) := by decide +kernel
theorem dX13_init_1033 : decode cX13_init 1033 = .ok (.invokevirtual 352, 3) := by decide +kernel
theorem dX13_init_1036 : decode cX13_init 1036 = .ok (.aload_n 0, 1) := by decide +kernel
theorem dX13_init_1037 : decode cX13_init 1037 = .ok (.ldc_w 384, 3) := by decide +kernel
theorem dX13_init_1040 : decode cX13_init 1040 = .ok (.ldc_w 386, 3) := by decide +kernel
theorem dX13_init_1043 : decode cX13_init 1043 = .ok (.invokevirtual 370, 3) := by decide +kernel
theorem dX13_init_1046 : decode cX13_init 1046 = .ok (.aload_n 0, 1) := by decide +kernel
theorem dX13_init_1047 : decode cX13_init 1047 = .ok (.ldc_w 387, 3) := by decide +kernel
theorem dX13_init_1050 : decode cX13_init 1050 = .ok (.ldc_w 389, 3) := by decide +kernel
theorem dX13_init_1053 : decode cX13_init 1053 = .ok (.invokevirtual 370, 3) := by decide +kernel
theorem dX13_init_1056 : decode cX13_init 1056 = .ok (.aload_n 0, 1) := by decide +kernel
theorem dX13_init_1057 : decode cX13_init 1057 = .ok (.ldc_w 390, 3) := by decide +kernel
theorem dX13_init_1060 : decode cX13_init 1060 = .ok (.ldc_w 392, 3) := by decide +kernel
theorem dX13_init_1063 : decode cX13_init 1063 = .ok (.invokevirtual 370, 3) := by decide +kernel
theorem dX13_init_1066 : decode cX13_init 1066 = .ok (.aload_n 0, 1) := by decide +kernel
theorem dX13_init_1067 : decode cX13_init 1067 = .ok (.ldc_w 393, 3) := by decide +kernel
theorem dX13_init_1070 : decode cX13_init 1070 = .ok (.ldc_w 395, 3) := by decide +kernel
theorem dX13_init_1073 : decode cX13_init 1073 = .ok (.invokevirtual 370, 3) := by decide +kernel
theorem dX13_init_1076 : decode cX13_init 1076 = .ok (.aload_n 0, 1) := by decide +kernel
theorem dX13_init_1077 : decode cX13_init 1077 = .ok (.ldc_w 396, 3) := by decide +kernel
theorem dX13_init_1080 : decode cX13_init 1080 = .ok (.ldc_w 398, 3) := by decide +kernel
theorem dX13_init_1083 : decode cX13_init 1083 = .ok (.invokevirtual 370, 3) := by decide +kernel
theorem dX13_init_1086 : decode cX13_init 1086 = .ok (.aload_n 0, 1) := by decide +kernel
theorem dX13_init_1087 : decode cX13_init 1087 = .ok (.ldc_w 399, 3) := by decide +kernel
theorem dX13_init_1090 : decode cX13_init 1090 = .ok (.ldc_w 401, 3) := by decide +kernel
theorem dX13_init_1093 : decode cX13_init 1093 = .ok (.invokevirtual 370, 3) := by decide +kernel
theorem dX13_init_1096 : decode cX13_init 1096 = .ok (.aload_n 0, 1) := by decide +kernel
theorem dX13_init_1097 : decode cX13_init 1097 = .ok (.ldc_w 402, 3) := by decide +kernel
theorem dX13_init_1100 : decode cX13_init 1100 = .ok (.bipush 100, 2) := by decide +kernel
theorem dX13_init_1102 : decode cX13_init 1102 = .ok (.invokevirtual 352, 3) := by decide +kernel
theorem dX13_init_1105 : decode cX13_init 1105 = .ok (.iconst 0, 1) := by decide +kernel
theorem dX13_init_1106 : decode cX13_init 1106 = .ok (.istore_n 1, 1) := by decide +kernel
theorem dX13_init_1107 : decode cX13_init 1107 = .ok (.iload_n 1, 1) := by decide +kernel
theorem dX13_init_1108 : decode cX13_init 1108 = .ok (.iconst 5, 1) := by decide +kernel
theorem dX13_init_1109 : decode cX13_init 1109 = .ok (.if_icmp .ge 61, 3) := by decide +kernel
theorem dX13_init_1112 : decode cX13_init 1112 = .ok (.aload_n 0, 1) := by decide +kernel
theorem dX13_init_1113 : decode cX13_init 1113 = .ok (.iload_n 1, 1) := by decide +kernel
theorem dX13_init_1114 : decode cX13_init 1114 = .ok (.ifCond .ne 9, 3) := by decide +kernel
theorem dX13_init_1117 : decode cX13_init 1117 = .ok (.ldc_w 404, 3) := by decide +kernel
theorem dX13_init_1120 : decode cX13_init 1120 = .ok (.goto 39, 3) := by decide +kernel
theorem dX13_init_1123 : decode cX13_init 1123 = .ok (.iload_n 1, 1) := by decide +kernel
theorem dX13_init_1124 : decode cX13_init 1124 = .ok (.iconst 1, 1) := by decide +kernel
theorem dX13_init_1125 : decode cX13_init 1125 = .ok (.if_icmp .ne 9, 3) := by decide +kernel
theorem dX13_init_1128 : decode cX13_init 1128 = .ok (.ldc_w 406, 3) := by decide +kernel
theorem dX13_init_1131 : decode cX13_init 1131 = .ok (.goto 28, 3) := by decide +kernel
theorem dX13_init_1134 : decode cX13_init 1134 = .ok (.iload_n 1, 1) := by decide +kernel
theorem dX13_init_1135 : decode cX13_init 1135 = .ok (.iconst 2, 1) := by decide +kernel
theorem dX13_init_1136 : decode cX13_init 1136 = .ok (.if_icmp .ne 9, 3) := by decide +kernel
theorem dX13_init_1139 : decode cX13_init 1139 = .ok (.ldc_w 408, 3) := by decide +kernel
theorem dX13_init_1142 : decode cX13_init 1142 = .ok (.goto 17, 3) := by decide +kernel
theorem dX13_init_1145 : decode cX13_init 1145 = .ok (.iload_n 1, 1) := by decide +kernel
theorem dX13_init_1146 : decode cX13_init 1146 = .ok (.iconst 3, 1) := by decide +kernel
theorem dX13_init_1147 : decode cX13_init 1147 = .ok (.if_icmp .ne 9, 3) := by decide +kernel
theorem dX13_init_1150 : decode cX13_init 1150 = .ok (.ldc_w 410, 3) := by decide +kernel
theorem dX13_init_1153 : decode cX13_init 1153 = .ok (.goto 6, 3) := by decide +kernel
theorem dX13_init_1156 : decode cX13_init 1156 = .ok (.ldc_w 412, 3) := by decide +kernel
theorem dX13_init_1159 : decode cX13_init 1159 = .ok (.bipush 120, 2) := by decide +kernel
theorem dX13_init_1161 : decode cX13_init 1161 = .ok (.invokevirtual 370, 3) := by decide +kernel
theorem dX13_init_1164 : decode cX13_init 1164 = .ok (.iinc 1 1, 3) := by decide +kernel
theorem dX13_init_1167 : decode cX13_init 1167 = .ok (.goto (-60), 3) := by decide +kernel
theorem dX13_init_1170 : decode cX13_init 1170 = .ok (.aload_n 0, 1) := by decide +kernel
theorem dX13_init_1171 : decode cX13_init 1171 = .ok (.invokevirtual 414, 3) := by decide +kernel
theorem dX13_init_1174 : decode cX13_init 1174 = .ok (.aload_n 0, 1) := by decide +kernel
theorem dX13_init_1175 : decode cX13_init 1175 = .ok (.ldc_w 417, 3) := by decide +kernel
theorem dX13_init_1178 : decode cX13_init 1178 = .ok (.invokestatic 419, 3) := by decide +kernel
theorem dX13_init_1181 : decode cX13_init 1181 = .ok (.putfield 423, 3) := by decide +kernel
theorem dX13_init_1184 : decode cX13_init 1184 = .ok (.aload_n 0, 1) := by decide +kernel
theorem dX13_init_1185 : decode cX13_init 1185 = .ok (.ldc_w 427, 3) := by decide +kernel
theorem dX13_init_1188 : decode cX13_init 1188 = .ok (.invokestatic 419, 3) := by decide +kernel
theorem dX13_init_1191 : decode cX13_init 1191 = .ok (.putfield 429, 3) := by decide +kernel
theorem dX13_init_1194 : decode cX13_init 1194 = .ok (.aload_n 0, 1) := by decide +kernel
theorem dX13_init_1195 : decode cX13_init 1195 = .ok (.ldc_w 432, 3) := by decide +kernel
theorem dX13_init_1198 : decode cX13_init 1198 = .ok (.invokestatic 419, 3) := by decide +kernel
theorem dX13_init_1201 : decode cX13_init 1201 = .ok (.putfield 433, 3) := by decide +kernel
theorem dX13_init_1204 : decode cX13_init 1204 = .ok (.aload_n 0, 1) := by decide +kernel
theorem dX13_init_1205 : decode cX13_init 1205 = .ok (.ldc_w 436, 3) := by decide +kernel
theorem dX13_init_1208 : decode cX13_init 1208 = .ok (.invokestatic 419, 3) := by decide +kernel
theorem dX13_init_1211 : decode cX13_init 1211 = .ok (.putfield 438, 3) := by decide +kernel
theorem dX13_init_1214 : decode cX13_init 1214 = .ok (.aload_n 0, 1) := by decide +kernel
theorem dX13_init_1215 : decode cX13_init 1215 = .ok (.ldc_w 404, 3) := by decide +kernel
theorem dX13_init_1218 : decode cX13_init 1218 = .ok (.invokestatic 419, 3) := by decide +kernel
theorem dX13_init_1221 : decode cX13_init 1221 = .ok (.putfield 441, 3) := by decide +kernel
theorem dX13_init_1224 : decode cX13_init 1224 = .ok (.aload_n 0, 1) := by decide +kernel
theorem dX13_init_1225 : decode cX13_init 1225 = .ok (.ldc_w 406, 3) := by decide +kernel
theorem dX13_init_1228 : decode cX13_init 1228 = .ok (.invokestatic 419, 3) := by decide +kernel
theorem dX13_init_1231 : decode cX13_init 1231 = .ok (.putfield 444, 3) := by decide +kernel
theorem dX13_init_1234 : decode cX13_init 1234 = .ok (.aload_n 0, 1) := by decide +kernel
theorem dX13_init_1235 : decode cX13_init 1235 = .ok (.ldc_w 408, 3) := by decide +kernel
theorem dX13_init_1238 : decode cX13_init 1238 = .ok (.invokestatic 419, 3) := by decide +kernel
theorem dX13_init_1241 : decode cX13_init 1241 = .ok (.putfield 447, 3) := by decide +kernel
theorem dX13_init_1244 : decode cX13_init 1244 = .ok (.aload_n 0, 1) := by decide +kernel
theorem dX13_init_1245 : decode cX13_init 1245 = .ok (.ldc_w 410, 3) := by decide +kernel
theorem dX13_init_1248 : decode cX13_init 1248 = .ok (.invokestatic 419, 3) := by decide +kernel
theorem dX13_init_1251 : decode cX13_init 1251 = .ok (.putfield 450, 3) := by decide +kernel
theorem dX13_init_1254 : decode cX13_init 1254 = .ok (.aload_n 0, 1) := by decide +kernel
theorem dX13_init_1255 : decode cX13_init 1255 = .ok (.ldc_w 412, 3) := by decide +kernel
theorem dX13_init_1258 : decode cX13_init 1258 = .ok (.invokestatic 419, 3) := by decide +kernel
theorem dX13_init_1261 : decode cX13_init 1261 = .ok (.putfield 453, 3) := by decide +kernel
theorem dX13_init_1264 : decode cX13_init 1264 = .ok (.aload_n 0, 1) := by decide +kernel
theorem dX13_init_1265 : decode cX13_init 1265 = .ok (.ldc_w 456, 3) := by decide +kernel
theorem dX13_init_1268 : decode cX13_init 1268 = .ok (.invokestatic 419, 3) := by decide +kernel
theorem dX13_init_1271 : decode cX13_init 1271 = .ok (.putfield 458, 3) := by decide +kernel
theorem dX13_init_1274 : decode cX13_init 1274 = .ok (.aload_n 0, 1) := by decide +kernel
theorem dX13_init_1275 : decode cX13_init 1275 = .ok (.ldc_w 461, 3) := by decide +kernel
theorem dX13_init_1278 : decode cX13_init 1278 = .ok (.invokestatic 419, 3) := by decide +kernel
theorem dX13_init_1281 : decode cX13_init 1281 = .ok (.putfield 463, 3) := by decide +kernel
theorem dX13_init_1284 : decode cX13_init 1284 = .ok (.aload_n 0, 1) := by decide +kernel
theorem dX13_init_1285 : decode cX13_init 1285 = .ok (.invokevirtual 466, 3) := by decide +kernel
theorem dX13_init_1288 : decode cX13_init 1288 = .ok (.return_, 1) := by decide +kernel
theorem dX13_pack_0 : decode cX13_pack 0 = .ok (.lconst 0, 1) := by decide +kernel
theorem dX13_pack_1 : decode cX13_pack 1 = .ok (.lstore_n 1, 1) := by decide +kernel
theorem dX13_pack_2 : decode cX13_pack 2 = .ok (.iconst 0, 1) := by decide +kernel
theorem dX13_pack_3 : decode cX13_pack 3 = .ok (.istore_n 3, 1) := by decide +kernel
theorem dX13_pack_4 : decode cX13_pack 4 = .ok (.iload_n 3, 1) := by decide +kernel
theorem dX13_pack_5 : decode cX13_pack 5 = .ok (.aload_n 0, 1) := by decide +kernel
theorem dX13_pack_6 : decode cX13_pack 6 = .ok (.invokevirtual 469, 3) := by decide +kernel
theorem dX13_pack_9 : decode cX13_pack 9 = .ok (.if_icmp .ge 21, 3) := by decide +kernel
theorem dX13_pack_12 : decode cX13_pack 12 = .ok (.lload_n 1, 1) := by decide +kernel
theorem dX13_pack_13 : decode cX13_pack 13 = .ok (.bipush 8, 2) := by decide +kernel
theorem dX13_pack_15 : decode cX13_pack 15 = .ok (.lshl, 1) := by decide +kernel
theorem dX13_pack_16 : decode cX13_pack 16 = .ok (.aload_n 0, 1) := by decide +kernel
theorem dX13_pack_17 : decode cX13_pack 17 = .ok (.iload_n 3, 1) := by decide +kernel
theorem dX13_pack_18 : decode cX13_pack 18 = .ok (.invokevirtual 475, 3) := by decide +kernel
theorem dX13_pack_21 : decode cX13_pack 21 = .ok (.i2l, 1) := by decide +kernel
theorem dX13_pack_22 : decode cX13_pack 22 = .ok (.lor, 1) := by decide +kernel
theorem dX13_pack_23 : decode cX13_pack 23 = .ok (.lstore_n 1, 1) := by decide +kernel
theorem dX13_pack_24 : decode cX13_pack 24 = .ok (.iinc 3 1, 3) := by decide +kernel
theorem dX13_pack_27 : decode cX13_pack 27 = .ok (.goto (-23), 3) := by decide +kernel
theorem dX13_pack_30 : decode cX13_pack 30 = .ok (.lload_n 1, 1) := by decide +kernel
theorem dX13_pack_31 : decode cX13_pack 31 = .ok (.lreturn, 1) := by decide +kernel
theorem dX13_wordsOf_0 : decode cX13_wordsOf 0 = .ok (.iload_n 2, 1) := by decide +kernel
theorem dX13_wordsOf_1 : decode cX13_wordsOf 1 = .ok (.istore_n 3, 1) := by decide +kernel
theorem dX13_wordsOf_2 : decode cX13_wordsOf 2 = .ok (.iconst 0, 1) := by decide +kernel
theorem dX13_wordsOf_3 : decode cX13_wordsOf 3 = .ok (.istore 4, 2) := by decide +kernel
theorem dX13_wordsOf_5 : decode cX13_wordsOf 5 = .ok (.iconst 0, 1) := by decide +kernel
theorem dX13_wordsOf_6 : decode cX13_wordsOf 6 = .ok (.istore 5, 2) := by decide +kernel
theorem dX13_wordsOf_8 : decode cX13_wordsOf 8 = .ok (.iload 5, 2) := by decide +kernel
theorem dX13_wordsOf_10 : decode cX13_wordsOf 10 = .ok (.aload_n 1, 1) := by decide +kernel
theorem dX13_wordsOf_11 : decode cX13_wordsOf 11 = .ok (.invokevirtual 469, 3) := by decide +kernel
theorem dX13_wordsOf_14 : decode cX13_wordsOf 14 = .ok (.if_icmp .gt 54, 3) := by decide +kernel
theorem dX13_wordsOf_17 : decode cX13_wordsOf 17 = .ok (.iload 5, 2) := by decide +kernel
theorem dX13_wordsOf_19 : decode cX13_wordsOf 19 = .ok (.aload_n 1, 1) := by decide +kernel
theorem dX13_wordsOf_20 : decode cX13_wordsOf 20 = .ok (.invokevirtual 469, 3) := by decide +kernel
theorem dX13_wordsOf_23 : decode cX13_wordsOf 23 = .ok (.if_icmp .ge 17, 3) := by decide +kernel
theorem dX13_wordsOf_26 : decode cX13_wordsOf 26 = .ok (.aload_n 1, 1) := by decide +kernel
theorem dX13_wordsOf_27 : decode cX13_wordsOf 27 = .ok (.iload 5, 2) := by decide +kernel
theorem dX13_wordsOf_29 : decode cX13_wordsOf 29 = .ok (.invokevirtual 475, 3) := by decide +kernel
theorem dX13_wordsOf_32 : decode cX13_wordsOf 32 = .ok (.bipush 32, 2) := by decide +kernel
theorem dX13_wordsOf_34 : decode cX13_wordsOf 34 = .ok (.if_icmp .eq 6, 3) := by decide +kernel
theorem dX13_wordsOf_37 : decode cX13_wordsOf 37 = .ok (.goto 25, 3) := by decide +kernel
theorem dX13_wordsOf_40 : decode cX13_wordsOf 40 = .ok (.aload_n 0, 1) := by decide +kernel
theorem dX13_wordsOf_41 : decode cX13_wordsOf 41 = .ok (.aload_n 1, 1) := by decide +kernel
theorem dX13_wordsOf_42 : decode cX13_wordsOf 42 = .ok (.iload 4, 2) := by decide +kernel
theorem dX13_wordsOf_44 : decode cX13_wordsOf 44 = .ok (.iload 5, 2) := by decide +kernel
theorem dX13_wordsOf_46 : decode cX13_wordsOf 46 = .ok (.invokevirtual 479, 3) := by decide +kernel
theorem dX13_wordsOf_49 : decode cX13_wordsOf 49 = .ok (.iload_n 3, 1) := by decide +kernel
theorem dX13_wordsOf_50 : decode cX13_wordsOf 50 = .ok (.invokevirtual 370, 3) := by decide +kernel
theorem dX13_wordsOf_53 : decode cX13_wordsOf 53 = .ok (.iinc 3 1, 3) := by decide +kernel
theorem dX13_wordsOf_56 : decode cX13_wordsOf 56 = .ok (.iload 5, 2) := by decide +kernel
theorem dX13_wordsOf_58 : decode cX13_wordsOf 58 = .ok (.iconst 1, 1) := by decide +kernel
theorem dX13_wordsOf_59 : decode cX13_wordsOf 59 = .ok (.iadd, 1) := by decide +kernel
theorem dX13_wordsOf_60 : decode cX13_wordsOf 60 = .ok (.istore 4, 2) := by decide +kernel
theorem dX13_wordsOf_62 : decode cX13_wordsOf 62 = .ok (.iinc 5 1, 3) := by decide +kernel
theorem dX13_wordsOf_65 : decode cX13_wordsOf 65 = .ok (.goto (-57), 3) := by decide +kernel
theorem dX13_wordsOf_68 : decode cX13_wordsOf 68 = .ok (.return_, 1) := by decide +kernel
theorem dX13_word_0 : decode cX13_word 0 = .ok (.aload_n 0, 1) := by decide +kernel
theorem dX13_word_1 : decode cX13_word 1 = .ok (.getfield 14, 3) := by decide +kernel
theorem dX13_word_4 : decode cX13_word 4 = .ok (.aload_n 0, 1) := by decide +kernel
theorem dX13_word_5 : decode cX13_word 5 = .ok (.getfield 483, 3) := by decide +kernel
theorem dX13_word_8 : decode cX13_word 8 = .ok (.aload_n 1, 1) := by decide +kernel
theorem dX13_word_9 : decode cX13_word 9 = .ok (.invokestatic 419, 3) := by decide +kernel
theorem dX13_word_12 : decode cX13_word 12 = .ok (.lastore, 1) := by decide +kernel
theorem dX13_word_13 : decode cX13_word 13 = .ok (.aload_n 0, 1) := by decide +kernel
theorem dX13_word_14 : decode cX13_word 14 = .ok (.getfield 21, 3) := by decide +kernel
theorem dX13_word_17 : decode cX13_word 17 = .ok (.aload_n 0, 1) := by decide +kernel
theorem dX13_word_18 : decode cX13_word 18 = .ok (.getfield 483, 3) := by decide +kernel
theorem dX13_word_21 : decode cX13_word 21 = .ok (.iload_n 2, 1) := by decide +kernel
theorem dX13_word_22 : decode cX13_word 22 = .ok (.iastore, 1) := by decide +kernel
theorem dX13_word_23 : decode cX13_word 23 = .ok (.aload_n 0, 1) := by decide +kernel
theorem dX13_word_24 : decode cX13_word 24 = .ok (.dup, 1) := by decide +kernel
theorem dX13_word_25 : decode cX13_word 25 = .ok (.getfield 483, 3) := by decide +kernel
theorem dX13_word_28 : decode cX13_word 28 = .ok (.iconst 1, 1) := by decide +kernel
theorem dX13_word_29 : decode cX13_word 29 = .ok (.iadd, 1) := by decide +kernel
theorem dX13_word_30 : decode cX13_word 30 = .ok (.putfield 483, 3) := by decide +kernel
theorem dX13_word_33 : decode cX13_word 33 = .ok (.return_, 1) := by decide +kernel
theorem dX13_conditions_0 : decode cX13_conditions 0 = .ok (.bipush 20, 2) := by decide +kernel
theorem dX13_conditions_2 : decode cX13_conditions 2 = .ok (.anewarray 470, 3) := by decide +kernel
theorem dX13_conditions_5 : decode cX13_conditions 5 = .ok (.dup, 1) := by decide +kernel
theorem dX13_conditions_6 : decode cX13_conditions 6 = .ok (.iconst 0, 1) := by decide +kernel
theorem dX13_conditions_7 : decode cX13_conditions 7 = .ok (.ldc_w 486, 3) := by decide +kernel
theorem dX13_conditions_10 : decode cX13_conditions 10 = .ok (.aastore, 1) := by decide +kernel
theorem dX13_conditions_11 : decode cX13_conditions 11 = .ok (.dup, 1) := by decide +kernel
theorem dX13_conditions_12 : decode cX13_conditions 12 = .ok (.iconst 1, 1) := by decide +kernel
theorem dX13_conditions_13 : decode cX13_conditions 13 = .ok (.ldc_w 488, 3) := by decide +kernel
theorem dX13_conditions_16 : decode cX13_conditions 16 = .ok (.aastore, 1) := by decide +kernel
theorem dX13_conditions_17 : decode cX13_conditions 17 = .ok (.dup, 1) := by decide +kernel
theorem dX13_conditions_18 : decode cX13_conditions 18 = .ok (.iconst 2, 1) := by decide +kernel
theorem dX13_conditions_19 : decode cX13_conditions 19 = .ok (.ldc_w 490, 3) := by decide +kernel
theorem dX13_conditions_22 : decode cX13_conditions 22 = .ok (.aastore, 1) := by decide +kernel
theorem dX13_conditions_23 : decode cX13_conditions 23 = .ok (.dup, 1) := by decide +kernel
theorem dX13_conditions_24 : decode cX13_conditions 24 = .ok (.iconst 3, 1) := by decide +kernel
theorem dX13_conditions_25 : decode cX13_conditions 25 = .ok (.ldc_w 492, 3) := by decide +kernel
theorem dX13_conditions_28 : decode cX13_conditions 28 = .ok (.aastore, 1) := by decide +kernel
theorem dX13_conditions_29 : decode cX13_conditions 29 = .ok (.dup, 1) := by decide +kernel
theorem dX13_conditions_30 : decode cX13_conditions 30 = .ok (.iconst 4, 1) := by decide +kernel
theorem dX13_conditions_31 : decode cX13_conditions 31 = .ok (.ldc_w 494, 3) := by decide +kernel
theorem dX13_conditions_34 : decode cX13_conditions 34 = .ok (.aastore, 1) := by decide +kernel
theorem dX13_conditions_35 : decode cX13_conditions 35 = .ok (.dup, 1) := by decide +kernel
theorem dX13_conditions_36 : decode cX13_conditions 36 = .ok (.iconst 5, 1) := by decide +kernel
theorem dX13_conditions_37 : decode cX13_conditions 37 = .ok (.ldc_w 496, 3) := by decide +kernel
theorem dX13_conditions_40 : decode cX13_conditions 40 = .ok (.aastore, 1) := by decide +kernel
theorem dX13_conditions_41 : decode cX13_conditions 41 = .ok (.dup, 1) := by decide +kernel
theorem dX13_conditions_42 : decode cX13_conditions 42 = .ok (.bipush 6, 2) := by decide +kernel
theorem dX13_conditions_44 : decode cX13_conditions 44 = .ok (.ldc_w 498, 3) := by decide +kernel
theorem dX13_conditions_47 : decode cX13_conditions 47 = .ok (.aastore, 1) := by decide +kernel
theorem dX13_conditions_48 : decode cX13_conditions 48 = .ok (.dup, 1) := by decide +kernel
theorem dX13_conditions_49 : decode cX13_conditions 49 = .ok (.bipush 7, 2) := by decide +kernel
theorem dX13_conditions_51 : decode cX13_conditions 51 = .ok (.ldc_w 500, 3) := by decide +kernel
theorem dX13_conditions_54 : decode cX13_conditions 54 = .ok (.aastore, 1) := by decide +kernel
theorem dX13_conditions_55 : decode cX13_conditions 55 = .ok (.dup, 1) := by decide +kernel
theorem dX13_conditions_56 : decode cX13_conditions 56 = .ok (.bipush 8, 2) := by decide +kernel
theorem dX13_conditions_58 : decode cX13_conditions 58 = .ok (.ldc_w 502, 3) := by decide +kernel
theorem dX13_conditions_61 : decode cX13_conditions 61 = .ok (.aastore, 1) := by decide +kernel
theorem dX13_conditions_62 : decode cX13_conditions 62 = .ok (.dup, 1) := by decide +kernel
theorem dX13_conditions_63 : decode cX13_conditions 63 = .ok (.bipush 9, 2) := by decide +kernel
theorem dX13_conditions_65 : decode cX13_conditions 65 = .ok (.ldc_w 504, 3) := by decide +kernel
theorem dX13_conditions_68 : decode cX13_conditions 68 = .ok (.aastore, 1) := by decide +kernel
theorem dX13_conditions_69 : decode cX13_conditions 69 = .ok (.dup, 1) := by decide +kernel
theorem dX13_conditions_70 : decode cX13_conditions 70 = .ok (.bipush 10, 2) := by decide +kernel
theorem dX13_conditions_72 : decode cX13_conditions 72 = .ok (.ldc_w 506, 3) := by decide +kernel
theorem dX13_conditions_75 : decode cX13_conditions 75 = .ok (.aastore, 1) := by decide +kernel
theorem dX13_conditions_76 : decode cX13_conditions 76 = .ok (.dup, 1) := by decide +kernel
theorem dX13_conditions_77 : decode cX13_conditions 77 = .ok (.bipush 11, 2) := by decide +kernel
theorem dX13_conditions_79 : decode cX13_conditions 79 = .ok (.ldc_w 508, 3) := by decide +kernel
theorem dX13_conditions_82 : decode cX13_conditions 82 = .ok (.aastore, 1) := by decide +kernel
theorem dX13_conditions_83 : decode cX13_conditions 83 = .ok (.dup, 1) := by decide +kernel
theorem dX13_conditions_84 : decode cX13_conditions 84 = .ok (.bipush 12, 2) := by decide +kernel
theorem dX13_conditions_86 : decode cX13_conditions 86 = .ok (.ldc_w 510, 3) := by decide +kernel
theorem dX13_conditions_89 : decode cX13_conditions 89 = .ok (.aastore, 1) := by decide +kernel
theorem dX13_conditions_90 : decode cX13_conditions 90 = .ok (.dup, 1) := by decide +kernel
theorem dX13_conditions_91 : decode cX13_conditions 91 = .ok (.bipush 13, 2) := by decide +kernel
theorem dX13_conditions_93 : decode cX13_conditions 93 = .ok (.ldc_w 512, 3) := by decide +kernel
theorem dX13_conditions_96 : decode cX13_conditions 96 = .ok (.aastore, 1) := by decide +kernel
theorem dX13_conditions_97 : decode cX13_conditions 97 = .ok (.dup, 1) := by decide +kernel
theorem dX13_conditions_98 : decode cX13_conditions 98 = .ok (.bipush 14, 2) := by decide +kernel
theorem dX13_conditions_100 : decode cX13_conditions 100 = .ok (.ldc_w 514, 3) := by decide +kernel
theorem dX13_conditions_103 : decode cX13_conditions 103 = .ok (.aastore, 1) := by decide +kernel
theorem dX13_conditions_104 : decode cX13_conditions 104 = .ok (.dup, 1) := by decide +kernel
theorem dX13_conditions_105 : decode cX13_conditions 105 = .ok (.bipush 15, 2) := by decide +kernel
theorem dX13_conditions_107 : decode cX13_conditions 107 = .ok (.ldc_w 516, 3) := by decide +kernel
theorem dX13_conditions_110 : decode cX13_conditions 110 = .ok (.aastore, 1) := by decide +kernel
theorem dX13_conditions_111 : decode cX13_conditions 111 = .ok (.dup, 1) := by decide +kernel
theorem dX13_conditions_112 : decode cX13_conditions 112 = .ok (.bipush 16, 2) := by decide +kernel
theorem dX13_conditions_114 : decode cX13_conditions 114 = .ok (.ldc_w 518, 3) := by decide +kernel
theorem dX13_conditions_117 : decode cX13_conditions 117 = .ok (.aastore, 1) := by decide +kernel
theorem dX13_conditions_118 : decode cX13_conditions 118 = .ok (.dup, 1) := by decide +kernel
theorem dX13_conditions_119 : decode cX13_conditions 119 = .ok (.bipush 17, 2) := by decide +kernel
theorem dX13_conditions_121 : decode cX13_conditions 121 = .ok (.ldc_w 520, 3) := by decide +kernel
theorem dX13_conditions_124 : decode cX13_conditions 124 = .ok (.aastore, 1) := by decide +kernel
theorem dX13_conditions_125 : decode cX13_conditions 125 = .ok (.dup, 1) := by decide +kernel
theorem dX13_conditions_126 : decode cX13_conditions 126 = .ok (.bipush 18, 2) := by decide +kernel
theorem dX13_conditions_128 : decode cX13_conditions 128 = .ok (.ldc_w 522, 3) := by decide +kernel
theorem dX13_conditions_131 : decode cX13_conditions 131 = .ok (.aastore, 1) := by decide +kernel
theorem dX13_conditions_132 : decode cX13_conditions 132 = .ok (.dup, 1) := by decide +kernel
theorem dX13_conditions_133 : decode cX13_conditions 133 = .ok (.bipush 19, 2) := by decide +kernel
theorem dX13_conditions_135 : decode cX13_conditions 135 = .ok (.ldc_w 524, 3) := by decide +kernel
theorem dX13_conditions_138 : decode cX13_conditions 138 = .ok (.aastore, 1) := by decide +kernel
theorem dX13_conditions_139 : decode cX13_conditions 139 = .ok (.astore_n 3, 1) := by decide +kernel
theorem dX13_conditions_140 : decode cX13_conditions 140 = .ok (.iconst 0, 1) := by decide +kernel
theorem dX13_conditions_141 : decode cX13_conditions 141 = .ok (.istore 4, 2) := by decide +kernel
theorem dX13_conditions_143 : decode cX13_conditions 143 = .ok (.iload 4, 2) := by decide +kernel
theorem dX13_conditions_145 : decode cX13_conditions 145 = .ok (.bipush 20, 2) := by decide +kernel
theorem dX13_conditions_147 : decode cX13_conditions 147 = .ok (.if_icmp .ge 43, 3) := by decide +kernel
theorem dX13_conditions_150 : decode cX13_conditions 150 = .ok (.aload_n 0, 1) := by decide +kernel
theorem dX13_conditions_151 : decode cX13_conditions 151 = .ok (.aload_n 1, 1) := by decide +kernel
theorem dX13_conditions_152 : decode cX13_conditions 152 = .ok (.aload_n 3, 1) := by decide +kernel
theorem dX13_conditions_153 : decode cX13_conditions 153 = .ok (.iload 4, 2) := by decide +kernel
theorem dX13_conditions_155 : decode cX13_conditions 155 = .ok (.aaload, 1) := by decide +kernel
theorem dX13_conditions_156 : decode cX13_conditions 156 = .ok (.invokestatic 526, 3) := by decide +kernel
theorem dX13_conditions_159 : decode cX13_conditions 159 = .ok (.iload_n 2, 1) := by decide +kernel
theorem dX13_conditions_160 : decode cX13_conditions 160 = .ok (.iload 4, 2) := by decide +kernel
theorem dX13_conditions_162 : decode cX13_conditions 162 = .ok (.bipush 16, 2) := by decide +kernel
theorem dX13_conditions_164 : decode cX13_conditions 164 = .ok (.if_icmp .ge 8, 3) := by decide +kernel
theorem dX13_conditions_167 : decode cX13_conditions 167 = .ok (.iload 4, 2) := by decide +kernel
theorem dX13_conditions_169 : decode cX13_conditions 169 = .ok (.goto 8, 3) := by decide +kernel
theorem dX13_conditions_172 : decode cX13_conditions 172 = .ok (.iload 4, 2) := by decide +kernel
theorem dX13_conditions_174 : decode cX13_conditions 174 = .ok (.bipush 14, 2) := by decide +kernel
theorem dX13_conditions_176 : decode cX13_conditions 176 = .ok (.isub, 1) := by decide +kernel
theorem dX13_conditions_177 : decode cX13_conditions 177 = .ok (.bipush 24, 2) := by decide +kernel
theorem dX13_conditions_179 : decode cX13_conditions 179 = .ok (.ishl, 1) := by decide +kernel
theorem dX13_conditions_180 : decode cX13_conditions 180 = .ok (.ior, 1) := by decide +kernel
theorem dX13_conditions_181 : decode cX13_conditions 181 = .ok (.invokevirtual 370, 3) := by decide +kernel
theorem dX13_conditions_184 : decode cX13_conditions 184 = .ok (.iinc 4 1, 3) := by decide +kernel
theorem dX13_conditions_187 : decode cX13_conditions 187 = .ok (.goto (-44), 3) := by decide +kernel
theorem dX13_conditions_190 : decode cX13_conditions 190 = .ok (.return_, 1) := by decide +kernel
theorem dX13_joined_0 : decode cX13_joined 0 = .ok (.new 530, 3) := by decide +kernel
theorem dX13_joined_3 : decode cX13_joined 3 = .ok (.dup, 1) := by decide +kernel
theorem dX13_joined_4 : decode cX13_joined 4 = .ok (.invokespecial 532, 3) := by decide +kernel
theorem dX13_joined_7 : decode cX13_joined 7 = .ok (.aload_n 0, 1) := by decide +kernel
theorem dX13_joined_8 : decode cX13_joined 8 = .ok (.invokevirtual 533, 3) := by decide +kernel
theorem dX13_joined_11 : decode cX13_joined 11 = .ok (.aload_n 1, 1) := by decide +kernel
theorem dX13_joined_12 : decode cX13_joined 12 = .ok (.invokevirtual 533, 3) := by decide +kernel
theorem dX13_joined_15 : decode cX13_joined 15 = .ok (.invokevirtual 537, 3) := by decide +kernel
theorem dX13_joined_18 : decode cX13_joined 18 = .ok (.areturn, 1) := by decide +kernel
theorem dX13_numbered_0 : decode cX13_numbered 0 = .ok (.new 530, 3) := by decide +kernel
theorem dX13_numbered_3 : decode cX13_numbered 3 = .ok (.dup, 1) := by decide +kernel
theorem dX13_numbered_4 : decode cX13_numbered 4 = .ok (.invokespecial 532, 3) := by decide +kernel
theorem dX13_numbered_7 : decode cX13_numbered 7 = .ok (.ldc_w 541, 3) := by decide +kernel
theorem dX13_numbered_10 : decode cX13_numbered 10 = .ok (.invokevirtual 533, 3) := by decide +kernel
theorem dX13_numbered_13 : decode cX13_numbered 13 = .ok (.iload_n 0, 1) := by decide +kernel
theorem dX13_numbered_14 : decode cX13_numbered 14 = .ok (.invokevirtual 543, 3) := by decide +kernel
theorem dX13_numbered_17 : decode cX13_numbered 17 = .ok (.aload_n 1, 1) := by decide +kernel
theorem dX13_numbered_18 : decode cX13_numbered 18 = .ok (.invokevirtual 533, 3) := by decide +kernel
theorem dX13_numbered_21 : decode cX13_numbered 21 = .ok (.invokevirtual 537, 3) := by decide +kernel
theorem dX13_numbered_24 : decode cX13_numbered 24 = .ok (.areturn, 1) := by decide +kernel
theorem dX13_registerNames_0 : decode cX13_registerNames 0 = .ok (.bipush 8, 2) := by decide +kernel
theorem dX13_registerNames_2 : decode cX13_registerNames 2 = .ok (.anewarray 470, 3) := by decide +kernel
theorem dX13_registerNames_5 : decode cX13_registerNames 5 = .ok (.dup, 1) := by decide +kernel
theorem dX13_registerNames_6 : decode cX13_registerNames 6 = .ok (.iconst 0, 1) := by decide +kernel
theorem dX13_registerNames_7 : decode cX13_registerNames 7 = .ok (.ldc_w 546, 3) := by decide +kernel
theorem dX13_registerNames_10 : decode cX13_registerNames 10 = .ok (.aastore, 1) := by decide +kernel
theorem dX13_registerNames_11 : decode cX13_registerNames 11 = .ok (.dup, 1) := by decide +kernel
theorem dX13_registerNames_12 : decode cX13_registerNames 12 = .ok (.iconst 1, 1) := by decide +kernel
theorem dX13_registerNames_13 : decode cX13_registerNames 13 = .ok (.ldc_w 548, 3) := by decide +kernel
theorem dX13_registerNames_16 : decode cX13_registerNames 16 = .ok (.aastore, 1) := by decide +kernel
theorem dX13_registerNames_17 : decode cX13_registerNames 17 = .ok (.dup, 1) := by decide +kernel
theorem dX13_registerNames_18 : decode cX13_registerNames 18 = .ok (.iconst 2, 1) := by decide +kernel
theorem dX13_registerNames_19 : decode cX13_registerNames 19 = .ok (.ldc_w 550, 3) := by decide +kernel
theorem dX13_registerNames_22 : decode cX13_registerNames 22 = .ok (.aastore, 1) := by decide +kernel
theorem dX13_registerNames_23 : decode cX13_registerNames 23 = .ok (.dup, 1) := by decide +kernel
theorem dX13_registerNames_24 : decode cX13_registerNames 24 = .ok (.iconst 3, 1) := by decide +kernel
theorem dX13_registerNames_25 : decode cX13_registerNames 25 = .ok (.ldc_w 552, 3) := by decide +kernel
theorem dX13_registerNames_28 : decode cX13_registerNames 28 = .ok (.aastore, 1) := by decide +kernel
theorem dX13_registerNames_29 : decode cX13_registerNames 29 = .ok (.dup, 1) := by decide +kernel
theorem dX13_registerNames_30 : decode cX13_registerNames 30 = .ok (.iconst 4, 1) := by decide +kernel
theorem dX13_registerNames_31 : decode cX13_registerNames 31 = .ok (.ldc_w 554, 3) := by decide +kernel
theorem dX13_registerNames_34 : decode cX13_registerNames 34 = .ok (.aastore, 1) := by decide +kernel
theorem dX13_registerNames_35 : decode cX13_registerNames 35 = .ok (.dup, 1) := by decide +kernel
theorem dX13_registerNames_36 : decode cX13_registerNames 36 = .ok (.iconst 5, 1) := by decide +kernel
theorem dX13_registerNames_37 : decode cX13_registerNames 37 = .ok (.ldc_w 556, 3) := by decide +kernel
theorem dX13_registerNames_40 : decode cX13_registerNames 40 = .ok (.aastore, 1) := by decide +kernel
theorem dX13_registerNames_41 : decode cX13_registerNames 41 = .ok (.dup, 1) := by decide +kernel
theorem dX13_registerNames_42 : decode cX13_registerNames 42 = .ok (.bipush 6, 2) := by decide +kernel
theorem dX13_registerNames_44 : decode cX13_registerNames 44 = .ok (.ldc_w 558, 3) := by decide +kernel
theorem dX13_registerNames_47 : decode cX13_registerNames 47 = .ok (.aastore, 1) := by decide +kernel
theorem dX13_registerNames_48 : decode cX13_registerNames 48 = .ok (.dup, 1) := by decide +kernel
theorem dX13_registerNames_49 : decode cX13_registerNames 49 = .ok (.bipush 7, 2) := by decide +kernel
theorem dX13_registerNames_51 : decode cX13_registerNames 51 = .ok (.ldc_w 560, 3) := by decide +kernel
theorem dX13_registerNames_54 : decode cX13_registerNames 54 = .ok (.aastore, 1) := by decide +kernel
theorem dX13_registerNames_55 : decode cX13_registerNames 55 = .ok (.astore_n 1, 1) := by decide +kernel
theorem dX13_registerNames_56 : decode cX13_registerNames 56 = .ok (.bipush 8, 2) := by decide +kernel
theorem dX13_registerNames_58 : decode cX13_registerNames 58 = .ok (.anewarray 470, 3) := by decide +kernel
theorem dX13_registerNames_61 : decode cX13_registerNames 61 = .ok (.dup, 1) := by decide +kernel
theorem dX13_registerNames_62 : decode cX13_registerNames 62 = .ok (.iconst 0, 1) := by decide +kernel
theorem dX13_registerNames_63 : decode cX13_registerNames 63 = .ok (.ldc_w 562, 3) := by decide +kernel
theorem dX13_registerNames_66 : decode cX13_registerNames 66 = .ok (.aastore, 1) := by decide +kernel
theorem dX13_registerNames_67 : decode cX13_registerNames 67 = .ok (.dup, 1) := by decide +kernel
theorem dX13_registerNames_68 : decode cX13_registerNames 68 = .ok (.iconst 1, 1) := by decide +kernel
theorem dX13_registerNames_69 : decode cX13_registerNames 69 = .ok (.ldc_w 564, 3) := by decide +kernel
theorem dX13_registerNames_72 : decode cX13_registerNames 72 = .ok (.aastore, 1) := by decide +kernel
theorem dX13_registerNames_73 : decode cX13_registerNames 73 = .ok (.dup, 1) := by decide +kernel
theorem dX13_registerNames_74 : decode cX13_registerNames 74 = .ok (.iconst 2, 1) := by decide +kernel
theorem dX13_registerNames_75 : decode cX13_registerNames 75 = .ok (.ldc_w 566, 3) := by decide +kernel
theorem dX13_registerNames_78 : decode cX13_registerNames 78 = .ok (.aastore, 1) := by decide +kernel
theorem dX13_registerNames_79 : decode cX13_registerNames 79 = .ok (.dup, 1) := by decide +kernel
theorem dX13_registerNames_80 : decode cX13_registerNames 80 = .ok (.iconst 3, 1) := by decide +kernel
theorem dX13_registerNames_81 : decode cX13_registerNames 81 = .ok (.ldc_w 568, 3) := by decide +kernel
theorem dX13_registerNames_84 : decode cX13_registerNames 84 = .ok (.aastore, 1) := by decide +kernel
theorem dX13_registerNames_85 : decode cX13_registerNames 85 = .ok (.dup, 1) := by decide +kernel
theorem dX13_registerNames_86 : decode cX13_registerNames 86 = .ok (.iconst 4, 1) := by decide +kernel
theorem dX13_registerNames_87 : decode cX13_registerNames 87 = .ok (.ldc_w 570, 3) := by decide +kernel
theorem dX13_registerNames_90 : decode cX13_registerNames 90 = .ok (.aastore, 1) := by decide +kernel
theorem dX13_registerNames_91 : decode cX13_registerNames 91 = .ok (.dup, 1) := by decide +kernel
theorem dX13_registerNames_92 : decode cX13_registerNames 92 = .ok (.iconst 5, 1) := by decide +kernel
theorem dX13_registerNames_93 : decode cX13_registerNames 93 = .ok (.ldc_w 572, 3) := by decide +kernel
theorem dX13_registerNames_96 : decode cX13_registerNames 96 = .ok (.aastore, 1) := by decide +kernel
theorem dX13_registerNames_97 : decode cX13_registerNames 97 = .ok (.dup, 1) := by decide +kernel
theorem dX13_registerNames_98 : decode cX13_registerNames 98 = .ok (.bipush 6, 2) := by decide +kernel
theorem dX13_registerNames_100 : decode cX13_registerNames 100 = .ok (.ldc_w 574, 3) := by decide +kernel
theorem dX13_registerNames_103 : decode cX13_registerNames 103 = .ok (.aastore, 1) := by decide +kernel
theorem dX13_registerNames_104 : decode cX13_registerNames 104 = .ok (.dup, 1) := by decide +kernel
theorem dX13_registerNames_105 : decode cX13_registerNames 105 = .ok (.bipush 7, 2) := by decide +kernel
theorem dX13_registerNames_107 : decode cX13_registerNames 107 = .ok (.ldc_w 576, 3) := by decide +kernel
theorem dX13_registerNames_110 : decode cX13_registerNames 110 = .ok (.aastore, 1) := by decide +kernel
theorem dX13_registerNames_111 : decode cX13_registerNames 111 = .ok (.astore_n 2, 1) := by decide +kernel
theorem dX13_registerNames_112 : decode cX13_registerNames 112 = .ok (.bipush 8, 2) := by decide +kernel
theorem dX13_registerNames_114 : decode cX13_registerNames 114 = .ok (.anewarray 470, 3) := by decide +kernel
theorem dX13_registerNames_117 : decode cX13_registerNames 117 = .ok (.dup, 1) := by decide +kernel
theorem dX13_registerNames_118 : decode cX13_registerNames 118 = .ok (.iconst 0, 1) := by decide +kernel
theorem dX13_registerNames_119 : decode cX13_registerNames 119 = .ok (.ldc_w 578, 3) := by decide +kernel
theorem dX13_registerNames_122 : decode cX13_registerNames 122 = .ok (.aastore, 1) := by decide +kernel
theorem dX13_registerNames_123 : decode cX13_registerNames 123 = .ok (.dup, 1) := by decide +kernel
theorem dX13_registerNames_124 : decode cX13_registerNames 124 = .ok (.iconst 1, 1) := by decide +kernel
theorem dX13_registerNames_125 : decode cX13_registerNames 125 = .ok (.ldc_w 580, 3) := by decide +kernel
theorem dX13_registerNames_128 : decode cX13_registerNames 128 = .ok (.aastore, 1) := by decide +kernel
theorem dX13_registerNames_129 : decode cX13_registerNames 129 = .ok (.dup, 1) := by decide +kernel
theorem dX13_registerNames_130 : decode cX13_registerNames 130 = .ok (.iconst 2, 1) := by decide +kernel
theorem dX13_registerNames_131 : decode cX13_registerNames 131 = .ok (.ldc_w 582, 3) := by decide +kernel
theorem dX13_registerNames_134 : decode cX13_registerNames 134 = .ok (.aastore, 1) := by decide +kernel
theorem dX13_registerNames_135 : decode cX13_registerNames 135 = .ok (.dup, 1) := by decide +kernel
theorem dX13_registerNames_136 : decode cX13_registerNames 136 = .ok (.iconst 3, 1) := by decide +kernel
theorem dX13_registerNames_137 : decode cX13_registerNames 137 = .ok (.ldc_w 584, 3) := by decide +kernel
theorem dX13_registerNames_140 : decode cX13_registerNames 140 = .ok (.aastore, 1) := by decide +kernel
theorem dX13_registerNames_141 : decode cX13_registerNames 141 = .ok (.dup, 1) := by decide +kernel
theorem dX13_registerNames_142 : decode cX13_registerNames 142 = .ok (.iconst 4, 1) := by decide +kernel
theorem dX13_registerNames_143 : decode cX13_registerNames 143 = .ok (.ldc_w 586, 3) := by decide +kernel
theorem dX13_registerNames_146 : decode cX13_registerNames 146 = .ok (.aastore, 1) := by decide +kernel
theorem dX13_registerNames_147 : decode cX13_registerNames 147 = .ok (.dup, 1) := by decide +kernel
theorem dX13_registerNames_148 : decode cX13_registerNames 148 = .ok (.iconst 5, 1) := by decide +kernel
theorem dX13_registerNames_149 : decode cX13_registerNames 149 = .ok (.ldc_w 588, 3) := by decide +kernel
theorem dX13_registerNames_152 : decode cX13_registerNames 152 = .ok (.aastore, 1) := by decide +kernel
theorem dX13_registerNames_153 : decode cX13_registerNames 153 = .ok (.dup, 1) := by decide +kernel
theorem dX13_registerNames_154 : decode cX13_registerNames 154 = .ok (.bipush 6, 2) := by decide +kernel
theorem dX13_registerNames_156 : decode cX13_registerNames 156 = .ok (.ldc_w 590, 3) := by decide +kernel
theorem dX13_registerNames_159 : decode cX13_registerNames 159 = .ok (.aastore, 1) := by decide +kernel
theorem dX13_registerNames_160 : decode cX13_registerNames 160 = .ok (.dup, 1) := by decide +kernel
theorem dX13_registerNames_161 : decode cX13_registerNames 161 = .ok (.bipush 7, 2) := by decide +kernel
theorem dX13_registerNames_163 : decode cX13_registerNames 163 = .ok (.ldc_w 592, 3) := by decide +kernel
theorem dX13_registerNames_166 : decode cX13_registerNames 166 = .ok (.aastore, 1) := by decide +kernel
theorem dX13_registerNames_167 : decode cX13_registerNames 167 = .ok (.astore_n 3, 1) := by decide +kernel
theorem dX13_registerNames_168 : decode cX13_registerNames 168 = .ok (.iconst 0, 1) := by decide +kernel
theorem dX13_registerNames_169 : decode cX13_registerNames 169 = .ok (.istore 4, 2) := by decide +kernel
theorem dX13_registerNames_171 : decode cX13_registerNames 171 = .ok (.iload 4, 2) := by decide +kernel
theorem dX13_registerNames_173 : decode cX13_registerNames 173 = .ok (.bipush 8, 2) := by decide +kernel
theorem dX13_registerNames_175 : decode cX13_registerNames 175 = .ok (.if_icmp .ge 123, 3) := by decide +kernel
theorem dX13_registerNames_178 : decode cX13_registerNames 178 = .ok (.aload_n 0, 1) := by decide +kernel
theorem dX13_registerNames_179 : decode cX13_registerNames 179 = .ok (.aload_n 1, 1) := by decide +kernel
theorem dX13_registerNames_180 : decode cX13_registerNames 180 = .ok (.iload 4, 2) := by decide +kernel
theorem dX13_registerNames_182 : decode cX13_registerNames 182 = .ok (.aaload, 1) := by decide +kernel
theorem dX13_registerNames_183 : decode cX13_registerNames 183 = .ok (.iload 4, 2) := by decide +kernel
theorem dX13_registerNames_185 : decode cX13_registerNames 185 = .ok (.sipush 2048, 3) := by decide +kernel
theorem dX13_registerNames_188 : decode cX13_registerNames 188 = .ok (.ior, 1) := by decide +kernel
theorem dX13_registerNames_189 : decode cX13_registerNames 189 = .ok (.invokevirtual 594, 3) := by decide +kernel
theorem dX13_registerNames_192 : decode cX13_registerNames 192 = .ok (.aload_n 0, 1) := by decide +kernel
theorem dX13_registerNames_193 : decode cX13_registerNames 193 = .ok (.aload_n 2, 1) := by decide +kernel
theorem dX13_registerNames_194 : decode cX13_registerNames 194 = .ok (.iload 4, 2) := by decide +kernel
theorem dX13_registerNames_196 : decode cX13_registerNames 196 = .ok (.aaload, 1) := by decide +kernel
theorem dX13_registerNames_197 : decode cX13_registerNames 197 = .ok (.iload 4, 2) := by decide +kernel
theorem dX13_registerNames_199 : decode cX13_registerNames 199 = .ok (.sipush 1024, 3) := by decide +kernel
theorem dX13_registerNames_202 : decode cX13_registerNames 202 = .ok (.ior, 1) := by decide +kernel
theorem dX13_registerNames_203 : decode cX13_registerNames 203 = .ok (.invokevirtual 594, 3) := by decide +kernel
theorem dX13_registerNames_206 : decode cX13_registerNames 206 = .ok (.aload_n 0, 1) := by decide +kernel
theorem dX13_registerNames_207 : decode cX13_registerNames 207 = .ok (.aload_n 3, 1) := by decide +kernel
theorem dX13_registerNames_208 : decode cX13_registerNames 208 = .ok (.iload 4, 2) := by decide +kernel
theorem dX13_registerNames_210 : decode cX13_registerNames 210 = .ok (.aaload, 1) := by decide +kernel
theorem dX13_registerNames_211 : decode cX13_registerNames 211 = .ok (.iload 4, 2) := by decide +kernel
theorem dX13_registerNames_213 : decode cX13_registerNames 213 = .ok (.sipush 256, 3) := by decide +kernel
theorem dX13_registerNames_216 : decode cX13_registerNames 216 = .ok (.ior, 1) := by decide +kernel
theorem dX13_registerNames_217 : decode cX13_registerNames 217 = .ok (.invokevirtual 594, 3) := by decide +kernel
theorem dX13_registerNames_220 : decode cX13_registerNames 220 = .ok (.aload_n 0, 1) := by decide +kernel
theorem dX13_registerNames_221 : decode cX13_registerNames 221 = .ok (.bipush 8, 2) := by decide +kernel
theorem dX13_registerNames_223 : decode cX13_registerNames 223 = .ok (.iload 4, 2) := by decide +kernel
theorem dX13_registerNames_225 : decode cX13_registerNames 225 = .ok (.iadd, 1) := by decide +kernel
theorem dX13_registerNames_226 : decode cX13_registerNames 226 = .ok (.ldc_w 597, 3) := by decide +kernel
theorem dX13_registerNames_229 : decode cX13_registerNames 229 = .ok (.invokestatic 599, 3) := by decide +kernel
theorem dX13_registerNames_232 : decode cX13_registerNames 232 = .ok (.bipush 8, 2) := by decide +kernel
theorem dX13_registerNames_234 : decode cX13_registerNames 234 = .ok (.iload 4, 2) := by decide +kernel
theorem dX13_registerNames_236 : decode cX13_registerNames 236 = .ok (.iadd, 1) := by decide +kernel
theorem dX13_registerNames_237 : decode cX13_registerNames 237 = .ok (.sipush 2048, 3) := by decide +kernel
theorem dX13_registerNames_240 : decode cX13_registerNames 240 = .ok (.ior, 1) := by decide +kernel
theorem dX13_registerNames_241 : decode cX13_registerNames 241 = .ok (.invokevirtual 594, 3) := by decide +kernel
theorem dX13_registerNames_244 : decode cX13_registerNames 244 = .ok (.aload_n 0, 1) := by decide +kernel
theorem dX13_registerNames_245 : decode cX13_registerNames 245 = .ok (.bipush 8, 2) := by decide +kernel
theorem dX13_registerNames_247 : decode cX13_registerNames 247 = .ok (.iload 4, 2) := by decide +kernel
theorem dX13_registerNames_249 : decode cX13_registerNames 249 = .ok (.iadd, 1) := by decide +kernel
theorem dX13_registerNames_250 : decode cX13_registerNames 250 = .ok (.ldc_w 603, 3) := by decide +kernel
theorem dX13_registerNames_253 : decode cX13_registerNames 253 = .ok (.invokestatic 599, 3) := by decide +kernel
theorem dX13_registerNames_256 : decode cX13_registerNames 256 = .ok (.bipush 8, 2) := by decide +kernel
theorem dX13_registerNames_258 : decode cX13_registerNames 258 = .ok (.iload 4, 2) := by decide +kernel
theorem dX13_registerNames_260 : decode cX13_registerNames 260 = .ok (.iadd, 1) := by decide +kernel
theorem dX13_registerNames_261 : decode cX13_registerNames 261 = .ok (.sipush 1024, 3) := by decide +kernel
theorem dX13_registerNames_264 : decode cX13_registerNames 264 = .ok (.ior, 1) := by decide +kernel
theorem dX13_registerNames_265 : decode cX13_registerNames 265 = .ok (.invokevirtual 594, 3) := by decide +kernel
theorem dX13_registerNames_268 : decode cX13_registerNames 268 = .ok (.aload_n 0, 1) := by decide +kernel
theorem dX13_registerNames_269 : decode cX13_registerNames 269 = .ok (.bipush 8, 2) := by decide +kernel
theorem dX13_registerNames_271 : decode cX13_registerNames 271 = .ok (.iload 4, 2) := by decide +kernel
theorem dX13_registerNames_273 : decode cX13_registerNames 273 = .ok (.iadd, 1) := by decide +kernel
theorem dX13_registerNames_274 : decode cX13_registerNames 274 = .ok (.ldc_w 490, 3) := by decide +kernel
theorem dX13_registerNames_277 : decode cX13_registerNames 277 = .ok (.invokestatic 599, 3) := by decide +kernel
theorem dX13_registerNames_280 : decode cX13_registerNames 280 = .ok (.bipush 8, 2) := by decide +kernel
theorem dX13_registerNames_282 : decode cX13_registerNames 282 = .ok (.iload 4, 2) := by decide +kernel
theorem dX13_registerNames_284 : decode cX13_registerNames 284 = .ok (.iadd, 1) := by decide +kernel
theorem dX13_registerNames_285 : decode cX13_registerNames 285 = .ok (.sipush 256, 3) := by decide +kernel
theorem dX13_registerNames_288 : decode cX13_registerNames 288 = .ok (.ior, 1) := by decide +kernel
theorem dX13_registerNames_289 : decode cX13_registerNames 289 = .ok (.invokevirtual 594, 3) := by decide +kernel
theorem dX13_registerNames_292 : decode cX13_registerNames 292 = .ok (.iinc 4 1, 3) := by decide +kernel
theorem dX13_registerNames_295 : decode cX13_registerNames 295 = .ok (.goto (-124), 3) := by decide +kernel
theorem dX13_registerNames_298 : decode cX13_registerNames 298 = .ok (.return_, 1) := by decide +kernel
theorem dX13_registerNamed_0 : decode cX13_registerNamed 0 = .ok (.aload_n 0, 1) := by decide +kernel
theorem dX13_registerNamed_1 : decode cX13_registerNamed 1 = .ok (.getfield 18, 3) := by decide +kernel
theorem dX13_registerNamed_4 : decode cX13_registerNamed 4 = .ok (.aload_n 0, 1) := by decide +kernel
theorem dX13_registerNamed_5 : decode cX13_registerNamed 5 = .ok (.getfield 605, 3) := by decide +kernel
theorem dX13_registerNamed_8 : decode cX13_registerNamed 8 = .ok (.aload_n 1, 1) := by decide +kernel
theorem dX13_registerNamed_9 : decode cX13_registerNamed 9 = .ok (.invokestatic 419, 3) := by decide +kernel
theorem dX13_registerNamed_12 : decode cX13_registerNamed 12 = .ok (.lastore, 1) := by decide +kernel
theorem dX13_registerNamed_13 : decode cX13_registerNamed 13 = .ok (.aload_n 0, 1) := by decide +kernel
theorem dX13_registerNamed_14 : decode cX13_registerNamed 14 = .ok (.getfield 25, 3) := by decide +kernel
theorem dX13_registerNamed_17 : decode cX13_registerNamed 17 = .ok (.aload_n 0, 1) := by decide +kernel
theorem dX13_registerNamed_18 : decode cX13_registerNamed 18 = .ok (.getfield 605, 3) := by decide +kernel
theorem dX13_registerNamed_21 : decode cX13_registerNamed 21 = .ok (.iload_n 2, 1) := by decide +kernel
theorem dX13_registerNamed_22 : decode cX13_registerNamed 22 = .ok (.iastore, 1) := by decide +kernel
theorem dX13_registerNamed_23 : decode cX13_registerNamed 23 = .ok (.aload_n 0, 1) := by decide +kernel
theorem dX13_registerNamed_24 : decode cX13_registerNamed 24 = .ok (.dup, 1) := by decide +kernel
theorem dX13_registerNamed_25 : decode cX13_registerNamed 25 = .ok (.getfield 605, 3) := by decide +kernel
theorem dX13_registerNamed_28 : decode cX13_registerNamed 28 = .ok (.iconst 1, 1) := by decide +kernel
theorem dX13_registerNamed_29 : decode cX13_registerNamed 29 = .ok (.iadd, 1) := by decide +kernel
theorem dX13_registerNamed_30 : decode cX13_registerNamed 30 = .ok (.putfield 605, 3) := by decide +kernel
theorem dX13_registerNamed_33 : decode cX13_registerNamed 33 = .ok (.return_, 1) := by decide +kernel
theorem dX13_row_0 : decode cX13_row 0 = .ok (.aload_n 0, 1) := by decide +kernel
theorem dX13_row_1 : decode cX13_row 1 = .ok (.getfield 258, 3) := by decide +kernel
theorem dX13_row_4 : decode cX13_row 4 = .ok (.aload_n 0, 1) := by decide +kernel
theorem dX13_row_5 : decode cX13_row 5 = .ok (.getfield 1075, 3) := by decide +kernel
theorem dX13_row_8 : decode cX13_row 8 = .ok (.iload_n 1, 1) := by decide +kernel
theorem dX13_row_9 : decode cX13_row 9 = .ok (.iastore, 1) := by decide +kernel
theorem dX13_row_10 : decode cX13_row 10 = .ok (.aload_n 0, 1) := by decide +kernel
theorem dX13_row_11 : decode cX13_row 11 = .ok (.getfield 261, 3) := by decide +kernel
theorem dX13_row_14 : decode cX13_row 14 = .ok (.aload_n 0, 1) := by decide +kernel
theorem dX13_row_15 : decode cX13_row 15 = .ok (.getfield 1075, 3) := by decide +kernel
theorem dX13_row_18 : decode cX13_row 18 = .ok (.iload_n 2, 1) := by decide +kernel
theorem dX13_row_19 : decode cX13_row 19 = .ok (.iastore, 1) := by decide +kernel
theorem dX13_row_20 : decode cX13_row 20 = .ok (.aload_n 0, 1) := by decide +kernel
theorem dX13_row_21 : decode cX13_row 21 = .ok (.getfield 264, 3) := by decide +kernel
theorem dX13_row_24 : decode cX13_row 24 = .ok (.aload_n 0, 1) := by decide +kernel
theorem dX13_row_25 : decode cX13_row 25 = .ok (.getfield 1075, 3) := by decide +kernel
theorem dX13_row_28 : decode cX13_row 28 = .ok (.iload_n 3, 1) := by decide +kernel
theorem dX13_row_29 : decode cX13_row 29 = .ok (.iastore, 1) := by decide +kernel
theorem dX13_row_30 : decode cX13_row 30 = .ok (.aload_n 0, 1) := by decide +kernel
theorem dX13_row_31 : decode cX13_row 31 = .ok (.getfield 267, 3) := by decide +kernel
theorem dX13_row_34 : decode cX13_row 34 = .ok (.aload_n 0, 1) := by decide +kernel
theorem dX13_row_35 : decode cX13_row 35 = .ok (.getfield 1075, 3) := by decide +kernel
theorem dX13_row_38 : decode cX13_row 38 = .ok (.iload 4, 2) := by decide +kernel
theorem dX13_row_40 : decode cX13_row 40 = .ok (.iastore, 1) := by decide +kernel
theorem dX13_row_41 : decode cX13_row 41 = .ok (.aload_n 0, 1) := by decide +kernel
theorem dX13_row_42 : decode cX13_row 42 = .ok (.getfield 270, 3) := by decide +kernel
theorem dX13_row_45 : decode cX13_row 45 = .ok (.aload_n 0, 1) := by decide +kernel
theorem dX13_row_46 : decode cX13_row 46 = .ok (.getfield 1075, 3) := by decide +kernel
theorem dX13_row_49 : decode cX13_row 49 = .ok (.iload 5, 2) := by decide +kernel
theorem dX13_row_51 : decode cX13_row 51 = .ok (.iastore, 1) := by decide +kernel
theorem dX13_row_52 : decode cX13_row 52 = .ok (.aload_n 0, 1) := by decide +kernel
theorem dX13_row_53 : decode cX13_row 53 = .ok (.getfield 273, 3) := by decide +kernel
theorem dX13_row_56 : decode cX13_row 56 = .ok (.aload_n 0, 1) := by decide +kernel
theorem dX13_row_57 : decode cX13_row 57 = .ok (.getfield 1075, 3) := by decide +kernel
theorem dX13_row_60 : decode cX13_row 60 = .ok (.iload 6, 2) := by decide +kernel
theorem dX13_row_62 : decode cX13_row 62 = .ok (.iastore, 1) := by decide +kernel
theorem dX13_row_63 : decode cX13_row 63 = .ok (.aload_n 0, 1) := by decide +kernel
theorem dX13_row_64 : decode cX13_row 64 = .ok (.getfield 276, 3) := by decide +kernel
theorem dX13_row_67 : decode cX13_row 67 = .ok (.aload_n 0, 1) := by decide +kernel
theorem dX13_row_68 : decode cX13_row 68 = .ok (.getfield 1075, 3) := by decide +kernel
theorem dX13_row_71 : decode cX13_row 71 = .ok (.iload 7, 2) := by decide +kernel
theorem dX13_row_73 : decode cX13_row 73 = .ok (.iastore, 1) := by decide +kernel
theorem dX13_row_74 : decode cX13_row 74 = .ok (.aload_n 0, 1) := by decide +kernel
theorem dX13_row_75 : decode cX13_row 75 = .ok (.dup, 1) := by decide +kernel
theorem dX13_row_76 : decode cX13_row 76 = .ok (.getfield 1075, 3) := by decide +kernel
theorem dX13_row_79 : decode cX13_row 79 = .ok (.iconst 1, 1) := by decide +kernel
theorem dX13_row_80 : decode cX13_row 80 = .ok (.iadd, 1) := by decide +kernel
theorem dX13_row_81 : decode cX13_row 81 = .ok (.putfield 1075, 3) := by decide +kernel
theorem dX13_row_84 : decode cX13_row 84 = .ok (.return_, 1) := by decide +kernel
theorem dX13_fillTable_0 : decode cX13_fillTable 0 = .ok (.iconst 0, 1) := by decide +kernel
theorem dX13_fillTable_1 : decode cX13_fillTable 1 = .ok (.istore_n 1, 1) := by decide +kernel
theorem dX13_fillTable_2 : decode cX13_fillTable 2 = .ok (.iload_n 1, 1) := by decide +kernel
theorem dX13_fillTable_3 : decode cX13_fillTable 3 = .ok (.bipush 8, 2) := by decide +kernel
theorem dX13_fillTable_5 : decode cX13_fillTable 5 = .ok (.if_icmp .ge 84, 3) := by decide +kernel
theorem dX13_fillTable_8 : decode cX13_fillTable 8 = .ok (.aload_n 0, 1) := by decide +kernel
theorem dX13_fillTable_9 : decode cX13_fillTable 9 = .ok (.iload_n 1, 1) := by decide +kernel
theorem dX13_fillTable_10 : decode cX13_fillTable 10 = .ok (.iconst 0, 1) := by decide +kernel
theorem dX13_fillTable_11 : decode cX13_fillTable 11 = .ok (.iconst 1, 1) := by decide +kernel
theorem dX13_fillTable_12 : decode cX13_fillTable 12 = .ok (.iconst 0, 1) := by decide +kernel
theorem dX13_fillTable_13 : decode cX13_fillTable 13 = .ok (.bipush 8, 2) := by decide +kernel
theorem dX13_fillTable_15 : decode cX13_fillTable 15 = .ok (.iload_n 1, 1) := by decide +kernel
theorem dX13_fillTable_16 : decode cX13_fillTable 16 = .ok (.imul, 1) := by decide +kernel
theorem dX13_fillTable_17 : decode cX13_fillTable 17 = .ok (.bipush 9, 2) := by decide +kernel
theorem dX13_fillTable_19 : decode cX13_fillTable 19 = .ok (.iconst 0, 1) := by decide +kernel
theorem dX13_fillTable_20 : decode cX13_fillTable 20 = .ok (.invokevirtual 1103, 3) := by decide +kernel
theorem dX13_fillTable_23 : decode cX13_fillTable 23 = .ok (.aload_n 0, 1) := by decide +kernel
theorem dX13_fillTable_24 : decode cX13_fillTable 24 = .ok (.iload_n 1, 1) := by decide +kernel
theorem dX13_fillTable_25 : decode cX13_fillTable 25 = .ok (.iconst 0, 1) := by decide +kernel
theorem dX13_fillTable_26 : decode cX13_fillTable 26 = .ok (.iconst 2, 1) := by decide +kernel
theorem dX13_fillTable_27 : decode cX13_fillTable 27 = .ok (.iconst 0, 1) := by decide +kernel
theorem dX13_fillTable_28 : decode cX13_fillTable 28 = .ok (.bipush 8, 2) := by decide +kernel
theorem dX13_fillTable_30 : decode cX13_fillTable 30 = .ok (.iload_n 1, 1) := by decide +kernel
theorem dX13_fillTable_31 : decode cX13_fillTable 31 = .ok (.imul, 1) := by decide +kernel
theorem dX13_fillTable_32 : decode cX13_fillTable 32 = .ok (.iconst 2, 1) := by decide +kernel
theorem dX13_fillTable_33 : decode cX13_fillTable 33 = .ok (.iadd, 1) := by decide +kernel
theorem dX13_fillTable_34 : decode cX13_fillTable 34 = .ok (.bipush 9, 2) := by decide +kernel
theorem dX13_fillTable_36 : decode cX13_fillTable 36 = .ok (.iconst 0, 1) := by decide +kernel
theorem dX13_fillTable_37 : decode cX13_fillTable 37 = .ok (.invokevirtual 1103, 3) := by decide +kernel
theorem dX13_fillTable_40 : decode cX13_fillTable 40 = .ok (.aload_n 0, 1) := by decide +kernel
theorem dX13_fillTable_41 : decode cX13_fillTable 41 = .ok (.iload_n 1, 1) := by decide +kernel
theorem dX13_fillTable_42 : decode cX13_fillTable 42 = .ok (.iconst 0, 1) := by decide +kernel
theorem dX13_fillTable_43 : decode cX13_fillTable 43 = .ok (.iconst 3, 1) := by decide +kernel
theorem dX13_fillTable_44 : decode cX13_fillTable 44 = .ok (.iconst 0, 1) := by decide +kernel
theorem dX13_fillTable_45 : decode cX13_fillTable 45 = .ok (.bipush 8, 2) := by decide +kernel
theorem dX13_fillTable_47 : decode cX13_fillTable 47 = .ok (.iload_n 1, 1) := by decide +kernel
theorem dX13_fillTable_48 : decode cX13_fillTable 48 = .ok (.imul, 1) := by decide +kernel
theorem dX13_fillTable_49 : decode cX13_fillTable 49 = .ok (.iconst 4, 1) := by decide +kernel
theorem dX13_fillTable_50 : decode cX13_fillTable 50 = .ok (.iadd, 1) := by decide +kernel
theorem dX13_fillTable_51 : decode cX13_fillTable 51 = .ok (.bipush 9, 2) := by decide +kernel
theorem dX13_fillTable_53 : decode cX13_fillTable 53 = .ok (.iconst 1, 1) := by decide +kernel
theorem dX13_fillTable_54 : decode cX13_fillTable 54 = .ok (.invokevirtual 1103, 3) := by decide +kernel
theorem dX13_fillTable_57 : decode cX13_fillTable 57 = .ok (.aload_n 0, 1) := by decide +kernel
theorem dX13_fillTable_58 : decode cX13_fillTable 58 = .ok (.iload_n 1, 1) := by decide +kernel
theorem dX13_fillTable_59 : decode cX13_fillTable 59 = .ok (.iconst 0, 1) := by decide +kernel
theorem dX13_fillTable_60 : decode cX13_fillTable 60 = .ok (.iconst 4, 1) := by decide +kernel
theorem dX13_fillTable_61 : decode cX13_fillTable 61 = .ok (.iconst 0, 1) := by decide +kernel
theorem dX13_fillTable_62 : decode cX13_fillTable 62 = .ok (.sipush 128, 3) := by decide +kernel
theorem dX13_fillTable_65 : decode cX13_fillTable 65 = .ok (.iload_n 1, 1) := by decide +kernel
theorem dX13_fillTable_66 : decode cX13_fillTable 66 = .ok (.iconst 1, 1) := by decide +kernel
theorem dX13_fillTable_67 : decode cX13_fillTable 67 = .ok (.invokevirtual 1103, 3) := by decide +kernel
theorem dX13_fillTable_70 : decode cX13_fillTable 70 = .ok (.aload_n 0, 1) := by decide +kernel
theorem dX13_fillTable_71 : decode cX13_fillTable 71 = .ok (.iload_n 1, 1) := by decide +kernel
theorem dX13_fillTable_72 : decode cX13_fillTable 72 = .ok (.iconst 1, 1) := by decide +kernel
theorem dX13_fillTable_73 : decode cX13_fillTable 73 = .ok (.iconst 4, 1) := by decide +kernel
theorem dX13_fillTable_74 : decode cX13_fillTable 74 = .ok (.iconst 0, 1) := by decide +kernel
theorem dX13_fillTable_75 : decode cX13_fillTable 75 = .ok (.sipush 131, 3) := by decide +kernel
theorem dX13_fillTable_78 : decode cX13_fillTable 78 = .ok (.iload_n 1, 1) := by decide +kernel
theorem dX13_fillTable_79 : decode cX13_fillTable 79 = .ok (.iconst 2, 1) := by decide +kernel
theorem dX13_fillTable_80 : decode cX13_fillTable 80 = .ok (.invokevirtual 1103, 3) := by decide +kernel
theorem dX13_fillTable_83 : decode cX13_fillTable 83 = .ok (.iinc 1 1, 3) := by decide +kernel
theorem dX13_fillTable_86 : decode cX13_fillTable 86 = .ok (.goto (-84), 3) := by decide +kernel
theorem dX13_fillTable_89 : decode cX13_fillTable 89 = .ok (.aload_n 0, 1) := by decide +kernel
theorem dX13_fillTable_90 : decode cX13_fillTable 90 = .ok (.bipush 8, 2) := by decide +kernel
theorem dX13_fillTable_92 : decode cX13_fillTable 92 = .ok (.iconst 0, 1) := by decide +kernel
theorem dX13_fillTable_93 : decode cX13_fillTable 93 = .ok (.iconst 1, 1) := by decide +kernel
theorem dX13_fillTable_94 : decode cX13_fillTable 94 = .ok (.iconst 0, 1) := by decide +kernel
theorem dX13_fillTable_95 : decode cX13_fillTable 95 = .ok (.sipush 136, 3) := by decide +kernel
theorem dX13_fillTable_98 : decode cX13_fillTable 98 = .ok (.bipush 9, 2) := by decide +kernel
theorem dX13_fillTable_100 : decode cX13_fillTable 100 = .ok (.iconst 0, 1) := by decide +kernel
theorem dX13_fillTable_101 : decode cX13_fillTable 101 = .ok (.invokevirtual 1103, 3) := by decide +kernel
theorem dX13_fillTable_104 : decode cX13_fillTable 104 = .ok (.aload_n 0, 1) := by decide +kernel
theorem dX13_fillTable_105 : decode cX13_fillTable 105 = .ok (.bipush 8, 2) := by decide +kernel
theorem dX13_fillTable_107 : decode cX13_fillTable 107 = .ok (.iconst 0, 1) := by decide +kernel
theorem dX13_fillTable_108 : decode cX13_fillTable 108 = .ok (.iconst 2, 1) := by decide +kernel
theorem dX13_fillTable_109 : decode cX13_fillTable 109 = .ok (.iconst 0, 1) := by decide +kernel
theorem dX13_fillTable_110 : decode cX13_fillTable 110 = .ok (.sipush 138, 3) := by decide +kernel
theorem dX13_fillTable_113 : decode cX13_fillTable 113 = .ok (.bipush 9, 2) := by decide +kernel
theorem dX13_fillTable_115 : decode cX13_fillTable 115 = .ok (.iconst 0, 1) := by decide +kernel
theorem dX13_fillTable_116 : decode cX13_fillTable 116 = .ok (.invokevirtual 1103, 3) := by decide +kernel
theorem dX13_fillTable_119 : decode cX13_fillTable 119 = .ok (.aload_n 0, 1) := by decide +kernel
theorem dX13_fillTable_120 : decode cX13_fillTable 120 = .ok (.bipush 8, 2) := by decide +kernel
theorem dX13_fillTable_122 : decode cX13_fillTable 122 = .ok (.iconst 0, 1) := by decide +kernel
theorem dX13_fillTable_123 : decode cX13_fillTable 123 = .ok (.iconst 4, 1) := by decide +kernel
theorem dX13_fillTable_124 : decode cX13_fillTable 124 = .ok (.iconst 0, 1) := by decide +kernel
theorem dX13_fillTable_125 : decode cX13_fillTable 125 = .ok (.sipush 198, 3) := by decide +kernel
theorem dX13_fillTable_128 : decode cX13_fillTable 128 = .ok (.iconst 0, 1) := by decide +kernel
theorem dX13_fillTable_129 : decode cX13_fillTable 129 = .ok (.iconst 1, 1) := by decide +kernel
theorem dX13_fillTable_130 : decode cX13_fillTable 130 = .ok (.invokevirtual 1103, 3) := by decide +kernel
theorem dX13_fillTable_133 : decode cX13_fillTable 133 = .ok (.aload_n 0, 1) := by decide +kernel
theorem dX13_fillTable_134 : decode cX13_fillTable 134 = .ok (.bipush 8, 2) := by decide +kernel
theorem dX13_fillTable_136 : decode cX13_fillTable 136 = .ok (.iconst 5, 1) := by decide +kernel
theorem dX13_fillTable_137 : decode cX13_fillTable 137 = .ok (.bipush 6, 2) := by decide +kernel
theorem dX13_fillTable_139 : decode cX13_fillTable 139 = .ok (.iconst 0, 1) := by decide +kernel
theorem dX13_fillTable_140 : decode cX13_fillTable 140 = .ok (.sipush 176, 3) := by decide +kernel
theorem dX13_fillTable_143 : decode cX13_fillTable 143 = .ok (.bipush 9, 2) := by decide +kernel
theorem dX13_fillTable_145 : decode cX13_fillTable 145 = .ok (.iconst 2, 1) := by decide +kernel
theorem dX13_fillTable_146 : decode cX13_fillTable 146 = .ok (.invokevirtual 1103, 3) := by decide +kernel
theorem dX13_fillTable_149 : decode cX13_fillTable 149 = .ok (.aload_n 0, 1) := by decide +kernel
theorem dX13_fillTable_150 : decode cX13_fillTable 150 = .ok (.bipush 8, 2) := by decide +kernel
theorem dX13_fillTable_152 : decode cX13_fillTable 152 = .ok (.bipush 6, 2) := by decide +kernel
theorem dX13_fillTable_154 : decode cX13_fillTable 154 = .ok (.bipush 6, 2) := by decide +kernel
theorem dX13_fillTable_156 : decode cX13_fillTable 156 = .ok (.iconst 0, 1) := by decide +kernel
theorem dX13_fillTable_157 : decode cX13_fillTable 157 = .ok (.sipush 184, 3) := by decide +kernel
theorem dX13_fillTable_160 : decode cX13_fillTable 160 = .ok (.bipush 9, 2) := by decide +kernel
theorem dX13_fillTable_162 : decode cX13_fillTable 162 = .ok (.iconst 3, 1) := by decide +kernel
theorem dX13_fillTable_163 : decode cX13_fillTable 163 = .ok (.invokevirtual 1103, 3) := by decide +kernel
theorem dX13_fillTable_166 : decode cX13_fillTable 166 = .ok (.aload_n 0, 1) := by decide +kernel
theorem dX13_fillTable_167 : decode cX13_fillTable 167 = .ok (.bipush 8, 2) := by decide +kernel
theorem dX13_fillTable_169 : decode cX13_fillTable 169 = .ok (.bipush 7, 2) := by decide +kernel
theorem dX13_fillTable_171 : decode cX13_fillTable 171 = .ok (.bipush 6, 2) := by decide +kernel
theorem dX13_fillTable_173 : decode cX13_fillTable 173 = .ok (.iconst 0, 1) := by decide +kernel
theorem dX13_fillTable_174 : decode cX13_fillTable 174 = .ok (.sipush 184, 3) := by decide +kernel
theorem dX13_fillTable_177 : decode cX13_fillTable 177 = .ok (.bipush 9, 2) := by decide +kernel
theorem dX13_fillTable_179 : decode cX13_fillTable 179 = .ok (.iconst 4, 1) := by decide +kernel
theorem dX13_fillTable_180 : decode cX13_fillTable 180 = .ok (.invokevirtual 1103, 3) := by decide +kernel
theorem dX13_fillTable_183 : decode cX13_fillTable 183 = .ok (.aload_n 0, 1) := by decide +kernel
theorem dX13_fillTable_184 : decode cX13_fillTable 184 = .ok (.bipush 9, 2) := by decide +kernel
theorem dX13_fillTable_186 : decode cX13_fillTable 186 = .ok (.iconst 0, 1) := by decide +kernel
theorem dX13_fillTable_187 : decode cX13_fillTable 187 = .ok (.iconst 1, 1) := by decide +kernel
theorem dX13_fillTable_188 : decode cX13_fillTable 188 = .ok (.iconst 0, 1) := by decide +kernel
theorem dX13_fillTable_189 : decode cX13_fillTable 189 = .ok (.sipush 132, 3) := by decide +kernel
theorem dX13_fillTable_192 : decode cX13_fillTable 192 = .ok (.bipush 9, 2) := by decide +kernel
theorem dX13_fillTable_194 : decode cX13_fillTable 194 = .ok (.iconst 0, 1) := by decide +kernel
theorem dX13_fillTable_195 : decode cX13_fillTable 195 = .ok (.invokevirtual 1103, 3) := by decide +kernel
theorem dX13_fillTable_198 : decode cX13_fillTable 198 = .ok (.aload_n 0, 1) := by decide +kernel
theorem dX13_fillTable_199 : decode cX13_fillTable 199 = .ok (.bipush 9, 2) := by decide +kernel
theorem dX13_fillTable_201 : decode cX13_fillTable 201 = .ok (.iconst 0, 1) := by decide +kernel
theorem dX13_fillTable_202 : decode cX13_fillTable 202 = .ok (.iconst 3, 1) := by decide +kernel
theorem dX13_fillTable_203 : decode cX13_fillTable 203 = .ok (.iconst 0, 1) := by decide +kernel
theorem dX13_fillTable_204 : decode cX13_fillTable 204 = .ok (.sipush 168, 3) := by decide +kernel
theorem dX13_fillTable_207 : decode cX13_fillTable 207 = .ok (.bipush 9, 2) := by decide +kernel
theorem dX13_fillTable_209 : decode cX13_fillTable 209 = .ok (.iconst 1, 1) := by decide +kernel
theorem dX13_fillTable_210 : decode cX13_fillTable 210 = .ok (.invokevirtual 1103, 3) := by decide +kernel
theorem dX13_fillTable_213 : decode cX13_fillTable 213 = .ok (.aload_n 0, 1) := by decide +kernel
theorem dX13_fillTable_214 : decode cX13_fillTable 214 = .ok (.bipush 9, 2) := by decide +kernel
theorem dX13_fillTable_216 : decode cX13_fillTable 216 = .ok (.iconst 0, 1) := by decide +kernel
theorem dX13_fillTable_217 : decode cX13_fillTable 217 = .ok (.iconst 4, 1) := by decide +kernel
theorem dX13_fillTable_218 : decode cX13_fillTable 218 = .ok (.iconst 0, 1) := by decide +kernel
theorem dX13_fillTable_219 : decode cX13_fillTable 219 = .ok (.sipush 246, 3) := by decide +kernel
theorem dX13_fillTable_222 : decode cX13_fillTable 222 = .ok (.iconst 0, 1) := by decide +kernel
theorem dX13_fillTable_223 : decode cX13_fillTable 223 = .ok (.iconst 1, 1) := by decide +kernel
theorem dX13_fillTable_224 : decode cX13_fillTable 224 = .ok (.invokevirtual 1103, 3) := by decide +kernel
theorem dX13_fillTable_227 : decode cX13_fillTable 227 = .ok (.aload_n 0, 1) := by decide +kernel
theorem dX13_fillTable_228 : decode cX13_fillTable 228 = .ok (.bipush 10, 2) := by decide +kernel
theorem dX13_fillTable_230 : decode cX13_fillTable 230 = .ok (.iconst 0, 1) := by decide +kernel
theorem dX13_fillTable_231 : decode cX13_fillTable 231 = .ok (.iconst 1, 1) := by decide +kernel
theorem dX13_fillTable_232 : decode cX13_fillTable 232 = .ok (.iconst 0, 1) := by decide +kernel
theorem dX13_fillTable_233 : decode cX13_fillTable 233 = .ok (.sipush 134, 3) := by decide +kernel
theorem dX13_fillTable_236 : decode cX13_fillTable 236 = .ok (.bipush 9, 2) := by decide +kernel
theorem dX13_fillTable_238 : decode cX13_fillTable 238 = .ok (.iconst 0, 1) := by decide +kernel
theorem dX13_fillTable_239 : decode cX13_fillTable 239 = .ok (.invokevirtual 1103, 3) := by decide +kernel
theorem dX13_fillTable_242 : decode cX13_fillTable 242 = .ok (.aload_n 0, 1) := by decide +kernel
theorem dX13_fillTable_243 : decode cX13_fillTable 243 = .ok (.bipush 11, 2) := by decide +kernel
theorem dX13_fillTable_245 : decode cX13_fillTable 245 = .ok (.iconst 1, 1) := by decide +kernel
theorem dX13_fillTable_246 : decode cX13_fillTable 246 = .ok (.bipush 7, 2) := by decide +kernel
theorem dX13_fillTable_248 : decode cX13_fillTable 248 = .ok (.iconst 0, 1) := by decide +kernel
theorem dX13_fillTable_249 : decode cX13_fillTable 249 = .ok (.sipush 141, 3) := by decide +kernel
theorem dX13_fillTable_252 : decode cX13_fillTable 252 = .ok (.bipush 9, 2) := by decide +kernel
theorem dX13_fillTable_254 : decode cX13_fillTable 254 = .ok (.iconst 0, 1) := by decide +kernel
theorem dX13_fillTable_255 : decode cX13_fillTable 255 = .ok (.invokevirtual 1103, 3) := by decide +kernel
theorem dX13_fillTable_258 : decode cX13_fillTable 258 = .ok (.aload_n 0, 1) := by decide +kernel
theorem dX13_fillTable_259 : decode cX13_fillTable 259 = .ok (.bipush 12, 2) := by decide +kernel
theorem dX13_fillTable_261 : decode cX13_fillTable 261 = .ok (.iconst 1, 1) := by decide +kernel
theorem dX13_fillTable_262 : decode cX13_fillTable 262 = .ok (.iconst 2, 1) := by decide +kernel
theorem dX13_fillTable_263 : decode cX13_fillTable 263 = .ok (.bipush 15, 2) := by decide +kernel
theorem dX13_fillTable_265 : decode cX13_fillTable 265 = .ok (.sipush 182, 3) := by decide +kernel
theorem dX13_fillTable_268 : decode cX13_fillTable 268 = .ok (.bipush 9, 2) := by decide +kernel
theorem dX13_fillTable_270 : decode cX13_fillTable 270 = .ok (.iconst 0, 1) := by decide +kernel
theorem dX13_fillTable_271 : decode cX13_fillTable 271 = .ok (.invokevirtual 1103, 3) := by decide +kernel
theorem dX13_fillTable_274 : decode cX13_fillTable 274 = .ok (.aload_n 0, 1) := by decide +kernel
theorem dX13_fillTable_275 : decode cX13_fillTable 275 = .ok (.bipush 13, 2) := by decide +kernel
theorem dX13_fillTable_277 : decode cX13_fillTable 277 = .ok (.iconst 1, 1) := by decide +kernel
theorem dX13_fillTable_278 : decode cX13_fillTable 278 = .ok (.iconst 2, 1) := by decide +kernel
theorem dX13_fillTable_279 : decode cX13_fillTable 279 = .ok (.bipush 15, 2) := by decide +kernel
theorem dX13_fillTable_281 : decode cX13_fillTable 281 = .ok (.sipush 190, 3) := by decide +kernel
theorem dX13_fillTable_284 : decode cX13_fillTable 284 = .ok (.bipush 9, 2) := by decide +kernel
theorem dX13_fillTable_286 : decode cX13_fillTable 286 = .ok (.iconst 0, 1) := by decide +kernel
theorem dX13_fillTable_287 : decode cX13_fillTable 287 = .ok (.invokevirtual 1103, 3) := by decide +kernel
theorem dX13_fillTable_290 : decode cX13_fillTable 290 = .ok (.aload_n 0, 1) := by decide +kernel
theorem dX13_fillTable_291 : decode cX13_fillTable 291 = .ok (.bipush 14, 2) := by decide +kernel
theorem dX13_fillTable_293 : decode cX13_fillTable 293 = .ok (.iconst 3, 1) := by decide +kernel
theorem dX13_fillTable_294 : decode cX13_fillTable 294 = .ok (.iconst 2, 1) := by decide +kernel
theorem dX13_fillTable_295 : decode cX13_fillTable 295 = .ok (.iconst 0, 1) := by decide +kernel
theorem dX13_fillTable_296 : decode cX13_fillTable 296 = .ok (.bipush 99, 2) := by decide +kernel
theorem dX13_fillTable_298 : decode cX13_fillTable 298 = .ok (.bipush 9, 2) := by decide +kernel
theorem dX13_fillTable_300 : decode cX13_fillTable 300 = .ok (.iconst 0, 1) := by decide +kernel
theorem dX13_fillTable_301 : decode cX13_fillTable 301 = .ok (.invokevirtual 1103, 3) := by decide +kernel
theorem dX13_fillTable_304 : decode cX13_fillTable 304 = .ok (.iconst 2, 1) := by decide +kernel
theorem dX13_fillTable_305 : decode cX13_fillTable 305 = .ok (.istore_n 1, 1) := by decide +kernel
theorem dX13_fillTable_306 : decode cX13_fillTable 306 = .ok (.iload_n 1, 1) := by decide +kernel
theorem dX13_fillTable_307 : decode cX13_fillTable 307 = .ok (.bipush 8, 2) := by decide +kernel
theorem dX13_fillTable_309 : decode cX13_fillTable 309 = .ok (.if_icmp .ge 26, 3) := by decide +kernel
theorem dX13_fillTable_312 : decode cX13_fillTable 312 = .ok (.aload_n 0, 1) := by decide +kernel
theorem dX13_fillTable_313 : decode cX13_fillTable 313 = .ok (.bipush 13, 2) := by decide +kernel
theorem dX13_fillTable_315 : decode cX13_fillTable 315 = .ok (.iload_n 1, 1) := by decide +kernel
theorem dX13_fillTable_316 : decode cX13_fillTable 316 = .ok (.iadd, 1) := by decide +kernel
theorem dX13_fillTable_317 : decode cX13_fillTable 317 = .ok (.iconst 0, 1) := by decide +kernel
theorem dX13_fillTable_318 : decode cX13_fillTable 318 = .ok (.bipush 8, 2) := by decide +kernel
theorem dX13_fillTable_320 : decode cX13_fillTable 320 = .ok (.iconst 0, 1) := by decide +kernel
theorem dX13_fillTable_321 : decode cX13_fillTable 321 = .ok (.sipush 246, 3) := by decide +kernel
theorem dX13_fillTable_324 : decode cX13_fillTable 324 = .ok (.iload_n 1, 1) := by decide +kernel
theorem dX13_fillTable_325 : decode cX13_fillTable 325 = .ok (.iconst 0, 1) := by decide +kernel
theorem dX13_fillTable_326 : decode cX13_fillTable 326 = .ok (.invokevirtual 1103, 3) := by decide +kernel
theorem dX13_fillTable_329 : decode cX13_fillTable 329 = .ok (.iinc 1 1, 3) := by decide +kernel
theorem dX13_fillTable_332 : decode cX13_fillTable 332 = .ok (.goto (-26), 3) := by decide +kernel
theorem dX13_fillTable_335 : decode cX13_fillTable 335 = .ok (.aload_n 0, 1) := by decide +kernel
theorem dX13_fillTable_336 : decode cX13_fillTable 336 = .ok (.bipush 21, 2) := by decide +kernel
theorem dX13_fillTable_338 : decode cX13_fillTable 338 = .ok (.iconst 0, 1) := by decide +kernel
theorem dX13_fillTable_339 : decode cX13_fillTable 339 = .ok (.bipush 8, 2) := by decide +kernel
theorem dX13_fillTable_341 : decode cX13_fillTable 341 = .ok (.iconst 0, 1) := by decide +kernel
theorem dX13_fillTable_342 : decode cX13_fillTable 342 = .ok (.sipush 254, 3) := by decide +kernel
theorem dX13_fillTable_345 : decode cX13_fillTable 345 = .ok (.iconst 0, 1) := by decide +kernel
theorem dX13_fillTable_346 : decode cX13_fillTable 346 = .ok (.iconst 0, 1) := by decide +kernel
theorem dX13_fillTable_347 : decode cX13_fillTable 347 = .ok (.invokevirtual 1103, 3) := by decide +kernel
theorem dX13_fillTable_350 : decode cX13_fillTable 350 = .ok (.aload_n 0, 1) := by decide +kernel
theorem dX13_fillTable_351 : decode cX13_fillTable 351 = .ok (.bipush 22, 2) := by decide +kernel
theorem dX13_fillTable_353 : decode cX13_fillTable 353 = .ok (.iconst 0, 1) := by decide +kernel
theorem dX13_fillTable_354 : decode cX13_fillTable 354 = .ok (.bipush 8, 2) := by decide +kernel
theorem dX13_fillTable_356 : decode cX13_fillTable 356 = .ok (.iconst 0, 1) := by decide +kernel
theorem dX13_fillTable_357 : decode cX13_fillTable 357 = .ok (.sipush 254, 3) := by decide +kernel
theorem dX13_fillTable_360 : decode cX13_fillTable 360 = .ok (.iconst 1, 1) := by decide +kernel
theorem dX13_fillTable_361 : decode cX13_fillTable 361 = .ok (.iconst 0, 1) := by decide +kernel
theorem dX13_fillTable_362 : decode cX13_fillTable 362 = .ok (.invokevirtual 1103, 3) := by decide +kernel
theorem dX13_fillTable_365 : decode cX13_fillTable 365 = .ok (.aload_n 0, 1) := by decide +kernel
theorem dX13_fillTable_366 : decode cX13_fillTable 366 = .ok (.bipush 23, 2) := by decide +kernel
theorem dX13_fillTable_368 : decode cX13_fillTable 368 = .ok (.iconst 1, 1) := by decide +kernel
theorem dX13_fillTable_369 : decode cX13_fillTable 369 = .ok (.iconst 2, 1) := by decide +kernel
theorem dX13_fillTable_370 : decode cX13_fillTable 370 = .ok (.bipush 15, 2) := by decide +kernel
theorem dX13_fillTable_372 : decode cX13_fillTable 372 = .ok (.sipush 175, 3) := by decide +kernel
theorem dX13_fillTable_375 : decode cX13_fillTable 375 = .ok (.bipush 9, 2) := by decide +kernel
theorem dX13_fillTable_377 : decode cX13_fillTable 377 = .ok (.iconst 0, 1) := by decide +kernel
theorem dX13_fillTable_378 : decode cX13_fillTable 378 = .ok (.invokevirtual 1103, 3) := by decide +kernel
theorem dX13_fillTable_381 : decode cX13_fillTable 381 = .ok (.aload_n 0, 1) := by decide +kernel
theorem dX13_fillTable_382 : decode cX13_fillTable 382 = .ok (.bipush 23, 2) := by decide +kernel
theorem dX13_fillTable_384 : decode cX13_fillTable 384 = .ok (.iconst 1, 1) := by decide +kernel
theorem dX13_fillTable_385 : decode cX13_fillTable 385 = .ok (.bipush 9, 2) := by decide +kernel
theorem dX13_fillTable_387 : decode cX13_fillTable 387 = .ok (.iconst 0, 1) := by decide +kernel
theorem dX13_fillTable_388 : decode cX13_fillTable 388 = .ok (.bipush 105, 2) := by decide +kernel
theorem dX13_fillTable_390 : decode cX13_fillTable 390 = .ok (.bipush 9, 2) := by decide +kernel
theorem dX13_fillTable_392 : decode cX13_fillTable 392 = .ok (.iconst 3, 1) := by decide +kernel
theorem dX13_fillTable_393 : decode cX13_fillTable 393 = .ok (.invokevirtual 1103, 3) := by decide +kernel
theorem dX13_fillTable_396 : decode cX13_fillTable 396 = .ok (.aload_n 0, 1) := by decide +kernel
theorem dX13_fillTable_397 : decode cX13_fillTable 397 = .ok (.bipush 23, 2) := by decide +kernel
theorem dX13_fillTable_399 : decode cX13_fillTable 399 = .ok (.iconst 1, 1) := by decide +kernel
theorem dX13_fillTable_400 : decode cX13_fillTable 400 = .ok (.bipush 9, 2) := by decide +kernel
theorem dX13_fillTable_402 : decode cX13_fillTable 402 = .ok (.iconst 0, 1) := by decide +kernel
theorem dX13_fillTable_403 : decode cX13_fillTable 403 = .ok (.bipush 107, 2) := by decide +kernel
theorem dX13_fillTable_405 : decode cX13_fillTable 405 = .ok (.bipush 9, 2) := by decide +kernel
theorem dX13_fillTable_407 : decode cX13_fillTable 407 = .ok (.iconst 2, 1) := by decide +kernel
theorem dX13_fillTable_408 : decode cX13_fillTable 408 = .ok (.invokevirtual 1103, 3) := by decide +kernel
theorem dX13_fillTable_411 : decode cX13_fillTable 411 = .ok (.iconst 0, 1) := by decide +kernel
theorem dX13_fillTable_412 : decode cX13_fillTable 412 = .ok (.istore_n 1, 1) := by decide +kernel
theorem dX13_fillTable_413 : decode cX13_fillTable 413 = .ok (.iload_n 1, 1) := by decide +kernel
theorem dX13_fillTable_414 : decode cX13_fillTable 414 = .ok (.iconst 5, 1) := by decide +kernel
theorem dX13_fillTable_415 : decode cX13_fillTable 415 = .ok (.if_icmp .ge 83, 3) := by decide +kernel
theorem dX13_fillTable_418 : decode cX13_fillTable 418 = .ok (.iload_n 1, 1) := by decide +kernel
theorem dX13_fillTable_419 : decode cX13_fillTable 419 = .ok (.iconst 2, 1) := by decide +kernel
theorem dX13_fillTable_420 : decode cX13_fillTable 420 = .ok (.if_icmp .ge 7, 3) := by decide +kernel
theorem dX13_fillTable_423 : decode cX13_fillTable 423 = .ok (.iload_n 1, 1) := by decide +kernel
theorem dX13_fillTable_424 : decode cX13_fillTable 424 = .ok (.goto 16, 3) := by decide +kernel
theorem dX13_fillTable_427 : decode cX13_fillTable 427 = .ok (.iload_n 1, 1) := by decide +kernel
theorem dX13_fillTable_428 : decode cX13_fillTable 428 = .ok (.iconst 4, 1) := by decide +kernel
theorem dX13_fillTable_429 : decode cX13_fillTable 429 = .ok (.if_icmp .ge 9, 3) := by decide +kernel
theorem dX13_fillTable_432 : decode cX13_fillTable 432 = .ok (.iload_n 1, 1) := by decide +kernel
theorem dX13_fillTable_433 : decode cX13_fillTable 433 = .ok (.iconst 2, 1) := by decide +kernel
theorem dX13_fillTable_434 : decode cX13_fillTable 434 = .ok (.iadd, 1) := by decide +kernel
theorem dX13_fillTable_435 : decode cX13_fillTable 435 = .ok (.goto 5, 3) := by decide +kernel
theorem dX13_fillTable_438 : decode cX13_fillTable 438 = .ok (.bipush 7, 2) := by decide +kernel
theorem dX13_fillTable_440 : decode cX13_fillTable 440 = .ok (.istore_n 2, 1) := by decide +kernel
theorem dX13_fillTable_441 : decode cX13_fillTable 441 = .ok (.aload_n 0, 1) := by decide +kernel
theorem dX13_fillTable_442 : decode cX13_fillTable 442 = .ok (.bipush 24, 2) := by decide +kernel
theorem dX13_fillTable_444 : decode cX13_fillTable 444 = .ok (.iload_n 1, 1) := by decide +kernel
theorem dX13_fillTable_445 : decode cX13_fillTable 445 = .ok (.iadd, 1) := by decide +kernel
theorem dX13_fillTable_446 : decode cX13_fillTable 446 = .ok (.iconst 0, 1) := by decide +kernel
theorem dX13_fillTable_447 : decode cX13_fillTable 447 = .ok (.iconst 4, 1) := by decide +kernel
theorem dX13_fillTable_448 : decode cX13_fillTable 448 = .ok (.iconst 0, 1) := by decide +kernel
theorem dX13_fillTable_449 : decode cX13_fillTable 449 = .ok (.sipush 192, 3) := by decide +kernel
theorem dX13_fillTable_452 : decode cX13_fillTable 452 = .ok (.iload_n 2, 1) := by decide +kernel
theorem dX13_fillTable_453 : decode cX13_fillTable 453 = .ok (.bipush 6, 2) := by decide +kernel
theorem dX13_fillTable_455 : decode cX13_fillTable 455 = .ok (.invokevirtual 1103, 3) := by decide +kernel
theorem dX13_fillTable_458 : decode cX13_fillTable 458 = .ok (.aload_n 0, 1) := by decide +kernel
theorem dX13_fillTable_459 : decode cX13_fillTable 459 = .ok (.bipush 24, 2) := by decide +kernel
theorem dX13_fillTable_461 : decode cX13_fillTable 461 = .ok (.iload_n 1, 1) := by decide +kernel
theorem dX13_fillTable_462 : decode cX13_fillTable 462 = .ok (.iadd, 1) := by decide +kernel
theorem dX13_fillTable_463 : decode cX13_fillTable 463 = .ok (.iconst 0, 1) := by decide +kernel
theorem dX13_fillTable_464 : decode cX13_fillTable 464 = .ok (.bipush 11, 2) := by decide +kernel
theorem dX13_fillTable_466 : decode cX13_fillTable 466 = .ok (.iconst 0, 1) := by decide +kernel
theorem dX13_fillTable_467 : decode cX13_fillTable 467 = .ok (.sipush 208, 3) := by decide +kernel
theorem dX13_fillTable_470 : decode cX13_fillTable 470 = .ok (.iload_n 2, 1) := by decide +kernel
theorem dX13_fillTable_471 : decode cX13_fillTable 471 = .ok (.iconst 0, 1) := by decide +kernel
theorem dX13_fillTable_472 : decode cX13_fillTable 472 = .ok (.invokevirtual 1103, 3) := by decide +kernel
theorem dX13_fillTable_475 : decode cX13_fillTable 475 = .ok (.aload_n 0, 1) := by decide +kernel
theorem dX13_fillTable_476 : decode cX13_fillTable 476 = .ok (.bipush 24, 2) := by decide +kernel
theorem dX13_fillTable_478 : decode cX13_fillTable 478 = .ok (.iload_n 1, 1) := by decide +kernel
theorem dX13_fillTable_479 : decode cX13_fillTable 479 = .ok (.iadd, 1) := by decide +kernel
theorem dX13_fillTable_480 : decode cX13_fillTable 480 = .ok (.iconst 0, 1) := by decide +kernel
theorem dX13_fillTable_481 : decode cX13_fillTable 481 = .ok (.bipush 12, 2) := by decide +kernel
theorem dX13_fillTable_483 : decode cX13_fillTable 483 = .ok (.iconst 0, 1) := by decide +kernel
theorem dX13_fillTable_484 : decode cX13_fillTable 484 = .ok (.sipush 210, 3) := by decide +kernel
theorem dX13_fillTable_487 : decode cX13_fillTable 487 = .ok (.iload_n 2, 1) := by decide +kernel
theorem dX13_fillTable_488 : decode cX13_fillTable 488 = .ok (.iconst 0, 1) := by decide +kernel
theorem dX13_fillTable_489 : decode cX13_fillTable 489 = .ok (.invokevirtual 1103, 3) := by decide +kernel
theorem dX13_fillTable_492 : decode cX13_fillTable 492 = .ok (.iinc 1 1, 3) := by decide +kernel
theorem dX13_fillTable_495 : decode cX13_fillTable 495 = .ok (.goto (-82), 3) := by decide +kernel
theorem dX13_fillTable_498 : decode cX13_fillTable 498 = .ok (.aload_n 0, 1) := by decide +kernel
theorem dX13_fillTable_499 : decode cX13_fillTable 499 = .ok (.invokevirtual 1107, 3) := by decide +kernel
theorem dX13_fillTable_502 : decode cX13_fillTable 502 = .ok (.return_, 1) := by decide +kernel
theorem dX13_fillRest_0 : decode cX13_fillRest 0 = .ok (.aload_n 0, 1) := by decide +kernel
theorem dX13_fillRest_1 : decode cX13_fillRest 1 = .ok (.bipush 29, 2) := by decide +kernel
theorem dX13_fillRest_3 : decode cX13_fillRest 3 = .ok (.iconst 2, 1) := by decide +kernel
theorem dX13_fillRest_4 : decode cX13_fillRest 4 = .ok (.iconst 5, 1) := by decide +kernel
theorem dX13_fillRest_5 : decode cX13_fillRest 5 = .ok (.iconst 0, 1) := by decide +kernel
theorem dX13_fillRest_6 : decode cX13_fillRest 6 = .ok (.bipush 80, 2) := by decide +kernel
theorem dX13_fillRest_8 : decode cX13_fillRest 8 = .ok (.bipush 9, 2) := by decide +kernel
theorem dX13_fillRest_10 : decode cX13_fillRest 10 = .ok (.iconst 0, 1) := by decide +kernel
theorem dX13_fillRest_11 : decode cX13_fillRest 11 = .ok (.invokevirtual 1103, 3) := by decide +kernel
theorem dX13_fillRest_14 : decode cX13_fillRest 14 = .ok (.aload_n 0, 1) := by decide +kernel
theorem dX13_fillRest_15 : decode cX13_fillRest 15 = .ok (.bipush 29, 2) := by decide +kernel
theorem dX13_fillRest_17 : decode cX13_fillRest 17 = .ok (.iconst 2, 1) := by decide +kernel
theorem dX13_fillRest_18 : decode cX13_fillRest 18 = .ok (.bipush 10, 2) := by decide +kernel
theorem dX13_fillRest_20 : decode cX13_fillRest 20 = .ok (.iconst 0, 1) := by decide +kernel
theorem dX13_fillRest_21 : decode cX13_fillRest 21 = .ok (.bipush 104, 2) := by decide +kernel
theorem dX13_fillRest_23 : decode cX13_fillRest 23 = .ok (.bipush 9, 2) := by decide +kernel
theorem dX13_fillRest_25 : decode cX13_fillRest 25 = .ok (.iconst 3, 1) := by decide +kernel
theorem dX13_fillRest_26 : decode cX13_fillRest 26 = .ok (.invokevirtual 1103, 3) := by decide +kernel
theorem dX13_fillRest_29 : decode cX13_fillRest 29 = .ok (.aload_n 0, 1) := by decide +kernel
theorem dX13_fillRest_30 : decode cX13_fillRest 30 = .ok (.bipush 29, 2) := by decide +kernel
theorem dX13_fillRest_32 : decode cX13_fillRest 32 = .ok (.iconst 2, 1) := by decide +kernel
theorem dX13_fillRest_33 : decode cX13_fillRest 33 = .ok (.bipush 10, 2) := by decide +kernel
theorem dX13_fillRest_35 : decode cX13_fillRest 35 = .ok (.iconst 0, 1) := by decide +kernel
theorem dX13_fillRest_36 : decode cX13_fillRest 36 = .ok (.bipush 106, 2) := by decide +kernel
theorem dX13_fillRest_38 : decode cX13_fillRest 38 = .ok (.bipush 9, 2) := by decide +kernel
theorem dX13_fillRest_40 : decode cX13_fillRest 40 = .ok (.iconst 2, 1) := by decide +kernel
theorem dX13_fillRest_41 : decode cX13_fillRest 41 = .ok (.invokevirtual 1103, 3) := by decide +kernel
theorem dX13_fillRest_44 : decode cX13_fillRest 44 = .ok (.aload_n 0, 1) := by decide +kernel
theorem dX13_fillRest_45 : decode cX13_fillRest 45 = .ok (.bipush 29, 2) := by decide +kernel
theorem dX13_fillRest_47 : decode cX13_fillRest 47 = .ok (.iconst 2, 1) := by decide +kernel
theorem dX13_fillRest_48 : decode cX13_fillRest 48 = .ok (.bipush 8, 2) := by decide +kernel
theorem dX13_fillRest_50 : decode cX13_fillRest 50 = .ok (.iconst 0, 1) := by decide +kernel
theorem dX13_fillRest_51 : decode cX13_fillRest 51 = .ok (.sipush 255, 3) := by decide +kernel
theorem dX13_fillRest_54 : decode cX13_fillRest 54 = .ok (.bipush 6, 2) := by decide +kernel
theorem dX13_fillRest_56 : decode cX13_fillRest 56 = .ok (.iconst 0, 1) := by decide +kernel
theorem dX13_fillRest_57 : decode cX13_fillRest 57 = .ok (.invokevirtual 1103, 3) := by decide +kernel
theorem dX13_fillRest_60 : decode cX13_fillRest 60 = .ok (.aload_n 0, 1) := by decide +kernel
theorem dX13_fillRest_61 : decode cX13_fillRest 61 = .ok (.bipush 30, 2) := by decide +kernel
theorem dX13_fillRest_63 : decode cX13_fillRest 63 = .ok (.iconst 2, 1) := by decide +kernel
theorem dX13_fillRest_64 : decode cX13_fillRest 64 = .ok (.iconst 5, 1) := by decide +kernel
theorem dX13_fillRest_65 : decode cX13_fillRest 65 = .ok (.iconst 0, 1) := by decide +kernel
theorem dX13_fillRest_66 : decode cX13_fillRest 66 = .ok (.bipush 88, 2) := by decide +kernel
theorem dX13_fillRest_68 : decode cX13_fillRest 68 = .ok (.bipush 9, 2) := by decide +kernel
theorem dX13_fillRest_70 : decode cX13_fillRest 70 = .ok (.iconst 0, 1) := by decide +kernel
theorem dX13_fillRest_71 : decode cX13_fillRest 71 = .ok (.invokevirtual 1103, 3) := by decide +kernel
theorem dX13_fillRest_74 : decode cX13_fillRest 74 = .ok (.aload_n 0, 1) := by decide +kernel
theorem dX13_fillRest_75 : decode cX13_fillRest 75 = .ok (.bipush 30, 2) := by decide +kernel
theorem dX13_fillRest_77 : decode cX13_fillRest 77 = .ok (.iconst 2, 1) := by decide +kernel
theorem dX13_fillRest_78 : decode cX13_fillRest 78 = .ok (.bipush 8, 2) := by decide +kernel
theorem dX13_fillRest_80 : decode cX13_fillRest 80 = .ok (.iconst 0, 1) := by decide +kernel
theorem dX13_fillRest_81 : decode cX13_fillRest 81 = .ok (.sipush 143, 3) := by decide +kernel
theorem dX13_fillRest_84 : decode cX13_fillRest 84 = .ok (.iconst 0, 1) := by decide +kernel
theorem dX13_fillRest_85 : decode cX13_fillRest 85 = .ok (.iconst 0, 1) := by decide +kernel
theorem dX13_fillRest_86 : decode cX13_fillRest 86 = .ok (.invokevirtual 1103, 3) := by decide +kernel
theorem dX13_fillRest_89 : decode cX13_fillRest 89 = .ok (.aload_n 0, 1) := by decide +kernel
theorem dX13_fillRest_90 : decode cX13_fillRest 90 = .ok (.bipush 31, 2) := by decide +kernel
theorem dX13_fillRest_92 : decode cX13_fillRest 92 = .ok (.iconst 4, 1) := by decide +kernel
theorem dX13_fillRest_93 : decode cX13_fillRest 93 = .ok (.bipush 8, 2) := by decide +kernel
theorem dX13_fillRest_95 : decode cX13_fillRest 95 = .ok (.iconst 0, 1) := by decide +kernel
theorem dX13_fillRest_96 : decode cX13_fillRest 96 = .ok (.sipush 255, 3) := by decide +kernel
theorem dX13_fillRest_99 : decode cX13_fillRest 99 = .ok (.iconst 4, 1) := by decide +kernel
theorem dX13_fillRest_100 : decode cX13_fillRest 100 = .ok (.iconst 0, 1) := by decide +kernel
theorem dX13_fillRest_101 : decode cX13_fillRest 101 = .ok (.invokevirtual 1103, 3) := by decide +kernel
theorem dX13_fillRest_104 : decode cX13_fillRest 104 = .ok (.aload_n 0, 1) := by decide +kernel
theorem dX13_fillRest_105 : decode cX13_fillRest 105 = .ok (.bipush 32, 2) := by decide +kernel
theorem dX13_fillRest_107 : decode cX13_fillRest 107 = .ok (.iconst 4, 1) := by decide +kernel
theorem dX13_fillRest_108 : decode cX13_fillRest 108 = .ok (.bipush 8, 2) := by decide +kernel
theorem dX13_fillRest_110 : decode cX13_fillRest 110 = .ok (.iconst 0, 1) := by decide +kernel
theorem dX13_fillRest_111 : decode cX13_fillRest 111 = .ok (.sipush 255, 3) := by decide +kernel
theorem dX13_fillRest_114 : decode cX13_fillRest 114 = .ok (.iconst 2, 1) := by decide +kernel
theorem dX13_fillRest_115 : decode cX13_fillRest 115 = .ok (.iconst 0, 1) := by decide +kernel
theorem dX13_fillRest_116 : decode cX13_fillRest 116 = .ok (.invokevirtual 1103, 3) := by decide +kernel
theorem dX13_fillRest_119 : decode cX13_fillRest 119 = .ok (.aload_n 0, 1) := by decide +kernel
theorem dX13_fillRest_120 : decode cX13_fillRest 120 = .ok (.bipush 33, 2) := by decide +kernel
theorem dX13_fillRest_122 : decode cX13_fillRest 122 = .ok (.iconst 4, 1) := by decide +kernel
theorem dX13_fillRest_123 : decode cX13_fillRest 123 = .ok (.iconst 0, 1) := by decide +kernel
theorem dX13_fillRest_124 : decode cX13_fillRest 124 = .ok (.iconst 0, 1) := by decide +kernel
theorem dX13_fillRest_125 : decode cX13_fillRest 125 = .ok (.sipush 195, 3) := by decide +kernel
theorem dX13_fillRest_128 : decode cX13_fillRest 128 = .ok (.bipush 9, 2) := by decide +kernel
theorem dX13_fillRest_130 : decode cX13_fillRest 130 = .ok (.iconst 0, 1) := by decide +kernel
theorem dX13_fillRest_131 : decode cX13_fillRest 131 = .ok (.invokevirtual 1103, 3) := by decide +kernel
theorem dX13_fillRest_134 : decode cX13_fillRest 134 = .ok (.aload_n 0, 1) := by decide +kernel
theorem dX13_fillRest_135 : decode cX13_fillRest 135 = .ok (.bipush 33, 2) := by decide +kernel
theorem dX13_fillRest_137 : decode cX13_fillRest 137 = .ok (.iconst 4, 1) := by decide +kernel
theorem dX13_fillRest_138 : decode cX13_fillRest 138 = .ok (.bipush 10, 2) := by decide +kernel
theorem dX13_fillRest_140 : decode cX13_fillRest 140 = .ok (.iconst 0, 1) := by decide +kernel
theorem dX13_fillRest_141 : decode cX13_fillRest 141 = .ok (.sipush 194, 3) := by decide +kernel
theorem dX13_fillRest_144 : decode cX13_fillRest 144 = .ok (.bipush 9, 2) := by decide +kernel
theorem dX13_fillRest_146 : decode cX13_fillRest 146 = .ok (.iconst 5, 1) := by decide +kernel
theorem dX13_fillRest_147 : decode cX13_fillRest 147 = .ok (.invokevirtual 1103, 3) := by decide +kernel
theorem dX13_fillRest_150 : decode cX13_fillRest 150 = .ok (.aload_n 0, 1) := by decide +kernel
theorem dX13_fillRest_151 : decode cX13_fillRest 151 = .ok (.bipush 35, 2) := by decide +kernel
theorem dX13_fillRest_153 : decode cX13_fillRest 153 = .ok (.iconst 5, 1) := by decide +kernel
theorem dX13_fillRest_154 : decode cX13_fillRest 154 = .ok (.bipush 8, 2) := by decide +kernel
theorem dX13_fillRest_156 : decode cX13_fillRest 156 = .ok (.bipush 15, 2) := by decide +kernel
theorem dX13_fillRest_158 : decode cX13_fillRest 158 = .ok (.sipush 144, 3) := by decide +kernel
theorem dX13_fillRest_161 : decode cX13_fillRest 161 = .ok (.bipush 8, 2) := by decide +kernel
theorem dX13_fillRest_163 : decode cX13_fillRest 163 = .ok (.iconst 0, 1) := by decide +kernel
theorem dX13_fillRest_164 : decode cX13_fillRest 164 = .ok (.invokevirtual 1103, 3) := by decide +kernel
theorem dX13_fillRest_167 : decode cX13_fillRest 167 = .ok (.aload_n 0, 1) := by decide +kernel
theorem dX13_fillRest_168 : decode cX13_fillRest 168 = .ok (.bipush 36, 2) := by decide +kernel
theorem dX13_fillRest_170 : decode cX13_fillRest 170 = .ok (.iconst 1, 1) := by decide +kernel
theorem dX13_fillRest_171 : decode cX13_fillRest 171 = .ok (.iconst 2, 1) := by decide +kernel
theorem dX13_fillRest_172 : decode cX13_fillRest 172 = .ok (.bipush 15, 2) := by decide +kernel
theorem dX13_fillRest_174 : decode cX13_fillRest 174 = .ok (.bipush 64, 2) := by decide +kernel
theorem dX13_fillRest_176 : decode cX13_fillRest 176 = .ok (.bipush 9, 2) := by decide +kernel
theorem dX13_fillRest_178 : decode cX13_fillRest 178 = .ok (.iconst 0, 1) := by decide +kernel
theorem dX13_fillRest_179 : decode cX13_fillRest 179 = .ok (.invokevirtual 1103, 3) := by decide +kernel
theorem dX13_fillRest_182 : decode cX13_fillRest 182 = .ok (.aload_n 0, 1) := by decide +kernel
theorem dX13_fillRest_183 : decode cX13_fillRest 183 = .ok (.bipush 37, 2) := by decide +kernel
theorem dX13_fillRest_185 : decode cX13_fillRest 185 = .ok (.iconst 1, 1) := by decide +kernel
theorem dX13_fillRest_186 : decode cX13_fillRest 186 = .ok (.iconst 0, 1) := by decide +kernel
theorem dX13_fillRest_187 : decode cX13_fillRest 187 = .ok (.iconst 0, 1) := by decide +kernel
theorem dX13_fillRest_188 : decode cX13_fillRest 188 = .ok (.sipush 153, 3) := by decide +kernel
theorem dX13_fillRest_191 : decode cX13_fillRest 191 = .ok (.bipush 9, 2) := by decide +kernel
theorem dX13_fillRest_193 : decode cX13_fillRest 193 = .ok (.iconst 0, 1) := by decide +kernel
theorem dX13_fillRest_194 : decode cX13_fillRest 194 = .ok (.invokevirtual 1103, 3) := by decide +kernel
theorem dX13_fillRest_197 : decode cX13_fillRest 197 = .ok (.aload_n 0, 1) := by decide +kernel
theorem dX13_fillRest_198 : decode cX13_fillRest 198 = .ok (.bipush 38, 2) := by decide +kernel
theorem dX13_fillRest_200 : decode cX13_fillRest 200 = .ok (.iconst 1, 1) := by decide +kernel
theorem dX13_fillRest_201 : decode cX13_fillRest 201 = .ok (.iconst 0, 1) := by decide +kernel
theorem dX13_fillRest_202 : decode cX13_fillRest 202 = .ok (.iconst 0, 1) := by decide +kernel
theorem dX13_fillRest_203 : decode cX13_fillRest 203 = .ok (.sipush 152, 3) := by decide +kernel
theorem dX13_fillRest_206 : decode cX13_fillRest 206 = .ok (.bipush 9, 2) := by decide +kernel
theorem dX13_fillRest_208 : decode cX13_fillRest 208 = .ok (.iconst 0, 1) := by decide +kernel
theorem dX13_fillRest_209 : decode cX13_fillRest 209 = .ok (.invokevirtual 1103, 3) := by decide +kernel
theorem dX13_fillRest_212 : decode cX13_fillRest 212 = .ok (.aload_n 0, 1) := by decide +kernel
theorem dX13_fillRest_213 : decode cX13_fillRest 213 = .ok (.bipush 39, 2) := by decide +kernel
theorem dX13_fillRest_215 : decode cX13_fillRest 215 = .ok (.iconst 4, 1) := by decide +kernel
theorem dX13_fillRest_216 : decode cX13_fillRest 216 = .ok (.iconst 0, 1) := by decide +kernel
theorem dX13_fillRest_217 : decode cX13_fillRest 217 = .ok (.iconst 0, 1) := by decide +kernel
theorem dX13_fillRest_218 : decode cX13_fillRest 218 = .ok (.sipush 144, 3) := by decide +kernel
theorem dX13_fillRest_221 : decode cX13_fillRest 221 = .ok (.bipush 9, 2) := by decide +kernel
theorem dX13_fillRest_223 : decode cX13_fillRest 223 = .ok (.iconst 0, 1) := by decide +kernel
theorem dX13_fillRest_224 : decode cX13_fillRest 224 = .ok (.invokevirtual 1103, 3) := by decide +kernel
theorem dX13_fillRest_227 : decode cX13_fillRest 227 = .ok (.aload_n 0, 1) := by decide +kernel
theorem dX13_fillRest_228 : decode cX13_fillRest 228 = .ok (.bipush 40, 2) := by decide +kernel
theorem dX13_fillRest_230 : decode cX13_fillRest 230 = .ok (.iconst 4, 1) := by decide +kernel
theorem dX13_fillRest_231 : decode cX13_fillRest 231 = .ok (.iconst 0, 1) := by decide +kernel
theorem dX13_fillRest_232 : decode cX13_fillRest 232 = .ok (.iconst 0, 1) := by decide +kernel
theorem dX13_fillRest_233 : decode cX13_fillRest 233 = .ok (.sipush 204, 3) := by decide +kernel
theorem dX13_fillRest_236 : decode cX13_fillRest 236 = .ok (.bipush 9, 2) := by decide +kernel
theorem dX13_fillRest_238 : decode cX13_fillRest 238 = .ok (.iconst 0, 1) := by decide +kernel
theorem dX13_fillRest_239 : decode cX13_fillRest 239 = .ok (.invokevirtual 1103, 3) := by decide +kernel
theorem dX13_fillRest_242 : decode cX13_fillRest 242 = .ok (.aload_n 0, 1) := by decide +kernel
theorem dX13_fillRest_243 : decode cX13_fillRest 243 = .ok (.bipush 41, 2) := by decide +kernel
theorem dX13_fillRest_245 : decode cX13_fillRest 245 = .ok (.iconst 4, 1) := by decide +kernel
theorem dX13_fillRest_246 : decode cX13_fillRest 246 = .ok (.iconst 0, 1) := by decide +kernel
theorem dX13_fillRest_247 : decode cX13_fillRest 247 = .ok (.bipush 15, 2) := by decide +kernel
theorem dX13_fillRest_249 : decode cX13_fillRest 249 = .ok (.bipush 11, 2) := by decide +kernel
theorem dX13_fillRest_251 : decode cX13_fillRest 251 = .ok (.bipush 9, 2) := by decide +kernel
theorem dX13_fillRest_253 : decode cX13_fillRest 253 = .ok (.iconst 0, 1) := by decide +kernel
theorem dX13_fillRest_254 : decode cX13_fillRest 254 = .ok (.invokevirtual 1103, 3) := by decide +kernel
theorem dX13_fillRest_257 : decode cX13_fillRest 257 = .ok (.aload_n 0, 1) := by decide +kernel
theorem dX13_fillRest_258 : decode cX13_fillRest 258 = .ok (.bipush 42, 2) := by decide +kernel
theorem dX13_fillRest_260 : decode cX13_fillRest 260 = .ok (.iconst 4, 1) := by decide +kernel
theorem dX13_fillRest_261 : decode cX13_fillRest 261 = .ok (.iconst 0, 1) := by decide +kernel
theorem dX13_fillRest_262 : decode cX13_fillRest 262 = .ok (.bipush 15, 2) := by decide +kernel
theorem dX13_fillRest_264 : decode cX13_fillRest 264 = .ok (.iconst 5, 1) := by decide +kernel
theorem dX13_fillRest_265 : decode cX13_fillRest 265 = .ok (.bipush 9, 2) := by decide +kernel
theorem dX13_fillRest_267 : decode cX13_fillRest 267 = .ok (.iconst 0, 1) := by decide +kernel
theorem dX13_fillRest_268 : decode cX13_fillRest 268 = .ok (.invokevirtual 1103, 3) := by decide +kernel
theorem dX13_fillRest_271 : decode cX13_fillRest 271 = .ok (.aload_n 0, 1) := by decide +kernel
theorem dX13_fillRest_272 : decode cX13_fillRest 272 = .ok (.bipush 43, 2) := by decide +kernel
theorem dX13_fillRest_274 : decode cX13_fillRest 274 = .ok (.iconst 4, 1) := by decide +kernel
theorem dX13_fillRest_275 : decode cX13_fillRest 275 = .ok (.iconst 0, 1) := by decide +kernel
theorem dX13_fillRest_276 : decode cX13_fillRest 276 = .ok (.iconst 0, 1) := by decide +kernel
theorem dX13_fillRest_277 : decode cX13_fillRest 277 = .ok (.sipush 201, 3) := by decide +kernel
theorem dX13_fillRest_280 : decode cX13_fillRest 280 = .ok (.bipush 9, 2) := by decide +kernel
theorem dX13_fillRest_282 : decode cX13_fillRest 282 = .ok (.iconst 0, 1) := by decide +kernel
theorem dX13_fillRest_283 : decode cX13_fillRest 283 = .ok (.invokevirtual 1103, 3) := by decide +kernel
theorem dX13_fillRest_286 : decode cX13_fillRest 286 = .ok (.aload_n 0, 1) := by decide +kernel
theorem dX13_fillRest_287 : decode cX13_fillRest 287 = .ok (.bipush 44, 2) := by decide +kernel
theorem dX13_fillRest_289 : decode cX13_fillRest 289 = .ok (.iconst 1, 1) := by decide +kernel
theorem dX13_fillRest_290 : decode cX13_fillRest 290 = .ok (.iconst 2, 1) := by decide +kernel
theorem dX13_fillRest_291 : decode cX13_fillRest 291 = .ok (.bipush 15, 2) := by decide +kernel
theorem dX13_fillRest_293 : decode cX13_fillRest 293 = .ok (.sipush 188, 3) := by decide +kernel
theorem dX13_fillRest_296 : decode cX13_fillRest 296 = .ok (.bipush 9, 2) := by decide +kernel
theorem dX13_fillRest_298 : decode cX13_fillRest 298 = .ok (.iconst 0, 1) := by decide +kernel
theorem dX13_fillRest_299 : decode cX13_fillRest 299 = .ok (.invokevirtual 1103, 3) := by decide +kernel
theorem dX13_fillRest_302 : decode cX13_fillRest 302 = .ok (.aload_n 0, 1) := by decide +kernel
theorem dX13_fillRest_303 : decode cX13_fillRest 303 = .ok (.bipush 45, 2) := by decide +kernel
theorem dX13_fillRest_305 : decode cX13_fillRest 305 = .ok (.iconst 1, 1) := by decide +kernel
theorem dX13_fillRest_306 : decode cX13_fillRest 306 = .ok (.iconst 2, 1) := by decide +kernel
theorem dX13_fillRest_307 : decode cX13_fillRest 307 = .ok (.bipush 15, 2) := by decide +kernel
theorem dX13_fillRest_309 : decode cX13_fillRest 309 = .ok (.sipush 189, 3) := by decide +kernel
theorem dX13_fillRest_312 : decode cX13_fillRest 312 = .ok (.bipush 9, 2) := by decide +kernel
theorem dX13_fillRest_314 : decode cX13_fillRest 314 = .ok (.iconst 0, 1) := by decide +kernel
theorem dX13_fillRest_315 : decode cX13_fillRest 315 = .ok (.invokevirtual 1103, 3) := by decide +kernel
theorem dX13_fillRest_318 : decode cX13_fillRest 318 = .ok (.aload_n 0, 1) := by decide +kernel
theorem dX13_fillRest_319 : decode cX13_fillRest 319 = .ok (.bipush 46, 2) := by decide +kernel
theorem dX13_fillRest_321 : decode cX13_fillRest 321 = .ok (.iconst 1, 1) := by decide +kernel
theorem dX13_fillRest_322 : decode cX13_fillRest 322 = .ok (.iconst 5, 1) := by decide +kernel
theorem dX13_fillRest_323 : decode cX13_fillRest 323 = .ok (.bipush 15, 2) := by decide +kernel
theorem dX13_fillRest_325 : decode cX13_fillRest 325 = .ok (.sipush 200, 3) := by decide +kernel
theorem dX13_fillRest_328 : decode cX13_fillRest 328 = .ok (.bipush 9, 2) := by decide +kernel
theorem dX13_fillRest_330 : decode cX13_fillRest 330 = .ok (.iconst 0, 1) := by decide +kernel
theorem dX13_fillRest_331 : decode cX13_fillRest 331 = .ok (.invokevirtual 1103, 3) := by decide +kernel
theorem dX13_fillRest_334 : decode cX13_fillRest 334 = .ok (.aload_n 0, 1) := by decide +kernel
theorem dX13_fillRest_335 : decode cX13_fillRest 335 = .ok (.bipush 47, 2) := by decide +kernel
theorem dX13_fillRest_337 : decode cX13_fillRest 337 = .ok (.iconst 1, 1) := by decide +kernel
theorem dX13_fillRest_338 : decode cX13_fillRest 338 = .ok (.iconst 1, 1) := by decide +kernel
theorem dX13_fillRest_339 : decode cX13_fillRest 339 = .ok (.bipush 15, 2) := by decide +kernel
theorem dX13_fillRest_341 : decode cX13_fillRest 341 = .ok (.sipush 163, 3) := by decide +kernel
theorem dX13_fillRest_344 : decode cX13_fillRest 344 = .ok (.bipush 9, 2) := by decide +kernel
theorem dX13_fillRest_346 : decode cX13_fillRest 346 = .ok (.iconst 0, 1) := by decide +kernel
theorem dX13_fillRest_347 : decode cX13_fillRest 347 = .ok (.invokevirtual 1103, 3) := by decide +kernel
theorem dX13_fillRest_350 : decode cX13_fillRest 350 = .ok (.aload_n 0, 1) := by decide +kernel
theorem dX13_fillRest_351 : decode cX13_fillRest 351 = .ok (.bipush 47, 2) := by decide +kernel
theorem dX13_fillRest_353 : decode cX13_fillRest 353 = .ok (.iconst 1, 1) := by decide +kernel
theorem dX13_fillRest_354 : decode cX13_fillRest 354 = .ok (.iconst 4, 1) := by decide +kernel
theorem dX13_fillRest_355 : decode cX13_fillRest 355 = .ok (.bipush 15, 2) := by decide +kernel
theorem dX13_fillRest_357 : decode cX13_fillRest 357 = .ok (.sipush 186, 3) := by decide +kernel
theorem dX13_fillRest_360 : decode cX13_fillRest 360 = .ok (.iconst 4, 1) := by decide +kernel
theorem dX13_fillRest_361 : decode cX13_fillRest 361 = .ok (.bipush 6, 2) := by decide +kernel
theorem dX13_fillRest_363 : decode cX13_fillRest 363 = .ok (.invokevirtual 1103, 3) := by decide +kernel
theorem dX13_fillRest_366 : decode cX13_fillRest 366 = .ok (.aload_n 0, 1) := by decide +kernel
theorem dX13_fillRest_367 : decode cX13_fillRest 367 = .ok (.bipush 48, 2) := by decide +kernel
theorem dX13_fillRest_369 : decode cX13_fillRest 369 = .ok (.iconst 0, 1) := by decide +kernel
theorem dX13_fillRest_370 : decode cX13_fillRest 370 = .ok (.iconst 1, 1) := by decide +kernel
theorem dX13_fillRest_371 : decode cX13_fillRest 371 = .ok (.bipush 15, 2) := by decide +kernel
theorem dX13_fillRest_373 : decode cX13_fillRest 373 = .ok (.sipush 192, 3) := by decide +kernel
theorem dX13_fillRest_376 : decode cX13_fillRest 376 = .ok (.bipush 9, 2) := by decide +kernel
theorem dX13_fillRest_378 : decode cX13_fillRest 378 = .ok (.iconst 0, 1) := by decide +kernel
theorem dX13_fillRest_379 : decode cX13_fillRest 379 = .ok (.invokevirtual 1103, 3) := by decide +kernel
theorem dX13_fillRest_382 : decode cX13_fillRest 382 = .ok (.aload_n 0, 1) := by decide +kernel
theorem dX13_fillRest_383 : decode cX13_fillRest 383 = .ok (.bipush 49, 2) := by decide +kernel
theorem dX13_fillRest_385 : decode cX13_fillRest 385 = .ok (.iconst 0, 1) := by decide +kernel
theorem dX13_fillRest_386 : decode cX13_fillRest 386 = .ok (.iconst 1, 1) := by decide +kernel
theorem dX13_fillRest_387 : decode cX13_fillRest 387 = .ok (.bipush 15, 2) := by decide +kernel
theorem dX13_fillRest_389 : decode cX13_fillRest 389 = .ok (.sipush 176, 3) := by decide +kernel
theorem dX13_fillRest_392 : decode cX13_fillRest 392 = .ok (.bipush 9, 2) := by decide +kernel
theorem dX13_fillRest_394 : decode cX13_fillRest 394 = .ok (.iconst 0, 1) := by decide +kernel
theorem dX13_fillRest_395 : decode cX13_fillRest 395 = .ok (.invokevirtual 1103, 3) := by decide +kernel
theorem dX13_fillRest_398 : decode cX13_fillRest 398 = .ok (.iconst 0, 1) := by decide +kernel
theorem dX13_fillRest_399 : decode cX13_fillRest 399 = .ok (.istore_n 1, 1) := by decide +kernel
theorem dX13_fillRest_400 : decode cX13_fillRest 400 = .ok (.iload_n 1, 1) := by decide +kernel
theorem dX13_fillRest_401 : decode cX13_fillRest 401 = .ok (.iconst 4, 1) := by decide +kernel
theorem dX13_fillRest_402 : decode cX13_fillRest 402 = .ok (.if_icmp .ge 49, 3) := by decide +kernel
theorem dX13_fillRest_405 : decode cX13_fillRest 405 = .ok (.aload_n 0, 1) := by decide +kernel
theorem dX13_fillRest_406 : decode cX13_fillRest 406 = .ok (.bipush 50, 2) := by decide +kernel
theorem dX13_fillRest_408 : decode cX13_fillRest 408 = .ok (.iload_n 1, 1) := by decide +kernel
theorem dX13_fillRest_409 : decode cX13_fillRest 409 = .ok (.iadd, 1) := by decide +kernel
theorem dX13_fillRest_410 : decode cX13_fillRest 410 = .ok (.iconst 0, 1) := by decide +kernel
theorem dX13_fillRest_411 : decode cX13_fillRest 411 = .ok (.iconst 0, 1) := by decide +kernel
theorem dX13_fillRest_412 : decode cX13_fillRest 412 = .ok (.iload_n 1, 1) := by decide +kernel
theorem dX13_fillRest_413 : decode cX13_fillRest 413 = .ok (.iconst 2, 1) := by decide +kernel
theorem dX13_fillRest_414 : decode cX13_fillRest 414 = .ok (.if_icmp .ge 7, 3) := by decide +kernel
theorem dX13_fillRest_417 : decode cX13_fillRest 417 = .ok (.iconst 0, 1) := by decide +kernel
theorem dX13_fillRest_418 : decode cX13_fillRest 418 = .ok (.goto 6, 3) := by decide +kernel
theorem dX13_fillRest_421 : decode cX13_fillRest 421 = .ok (.sipush 243, 3) := by decide +kernel
theorem dX13_fillRest_424 : decode cX13_fillRest 424 = .ok (.iload_n 1, 1) := by decide +kernel
theorem dX13_fillRest_425 : decode cX13_fillRest 425 = .ok (.iconst 2, 1) := by decide +kernel
theorem dX13_fillRest_426 : decode cX13_fillRest 426 = .ok (.irem, 1) := by decide +kernel
theorem dX13_fillRest_427 : decode cX13_fillRest 427 = .ok (.ifCond .ne 9, 3) := by decide +kernel
theorem dX13_fillRest_430 : decode cX13_fillRest 430 = .ok (.sipush 164, 3) := by decide +kernel
theorem dX13_fillRest_433 : decode cX13_fillRest 433 = .ok (.goto 6, 3) := by decide +kernel
theorem dX13_fillRest_436 : decode cX13_fillRest 436 = .ok (.sipush 170, 3) := by decide +kernel
theorem dX13_fillRest_439 : decode cX13_fillRest 439 = .ok (.bipush 9, 2) := by decide +kernel
theorem dX13_fillRest_441 : decode cX13_fillRest 441 = .ok (.iconst 0, 1) := by decide +kernel
theorem dX13_fillRest_442 : decode cX13_fillRest 442 = .ok (.invokevirtual 1103, 3) := by decide +kernel
theorem dX13_fillRest_445 : decode cX13_fillRest 445 = .ok (.iinc 1 1, 3) := by decide +kernel
theorem dX13_fillRest_448 : decode cX13_fillRest 448 = .ok (.goto (-48), 3) := by decide +kernel
theorem dX13_fillRest_451 : decode cX13_fillRest 451 = .ok (.return_, 1) := by decide +kernel
theorem dJ5_init_d00df_0 : decode cJ5_init_d00df 0 = .ok (.aload_n 0, 1) := by decide +kernel
theorem dJ5_init_d00df_1 : decode cJ5_init_d00df 1 = .ok (.invokespecial 3, 3) := by decide +kernel
theorem dJ5_init_d00df_4 : decode cJ5_init_d00df 4 = .ok (.getstatic 18, 3) := by decide +kernel
theorem dJ5_init_d00df_7 : decode cJ5_init_d00df 7 = .ok (.ifCond .eq 18, 3) := by decide +kernel
theorem dJ5_init_d00df_10 : decode cJ5_init_d00df 10 = .ok (.aload_n 0, 1) := by decide +kernel
theorem dJ5_init_d00df_11 : decode cJ5_init_d00df 11 = .ok (.iload_n 1, 1) := by decide +kernel
theorem dJ5_init_d00df_12 : decode cJ5_init_d00df 12 = .ok (.newarray .byte, 2) := by decide +kernel
theorem dJ5_init_d00df_14 : decode cJ5_init_d00df 14 = .ok (.putfield 15, 3) := by decide +kernel
theorem dJ5_init_d00df_17 : decode cJ5_init_d00df 17 = .ok (.aload_n 0, 1) := by decide +kernel
theorem dJ5_init_d00df_18 : decode cJ5_init_d00df 18 = .ok (.iconst 0, 1) := by decide +kernel
theorem dJ5_init_d00df_19 : decode cJ5_init_d00df 19 = .ok (.putfield 22, 3) := by decide +kernel
theorem dJ5_init_d00df_22 : decode cJ5_init_d00df 22 = .ok (.goto 16, 3) := by decide +kernel
theorem dJ5_init_d00df_38 : decode cJ5_init_d00df 38 = .ok (.return_, 1) := by decide +kernel
theorem dJ5_length_8abf5_0 : decode cJ5_length_8abf5 0 = .ok (.aload_n 0, 1) := by decide +kernel
theorem dJ5_length_8abf5_1 : decode cJ5_length_8abf5 1 = .ok (.getfield 79, 3) := by decide +kernel
theorem dJ5_length_8abf5_4 : decode cJ5_length_8abf5 4 = .ok (.ireturn, 1) := by decide +kernel
theorem dJ5_ensureCapacityInternal_d00df_0 : decode cJ5_ensureCapacityInternal_d00df 0 = .ok (.aload_n 0, 1) := by decide +kernel
theorem dJ5_ensureCapacityInternal_d00df_1 : decode cJ5_ensureCapacityInternal_d00df 1 = .ok (.getfield 15, 3) := by decide +kernel
theorem dJ5_ensureCapacityInternal_d00df_4 : decode cJ5_ensureCapacityInternal_d00df 4 = .ok (.arraylength, 1) := by decide +kernel
theorem dJ5_ensureCapacityInternal_d00df_5 : decode cJ5_ensureCapacityInternal_d00df 5 = .ok (.aload_n 0, 1) := by decide +kernel
theorem dJ5_ensureCapacityInternal_d00df_6 : decode cJ5_ensureCapacityInternal_d00df 6 = .ok (.getfield 22, 3) := by decide +kernel
theorem dJ5_ensureCapacityInternal_d00df_9 : decode cJ5_ensureCapacityInternal_d00df 9 = .ok (.ishr, 1) := by decide +kernel
theorem dJ5_ensureCapacityInternal_d00df_10 : decode cJ5_ensureCapacityInternal_d00df 10 = .ok (.istore_n 2, 1) := by decide +kernel
theorem dJ5_ensureCapacityInternal_d00df_11 : decode cJ5_ensureCapacityInternal_d00df 11 = .ok (.iload_n 1, 1) := by decide +kernel
theorem dJ5_ensureCapacityInternal_d00df_12 : decode cJ5_ensureCapacityInternal_d00df 12 = .ok (.iload_n 2, 1) := by decide +kernel
theorem dJ5_ensureCapacityInternal_d00df_13 : decode cJ5_ensureCapacityInternal_d00df 13 = .ok (.isub, 1) := by decide +kernel
theorem dJ5_ensureCapacityInternal_d00df_14 : decode cJ5_ensureCapacityInternal_d00df 14 = .ok (.ifCond .le 24, 3) := by decide +kernel
theorem dJ5_ensureCapacityInternal_d00df_38 : decode cJ5_ensureCapacityInternal_d00df 38 = .ok (.return_, 1) := by decide +kernel
theorem dJ5_append_cf1ce_0 : decode cJ5_append_cf1ce 0 = .ok (.aload_n 1, 1) := by decide +kernel
theorem dJ5_append_cf1ce_1 : decode cJ5_append_cf1ce 1 = .ok (.ifnonnull 8, 3) := by decide +kernel
theorem dJ5_append_cf1ce_9 : decode cJ5_append_cf1ce 9 = .ok (.aload_n 1, 1) := by decide +kernel
theorem dJ5_append_cf1ce_10 : decode cJ5_append_cf1ce 10 = .ok (.invokevirtual 32, 3) := by decide +kernel
theorem dJ5_append_cf1ce_13 : decode cJ5_append_cf1ce 13 = .ok (.istore_n 2, 1) := by decide +kernel
theorem dJ5_append_cf1ce_14 : decode cJ5_append_cf1ce 14 = .ok (.aload_n 0, 1) := by decide +kernel
theorem dJ5_append_cf1ce_15 : decode cJ5_append_cf1ce 15 = .ok (.aload_n 0, 1) := by decide +kernel
theorem dJ5_append_cf1ce_16 : decode cJ5_append_cf1ce 16 = .ok (.getfield 79, 3) := by decide +kernel
theorem dJ5_append_cf1ce_19 : decode cJ5_append_cf1ce 19 = .ok (.iload_n 2, 1) := by decide +kernel
theorem dJ5_append_cf1ce_20 : decode cJ5_append_cf1ce 20 = .ok (.iadd, 1) := by decide +kernel
theorem dJ5_append_cf1ce_21 : decode cJ5_append_cf1ce 21 = .ok (.invokevirtual 100, 3) := by decide +kernel
theorem dJ5_append_cf1ce_24 : decode cJ5_append_cf1ce 24 = .ok (.aload_n 0, 1) := by decide +kernel
theorem dJ5_append_cf1ce_25 : decode cJ5_append_cf1ce 25 = .ok (.aload_n 0, 1) := by decide +kernel
theorem dJ5_append_cf1ce_26 : decode cJ5_append_cf1ce 26 = .ok (.getfield 79, 3) := by decide +kernel
theorem dJ5_append_cf1ce_29 : decode cJ5_append_cf1ce 29 = .ok (.aload_n 1, 1) := by decide +kernel
theorem dJ5_append_cf1ce_30 : decode cJ5_append_cf1ce 30 = .ok (.invokevirtual 208, 3) := by decide +kernel
theorem dJ5_append_cf1ce_33 : decode cJ5_append_cf1ce 33 = .ok (.aload_n 0, 1) := by decide +kernel
theorem dJ5_append_cf1ce_34 : decode cJ5_append_cf1ce 34 = .ok (.dup, 1) := by decide +kernel
theorem dJ5_append_cf1ce_35 : decode cJ5_append_cf1ce 35 = .ok (.getfield 79, 3) := by decide +kernel
theorem dJ5_append_cf1ce_38 : decode cJ5_append_cf1ce 38 = .ok (.iload_n 2, 1) := by decide +kernel
theorem dJ5_append_cf1ce_39 : decode cJ5_append_cf1ce 39 = .ok (.iadd, 1) := by decide +kernel
theorem dJ5_append_cf1ce_40 : decode cJ5_append_cf1ce 40 = .ok (.putfield 79, 3) := by decide +kernel
theorem dJ5_append_cf1ce_43 : decode cJ5_append_cf1ce 43 = .ok (.aload_n 0, 1) := by decide +kernel
theorem dJ5_append_cf1ce_44 : decode cJ5_append_cf1ce 44 = .ok (.areturn, 1) := by decide +kernel
theorem dJ5_append_c97b9_0 : decode cJ5_append_c97b9 0 = .ok (.aload_n 0, 1) := by decide +kernel
theorem dJ5_append_c97b9_1 : decode cJ5_append_c97b9 1 = .ok (.getfield 79, 3) := by decide +kernel
theorem dJ5_append_c97b9_4 : decode cJ5_append_c97b9 4 = .ok (.istore_n 2, 1) := by decide +kernel
theorem dJ5_append_c97b9_5 : decode cJ5_append_c97b9 5 = .ok (.iload_n 2, 1) := by decide +kernel
theorem dJ5_append_c97b9_6 : decode cJ5_append_c97b9 6 = .ok (.iload_n 1, 1) := by decide +kernel
theorem dJ5_append_c97b9_7 : decode cJ5_append_c97b9 7 = .ok (.invokestatic 245, 3) := by decide +kernel
theorem dJ5_append_c97b9_10 : decode cJ5_append_c97b9 10 = .ok (.iadd, 1) := by decide +kernel
theorem dJ5_append_c97b9_11 : decode cJ5_append_c97b9 11 = .ok (.istore_n 3, 1) := by decide +kernel
theorem dJ5_append_c97b9_12 : decode cJ5_append_c97b9 12 = .ok (.aload_n 0, 1) := by decide +kernel
theorem dJ5_append_c97b9_13 : decode cJ5_append_c97b9 13 = .ok (.iload_n 3, 1) := by decide +kernel
theorem dJ5_append_c97b9_14 : decode cJ5_append_c97b9 14 = .ok (.invokevirtual 100, 3) := by decide +kernel
theorem dJ5_append_c97b9_17 : decode cJ5_append_c97b9 17 = .ok (.aload_n 0, 1) := by decide +kernel
theorem dJ5_append_c97b9_18 : decode cJ5_append_c97b9 18 = .ok (.invokevirtual 83, 3) := by decide +kernel
theorem dJ5_append_c97b9_21 : decode cJ5_append_c97b9 21 = .ok (.ifCond .eq 16, 3) := by decide +kernel
theorem dJ5_append_c97b9_24 : decode cJ5_append_c97b9 24 = .ok (.iload_n 1, 1) := by decide +kernel
theorem dJ5_append_c97b9_25 : decode cJ5_append_c97b9 25 = .ok (.iload_n 3, 1) := by decide +kernel
theorem dJ5_append_c97b9_26 : decode cJ5_append_c97b9 26 = .ok (.aload_n 0, 1) := by decide +kernel
theorem dJ5_append_c97b9_27 : decode cJ5_append_c97b9 27 = .ok (.getfield 15, 3) := by decide +kernel
theorem dJ5_append_c97b9_30 : decode cJ5_append_c97b9 30 = .ok (.invokestatic 248, 3) := by decide +kernel
theorem dJ5_append_c97b9_33 : decode cJ5_append_c97b9 33 = .ok (.pop, 1) := by decide +kernel
theorem dJ5_append_c97b9_34 : decode cJ5_append_c97b9 34 = .ok (.goto 14, 3) := by decide +kernel
theorem dJ5_append_c97b9_48 : decode cJ5_append_c97b9 48 = .ok (.aload_n 0, 1) := by decide +kernel
theorem dJ5_append_c97b9_49 : decode cJ5_append_c97b9 49 = .ok (.iload_n 3, 1) := by decide +kernel
theorem dJ5_append_c97b9_50 : decode cJ5_append_c97b9 50 = .ok (.putfield 79, 3) := by decide +kernel
theorem dJ5_append_c97b9_53 : decode cJ5_append_c97b9 53 = .ok (.aload_n 0, 1) := by decide +kernel
theorem dJ5_append_c97b9_54 : decode cJ5_append_c97b9 54 = .ok (.areturn, 1) := by decide +kernel
theorem dJ5_getValue_6d5f1_0 : decode cJ5_getValue_6d5f1 0 = .ok (.aload_n 0, 1) := by decide +kernel
theorem dJ5_getValue_6d5f1_1 : decode cJ5_getValue_6d5f1 1 = .ok (.getfield 15, 3) := by decide +kernel
theorem dJ5_getValue_6d5f1_4 : decode cJ5_getValue_6d5f1 4 = .ok (.areturn, 1) := by decide +kernel
theorem dJ5_isLatin1_aae02_0 : decode cJ5_isLatin1_aae02 0 = .ok (.getstatic 18, 3) := by decide +kernel
theorem dJ5_isLatin1_aae02_3 : decode cJ5_isLatin1_aae02 3 = .ok (.ifCond .eq 14, 3) := by decide +kernel
theorem dJ5_isLatin1_aae02_6 : decode cJ5_isLatin1_aae02 6 = .ok (.aload_n 0, 1) := by decide +kernel
theorem dJ5_isLatin1_aae02_7 : decode cJ5_isLatin1_aae02 7 = .ok (.getfield 22, 3) := by decide +kernel
theorem dJ5_isLatin1_aae02_10 : decode cJ5_isLatin1_aae02 10 = .ok (.ifCond .ne 7, 3) := by decide +kernel
theorem dJ5_isLatin1_aae02_13 : decode cJ5_isLatin1_aae02 13 = .ok (.iconst 1, 1) := by decide +kernel
theorem dJ5_isLatin1_aae02_14 : decode cJ5_isLatin1_aae02 14 = .ok (.goto 4, 3) := by decide +kernel
theorem dJ5_isLatin1_aae02_18 : decode cJ5_isLatin1_aae02 18 = .ok (.ireturn, 1) := by decide +kernel
theorem dJ5_inflateIfNeededFor_a7421_0 : decode cJ5_inflateIfNeededFor_a7421 0 = .ok (.getstatic 18, 3) := by decide +kernel
theorem dJ5_inflateIfNeededFor_a7421_3 : decode cJ5_inflateIfNeededFor_a7421 3 = .ok (.ifCond .eq 18, 3) := by decide +kernel
theorem dJ5_inflateIfNeededFor_a7421_6 : decode cJ5_inflateIfNeededFor_a7421 6 = .ok (.aload_n 0, 1) := by decide +kernel
theorem dJ5_inflateIfNeededFor_a7421_7 : decode cJ5_inflateIfNeededFor_a7421 7 = .ok (.getfield 22, 3) := by decide +kernel
theorem dJ5_inflateIfNeededFor_a7421_10 : decode cJ5_inflateIfNeededFor_a7421 10 = .ok (.aload_n 1, 1) := by decide +kernel
theorem dJ5_inflateIfNeededFor_a7421_11 : decode cJ5_inflateIfNeededFor_a7421 11 = .ok (.invokevirtual 40, 3) := by decide +kernel
theorem dJ5_inflateIfNeededFor_a7421_14 : decode cJ5_inflateIfNeededFor_a7421 14 = .ok (.if_icmp .eq 7, 3) := by decide +kernel
theorem dJ5_inflateIfNeededFor_a7421_21 : decode cJ5_inflateIfNeededFor_a7421 21 = .ok (.return_, 1) := by decide +kernel
theorem dJ5_putStringAt_47b60_0 : decode cJ5_putStringAt_47b60 0 = .ok (.aload_n 0, 1) := by decide +kernel
theorem dJ5_putStringAt_47b60_1 : decode cJ5_putStringAt_47b60 1 = .ok (.aload_n 2, 1) := by decide +kernel
theorem dJ5_putStringAt_47b60_2 : decode cJ5_putStringAt_47b60 2 = .ok (.invokevirtual 397, 3) := by decide +kernel
theorem dJ5_putStringAt_47b60_5 : decode cJ5_putStringAt_47b60 5 = .ok (.aload_n 2, 1) := by decide +kernel
theorem dJ5_putStringAt_47b60_6 : decode cJ5_putStringAt_47b60 6 = .ok (.aload_n 0, 1) := by decide +kernel
theorem dJ5_putStringAt_47b60_7 : decode cJ5_putStringAt_47b60 7 = .ok (.getfield 15, 3) := by decide +kernel
theorem dJ5_putStringAt_47b60_10 : decode cJ5_putStringAt_47b60 10 = .ok (.iload_n 1, 1) := by decide +kernel
theorem dJ5_putStringAt_47b60_11 : decode cJ5_putStringAt_47b60 11 = .ok (.aload_n 0, 1) := by decide +kernel
theorem dJ5_putStringAt_47b60_12 : decode cJ5_putStringAt_47b60 12 = .ok (.getfield 22, 3) := by decide +kernel
theorem dJ5_putStringAt_47b60_15 : decode cJ5_putStringAt_47b60 15 = .ok (.invokevirtual 399, 3) := by decide +kernel
theorem dJ5_putStringAt_47b60_18 : decode cJ5_putStringAt_47b60 18 = .ok (.return_, 1) := by decide +kernel
theorem dJ6_getChars_ba4f3_0 : decode cJ6_getChars_ba4f3 0 = .ok (.iload_n 1, 1) := by decide +kernel
theorem dJ6_getChars_ba4f3_1 : decode cJ6_getChars_ba4f3 1 = .ok (.istore 5, 2) := by decide +kernel
theorem dJ6_getChars_ba4f3_3 : decode cJ6_getChars_ba4f3 3 = .ok (.iload_n 0, 1) := by decide +kernel
theorem dJ6_getChars_ba4f3_4 : decode cJ6_getChars_ba4f3 4 = .ok (.ifCond .ge 7, 3) := by decide +kernel
theorem dJ6_getChars_ba4f3_11 : decode cJ6_getChars_ba4f3 11 = .ok (.iconst 0, 1) := by decide +kernel
theorem dJ6_getChars_ba4f3_12 : decode cJ6_getChars_ba4f3 12 = .ok (.istore 6, 2) := by decide +kernel
theorem dJ6_getChars_ba4f3_14 : decode cJ6_getChars_ba4f3 14 = .ok (.iload 6, 2) := by decide +kernel
theorem dJ6_getChars_ba4f3_16 : decode cJ6_getChars_ba4f3 16 = .ok (.ifCond .ne 6, 3) := by decide +kernel
theorem dJ6_getChars_ba4f3_19 : decode cJ6_getChars_ba4f3 19 = .ok (.iload_n 0, 1) := by decide +kernel
theorem dJ6_getChars_ba4f3_20 : decode cJ6_getChars_ba4f3 20 = .ok (.ineg, 1) := by decide +kernel
theorem dJ6_getChars_ba4f3_21 : decode cJ6_getChars_ba4f3 21 = .ok (.istore_n 0, 1) := by decide +kernel
theorem dJ6_getChars_ba4f3_22 : decode cJ6_getChars_ba4f3 22 = .ok (.iload_n 0, 1) := by decide +kernel
theorem dJ6_getChars_ba4f3_23 : decode cJ6_getChars_ba4f3 23 = .ok (.bipush (-100), 2) := by decide +kernel
theorem dJ6_getChars_ba4f3_25 : decode cJ6_getChars_ba4f3 25 = .ok (.if_icmp .gt 47, 3) := by decide +kernel
theorem dJ6_getChars_ba4f3_72 : decode cJ6_getChars_ba4f3 72 = .ok (.aload_n 2, 1) := by decide +kernel
theorem dJ6_getChars_ba4f3_73 : decode cJ6_getChars_ba4f3 73 = .ok (.iinc 5 (-1), 3) := by decide +kernel
theorem dJ6_getChars_ba4f3_76 : decode cJ6_getChars_ba4f3 76 = .ok (.iload 5, 2) := by decide +kernel
theorem dJ6_getChars_ba4f3_78 : decode cJ6_getChars_ba4f3 78 = .ok (.getstatic 83, 3) := by decide +kernel
theorem dJ6_getChars_ba4f3_81 : decode cJ6_getChars_ba4f3 81 = .ok (.iload_n 0, 1) := by decide +kernel
theorem dJ6_getChars_ba4f3_82 : decode cJ6_getChars_ba4f3 82 = .ok (.ineg, 1) := by decide +kernel
theorem dJ6_getChars_ba4f3_83 : decode cJ6_getChars_ba4f3 83 = .ok (.baload, 1) := by decide +kernel
theorem dJ6_getChars_ba4f3_84 : decode cJ6_getChars_ba4f3 84 = .ok (.bastore, 1) := by decide +kernel
theorem dJ6_getChars_ba4f3_85 : decode cJ6_getChars_ba4f3 85 = .ok (.iload_n 0, 1) := by decide +kernel
theorem dJ6_getChars_ba4f3_86 : decode cJ6_getChars_ba4f3 86 = .ok (.bipush (-9), 2) := by decide +kernel
theorem dJ6_getChars_ba4f3_88 : decode cJ6_getChars_ba4f3 88 = .ok (.if_icmp .ge 16, 3) := by decide +kernel
theorem dJ6_getChars_ba4f3_91 : decode cJ6_getChars_ba4f3 91 = .ok (.aload_n 2, 1) := by decide +kernel
theorem dJ6_getChars_ba4f3_92 : decode cJ6_getChars_ba4f3 92 = .ok (.iinc 5 (-1), 3) := by decide +kernel
theorem dJ6_getChars_ba4f3_95 : decode cJ6_getChars_ba4f3 95 = .ok (.iload 5, 2) := by decide +kernel
theorem dJ6_getChars_ba4f3_97 : decode cJ6_getChars_ba4f3 97 = .ok (.getstatic 87, 3) := by decide +kernel
theorem dJ6_getChars_ba4f3_100 : decode cJ6_getChars_ba4f3 100 = .ok (.iload_n 0, 1) := by decide +kernel
theorem dJ6_getChars_ba4f3_101 : decode cJ6_getChars_ba4f3 101 = .ok (.ineg, 1) := by decide +kernel
theorem dJ6_getChars_ba4f3_102 : decode cJ6_getChars_ba4f3 102 = .ok (.baload, 1) := by decide +kernel
theorem dJ6_getChars_ba4f3_103 : decode cJ6_getChars_ba4f3 103 = .ok (.bastore, 1) := by decide +kernel
theorem dJ6_getChars_ba4f3_104 : decode cJ6_getChars_ba4f3 104 = .ok (.iload 6, 2) := by decide +kernel
theorem dJ6_getChars_ba4f3_106 : decode cJ6_getChars_ba4f3 106 = .ok (.ifCond .eq 12, 3) := by decide +kernel
theorem dJ6_getChars_ba4f3_118 : decode cJ6_getChars_ba4f3 118 = .ok (.iload 5, 2) := by decide +kernel
theorem dJ6_getChars_ba4f3_120 : decode cJ6_getChars_ba4f3 120 = .ok (.ireturn, 1) := by decide +kernel
theorem dJ6_stringSize_0f7a4_0 : decode cJ6_stringSize_0f7a4 0 = .ok (.iconst 1, 1) := by decide +kernel
theorem dJ6_stringSize_0f7a4_1 : decode cJ6_stringSize_0f7a4 1 = .ok (.istore_n 1, 1) := by decide +kernel
theorem dJ6_stringSize_0f7a4_2 : decode cJ6_stringSize_0f7a4 2 = .ok (.iload_n 0, 1) := by decide +kernel
theorem dJ6_stringSize_0f7a4_3 : decode cJ6_stringSize_0f7a4 3 = .ok (.ifCond .lt 8, 3) := by decide +kernel
theorem dJ6_stringSize_0f7a4_6 : decode cJ6_stringSize_0f7a4 6 = .ok (.iconst 0, 1) := by decide +kernel
theorem dJ6_stringSize_0f7a4_7 : decode cJ6_stringSize_0f7a4 7 = .ok (.istore_n 1, 1) := by decide +kernel
theorem dJ6_stringSize_0f7a4_8 : decode cJ6_stringSize_0f7a4 8 = .ok (.iload_n 0, 1) := by decide +kernel
theorem dJ6_stringSize_0f7a4_9 : decode cJ6_stringSize_0f7a4 9 = .ok (.ineg, 1) := by decide +kernel
theorem dJ6_stringSize_0f7a4_10 : decode cJ6_stringSize_0f7a4 10 = .ok (.istore_n 0, 1) := by decide +kernel
theorem dJ6_stringSize_0f7a4_11 : decode cJ6_stringSize_0f7a4 11 = .ok (.bipush (-10), 2) := by decide +kernel
theorem dJ6_stringSize_0f7a4_13 : decode cJ6_stringSize_0f7a4 13 = .ok (.istore_n 2, 1) := by decide +kernel
theorem dJ6_stringSize_0f7a4_14 : decode cJ6_stringSize_0f7a4 14 = .ok (.iconst 1, 1) := by decide +kernel
theorem dJ6_stringSize_0f7a4_15 : decode cJ6_stringSize_0f7a4 15 = .ok (.istore_n 3, 1) := by decide +kernel
theorem dJ6_stringSize_0f7a4_16 : decode cJ6_stringSize_0f7a4 16 = .ok (.iload_n 3, 1) := by decide +kernel
theorem dJ6_stringSize_0f7a4_17 : decode cJ6_stringSize_0f7a4 17 = .ok (.bipush 10, 2) := by decide +kernel
theorem dJ6_stringSize_0f7a4_19 : decode cJ6_stringSize_0f7a4 19 = .ok (.if_icmp .ge 23, 3) := by decide +kernel
theorem dJ6_stringSize_0f7a4_22 : decode cJ6_stringSize_0f7a4 22 = .ok (.iload_n 0, 1) := by decide +kernel
theorem dJ6_stringSize_0f7a4_23 : decode cJ6_stringSize_0f7a4 23 = .ok (.iload_n 2, 1) := by decide +kernel
theorem dJ6_stringSize_0f7a4_24 : decode cJ6_stringSize_0f7a4 24 = .ok (.if_icmp .le 7, 3) := by decide +kernel
theorem dJ6_stringSize_0f7a4_27 : decode cJ6_stringSize_0f7a4 27 = .ok (.iload_n 3, 1) := by decide +kernel
theorem dJ6_stringSize_0f7a4_28 : decode cJ6_stringSize_0f7a4 28 = .ok (.iload_n 1, 1) := by decide +kernel
theorem dJ6_stringSize_0f7a4_29 : decode cJ6_stringSize_0f7a4 29 = .ok (.iadd, 1) := by decide +kernel
theorem dJ6_stringSize_0f7a4_30 : decode cJ6_stringSize_0f7a4 30 = .ok (.ireturn, 1) := by decide +kernel
theorem dJ6_stringSize_0f7a4_31 : decode cJ6_stringSize_0f7a4 31 = .ok (.bipush 10, 2) := by decide +kernel
theorem dJ6_stringSize_0f7a4_33 : decode cJ6_stringSize_0f7a4 33 = .ok (.iload_n 2, 1) := by decide +kernel
theorem dJ6_stringSize_0f7a4_34 : decode cJ6_stringSize_0f7a4 34 = .ok (.imul, 1) := by decide +kernel
theorem dJ6_stringSize_0f7a4_35 : decode cJ6_stringSize_0f7a4 35 = .ok (.istore_n 2, 1) := by decide +kernel
theorem dJ6_stringSize_0f7a4_36 : decode cJ6_stringSize_0f7a4 36 = .ok (.iinc 3 1, 3) := by decide +kernel
theorem dJ6_stringSize_0f7a4_39 : decode cJ6_stringSize_0f7a4 39 = .ok (.goto (-23), 3) := by decide +kernel
theorem dJ0_init_81219_0 : decode cJ0_init_81219 0 = .ok (.aload_n 0, 1) := by decide +kernel
theorem dJ0_init_81219_1 : decode cJ0_init_81219 1 = .ok (.aload_n 1, 1) := by decide +kernel
theorem dJ0_init_81219_2 : decode cJ0_init_81219 2 = .ok (.aconst_null, 1) := by decide +kernel
theorem dJ0_init_81219_3 : decode cJ0_init_81219 3 = .ok (.invokespecial 489, 3) := by decide +kernel
theorem dJ0_init_81219_6 : decode cJ0_init_81219 6 = .ok (.return_, 1) := by decide +kernel
theorem dJ0_length_8abf5_0 : decode cJ0_length_8abf5 0 = .ok (.aload_n 0, 1) := by decide +kernel
theorem dJ0_length_8abf5_1 : decode cJ0_length_8abf5 1 = .ok (.getfield 9, 3) := by decide +kernel
theorem dJ0_length_8abf5_4 : decode cJ0_length_8abf5 4 = .ok (.arraylength, 1) := by decide +kernel
theorem dJ0_length_8abf5_5 : decode cJ0_length_8abf5 5 = .ok (.aload_n 0, 1) := by decide +kernel
theorem dJ0_length_8abf5_6 : decode cJ0_length_8abf5 6 = .ok (.invokevirtual 335, 3) := by decide +kernel
theorem dJ0_length_8abf5_9 : decode cJ0_length_8abf5 9 = .ok (.ishr, 1) := by decide +kernel
theorem dJ0_length_8abf5_10 : decode cJ0_length_8abf5 10 = .ok (.ireturn, 1) := by decide +kernel
theorem dJ0_charAt_5068e_0 : decode cJ0_charAt_5068e 0 = .ok (.aload_n 0, 1) := by decide +kernel
theorem dJ0_charAt_5068e_1 : decode cJ0_charAt_5068e 1 = .ok (.invokevirtual 492, 3) := by decide +kernel
theorem dJ0_charAt_5068e_4 : decode cJ0_charAt_5068e 4 = .ok (.ifCond .eq 12, 3) := by decide +kernel
theorem dJ0_charAt_5068e_7 : decode cJ0_charAt_5068e 7 = .ok (.aload_n 0, 1) := by decide +kernel
theorem dJ0_charAt_5068e_8 : decode cJ0_charAt_5068e 8 = .ok (.getfield 9, 3) := by decide +kernel
theorem dJ0_charAt_5068e_11 : decode cJ0_charAt_5068e 11 = .ok (.iload_n 1, 1) := by decide +kernel
theorem dJ0_charAt_5068e_12 : decode cJ0_charAt_5068e 12 = .ok (.invokestatic 495, 3) := by decide +kernel
theorem dJ0_charAt_5068e_15 : decode cJ0_charAt_5068e 15 = .ok (.ireturn, 1) := by decide +kernel
theorem dJ0_substring_37a41_0 : decode cJ0_substring_37a41 0 = .ok (.aload_n 0, 1) := by decide +kernel
theorem dJ0_substring_37a41_1 : decode cJ0_substring_37a41 1 = .ok (.invokevirtual 505, 3) := by decide +kernel
theorem dJ0_substring_37a41_4 : decode cJ0_substring_37a41 4 = .ok (.istore_n 3, 1) := by decide +kernel
theorem dJ0_substring_37a41_5 : decode cJ0_substring_37a41 5 = .ok (.iload_n 1, 1) := by decide +kernel
theorem dJ0_substring_37a41_6 : decode cJ0_substring_37a41 6 = .ok (.iload_n 2, 1) := by decide +kernel
theorem dJ0_substring_37a41_7 : decode cJ0_substring_37a41 7 = .ok (.iload_n 3, 1) := by decide +kernel
theorem dJ0_substring_37a41_8 : decode cJ0_substring_37a41 8 = .ok (.invokestatic 521, 3) := by decide +kernel
theorem dJ0_substring_37a41_11 : decode cJ0_substring_37a41 11 = .ok (.iload_n 1, 1) := by decide +kernel
theorem dJ0_substring_37a41_12 : decode cJ0_substring_37a41 12 = .ok (.ifCond .ne 10, 3) := by decide +kernel
theorem dJ0_substring_37a41_15 : decode cJ0_substring_37a41 15 = .ok (.iload_n 2, 1) := by decide +kernel
theorem dJ0_substring_37a41_16 : decode cJ0_substring_37a41 16 = .ok (.iload_n 3, 1) := by decide +kernel
theorem dJ0_substring_37a41_17 : decode cJ0_substring_37a41 17 = .ok (.if_icmp .ne 5, 3) := by decide +kernel
theorem dJ0_substring_37a41_22 : decode cJ0_substring_37a41 22 = .ok (.iload_n 2, 1) := by decide +kernel
theorem dJ0_substring_37a41_23 : decode cJ0_substring_37a41 23 = .ok (.iload_n 1, 1) := by decide +kernel
theorem dJ0_substring_37a41_24 : decode cJ0_substring_37a41 24 = .ok (.isub, 1) := by decide +kernel
theorem dJ0_substring_37a41_25 : decode cJ0_substring_37a41 25 = .ok (.istore 4, 2) := by decide +kernel
theorem dJ0_substring_37a41_27 : decode cJ0_substring_37a41 27 = .ok (.aload_n 0, 1) := by decide +kernel
theorem dJ0_substring_37a41_28 : decode cJ0_substring_37a41 28 = .ok (.invokevirtual 492, 3) := by decide +kernel
theorem dJ0_substring_37a41_31 : decode cJ0_substring_37a41 31 = .ok (.ifCond .eq 16, 3) := by decide +kernel
theorem dJ0_substring_37a41_34 : decode cJ0_substring_37a41 34 = .ok (.aload_n 0, 1) := by decide +kernel
theorem dJ0_substring_37a41_35 : decode cJ0_substring_37a41 35 = .ok (.getfield 9, 3) := by decide +kernel
theorem dJ0_substring_37a41_38 : decode cJ0_substring_37a41 38 = .ok (.iload_n 1, 1) := by decide +kernel
theorem dJ0_substring_37a41_39 : decode cJ0_substring_37a41 39 = .ok (.iload 4, 2) := by decide +kernel
theorem dJ0_substring_37a41_41 : decode cJ0_substring_37a41 41 = .ok (.invokestatic 685, 3) := by decide +kernel
theorem dJ0_substring_37a41_44 : decode cJ0_substring_37a41 44 = .ok (.goto 13, 3) := by decide +kernel
theorem dJ0_substring_37a41_57 : decode cJ0_substring_37a41 57 = .ok (.areturn, 1) := by decide +kernel
theorem dJ0_getBytes_840e7_0 : decode cJ0_getBytes_840e7 0 = .ok (.aload_n 0, 1) := by decide +kernel
theorem dJ0_getBytes_840e7_1 : decode cJ0_getBytes_840e7 1 = .ok (.invokevirtual 335, 3) := by decide +kernel
theorem dJ0_getBytes_840e7_4 : decode cJ0_getBytes_840e7 4 = .ok (.iload_n 3, 1) := by decide +kernel
theorem dJ0_getBytes_840e7_5 : decode cJ0_getBytes_840e7 5 = .ok (.if_icmp .ne 23, 3) := by decide +kernel
theorem dJ0_getBytes_840e7_8 : decode cJ0_getBytes_840e7 8 = .ok (.aload_n 0, 1) := by decide +kernel
theorem dJ0_getBytes_840e7_9 : decode cJ0_getBytes_840e7 9 = .ok (.getfield 9, 3) := by decide +kernel
theorem dJ0_getBytes_840e7_12 : decode cJ0_getBytes_840e7 12 = .ok (.iconst 0, 1) := by decide +kernel
theorem dJ0_getBytes_840e7_13 : decode cJ0_getBytes_840e7 13 = .ok (.aload_n 1, 1) := by decide +kernel
theorem dJ0_getBytes_840e7_14 : decode cJ0_getBytes_840e7 14 = .ok (.iload_n 2, 1) := by decide +kernel
theorem dJ0_getBytes_840e7_15 : decode cJ0_getBytes_840e7 15 = .ok (.iload_n 3, 1) := by decide +kernel
theorem dJ0_getBytes_840e7_16 : decode cJ0_getBytes_840e7 16 = .ok (.ishl, 1) := by decide +kernel
theorem dJ0_getBytes_840e7_17 : decode cJ0_getBytes_840e7 17 = .ok (.aload_n 0, 1) := by decide +kernel
theorem dJ0_getBytes_840e7_18 : decode cJ0_getBytes_840e7 18 = .ok (.getfield 9, 3) := by decide +kernel
theorem dJ0_getBytes_840e7_21 : decode cJ0_getBytes_840e7 21 = .ok (.arraylength, 1) := by decide +kernel
theorem dJ0_getBytes_840e7_22 : decode cJ0_getBytes_840e7 22 = .ok (.invokestatic 212, 3) := by decide +kernel
theorem dJ0_getBytes_840e7_25 : decode cJ0_getBytes_840e7 25 = .ok (.goto 18, 3) := by decide +kernel
theorem dJ0_getBytes_840e7_43 : decode cJ0_getBytes_840e7 43 = .ok (.return_, 1) := by decide +kernel
theorem dJ0_init_db425_0 : decode cJ0_init_db425 0 = .ok (.aload_n 0, 1) := by decide +kernel
theorem dJ0_init_db425_1 : decode cJ0_init_db425 1 = .ok (.invokespecial 1, 3) := by decide +kernel
theorem dJ0_init_db425_4 : decode cJ0_init_db425 4 = .ok (.aload_n 1, 1) := by decide +kernel
theorem dJ0_init_db425_5 : decode cJ0_init_db425 5 = .ok (.invokevirtual 552, 3) := by decide +kernel
theorem dJ0_init_db425_8 : decode cJ0_init_db425 8 = .ok (.astore_n 3, 1) := by decide +kernel
theorem dJ0_init_db425_9 : decode cJ0_init_db425 9 = .ok (.aload_n 1, 1) := by decide +kernel
theorem dJ0_init_db425_10 : decode cJ0_init_db425 10 = .ok (.invokevirtual 549, 3) := by decide +kernel
theorem dJ0_init_db425_13 : decode cJ0_init_db425 13 = .ok (.istore 4, 2) := by decide +kernel
theorem dJ0_init_db425_15 : decode cJ0_init_db425 15 = .ok (.aload_n 1, 1) := by decide +kernel
theorem dJ0_init_db425_16 : decode cJ0_init_db425 16 = .ok (.invokevirtual 1047, 3) := by decide +kernel
theorem dJ0_init_db425_19 : decode cJ0_init_db425 19 = .ok (.ifCond .eq 22, 3) := by decide +kernel
theorem dJ0_init_db425_22 : decode cJ0_init_db425 22 = .ok (.aload_n 0, 1) := by decide +kernel
theorem dJ0_init_db425_23 : decode cJ0_init_db425 23 = .ok (.iconst 0, 1) := by decide +kernel
theorem dJ0_init_db425_24 : decode cJ0_init_db425 24 = .ok (.putfield 15, 3) := by decide +kernel
theorem dJ0_init_db425_27 : decode cJ0_init_db425 27 = .ok (.aload_n 0, 1) := by decide +kernel
theorem dJ0_init_db425_28 : decode cJ0_init_db425 28 = .ok (.aload_n 3, 1) := by decide +kernel
theorem dJ0_init_db425_29 : decode cJ0_init_db425 29 = .ok (.iconst 0, 1) := by decide +kernel
theorem dJ0_init_db425_30 : decode cJ0_init_db425 30 = .ok (.iload 4, 2) := by decide +kernel
theorem dJ0_init_db425_32 : decode cJ0_init_db425 32 = .ok (.invokestatic 54, 3) := by decide +kernel
theorem dJ0_init_db425_35 : decode cJ0_init_db425 35 = .ok (.putfield 9, 3) := by decide +kernel
theorem dJ0_init_db425_38 : decode cJ0_init_db425 38 = .ok (.goto 59, 3) := by decide +kernel
theorem dJ0_init_db425_97 : decode cJ0_init_db425 97 = .ok (.return_, 1) := by decide +kernel
theorem dJ0_init_031fb_0 : decode cJ0_init_031fb 0 = .ok (.aload_n 0, 1) := by decide +kernel
theorem dJ0_init_031fb_1 : decode cJ0_init_031fb 1 = .ok (.invokespecial 1, 3) := by decide +kernel
theorem dJ0_init_031fb_4 : decode cJ0_init_031fb 4 = .ok (.aload_n 0, 1) := by decide +kernel
theorem dJ0_init_031fb_5 : decode cJ0_init_031fb 5 = .ok (.aload_n 1, 1) := by decide +kernel
theorem dJ0_init_031fb_6 : decode cJ0_init_031fb 6 = .ok (.putfield 9, 3) := by decide +kernel
theorem dJ0_init_031fb_9 : decode cJ0_init_031fb 9 = .ok (.aload_n 0, 1) := by decide +kernel
theorem dJ0_init_031fb_10 : decode cJ0_init_031fb 10 = .ok (.iload_n 2, 1) := by decide +kernel
theorem dJ0_init_031fb_11 : decode cJ0_init_031fb 11 = .ok (.putfield 15, 3) := by decide +kernel
theorem dJ0_init_031fb_14 : decode cJ0_init_031fb 14 = .ok (.return_, 1) := by decide +kernel
theorem dJ0_coder_7d493_0 : decode cJ0_coder_7d493 0 = .ok (.getstatic 38, 3) := by decide +kernel
theorem dJ0_coder_7d493_3 : decode cJ0_coder_7d493 3 = .ok (.ifCond .eq 10, 3) := by decide +kernel
theorem dJ0_coder_7d493_6 : decode cJ0_coder_7d493 6 = .ok (.aload_n 0, 1) := by decide +kernel
theorem dJ0_coder_7d493_7 : decode cJ0_coder_7d493 7 = .ok (.getfield 15, 3) := by decide +kernel
theorem dJ0_coder_7d493_10 : decode cJ0_coder_7d493 10 = .ok (.goto 4, 3) := by decide +kernel
theorem dJ0_coder_7d493_14 : decode cJ0_coder_7d493 14 = .ok (.ireturn, 1) := by decide +kernel
theorem dJ0_isLatin1_aae02_0 : decode cJ0_isLatin1_aae02 0 = .ok (.getstatic 38, 3) := by decide +kernel
theorem dJ0_isLatin1_aae02_3 : decode cJ0_isLatin1_aae02 3 = .ok (.ifCond .eq 14, 3) := by decide +kernel
theorem dJ0_isLatin1_aae02_6 : decode cJ0_isLatin1_aae02 6 = .ok (.aload_n 0, 1) := by decide +kernel
theorem dJ0_isLatin1_aae02_7 : decode cJ0_isLatin1_aae02 7 = .ok (.getfield 15, 3) := by decide +kernel
theorem dJ0_isLatin1_aae02_10 : decode cJ0_isLatin1_aae02 10 = .ok (.ifCond .ne 7, 3) := by decide +kernel
theorem dJ0_isLatin1_aae02_13 : decode cJ0_isLatin1_aae02 13 = .ok (.iconst 1, 1) := by decide +kernel
theorem dJ0_isLatin1_aae02_14 : decode cJ0_isLatin1_aae02 14 = .ok (.goto 4, 3) := by decide +kernel
theorem dJ0_isLatin1_aae02_18 : decode cJ0_isLatin1_aae02 18 = .ok (.ireturn, 1) := by decide +kernel
theorem dJ0_checkIndex_df160_0 : decode cJ0_checkIndex_df160 0 = .ok (.iload_n 0, 1) := by decide +kernel
theorem dJ0_checkIndex_df160_1 : decode cJ0_checkIndex_df160 1 = .ok (.iload_n 1, 1) := by decide +kernel
theorem dJ0_checkIndex_df160_2 : decode cJ0_checkIndex_df160 2 = .ok (.getstatic 1053, 3) := by decide +kernel
theorem dJ0_checkIndex_df160_5 : decode cJ0_checkIndex_df160 5 = .ok (.invokestatic 1059, 3) := by decide +kernel
theorem dJ0_checkIndex_df160_8 : decode cJ0_checkIndex_df160 8 = .ok (.pop, 1) := by decide +kernel
theorem dJ0_checkIndex_df160_9 : decode cJ0_checkIndex_df160 9 = .ok (.return_, 1) := by decide +kernel
theorem dJ0_checkBoundsBeginEnd_23922_0 : decode cJ0_checkBoundsBeginEnd_23922 0 = .ok (.iload_n 0, 1) := by decide +kernel
theorem dJ0_checkBoundsBeginEnd_23922_1 : decode cJ0_checkBoundsBeginEnd_23922 1 = .ok (.iload_n 1, 1) := by decide +kernel
theorem dJ0_checkBoundsBeginEnd_23922_2 : decode cJ0_checkBoundsBeginEnd_23922 2 = .ok (.iload_n 2, 1) := by decide +kernel
theorem dJ0_checkBoundsBeginEnd_23922_3 : decode cJ0_checkBoundsBeginEnd_23922 3 = .ok (.getstatic 1053, 3) := by decide +kernel
theorem dJ0_checkBoundsBeginEnd_23922_6 : decode cJ0_checkBoundsBeginEnd_23922 6 = .ok (.invokestatic 1062, 3) := by decide +kernel
theorem dJ0_checkBoundsBeginEnd_23922_9 : decode cJ0_checkBoundsBeginEnd_23922 9 = .ok (.pop, 1) := by decide +kernel
theorem dJ0_checkBoundsBeginEnd_23922_10 : decode cJ0_checkBoundsBeginEnd_23922 10 = .ok (.return_, 1) := by decide +kernel
theorem dJ4_init_da8c8_0 : decode cJ4_init_da8c8 0 = .ok (.aload_n 0, 1) := by decide +kernel
theorem dJ4_init_da8c8_1 : decode cJ4_init_da8c8 1 = .ok (.bipush 16, 2) := by decide +kernel
theorem dJ4_init_da8c8_3 : decode cJ4_init_da8c8 3 = .ok (.invokespecial 1, 3) := by decide +kernel
theorem dJ4_init_da8c8_6 : decode cJ4_init_da8c8 6 = .ok (.return_, 1) := by decide +kernel
theorem dJ4_append_15ec4_0 : decode cJ4_append_15ec4 0 = .ok (.aload_n 0, 1) := by decide +kernel
theorem dJ4_append_15ec4_1 : decode cJ4_append_15ec4 1 = .ok (.aload_n 1, 1) := by decide +kernel
theorem dJ4_append_15ec4_2 : decode cJ4_append_15ec4 2 = .ok (.invokespecial 29, 3) := by decide +kernel
theorem dJ4_append_15ec4_5 : decode cJ4_append_15ec4 5 = .ok (.pop, 1) := by decide +kernel
theorem dJ4_append_15ec4_6 : decode cJ4_append_15ec4 6 = .ok (.aload_n 0, 1) := by decide +kernel
theorem dJ4_append_15ec4_7 : decode cJ4_append_15ec4 7 = .ok (.areturn, 1) := by decide +kernel
theorem dJ4_append_bf812_0 : decode cJ4_append_bf812 0 = .ok (.aload_n 0, 1) := by decide +kernel
theorem dJ4_append_bf812_1 : decode cJ4_append_bf812 1 = .ok (.iload_n 1, 1) := by decide +kernel
theorem dJ4_append_bf812_2 : decode cJ4_append_bf812 2 = .ok (.invokespecial 53, 3) := by decide +kernel
theorem dJ4_append_bf812_5 : decode cJ4_append_bf812 5 = .ok (.pop, 1) := by decide +kernel
theorem dJ4_append_bf812_6 : decode cJ4_append_bf812 6 = .ok (.aload_n 0, 1) := by decide +kernel
theorem dJ4_append_bf812_7 : decode cJ4_append_bf812 7 = .ok (.areturn, 1) := by decide +kernel
theorem dJ4_toString_0e30d_0 : decode cJ4_toString_0e30d 0 = .ok (.new 18, 3) := by decide +kernel
theorem dJ4_toString_0e30d_3 : decode cJ4_toString_0e30d 3 = .ok (.dup, 1) := by decide +kernel
theorem dJ4_toString_0e30d_4 : decode cJ4_toString_0e30d 4 = .ok (.aload_n 0, 1) := by decide +kernel
theorem dJ4_toString_0e30d_5 : decode cJ4_toString_0e30d 5 = .ok (.invokespecial 137, 3) := by decide +kernel
theorem dJ4_toString_0e30d_8 : decode cJ4_toString_0e30d 8 = .ok (.areturn, 1) := by decide +kernel
theorem dJ4_length_8abf5_0 : decode cJ4_length_8abf5 0 = .ok (.aload_n 0, 1) := by decide +kernel
theorem dJ4_length_8abf5_1 : decode cJ4_length_8abf5 1 = .ok (.invokespecial 343, 3) := by decide +kernel
theorem dJ4_length_8abf5_4 : decode cJ4_length_8abf5 4 = .ok (.ireturn, 1) := by decide +kernel
theorem dJ1_charAt_3b067_0 : decode cJ1_charAt_3b067 0 = .ok (.iload_n 1, 1) := by decide +kernel
theorem dJ1_charAt_3b067_1 : decode cJ1_charAt_3b067 1 = .ok (.aload_n 0, 1) := by decide +kernel
theorem dJ1_charAt_3b067_2 : decode cJ1_charAt_3b067 2 = .ok (.arraylength, 1) := by decide +kernel
theorem dJ1_charAt_3b067_3 : decode cJ1_charAt_3b067 3 = .ok (.invokestatic 9, 3) := by decide +kernel
theorem dJ1_charAt_3b067_6 : decode cJ1_charAt_3b067 6 = .ok (.aload_n 0, 1) := by decide +kernel
theorem dJ1_charAt_3b067_7 : decode cJ1_charAt_3b067 7 = .ok (.iload_n 1, 1) := by decide +kernel
theorem dJ1_charAt_3b067_8 : decode cJ1_charAt_3b067 8 = .ok (.baload, 1) := by decide +kernel
theorem dJ1_charAt_3b067_9 : decode cJ1_charAt_3b067 9 = .ok (.sipush 255, 3) := by decide +kernel
theorem dJ1_charAt_3b067_12 : decode cJ1_charAt_3b067 12 = .ok (.iand, 1) := by decide +kernel
theorem dJ1_charAt_3b067_13 : decode cJ1_charAt_3b067 13 = .ok (.i2c, 1) := by decide +kernel
theorem dJ1_charAt_3b067_14 : decode cJ1_charAt_3b067 14 = .ok (.ireturn, 1) := by decide +kernel
theorem dJ1_newString_b4f7a_0 : decode cJ1_newString_b4f7a 0 = .ok (.iload_n 2, 1) := by decide +kernel
theorem dJ1_newString_b4f7a_1 : decode cJ1_newString_b4f7a 1 = .ok (.ifCond .ne 6, 3) := by decide +kernel
theorem dJ1_newString_b4f7a_7 : decode cJ1_newString_b4f7a 7 = .ok (.new 1, 3) := by decide +kernel
theorem dJ1_newString_b4f7a_10 : decode cJ1_newString_b4f7a 10 = .ok (.dup, 1) := by decide +kernel
theorem dJ1_newString_b4f7a_11 : decode cJ1_newString_b4f7a 11 = .ok (.aload_n 0, 1) := by decide +kernel
theorem dJ1_newString_b4f7a_12 : decode cJ1_newString_b4f7a 12 = .ok (.iload_n 1, 1) := by decide +kernel
theorem dJ1_newString_b4f7a_13 : decode cJ1_newString_b4f7a 13 = .ok (.iload_n 1, 1) := by decide +kernel
theorem dJ1_newString_b4f7a_14 : decode cJ1_newString_b4f7a 14 = .ok (.iload_n 2, 1) := by decide +kernel
theorem dJ1_newString_b4f7a_15 : decode cJ1_newString_b4f7a 15 = .ok (.iadd, 1) := by decide +kernel
theorem dJ1_newString_b4f7a_16 : decode cJ1_newString_b4f7a 16 = .ok (.invokestatic 232, 3) := by decide +kernel
theorem dJ1_newString_b4f7a_19 : decode cJ1_newString_b4f7a 19 = .ok (.iconst 0, 1) := by decide +kernel
theorem dJ1_newString_b4f7a_20 : decode cJ1_newString_b4f7a 20 = .ok (.invokespecial 112, 3) := by decide +kernel
theorem dJ1_newString_b4f7a_23 : decode cJ1_newString_b4f7a 23 = .ok (.areturn, 1) := by decide +kernel
theorem dJ7_rangeCheck_23922_0 : decode cJ7_rangeCheck_23922 0 = .ok (.iload_n 1, 1) := by decide +kernel
theorem dJ7_rangeCheck_23922_1 : decode cJ7_rangeCheck_23922 1 = .ok (.iload_n 2, 1) := by decide +kernel
theorem dJ7_rangeCheck_23922_2 : decode cJ7_rangeCheck_23922 2 = .ok (.if_icmp .le 44, 3) := by decide +kernel
theorem dJ7_rangeCheck_23922_46 : decode cJ7_rangeCheck_23922 46 = .ok (.iload_n 1, 1) := by decide +kernel
theorem dJ7_rangeCheck_23922_47 : decode cJ7_rangeCheck_23922 47 = .ok (.ifCond .ge 12, 3) := by decide +kernel
theorem dJ7_rangeCheck_23922_59 : decode cJ7_rangeCheck_23922 59 = .ok (.iload_n 2, 1) := by decide +kernel
theorem dJ7_rangeCheck_23922_60 : decode cJ7_rangeCheck_23922 60 = .ok (.iload_n 0, 1) := by decide +kernel
theorem dJ7_rangeCheck_23922_61 : decode cJ7_rangeCheck_23922 61 = .ok (.if_icmp .le 12, 3) := by decide +kernel
theorem dJ7_rangeCheck_23922_73 : decode cJ7_rangeCheck_23922 73 = .ok (.return_, 1) := by decide +kernel
theorem dJ7_fill_53178_0 : decode cJ7_fill_53178 0 = .ok (.iconst 0, 1) := by decide +kernel
theorem dJ7_fill_53178_1 : decode cJ7_fill_53178 1 = .ok (.istore_n 2, 1) := by decide +kernel
theorem dJ7_fill_53178_2 : decode cJ7_fill_53178 2 = .ok (.aload_n 0, 1) := by decide +kernel
theorem dJ7_fill_53178_3 : decode cJ7_fill_53178 3 = .ok (.arraylength, 1) := by decide +kernel
theorem dJ7_fill_53178_4 : decode cJ7_fill_53178 4 = .ok (.istore_n 3, 1) := by decide +kernel
theorem dJ7_fill_53178_5 : decode cJ7_fill_53178 5 = .ok (.iload_n 2, 1) := by decide +kernel
theorem dJ7_fill_53178_6 : decode cJ7_fill_53178 6 = .ok (.iload_n 3, 1) := by decide +kernel
theorem dJ7_fill_53178_7 : decode cJ7_fill_53178 7 = .ok (.if_icmp .ge 13, 3) := by decide +kernel
theorem dJ7_fill_53178_10 : decode cJ7_fill_53178 10 = .ok (.aload_n 0, 1) := by decide +kernel
theorem dJ7_fill_53178_11 : decode cJ7_fill_53178 11 = .ok (.iload_n 2, 1) := by decide +kernel
theorem dJ7_fill_53178_12 : decode cJ7_fill_53178 12 = .ok (.iload_n 1, 1) := by decide +kernel
theorem dJ7_fill_53178_13 : decode cJ7_fill_53178 13 = .ok (.iastore, 1) := by decide +kernel
theorem dJ7_fill_53178_14 : decode cJ7_fill_53178 14 = .ok (.iinc 2 1, 3) := by decide +kernel
theorem dJ7_fill_53178_17 : decode cJ7_fill_53178 17 = .ok (.goto (-12), 3) := by decide +kernel
theorem dJ7_fill_53178_20 : decode cJ7_fill_53178 20 = .ok (.return_, 1) := by decide +kernel
theorem dJ7_fill_eb02e_0 : decode cJ7_fill_eb02e 0 = .ok (.aload_n 0, 1) := by decide +kernel
theorem dJ7_fill_eb02e_1 : decode cJ7_fill_eb02e 1 = .ok (.arraylength, 1) := by decide +kernel
theorem dJ7_fill_eb02e_2 : decode cJ7_fill_eb02e 2 = .ok (.iload_n 1, 1) := by decide +kernel
theorem dJ7_fill_eb02e_3 : decode cJ7_fill_eb02e 3 = .ok (.iload_n 2, 1) := by decide +kernel
theorem dJ7_fill_eb02e_4 : decode cJ7_fill_eb02e 4 = .ok (.invokestatic 13, 3) := by decide +kernel
theorem dJ7_fill_eb02e_7 : decode cJ7_fill_eb02e 7 = .ok (.iload_n 1, 1) := by decide +kernel
theorem dJ7_fill_eb02e_8 : decode cJ7_fill_eb02e 8 = .ok (.istore 4, 2) := by decide +kernel
theorem dJ7_fill_eb02e_10 : decode cJ7_fill_eb02e 10 = .ok (.iload 4, 2) := by decide +kernel
theorem dJ7_fill_eb02e_12 : decode cJ7_fill_eb02e 12 = .ok (.iload_n 2, 1) := by decide +kernel
theorem dJ7_fill_eb02e_13 : decode cJ7_fill_eb02e 13 = .ok (.if_icmp .ge 14, 3) := by decide +kernel
theorem dJ7_fill_eb02e_27 : decode cJ7_fill_eb02e 27 = .ok (.return_, 1) := by decide +kernel
theorem dJ7_checkLength_df160_0 : decode cJ7_checkLength_df160 0 = .ok (.iload_n 1, 1) := by decide +kernel
theorem dJ7_checkLength_df160_1 : decode cJ7_checkLength_df160 1 = .ok (.iload_n 0, 1) := by decide +kernel
theorem dJ7_checkLength_df160_2 : decode cJ7_checkLength_df160 2 = .ok (.if_icmp .ge 35, 3) := by decide +kernel
theorem dJ7_checkLength_df160_37 : decode cJ7_checkLength_df160 37 = .ok (.return_, 1) := by decide +kernel
theorem dJ7_copyOfRange_39247_0 : decode cJ7_copyOfRange_39247 0 = .ok (.iload_n 1, 1) := by decide +kernel
theorem dJ7_copyOfRange_39247_1 : decode cJ7_copyOfRange_39247 1 = .ok (.ifCond .ne 9, 3) := by decide +kernel
theorem dJ7_copyOfRange_39247_4 : decode cJ7_copyOfRange_39247 4 = .ok (.iload_n 2, 1) := by decide +kernel
theorem dJ7_copyOfRange_39247_5 : decode cJ7_copyOfRange_39247 5 = .ok (.aload_n 0, 1) := by decide +kernel
theorem dJ7_copyOfRange_39247_6 : decode cJ7_copyOfRange_39247 6 = .ok (.arraylength, 1) := by decide +kernel
theorem dJ7_copyOfRange_39247_7 : decode cJ7_copyOfRange_39247 7 = .ok (.if_icmp .eq 10, 3) := by decide +kernel
theorem dJ7_copyOfRange_39247_10 : decode cJ7_copyOfRange_39247 10 = .ok (.aload_n 0, 1) := by decide +kernel
theorem dJ7_copyOfRange_39247_11 : decode cJ7_copyOfRange_39247 11 = .ok (.iload_n 1, 1) := by decide +kernel
theorem dJ7_copyOfRange_39247_12 : decode cJ7_copyOfRange_39247 12 = .ok (.iload_n 2, 1) := by decide +kernel
theorem dJ7_copyOfRange_39247_13 : decode cJ7_copyOfRange_39247 13 = .ok (.invokestatic 339, 3) := by decide +kernel
theorem dJ7_copyOfRange_39247_16 : decode cJ7_copyOfRange_39247 16 = .ok (.areturn, 1) := by decide +kernel
theorem dJ7_copyOfRangeByte_39247_0 : decode cJ7_copyOfRangeByte_39247 0 = .ok (.iload_n 1, 1) := by decide +kernel
theorem dJ7_copyOfRangeByte_39247_1 : decode cJ7_copyOfRangeByte_39247 1 = .ok (.iload_n 2, 1) := by decide +kernel
theorem dJ7_copyOfRangeByte_39247_2 : decode cJ7_copyOfRangeByte_39247 2 = .ok (.invokestatic 343, 3) := by decide +kernel
theorem dJ7_copyOfRangeByte_39247_5 : decode cJ7_copyOfRangeByte_39247 5 = .ok (.iload_n 2, 1) := by decide +kernel
theorem dJ7_copyOfRangeByte_39247_6 : decode cJ7_copyOfRangeByte_39247 6 = .ok (.iload_n 1, 1) := by decide +kernel
theorem dJ7_copyOfRangeByte_39247_7 : decode cJ7_copyOfRangeByte_39247 7 = .ok (.isub, 1) := by decide +kernel
theorem dJ7_copyOfRangeByte_39247_8 : decode cJ7_copyOfRangeByte_39247 8 = .ok (.istore_n 3, 1) := by decide +kernel
theorem dJ7_copyOfRangeByte_39247_9 : decode cJ7_copyOfRangeByte_39247 9 = .ok (.iload_n 3, 1) := by decide +kernel
theorem dJ7_copyOfRangeByte_39247_10 : decode cJ7_copyOfRangeByte_39247 10 = .ok (.newarray .byte, 2) := by decide +kernel
theorem dJ7_copyOfRangeByte_39247_12 : decode cJ7_copyOfRangeByte_39247 12 = .ok (.astore 4, 2) := by decide +kernel
theorem dJ7_copyOfRangeByte_39247_14 : decode cJ7_copyOfRangeByte_39247 14 = .ok (.aload_n 0, 1) := by decide +kernel
theorem dJ7_copyOfRangeByte_39247_15 : decode cJ7_copyOfRangeByte_39247 15 = .ok (.iload_n 1, 1) := by decide +kernel
theorem dJ7_copyOfRangeByte_39247_16 : decode cJ7_copyOfRangeByte_39247 16 = .ok (.aload 4, 2) := by decide +kernel
theorem dJ7_copyOfRangeByte_39247_18 : decode cJ7_copyOfRangeByte_39247 18 = .ok (.iconst 0, 1) := by decide +kernel
theorem dJ7_copyOfRangeByte_39247_19 : decode cJ7_copyOfRangeByte_39247 19 = .ok (.aload_n 0, 1) := by decide +kernel
theorem dJ7_copyOfRangeByte_39247_20 : decode cJ7_copyOfRangeByte_39247 20 = .ok (.arraylength, 1) := by decide +kernel
theorem dJ7_copyOfRangeByte_39247_21 : decode cJ7_copyOfRangeByte_39247 21 = .ok (.iload_n 1, 1) := by decide +kernel
theorem dJ7_copyOfRangeByte_39247_22 : decode cJ7_copyOfRangeByte_39247 22 = .ok (.isub, 1) := by decide +kernel
theorem dJ7_copyOfRangeByte_39247_23 : decode cJ7_copyOfRangeByte_39247 23 = .ok (.iload_n 3, 1) := by decide +kernel
theorem dJ7_copyOfRangeByte_39247_24 : decode cJ7_copyOfRangeByte_39247 24 = .ok (.invokestatic 304, 3) := by decide +kernel
theorem dJ7_copyOfRangeByte_39247_27 : decode cJ7_copyOfRangeByte_39247 27 = .ok (.invokestatic 150, 3) := by decide +kernel
theorem dJ7_copyOfRangeByte_39247_30 : decode cJ7_copyOfRangeByte_39247 30 = .ok (.aload 4, 2) := by decide +kernel
theorem dJ7_copyOfRangeByte_39247_32 : decode cJ7_copyOfRangeByte_39247 32 = .ok (.areturn, 1) := by decide +kernel
theorem dJ3_checkIndex_8e157_0 : decode cJ3_checkIndex_8e157 0 = .ok (.iload_n 0, 1) := by decide +kernel
theorem dJ3_checkIndex_8e157_1 : decode cJ3_checkIndex_8e157 1 = .ok (.ifCond .lt 8, 3) := by decide +kernel
theorem dJ3_checkIndex_8e157_4 : decode cJ3_checkIndex_8e157 4 = .ok (.iload_n 0, 1) := by decide +kernel
theorem dJ3_checkIndex_8e157_5 : decode cJ3_checkIndex_8e157 5 = .ok (.iload_n 1, 1) := by decide +kernel
theorem dJ3_checkIndex_8e157_6 : decode cJ3_checkIndex_8e157 6 = .ok (.if_icmp .lt 10, 3) := by decide +kernel
theorem dJ3_checkIndex_8e157_16 : decode cJ3_checkIndex_8e157 16 = .ok (.iload_n 0, 1) := by decide +kernel
theorem dJ3_checkIndex_8e157_17 : decode cJ3_checkIndex_8e157 17 = .ok (.ireturn, 1) := by decide +kernel
theorem dJ3_checkFromToIndex_8c36e_0 : decode cJ3_checkFromToIndex_8c36e 0 = .ok (.iload_n 0, 1) := by decide +kernel
theorem dJ3_checkFromToIndex_8c36e_1 : decode cJ3_checkFromToIndex_8c36e 1 = .ok (.ifCond .lt 13, 3) := by decide +kernel
theorem dJ3_checkFromToIndex_8c36e_4 : decode cJ3_checkFromToIndex_8c36e 4 = .ok (.iload_n 0, 1) := by decide +kernel
theorem dJ3_checkFromToIndex_8c36e_5 : decode cJ3_checkFromToIndex_8c36e 5 = .ok (.iload_n 1, 1) := by decide +kernel
theorem dJ3_checkFromToIndex_8c36e_6 : decode cJ3_checkFromToIndex_8c36e 6 = .ok (.if_icmp .gt 8, 3) := by decide +kernel
theorem dJ3_checkFromToIndex_8c36e_9 : decode cJ3_checkFromToIndex_8c36e 9 = .ok (.iload_n 1, 1) := by decide +kernel
theorem dJ3_checkFromToIndex_8c36e_10 : decode cJ3_checkFromToIndex_8c36e 10 = .ok (.iload_n 2, 1) := by decide +kernel
theorem dJ3_checkFromToIndex_8c36e_11 : decode cJ3_checkFromToIndex_8c36e 11 = .ok (.if_icmp .le 11, 3) := by decide +kernel
theorem dJ3_checkFromToIndex_8c36e_22 : decode cJ3_checkFromToIndex_8c36e 22 = .ok (.iload_n 0, 1) := by decide +kernel
theorem dJ3_checkFromToIndex_8c36e_23 : decode cJ3_checkFromToIndex_8c36e 23 = .ok (.ireturn, 1) := by decide +kernel
theorem dL_unit_0 : decode cL_unit 0 = .ok (.aload_n 3, 1) := by decide +kernel
theorem dL_unit_1 : decode cL_unit 1 = .ok (.iconst 0, 1) := by decide +kernel
theorem dL_unit_2 : decode cL_unit 2 = .ok (.aload_n 0, 1) := by decide +kernel
theorem dL_unit_3 : decode cL_unit 3 = .ok (.iload_n 1, 1) := by decide +kernel
theorem dL_unit_4 : decode cL_unit 4 = .ok (.iload_n 2, 1) := by decide +kernel
theorem dL_unit_5 : decode cL_unit 5 = .ok (.invokevirtual 7, 3) := by decide +kernel
theorem dL_unit_8 : decode cL_unit 8 = .ok (.i2l, 1) := by decide +kernel
theorem dL_unit_9 : decode cL_unit 9 = .ok (.lastore, 1) := by decide +kernel
theorem dL_unit_10 : decode cL_unit 10 = .ok (.goto 7, 3) := by decide +kernel
theorem dL_unit_13 : decode cL_unit 13 = .ok (.astore 4, 2) := by decide +kernel
theorem dL_unit_15 : decode cL_unit 15 = .ok (.iconst 1, 1) := by decide +kernel
theorem dL_unit_16 : decode cL_unit 16 = .ok (.ireturn, 1) := by decide +kernel
theorem dL_unit_17 : decode cL_unit 17 = .ok (.iconst 0, 1) := by decide +kernel
theorem dL_unit_18 : decode cL_unit 18 = .ok (.ireturn, 1) := by decide +kernel
theorem dL_link_0 : decode cL_link 0 = .ok (.aload_n 1, 1) := by decide +kernel
theorem dL_link_1 : decode cL_link 1 = .ok (.iconst 0, 1) := by decide +kernel
theorem dL_link_2 : decode cL_link 2 = .ok (.aload_n 0, 1) := by decide +kernel
theorem dL_link_3 : decode cL_link 3 = .ok (.invokevirtual 15, 3) := by decide +kernel
theorem dL_link_6 : decode cL_link 6 = .ok (.i2l, 1) := by decide +kernel
theorem dL_link_7 : decode cL_link 7 = .ok (.lastore, 1) := by decide +kernel
theorem dL_link_8 : decode cL_link 8 = .ok (.goto 6, 3) := by decide +kernel
theorem dL_link_11 : decode cL_link 11 = .ok (.astore_n 2, 1) := by decide +kernel
theorem dL_link_12 : decode cL_link 12 = .ok (.iconst 1, 1) := by decide +kernel
theorem dL_link_13 : decode cL_link 13 = .ok (.ireturn, 1) := by decide +kernel
theorem dL_link_14 : decode cL_link 14 = .ok (.iconst 0, 1) := by decide +kernel
theorem dL_link_15 : decode cL_link 15 = .ok (.ireturn, 1) := by decide +kernel
theorem dL_symbol_0 : decode cL_symbol 0 = .ok (.aload_n 2, 1) := by decide +kernel
theorem dL_symbol_1 : decode cL_symbol 1 = .ok (.iconst 0, 1) := by decide +kernel
theorem dL_symbol_2 : decode cL_symbol 2 = .ok (.aload_n 0, 1) := by decide +kernel
theorem dL_symbol_3 : decode cL_symbol 3 = .ok (.iload_n 1, 1) := by decide +kernel
theorem dL_symbol_4 : decode cL_symbol 4 = .ok (.invokevirtual 21, 3) := by decide +kernel
theorem dL_symbol_7 : decode cL_symbol 7 = .ok (.lastore, 1) := by decide +kernel
theorem dL_symbol_8 : decode cL_symbol 8 = .ok (.goto 6, 3) := by decide +kernel
theorem dL_symbol_11 : decode cL_symbol 11 = .ok (.astore_n 3, 1) := by decide +kernel
theorem dL_symbol_12 : decode cL_symbol 12 = .ok (.iconst 1, 1) := by decide +kernel
theorem dL_symbol_13 : decode cL_symbol 13 = .ok (.ireturn, 1) := by decide +kernel
theorem dL_symbol_14 : decode cL_symbol 14 = .ok (.iconst 0, 1) := by decide +kernel
theorem dL_symbol_15 : decode cL_symbol 15 = .ok (.ireturn, 1) := by decide +kernel
theorem dL_load_0 : decode cL_load 0 = .ok (.aload_n 1, 1) := by decide +kernel
theorem dL_load_1 : decode cL_load 1 = .ok (.iconst 0, 1) := by decide +kernel
theorem dL_load_2 : decode cL_load 2 = .ok (.aload_n 0, 1) := by decide +kernel
theorem dL_load_3 : decode cL_load 3 = .ok (.invokevirtual 27, 3) := by decide +kernel
theorem dL_load_6 : decode cL_load 6 = .ok (.lastore, 1) := by decide +kernel
theorem dL_load_7 : decode cL_load 7 = .ok (.goto 6, 3) := by decide +kernel
theorem dL_load_10 : decode cL_load 10 = .ok (.astore_n 2, 1) := by decide +kernel
theorem dL_load_11 : decode cL_load 11 = .ok (.iconst 1, 1) := by decide +kernel
theorem dL_load_12 : decode cL_load 12 = .ok (.ireturn, 1) := by decide +kernel
theorem dL_load_13 : decode cL_load 13 = .ok (.iconst 0, 1) := by decide +kernel
theorem dL_load_14 : decode cL_load 14 = .ok (.ireturn, 1) := by decide +kernel
theorem dL_run_0 : decode cL_run 0 = .ok (.aload_n 2, 1) := by decide +kernel
theorem dL_run_1 : decode cL_run 1 = .ok (.iconst 0, 1) := by decide +kernel
theorem dL_run_2 : decode cL_run 2 = .ok (.aload_n 0, 1) := by decide +kernel
theorem dL_run_3 : decode cL_run 3 = .ok (.iload_n 1, 1) := by decide +kernel
theorem dL_run_4 : decode cL_run 4 = .ok (.invokevirtual 31, 3) := by decide +kernel
theorem dL_run_7 : decode cL_run 7 = .ok (.i2l, 1) := by decide +kernel
theorem dL_run_8 : decode cL_run 8 = .ok (.lastore, 1) := by decide +kernel
theorem dL_run_9 : decode cL_run 9 = .ok (.goto 9, 3) := by decide +kernel
theorem dL_run_12 : decode cL_run 12 = .ok (.astore_n 3, 1) := by decide +kernel
theorem dL_run_13 : decode cL_run 13 = .ok (.iconst 1, 1) := by decide +kernel
theorem dL_run_14 : decode cL_run 14 = .ok (.ireturn, 1) := by decide +kernel
theorem dL_run_15 : decode cL_run 15 = .ok (.astore_n 3, 1) := by decide +kernel
theorem dL_run_16 : decode cL_run 16 = .ok (.iconst 2, 1) := by decide +kernel
theorem dL_run_17 : decode cL_run 17 = .ok (.ireturn, 1) := by decide +kernel
theorem dL_run_18 : decode cL_run 18 = .ok (.iconst 0, 1) := by decide +kernel
theorem dL_run_19 : decode cL_run 19 = .ok (.ireturn, 1) := by decide +kernel
theorem dL_law_0 : decode cL_law 0 = .ok (.new 8, 3) := by decide +kernel
theorem dL_law_3 : decode cL_law 3 = .ok (.dup, 1) := by decide +kernel
theorem dL_law_4 : decode cL_law 4 = .ok (.invokespecial 35, 3) := by decide +kernel
theorem dL_law_7 : decode cL_law 7 = .ok (.astore_n 1, 1) := by decide +kernel
theorem dL_law_8 : decode cL_law 8 = .ok (.new 36, 3) := by decide +kernel
theorem dL_law_11 : decode cL_law 11 = .ok (.dup, 1) := by decide +kernel
theorem dL_law_12 : decode cL_law 12 = .ok (.invokespecial 38, 3) := by decide +kernel
theorem dL_law_15 : decode cL_law 15 = .ok (.astore_n 2, 1) := by decide +kernel
theorem dL_law_16 : decode cL_law 16 = .ok (.iconst 1, 1) := by decide +kernel
theorem dL_law_17 : decode cL_law 17 = .ok (.newarray .long, 2) := by decide +kernel
theorem dL_law_19 : decode cL_law 19 = .ok (.astore_n 3, 1) := by decide +kernel
theorem dL_law_20 : decode cL_law 20 = .ok (.iconst 0, 1) := by decide +kernel
theorem dL_law_21 : decode cL_law 21 = .ok (.istore 4, 2) := by decide +kernel
theorem dL_law_23 : decode cL_law 23 = .ok (.iload 4, 2) := by decide +kernel
theorem dL_law_25 : decode cL_law 25 = .ok (.aload_n 0, 1) := by decide +kernel
theorem dL_law_26 : decode cL_law 26 = .ok (.arraylength, 1) := by decide +kernel
theorem dL_law_27 : decode cL_law 27 = .ok (.bipush 6, 2) := by decide +kernel
theorem dL_law_29 : decode cL_law 29 = .ok (.isub, 1) := by decide +kernel
theorem dL_law_30 : decode cL_law 30 = .ok (.if_icmp .gt 884, 3) := by decide +kernel
theorem dL_law_33 : decode cL_law 33 = .ok (.aload_n 0, 1) := by decide +kernel
theorem dL_law_34 : decode cL_law 34 = .ok (.iload 4, 2) := by decide +kernel
theorem dL_law_36 : decode cL_law 36 = .ok (.iaload, 1) := by decide +kernel
theorem dL_law_37 : decode cL_law 37 = .ok (.bipush 31, 2) := by decide +kernel
theorem dL_law_39 : decode cL_law 39 = .ok (.iand, 1) := by decide +kernel
theorem dL_law_40 : decode cL_law 40 = .ok (.tableswitch 868 0 18 #[92, 165, 221, 232, 257, 294, 343, 359, 387, 403, 428, 456, 481, 506, 575, 632, 701, 786, 811], 92) := by decide +kernel
theorem dL_law_132 : decode cL_law 132 = .ok (.aload_n 1, 1) := by decide +kernel
theorem dL_law_133 : decode cL_law 133 = .ok (.aload_n 0, 1) := by decide +kernel
theorem dL_law_134 : decode cL_law 134 = .ok (.iload 4, 2) := by decide +kernel
theorem dL_law_136 : decode cL_law 136 = .ok (.iconst 1, 1) := by decide +kernel
theorem dL_law_137 : decode cL_law 137 = .ok (.iadd, 1) := by decide +kernel
theorem dL_law_138 : decode cL_law 138 = .ok (.iaload, 1) := by decide +kernel
theorem dL_law_139 : decode cL_law 139 = .ok (.aload_n 0, 1) := by decide +kernel
theorem dL_law_140 : decode cL_law 140 = .ok (.iload 4, 2) := by decide +kernel
theorem dL_law_142 : decode cL_law 142 = .ok (.iconst 2, 1) := by decide +kernel
theorem dL_law_143 : decode cL_law 143 = .ok (.iadd, 1) := by decide +kernel
theorem dL_law_144 : decode cL_law 144 = .ok (.iaload, 1) := by decide +kernel
theorem dL_law_145 : decode cL_law 145 = .ok (.aload_n 0, 1) := by decide +kernel
theorem dL_law_146 : decode cL_law 146 = .ok (.iload 4, 2) := by decide +kernel
theorem dL_law_148 : decode cL_law 148 = .ok (.iconst 3, 1) := by decide +kernel
theorem dL_law_149 : decode cL_law 149 = .ok (.iadd, 1) := by decide +kernel
theorem dL_law_150 : decode cL_law 150 = .ok (.iaload, 1) := by decide +kernel
theorem dL_law_151 : decode cL_law 151 = .ok (.aload_n 0, 1) := by decide +kernel
theorem dL_law_152 : decode cL_law 152 = .ok (.iload 4, 2) := by decide +kernel
theorem dL_law_154 : decode cL_law 154 = .ok (.iconst 4, 1) := by decide +kernel
theorem dL_law_155 : decode cL_law 155 = .ok (.iadd, 1) := by decide +kernel
theorem dL_law_156 : decode cL_law 156 = .ok (.iaload, 1) := by decide +kernel
theorem dL_law_157 : decode cL_law 157 = .ok (.aload_n 0, 1) := by decide +kernel
theorem dL_law_158 : decode cL_law 158 = .ok (.iload 4, 2) := by decide +kernel
theorem dL_law_160 : decode cL_law 160 = .ok (.iconst 5, 1) := by decide +kernel
theorem dL_law_161 : decode cL_law 161 = .ok (.iadd, 1) := by decide +kernel
theorem dL_law_162 : decode cL_law 162 = .ok (.iaload, 1) := by decide +kernel
theorem dL_law_163 : decode cL_law 163 = .ok (.invokevirtual 39, 3) := by decide +kernel
theorem dL_law_166 : decode cL_law 166 = .ok (.pop, 1) := by decide +kernel
theorem dL_law_167 : decode cL_law 167 = .ok (.aload_n 2, 1) := by decide +kernel
theorem dL_law_168 : decode cL_law 168 = .ok (.aload_n 0, 1) := by decide +kernel
theorem dL_law_169 : decode cL_law 169 = .ok (.iload 4, 2) := by decide +kernel
theorem dL_law_171 : decode cL_law 171 = .ok (.iconst 1, 1) := by decide +kernel
theorem dL_law_172 : decode cL_law 172 = .ok (.iadd, 1) := by decide +kernel
theorem dL_law_173 : decode cL_law 173 = .ok (.iaload, 1) := by decide +kernel
theorem dL_law_174 : decode cL_law 174 = .ok (.aload_n 0, 1) := by decide +kernel
theorem dL_law_175 : decode cL_law 175 = .ok (.iload 4, 2) := by decide +kernel
theorem dL_law_177 : decode cL_law 177 = .ok (.iconst 2, 1) := by decide +kernel
theorem dL_law_178 : decode cL_law 178 = .ok (.iadd, 1) := by decide +kernel
theorem dL_law_179 : decode cL_law 179 = .ok (.iaload, 1) := by decide +kernel
theorem dL_law_180 : decode cL_law 180 = .ok (.aload_n 0, 1) := by decide +kernel
theorem dL_law_181 : decode cL_law 181 = .ok (.iload 4, 2) := by decide +kernel
theorem dL_law_183 : decode cL_law 183 = .ok (.iconst 3, 1) := by decide +kernel
theorem dL_law_184 : decode cL_law 184 = .ok (.iadd, 1) := by decide +kernel
theorem dL_law_185 : decode cL_law 185 = .ok (.iaload, 1) := by decide +kernel
theorem dL_law_186 : decode cL_law 186 = .ok (.aload_n 0, 1) := by decide +kernel
theorem dL_law_187 : decode cL_law 187 = .ok (.iload 4, 2) := by decide +kernel
theorem dL_law_189 : decode cL_law 189 = .ok (.iconst 4, 1) := by decide +kernel
theorem dL_law_190 : decode cL_law 190 = .ok (.iadd, 1) := by decide +kernel
theorem dL_law_191 : decode cL_law 191 = .ok (.iaload, 1) := by decide +kernel
theorem dL_law_192 : decode cL_law 192 = .ok (.aload_n 0, 1) := by decide +kernel
theorem dL_law_193 : decode cL_law 193 = .ok (.iload 4, 2) := by decide +kernel
theorem dL_law_195 : decode cL_law 195 = .ok (.iconst 5, 1) := by decide +kernel
theorem dL_law_196 : decode cL_law 196 = .ok (.iadd, 1) := by decide +kernel
theorem dL_law_197 : decode cL_law 197 = .ok (.iaload, 1) := by decide +kernel
theorem dL_law_198 : decode cL_law 198 = .ok (.invokevirtual 43, 3) := by decide +kernel
theorem dL_law_201 : decode cL_law 201 = .ok (.pop, 1) := by decide +kernel
theorem dL_law_202 : decode cL_law 202 = .ok (.goto 706, 3) := by decide +kernel
theorem dL_law_205 : decode cL_law 205 = .ok (.aload_n 1, 1) := by decide +kernel
theorem dL_law_206 : decode cL_law 206 = .ok (.aload_n 0, 1) := by decide +kernel
theorem dL_law_207 : decode cL_law 207 = .ok (.iload 4, 2) := by decide +kernel
theorem dL_law_209 : decode cL_law 209 = .ok (.iconst 1, 1) := by decide +kernel
theorem dL_law_210 : decode cL_law 210 = .ok (.iadd, 1) := by decide +kernel
theorem dL_law_211 : decode cL_law 211 = .ok (.iaload, 1) := by decide +kernel
theorem dL_law_212 : decode cL_law 212 = .ok (.aload_n 0, 1) := by decide +kernel
theorem dL_law_213 : decode cL_law 213 = .ok (.iload 4, 2) := by decide +kernel
theorem dL_law_215 : decode cL_law 215 = .ok (.iconst 2, 1) := by decide +kernel
theorem dL_law_216 : decode cL_law 216 = .ok (.iadd, 1) := by decide +kernel
theorem dL_law_217 : decode cL_law 217 = .ok (.iaload, 1) := by decide +kernel
theorem dL_law_218 : decode cL_law 218 = .ok (.ifCond .eq 7, 3) := by decide +kernel
theorem dL_law_221 : decode cL_law 221 = .ok (.iconst 1, 1) := by decide +kernel
theorem dL_law_222 : decode cL_law 222 = .ok (.goto 4, 3) := by decide +kernel
theorem dL_law_225 : decode cL_law 225 = .ok (.iconst 0, 1) := by decide +kernel
theorem dL_law_226 : decode cL_law 226 = .ok (.aload_n 3, 1) := by decide +kernel
theorem dL_law_227 : decode cL_law 227 = .ok (.invokestatic 44, 3) := by decide +kernel
theorem dL_law_230 : decode cL_law 230 = .ok (.istore 5, 2) := by decide +kernel
theorem dL_law_232 : decode cL_law 232 = .ok (.aload_n 2, 1) := by decide +kernel
theorem dL_law_233 : decode cL_law 233 = .ok (.aload_n 0, 1) := by decide +kernel
theorem dL_law_234 : decode cL_law 234 = .ok (.iload 4, 2) := by decide +kernel
theorem dL_law_236 : decode cL_law 236 = .ok (.iconst 1, 1) := by decide +kernel
theorem dL_law_237 : decode cL_law 237 = .ok (.iadd, 1) := by decide +kernel
theorem dL_law_238 : decode cL_law 238 = .ok (.iaload, 1) := by decide +kernel
theorem dL_law_239 : decode cL_law 239 = .ok (.aload_n 0, 1) := by decide +kernel
theorem dL_law_240 : decode cL_law 240 = .ok (.iload 4, 2) := by decide +kernel
theorem dL_law_242 : decode cL_law 242 = .ok (.iconst 2, 1) := by decide +kernel
theorem dL_law_243 : decode cL_law 243 = .ok (.iadd, 1) := by decide +kernel
theorem dL_law_244 : decode cL_law 244 = .ok (.iaload, 1) := by decide +kernel
theorem dL_law_245 : decode cL_law 245 = .ok (.ifCond .eq 7, 3) := by decide +kernel
theorem dL_law_248 : decode cL_law 248 = .ok (.iconst 1, 1) := by decide +kernel
theorem dL_law_249 : decode cL_law 249 = .ok (.goto 4, 3) := by decide +kernel
theorem dL_law_252 : decode cL_law 252 = .ok (.iconst 0, 1) := by decide +kernel
theorem dL_law_253 : decode cL_law 253 = .ok (.invokevirtual 49, 3) := by decide +kernel
theorem dL_law_256 : decode cL_law 256 = .ok (.istore 6, 2) := by decide +kernel
theorem dL_law_258 : decode cL_law 258 = .ok (.goto 650, 3) := by decide +kernel
theorem dL_law_261 : decode cL_law 261 = .ok (.aload_n 1, 1) := by decide +kernel
theorem dL_law_262 : decode cL_law 262 = .ok (.invokevirtual 50, 3) := by decide +kernel
theorem dL_law_265 : decode cL_law 265 = .ok (.aload_n 2, 1) := by decide +kernel
theorem dL_law_266 : decode cL_law 266 = .ok (.invokevirtual 53, 3) := by decide +kernel
theorem dL_law_269 : decode cL_law 269 = .ok (.goto 639, 3) := by decide +kernel
theorem dL_law_272 : decode cL_law 272 = .ok (.aload_n 1, 1) := by decide +kernel
theorem dL_law_273 : decode cL_law 273 = .ok (.aload_n 0, 1) := by decide +kernel
theorem dL_law_274 : decode cL_law 274 = .ok (.iload 4, 2) := by decide +kernel
theorem dL_law_276 : decode cL_law 276 = .ok (.iconst 1, 1) := by decide +kernel
theorem dL_law_277 : decode cL_law 277 = .ok (.iadd, 1) := by decide +kernel
theorem dL_law_278 : decode cL_law 278 = .ok (.iaload, 1) := by decide +kernel
theorem dL_law_279 : decode cL_law 279 = .ok (.invokevirtual 54, 3) := by decide +kernel
theorem dL_law_282 : decode cL_law 282 = .ok (.pop, 1) := by decide +kernel
theorem dL_law_283 : decode cL_law 283 = .ok (.aload_n 2, 1) := by decide +kernel
theorem dL_law_284 : decode cL_law 284 = .ok (.aload_n 0, 1) := by decide +kernel
theorem dL_law_285 : decode cL_law 285 = .ok (.iload 4, 2) := by decide +kernel
theorem dL_law_287 : decode cL_law 287 = .ok (.iconst 1, 1) := by decide +kernel
theorem dL_law_288 : decode cL_law 288 = .ok (.iadd, 1) := by decide +kernel
theorem dL_law_289 : decode cL_law 289 = .ok (.iaload, 1) := by decide +kernel
theorem dL_law_290 : decode cL_law 290 = .ok (.invokevirtual 57, 3) := by decide +kernel
theorem dL_law_293 : decode cL_law 293 = .ok (.pop, 1) := by decide +kernel
theorem dL_law_294 : decode cL_law 294 = .ok (.goto 614, 3) := by decide +kernel
theorem dL_law_297 : decode cL_law 297 = .ok (.aload_n 1, 1) := by decide +kernel
theorem dL_law_298 : decode cL_law 298 = .ok (.aload_n 0, 1) := by decide +kernel
theorem dL_law_299 : decode cL_law 299 = .ok (.iload 4, 2) := by decide +kernel
theorem dL_law_301 : decode cL_law 301 = .ok (.iconst 1, 1) := by decide +kernel
theorem dL_law_302 : decode cL_law 302 = .ok (.iadd, 1) := by decide +kernel
theorem dL_law_303 : decode cL_law 303 = .ok (.iaload, 1) := by decide +kernel
theorem dL_law_304 : decode cL_law 304 = .ok (.aload_n 0, 1) := by decide +kernel
theorem dL_law_305 : decode cL_law 305 = .ok (.iload 4, 2) := by decide +kernel
theorem dL_law_307 : decode cL_law 307 = .ok (.iconst 2, 1) := by decide +kernel
theorem dL_law_308 : decode cL_law 308 = .ok (.iadd, 1) := by decide +kernel
theorem dL_law_309 : decode cL_law 309 = .ok (.iaload, 1) := by decide +kernel
theorem dL_law_310 : decode cL_law 310 = .ok (.invokevirtual 58, 3) := by decide +kernel
theorem dL_law_313 : decode cL_law 313 = .ok (.pop, 1) := by decide +kernel
theorem dL_law_314 : decode cL_law 314 = .ok (.aload_n 2, 1) := by decide +kernel
theorem dL_law_315 : decode cL_law 315 = .ok (.aload_n 0, 1) := by decide +kernel
theorem dL_law_316 : decode cL_law 316 = .ok (.iload 4, 2) := by decide +kernel
theorem dL_law_318 : decode cL_law 318 = .ok (.iconst 1, 1) := by decide +kernel
theorem dL_law_319 : decode cL_law 319 = .ok (.iadd, 1) := by decide +kernel
theorem dL_law_320 : decode cL_law 320 = .ok (.iaload, 1) := by decide +kernel
theorem dL_law_321 : decode cL_law 321 = .ok (.aload_n 0, 1) := by decide +kernel
theorem dL_law_322 : decode cL_law 322 = .ok (.iload 4, 2) := by decide +kernel
theorem dL_law_324 : decode cL_law 324 = .ok (.iconst 2, 1) := by decide +kernel
theorem dL_law_325 : decode cL_law 325 = .ok (.iadd, 1) := by decide +kernel
theorem dL_law_326 : decode cL_law 326 = .ok (.iaload, 1) := by decide +kernel
theorem dL_law_327 : decode cL_law 327 = .ok (.invokevirtual 62, 3) := by decide +kernel
theorem dL_law_330 : decode cL_law 330 = .ok (.pop, 1) := by decide +kernel
theorem dL_law_331 : decode cL_law 331 = .ok (.goto 577, 3) := by decide +kernel
theorem dL_law_334 : decode cL_law 334 = .ok (.aload_n 1, 1) := by decide +kernel
theorem dL_law_335 : decode cL_law 335 = .ok (.aload_n 0, 1) := by decide +kernel
theorem dL_law_336 : decode cL_law 336 = .ok (.iload 4, 2) := by decide +kernel
theorem dL_law_338 : decode cL_law 338 = .ok (.iconst 1, 1) := by decide +kernel
theorem dL_law_339 : decode cL_law 339 = .ok (.iadd, 1) := by decide +kernel
theorem dL_law_340 : decode cL_law 340 = .ok (.iaload, 1) := by decide +kernel
theorem dL_law_341 : decode cL_law 341 = .ok (.aload_n 0, 1) := by decide +kernel
theorem dL_law_342 : decode cL_law 342 = .ok (.iload 4, 2) := by decide +kernel
theorem dL_law_344 : decode cL_law 344 = .ok (.iconst 2, 1) := by decide +kernel
theorem dL_law_345 : decode cL_law 345 = .ok (.iadd, 1) := by decide +kernel
theorem dL_law_346 : decode cL_law 346 = .ok (.iaload, 1) := by decide +kernel
theorem dL_law_347 : decode cL_law 347 = .ok (.aload_n 0, 1) := by decide +kernel
theorem dL_law_348 : decode cL_law 348 = .ok (.iload 4, 2) := by decide +kernel
theorem dL_law_350 : decode cL_law 350 = .ok (.iconst 3, 1) := by decide +kernel
theorem dL_law_351 : decode cL_law 351 = .ok (.iadd, 1) := by decide +kernel
theorem dL_law_352 : decode cL_law 352 = .ok (.iaload, 1) := by decide +kernel
theorem dL_law_353 : decode cL_law 353 = .ok (.invokevirtual 63, 3) := by decide +kernel
theorem dL_law_356 : decode cL_law 356 = .ok (.pop, 1) := by decide +kernel
theorem dL_law_357 : decode cL_law 357 = .ok (.aload_n 2, 1) := by decide +kernel
theorem dL_law_358 : decode cL_law 358 = .ok (.aload_n 0, 1) := by decide +kernel
theorem dL_law_359 : decode cL_law 359 = .ok (.iload 4, 2) := by decide +kernel
theorem dL_law_361 : decode cL_law 361 = .ok (.iconst 1, 1) := by decide +kernel
theorem dL_law_362 : decode cL_law 362 = .ok (.iadd, 1) := by decide +kernel
theorem dL_law_363 : decode cL_law 363 = .ok (.iaload, 1) := by decide +kernel
theorem dL_law_364 : decode cL_law 364 = .ok (.aload_n 0, 1) := by decide +kernel
theorem dL_law_365 : decode cL_law 365 = .ok (.iload 4, 2) := by decide +kernel
theorem dL_law_367 : decode cL_law 367 = .ok (.iconst 2, 1) := by decide +kernel
theorem dL_law_368 : decode cL_law 368 = .ok (.iadd, 1) := by decide +kernel
theorem dL_law_369 : decode cL_law 369 = .ok (.iaload, 1) := by decide +kernel
theorem dL_law_370 : decode cL_law 370 = .ok (.aload_n 0, 1) := by decide +kernel
theorem dL_law_371 : decode cL_law 371 = .ok (.iload 4, 2) := by decide +kernel
theorem dL_law_373 : decode cL_law 373 = .ok (.iconst 3, 1) := by decide +kernel
theorem dL_law_374 : decode cL_law 374 = .ok (.iadd, 1) := by decide +kernel
theorem dL_law_375 : decode cL_law 375 = .ok (.iaload, 1) := by decide +kernel
theorem dL_law_376 : decode cL_law 376 = .ok (.invokevirtual 67, 3) := by decide +kernel
theorem dL_law_379 : decode cL_law 379 = .ok (.pop, 1) := by decide +kernel
theorem dL_law_380 : decode cL_law 380 = .ok (.goto 528, 3) := by decide +kernel
theorem dL_law_383 : decode cL_law 383 = .ok (.aload_n 1, 1) := by decide +kernel
theorem dL_law_384 : decode cL_law 384 = .ok (.aload_n 3, 1) := by decide +kernel
theorem dL_law_385 : decode cL_law 385 = .ok (.invokestatic 68, 3) := by decide +kernel
theorem dL_law_388 : decode cL_law 388 = .ok (.istore 5, 2) := by decide +kernel
theorem dL_law_390 : decode cL_law 390 = .ok (.aload_n 2, 1) := by decide +kernel
theorem dL_law_391 : decode cL_law 391 = .ok (.invokevirtual 71, 3) := by decide +kernel
theorem dL_law_394 : decode cL_law 394 = .ok (.istore 6, 2) := by decide +kernel
theorem dL_law_396 : decode cL_law 396 = .ok (.goto 512, 3) := by decide +kernel
theorem dL_law_399 : decode cL_law 399 = .ok (.aload_n 1, 1) := by decide +kernel
theorem dL_law_400 : decode cL_law 400 = .ok (.aload_n 0, 1) := by decide +kernel
theorem dL_law_401 : decode cL_law 401 = .ok (.iload 4, 2) := by decide +kernel
theorem dL_law_403 : decode cL_law 403 = .ok (.iconst 1, 1) := by decide +kernel
theorem dL_law_404 : decode cL_law 404 = .ok (.iadd, 1) := by decide +kernel
theorem dL_law_405 : decode cL_law 405 = .ok (.iaload, 1) := by decide +kernel
theorem dL_law_406 : decode cL_law 406 = .ok (.aload_n 3, 1) := by decide +kernel
theorem dL_law_407 : decode cL_law 407 = .ok (.invokestatic 72, 3) := by decide +kernel
theorem dL_law_410 : decode cL_law 410 = .ok (.istore 5, 2) := by decide +kernel
theorem dL_law_412 : decode cL_law 412 = .ok (.aload_n 2, 1) := by decide +kernel
theorem dL_law_413 : decode cL_law 413 = .ok (.aload_n 0, 1) := by decide +kernel
theorem dL_law_414 : decode cL_law 414 = .ok (.iload 4, 2) := by decide +kernel
theorem dL_law_416 : decode cL_law 416 = .ok (.iconst 1, 1) := by decide +kernel
theorem dL_law_417 : decode cL_law 417 = .ok (.iadd, 1) := by decide +kernel
theorem dL_law_418 : decode cL_law 418 = .ok (.iaload, 1) := by decide +kernel
theorem dL_law_419 : decode cL_law 419 = .ok (.invokevirtual 75, 3) := by decide +kernel
theorem dL_law_422 : decode cL_law 422 = .ok (.lstore 6, 2) := by decide +kernel
theorem dL_law_424 : decode cL_law 424 = .ok (.goto 484, 3) := by decide +kernel
theorem dL_law_427 : decode cL_law 427 = .ok (.aload_n 1, 1) := by decide +kernel
theorem dL_law_428 : decode cL_law 428 = .ok (.aload_n 3, 1) := by decide +kernel
theorem dL_law_429 : decode cL_law 429 = .ok (.invokestatic 76, 3) := by decide +kernel
theorem dL_law_432 : decode cL_law 432 = .ok (.istore 5, 2) := by decide +kernel
theorem dL_law_434 : decode cL_law 434 = .ok (.aload_n 2, 1) := by decide +kernel
theorem dL_law_435 : decode cL_law 435 = .ok (.invokevirtual 78, 3) := by decide +kernel
theorem dL_law_438 : decode cL_law 438 = .ok (.lstore 6, 2) := by decide +kernel
theorem dL_law_440 : decode cL_law 440 = .ok (.goto 468, 3) := by decide +kernel
theorem dL_law_443 : decode cL_law 443 = .ok (.aload_n 1, 1) := by decide +kernel
theorem dL_law_444 : decode cL_law 444 = .ok (.aload_n 0, 1) := by decide +kernel
theorem dL_law_445 : decode cL_law 445 = .ok (.iload 4, 2) := by decide +kernel
theorem dL_law_447 : decode cL_law 447 = .ok (.iconst 1, 1) := by decide +kernel
theorem dL_law_448 : decode cL_law 448 = .ok (.iadd, 1) := by decide +kernel
theorem dL_law_449 : decode cL_law 449 = .ok (.iaload, 1) := by decide +kernel
theorem dL_law_450 : decode cL_law 450 = .ok (.invokevirtual 79, 3) := by decide +kernel
theorem dL_law_453 : decode cL_law 453 = .ok (.pop, 1) := by decide +kernel
theorem dL_law_454 : decode cL_law 454 = .ok (.aload_n 2, 1) := by decide +kernel
theorem dL_law_455 : decode cL_law 455 = .ok (.aload_n 0, 1) := by decide +kernel
theorem dL_law_456 : decode cL_law 456 = .ok (.iload 4, 2) := by decide +kernel
theorem dL_law_458 : decode cL_law 458 = .ok (.iconst 1, 1) := by decide +kernel
theorem dL_law_459 : decode cL_law 459 = .ok (.iadd, 1) := by decide +kernel
theorem dL_law_460 : decode cL_law 460 = .ok (.iaload, 1) := by decide +kernel
theorem dL_law_461 : decode cL_law 461 = .ok (.invokevirtual 82, 3) := by decide +kernel
theorem dL_law_464 : decode cL_law 464 = .ok (.pop, 1) := by decide +kernel
theorem dL_law_465 : decode cL_law 465 = .ok (.goto 443, 3) := by decide +kernel
theorem dL_law_468 : decode cL_law 468 = .ok (.aload_n 1, 1) := by decide +kernel
theorem dL_law_469 : decode cL_law 469 = .ok (.aload_n 0, 1) := by decide +kernel
theorem dL_law_470 : decode cL_law 470 = .ok (.iload 4, 2) := by decide +kernel
theorem dL_law_472 : decode cL_law 472 = .ok (.iconst 1, 1) := by decide +kernel
theorem dL_law_473 : decode cL_law 473 = .ok (.iadd, 1) := by decide +kernel
theorem dL_law_474 : decode cL_law 474 = .ok (.iaload, 1) := by decide +kernel
theorem dL_law_475 : decode cL_law 475 = .ok (.aload_n 3, 1) := by decide +kernel
theorem dL_law_476 : decode cL_law 476 = .ok (.invokestatic 83, 3) := by decide +kernel
theorem dL_law_479 : decode cL_law 479 = .ok (.istore 5, 2) := by decide +kernel
theorem dL_law_481 : decode cL_law 481 = .ok (.aload_n 2, 1) := by decide +kernel
theorem dL_law_482 : decode cL_law 482 = .ok (.aload_n 0, 1) := by decide +kernel
theorem dL_law_483 : decode cL_law 483 = .ok (.iload 4, 2) := by decide +kernel
theorem dL_law_485 : decode cL_law 485 = .ok (.iconst 1, 1) := by decide +kernel
theorem dL_law_486 : decode cL_law 486 = .ok (.iadd, 1) := by decide +kernel
theorem dL_law_487 : decode cL_law 487 = .ok (.iaload, 1) := by decide +kernel
theorem dL_law_488 : decode cL_law 488 = .ok (.invokevirtual 85, 3) := by decide +kernel
theorem dL_law_491 : decode cL_law 491 = .ok (.istore 6, 2) := by decide +kernel
theorem dL_law_493 : decode cL_law 493 = .ok (.goto 415, 3) := by decide +kernel
theorem dL_law_496 : decode cL_law 496 = .ok (.aload_n 1, 1) := by decide +kernel
theorem dL_law_497 : decode cL_law 497 = .ok (.aload_n 0, 1) := by decide +kernel
theorem dL_law_498 : decode cL_law 498 = .ok (.iload 4, 2) := by decide +kernel
theorem dL_law_500 : decode cL_law 500 = .ok (.iconst 1, 1) := by decide +kernel
theorem dL_law_501 : decode cL_law 501 = .ok (.iadd, 1) := by decide +kernel
theorem dL_law_502 : decode cL_law 502 = .ok (.iaload, 1) := by decide +kernel
theorem dL_law_503 : decode cL_law 503 = .ok (.invokevirtual 86, 3) := by decide +kernel
theorem dL_law_506 : decode cL_law 506 = .ok (.pop2, 1) := by decide +kernel
theorem dL_law_507 : decode cL_law 507 = .ok (.aload_n 2, 1) := by decide +kernel
theorem dL_law_508 : decode cL_law 508 = .ok (.aload_n 0, 1) := by decide +kernel
theorem dL_law_509 : decode cL_law 509 = .ok (.iload 4, 2) := by decide +kernel
theorem dL_law_511 : decode cL_law 511 = .ok (.iconst 1, 1) := by decide +kernel
theorem dL_law_512 : decode cL_law 512 = .ok (.iadd, 1) := by decide +kernel
theorem dL_law_513 : decode cL_law 513 = .ok (.iaload, 1) := by decide +kernel
theorem dL_law_514 : decode cL_law 514 = .ok (.invokevirtual 89, 3) := by decide +kernel
theorem dL_law_517 : decode cL_law 517 = .ok (.pop2, 1) := by decide +kernel
theorem dL_law_518 : decode cL_law 518 = .ok (.goto 390, 3) := by decide +kernel
theorem dL_law_521 : decode cL_law 521 = .ok (.aload_n 1, 1) := by decide +kernel
theorem dL_law_522 : decode cL_law 522 = .ok (.aload_n 0, 1) := by decide +kernel
theorem dL_law_523 : decode cL_law 523 = .ok (.iload 4, 2) := by decide +kernel
theorem dL_law_525 : decode cL_law 525 = .ok (.iconst 1, 1) := by decide +kernel
theorem dL_law_526 : decode cL_law 526 = .ok (.iadd, 1) := by decide +kernel
theorem dL_law_527 : decode cL_law 527 = .ok (.iaload, 1) := by decide +kernel
theorem dL_law_528 : decode cL_law 528 = .ok (.invokevirtual 90, 3) := by decide +kernel
theorem dL_law_531 : decode cL_law 531 = .ok (.pop2, 1) := by decide +kernel
theorem dL_law_532 : decode cL_law 532 = .ok (.aload_n 2, 1) := by decide +kernel
theorem dL_law_533 : decode cL_law 533 = .ok (.aload_n 0, 1) := by decide +kernel
theorem dL_law_534 : decode cL_law 534 = .ok (.iload 4, 2) := by decide +kernel
theorem dL_law_536 : decode cL_law 536 = .ok (.iconst 1, 1) := by decide +kernel
theorem dL_law_537 : decode cL_law 537 = .ok (.iadd, 1) := by decide +kernel
theorem dL_law_538 : decode cL_law 538 = .ok (.iaload, 1) := by decide +kernel
theorem dL_law_539 : decode cL_law 539 = .ok (.invokevirtual 93, 3) := by decide +kernel
theorem dL_law_542 : decode cL_law 542 = .ok (.pop2, 1) := by decide +kernel
theorem dL_law_543 : decode cL_law 543 = .ok (.goto 365, 3) := by decide +kernel
theorem dL_law_546 : decode cL_law 546 = .ok (.aload_n 1, 1) := by decide +kernel
theorem dL_law_547 : decode cL_law 547 = .ok (.aload_n 0, 1) := by decide +kernel
theorem dL_law_548 : decode cL_law 548 = .ok (.iload 4, 2) := by decide +kernel
theorem dL_law_550 : decode cL_law 550 = .ok (.iconst 1, 1) := by decide +kernel
theorem dL_law_551 : decode cL_law 551 = .ok (.iadd, 1) := by decide +kernel
theorem dL_law_552 : decode cL_law 552 = .ok (.iaload, 1) := by decide +kernel
theorem dL_law_553 : decode cL_law 553 = .ok (.aload_n 0, 1) := by decide +kernel
theorem dL_law_554 : decode cL_law 554 = .ok (.iload 4, 2) := by decide +kernel
theorem dL_law_556 : decode cL_law 556 = .ok (.iconst 2, 1) := by decide +kernel
theorem dL_law_557 : decode cL_law 557 = .ok (.iadd, 1) := by decide +kernel
theorem dL_law_558 : decode cL_law 558 = .ok (.iaload, 1) := by decide +kernel
theorem dL_law_559 : decode cL_law 559 = .ok (.i2l, 1) := by decide +kernel
theorem dL_law_560 : decode cL_law 560 = .ok (.bipush 32, 2) := by decide +kernel
theorem dL_law_562 : decode cL_law 562 = .ok (.lshl, 1) := by decide +kernel
theorem dL_law_563 : decode cL_law 563 = .ok (.aload_n 0, 1) := by decide +kernel
theorem dL_law_564 : decode cL_law 564 = .ok (.iload 4, 2) := by decide +kernel
theorem dL_law_566 : decode cL_law 566 = .ok (.iconst 3, 1) := by decide +kernel
theorem dL_law_567 : decode cL_law 567 = .ok (.iadd, 1) := by decide +kernel
theorem dL_law_568 : decode cL_law 568 = .ok (.iaload, 1) := by decide +kernel
theorem dL_law_569 : decode cL_law 569 = .ok (.i2l, 1) := by decide +kernel
theorem dL_law_570 : decode cL_law 570 = .ok (.ldc2_w 94, 3) := by decide +kernel
theorem dL_law_573 : decode cL_law 573 = .ok (.land, 1) := by decide +kernel
theorem dL_law_574 : decode cL_law 574 = .ok (.lor, 1) := by decide +kernel
theorem dL_law_575 : decode cL_law 575 = .ok (.invokevirtual 96, 3) := by decide +kernel
theorem dL_law_578 : decode cL_law 578 = .ok (.pop, 1) := by decide +kernel
theorem dL_law_579 : decode cL_law 579 = .ok (.aload_n 2, 1) := by decide +kernel
theorem dL_law_580 : decode cL_law 580 = .ok (.aload_n 0, 1) := by decide +kernel
theorem dL_law_581 : decode cL_law 581 = .ok (.iload 4, 2) := by decide +kernel
theorem dL_law_583 : decode cL_law 583 = .ok (.iconst 1, 1) := by decide +kernel
theorem dL_law_584 : decode cL_law 584 = .ok (.iadd, 1) := by decide +kernel
theorem dL_law_585 : decode cL_law 585 = .ok (.iaload, 1) := by decide +kernel
theorem dL_law_586 : decode cL_law 586 = .ok (.aload_n 0, 1) := by decide +kernel
theorem dL_law_587 : decode cL_law 587 = .ok (.iload 4, 2) := by decide +kernel
theorem dL_law_589 : decode cL_law 589 = .ok (.iconst 2, 1) := by decide +kernel
theorem dL_law_590 : decode cL_law 590 = .ok (.iadd, 1) := by decide +kernel
theorem dL_law_591 : decode cL_law 591 = .ok (.iaload, 1) := by decide +kernel
theorem dL_law_592 : decode cL_law 592 = .ok (.i2l, 1) := by decide +kernel
theorem dL_law_593 : decode cL_law 593 = .ok (.bipush 32, 2) := by decide +kernel
theorem dL_law_595 : decode cL_law 595 = .ok (.lshl, 1) := by decide +kernel
theorem dL_law_596 : decode cL_law 596 = .ok (.aload_n 0, 1) := by decide +kernel
theorem dL_law_597 : decode cL_law 597 = .ok (.iload 4, 2) := by decide +kernel
theorem dL_law_599 : decode cL_law 599 = .ok (.iconst 3, 1) := by decide +kernel
theorem dL_law_600 : decode cL_law 600 = .ok (.iadd, 1) := by decide +kernel
theorem dL_law_601 : decode cL_law 601 = .ok (.iaload, 1) := by decide +kernel
theorem dL_law_602 : decode cL_law 602 = .ok (.i2l, 1) := by decide +kernel
theorem dL_law_603 : decode cL_law 603 = .ok (.ldc2_w 94, 3) := by decide +kernel
theorem dL_law_606 : decode cL_law 606 = .ok (.land, 1) := by decide +kernel
theorem dL_law_607 : decode cL_law 607 = .ok (.lor, 1) := by decide +kernel
theorem dL_law_608 : decode cL_law 608 = .ok (.invokevirtual 100, 3) := by decide +kernel
theorem dL_law_611 : decode cL_law 611 = .ok (.pop, 1) := by decide +kernel
theorem dL_law_612 : decode cL_law 612 = .ok (.goto 296, 3) := by decide +kernel
theorem dL_law_615 : decode cL_law 615 = .ok (.aload_n 1, 1) := by decide +kernel
theorem dL_law_616 : decode cL_law 616 = .ok (.aload_n 0, 1) := by decide +kernel
theorem dL_law_617 : decode cL_law 617 = .ok (.iload 4, 2) := by decide +kernel
theorem dL_law_619 : decode cL_law 619 = .ok (.iconst 1, 1) := by decide +kernel
theorem dL_law_620 : decode cL_law 620 = .ok (.iadd, 1) := by decide +kernel
theorem dL_law_621 : decode cL_law 621 = .ok (.iaload, 1) := by decide +kernel
theorem dL_law_622 : decode cL_law 622 = .ok (.i2l, 1) := by decide +kernel
theorem dL_law_623 : decode cL_law 623 = .ok (.bipush 32, 2) := by decide +kernel
theorem dL_law_625 : decode cL_law 625 = .ok (.lshl, 1) := by decide +kernel
theorem dL_law_626 : decode cL_law 626 = .ok (.aload_n 0, 1) := by decide +kernel
theorem dL_law_627 : decode cL_law 627 = .ok (.iload 4, 2) := by decide +kernel
theorem dL_law_629 : decode cL_law 629 = .ok (.iconst 2, 1) := by decide +kernel
theorem dL_law_630 : decode cL_law 630 = .ok (.iadd, 1) := by decide +kernel
theorem dL_law_631 : decode cL_law 631 = .ok (.iaload, 1) := by decide +kernel
theorem dL_law_632 : decode cL_law 632 = .ok (.i2l, 1) := by decide +kernel
theorem dL_law_633 : decode cL_law 633 = .ok (.ldc2_w 94, 3) := by decide +kernel
theorem dL_law_636 : decode cL_law 636 = .ok (.land, 1) := by decide +kernel
theorem dL_law_637 : decode cL_law 637 = .ok (.lor, 1) := by decide +kernel
theorem dL_law_638 : decode cL_law 638 = .ok (.invokevirtual 101, 3) := by decide +kernel
theorem dL_law_641 : decode cL_law 641 = .ok (.pop, 1) := by decide +kernel
theorem dL_law_642 : decode cL_law 642 = .ok (.aload_n 2, 1) := by decide +kernel
theorem dL_law_643 : decode cL_law 643 = .ok (.aload_n 0, 1) := by decide +kernel
theorem dL_law_644 : decode cL_law 644 = .ok (.iload 4, 2) := by decide +kernel
theorem dL_law_646 : decode cL_law 646 = .ok (.iconst 1, 1) := by decide +kernel
theorem dL_law_647 : decode cL_law 647 = .ok (.iadd, 1) := by decide +kernel
theorem dL_law_648 : decode cL_law 648 = .ok (.iaload, 1) := by decide +kernel
theorem dL_law_649 : decode cL_law 649 = .ok (.i2l, 1) := by decide +kernel
theorem dL_law_650 : decode cL_law 650 = .ok (.bipush 32, 2) := by decide +kernel
theorem dL_law_652 : decode cL_law 652 = .ok (.lshl, 1) := by decide +kernel
theorem dL_law_653 : decode cL_law 653 = .ok (.aload_n 0, 1) := by decide +kernel
theorem dL_law_654 : decode cL_law 654 = .ok (.iload 4, 2) := by decide +kernel
theorem dL_law_656 : decode cL_law 656 = .ok (.iconst 2, 1) := by decide +kernel
theorem dL_law_657 : decode cL_law 657 = .ok (.iadd, 1) := by decide +kernel
theorem dL_law_658 : decode cL_law 658 = .ok (.iaload, 1) := by decide +kernel
theorem dL_law_659 : decode cL_law 659 = .ok (.i2l, 1) := by decide +kernel
theorem dL_law_660 : decode cL_law 660 = .ok (.ldc2_w 94, 3) := by decide +kernel
theorem dL_law_663 : decode cL_law 663 = .ok (.land, 1) := by decide +kernel
theorem dL_law_664 : decode cL_law 664 = .ok (.lor, 1) := by decide +kernel
theorem dL_law_665 : decode cL_law 665 = .ok (.invokevirtual 105, 3) := by decide +kernel
theorem dL_law_668 : decode cL_law 668 = .ok (.pop, 1) := by decide +kernel
theorem dL_law_669 : decode cL_law 669 = .ok (.goto 239, 3) := by decide +kernel
theorem dL_law_672 : decode cL_law 672 = .ok (.aload_n 1, 1) := by decide +kernel
theorem dL_law_673 : decode cL_law 673 = .ok (.aload_n 0, 1) := by decide +kernel
theorem dL_law_674 : decode cL_law 674 = .ok (.iload 4, 2) := by decide +kernel
theorem dL_law_676 : decode cL_law 676 = .ok (.iconst 1, 1) := by decide +kernel
theorem dL_law_677 : decode cL_law 677 = .ok (.iadd, 1) := by decide +kernel
theorem dL_law_678 : decode cL_law 678 = .ok (.iaload, 1) := by decide +kernel
theorem dL_law_679 : decode cL_law 679 = .ok (.i2l, 1) := by decide +kernel
theorem dL_law_680 : decode cL_law 680 = .ok (.bipush 32, 2) := by decide +kernel
theorem dL_law_682 : decode cL_law 682 = .ok (.lshl, 1) := by decide +kernel
theorem dL_law_683 : decode cL_law 683 = .ok (.aload_n 0, 1) := by decide +kernel
theorem dL_law_684 : decode cL_law 684 = .ok (.iload 4, 2) := by decide +kernel
theorem dL_law_686 : decode cL_law 686 = .ok (.iconst 2, 1) := by decide +kernel
theorem dL_law_687 : decode cL_law 687 = .ok (.iadd, 1) := by decide +kernel
theorem dL_law_688 : decode cL_law 688 = .ok (.iaload, 1) := by decide +kernel
theorem dL_law_689 : decode cL_law 689 = .ok (.i2l, 1) := by decide +kernel
theorem dL_law_690 : decode cL_law 690 = .ok (.ldc2_w 94, 3) := by decide +kernel
theorem dL_law_693 : decode cL_law 693 = .ok (.land, 1) := by decide +kernel
theorem dL_law_694 : decode cL_law 694 = .ok (.lor, 1) := by decide +kernel
theorem dL_law_695 : decode cL_law 695 = .ok (.aload_n 0, 1) := by decide +kernel
theorem dL_law_696 : decode cL_law 696 = .ok (.iload 4, 2) := by decide +kernel
theorem dL_law_698 : decode cL_law 698 = .ok (.iconst 3, 1) := by decide +kernel
theorem dL_law_699 : decode cL_law 699 = .ok (.iadd, 1) := by decide +kernel
theorem dL_law_700 : decode cL_law 700 = .ok (.iaload, 1) := by decide +kernel
theorem dL_law_701 : decode cL_law 701 = .ok (.invokevirtual 106, 3) := by decide +kernel
theorem dL_law_704 : decode cL_law 704 = .ok (.pop, 1) := by decide +kernel
theorem dL_law_705 : decode cL_law 705 = .ok (.aload_n 2, 1) := by decide +kernel
theorem dL_law_706 : decode cL_law 706 = .ok (.aload_n 0, 1) := by decide +kernel
theorem dL_law_707 : decode cL_law 707 = .ok (.iload 4, 2) := by decide +kernel
theorem dL_law_709 : decode cL_law 709 = .ok (.iconst 1, 1) := by decide +kernel
theorem dL_law_710 : decode cL_law 710 = .ok (.iadd, 1) := by decide +kernel
theorem dL_law_711 : decode cL_law 711 = .ok (.iaload, 1) := by decide +kernel
theorem dL_law_712 : decode cL_law 712 = .ok (.i2l, 1) := by decide +kernel
theorem dL_law_713 : decode cL_law 713 = .ok (.bipush 32, 2) := by decide +kernel
theorem dL_law_715 : decode cL_law 715 = .ok (.lshl, 1) := by decide +kernel
theorem dL_law_716 : decode cL_law 716 = .ok (.aload_n 0, 1) := by decide +kernel
theorem dL_law_717 : decode cL_law 717 = .ok (.iload 4, 2) := by decide +kernel
theorem dL_law_719 : decode cL_law 719 = .ok (.iconst 2, 1) := by decide +kernel
theorem dL_law_720 : decode cL_law 720 = .ok (.iadd, 1) := by decide +kernel
theorem dL_law_721 : decode cL_law 721 = .ok (.iaload, 1) := by decide +kernel
theorem dL_law_722 : decode cL_law 722 = .ok (.i2l, 1) := by decide +kernel
theorem dL_law_723 : decode cL_law 723 = .ok (.ldc2_w 94, 3) := by decide +kernel
theorem dL_law_726 : decode cL_law 726 = .ok (.land, 1) := by decide +kernel
theorem dL_law_727 : decode cL_law 727 = .ok (.lor, 1) := by decide +kernel
theorem dL_law_728 : decode cL_law 728 = .ok (.aload_n 0, 1) := by decide +kernel
theorem dL_law_729 : decode cL_law 729 = .ok (.iload 4, 2) := by decide +kernel
theorem dL_law_731 : decode cL_law 731 = .ok (.iconst 3, 1) := by decide +kernel
theorem dL_law_732 : decode cL_law 732 = .ok (.iadd, 1) := by decide +kernel
theorem dL_law_733 : decode cL_law 733 = .ok (.iaload, 1) := by decide +kernel
theorem dL_law_734 : decode cL_law 734 = .ok (.invokevirtual 110, 3) := by decide +kernel
theorem dL_law_737 : decode cL_law 737 = .ok (.pop, 1) := by decide +kernel
theorem dL_law_738 : decode cL_law 738 = .ok (.goto 170, 3) := by decide +kernel
theorem dL_law_741 : decode cL_law 741 = .ok (.aload_n 1, 1) := by decide +kernel
theorem dL_law_742 : decode cL_law 742 = .ok (.aload_n 0, 1) := by decide +kernel
theorem dL_law_743 : decode cL_law 743 = .ok (.iload 4, 2) := by decide +kernel
theorem dL_law_745 : decode cL_law 745 = .ok (.iconst 1, 1) := by decide +kernel
theorem dL_law_746 : decode cL_law 746 = .ok (.iadd, 1) := by decide +kernel
theorem dL_law_747 : decode cL_law 747 = .ok (.iaload, 1) := by decide +kernel
theorem dL_law_748 : decode cL_law 748 = .ok (.i2l, 1) := by decide +kernel
theorem dL_law_749 : decode cL_law 749 = .ok (.bipush 32, 2) := by decide +kernel
theorem dL_law_751 : decode cL_law 751 = .ok (.lshl, 1) := by decide +kernel
theorem dL_law_752 : decode cL_law 752 = .ok (.aload_n 0, 1) := by decide +kernel
theorem dL_law_753 : decode cL_law 753 = .ok (.iload 4, 2) := by decide +kernel
theorem dL_law_755 : decode cL_law 755 = .ok (.iconst 2, 1) := by decide +kernel
theorem dL_law_756 : decode cL_law 756 = .ok (.iadd, 1) := by decide +kernel
theorem dL_law_757 : decode cL_law 757 = .ok (.iaload, 1) := by decide +kernel
theorem dL_law_758 : decode cL_law 758 = .ok (.i2l, 1) := by decide +kernel
theorem dL_law_759 : decode cL_law 759 = .ok (.ldc2_w 94, 3) := by decide +kernel
theorem dL_law_762 : decode cL_law 762 = .ok (.land, 1) := by decide +kernel
theorem dL_law_763 : decode cL_law 763 = .ok (.lor, 1) := by decide +kernel
theorem dL_law_764 : decode cL_law 764 = .ok (.aload_n 0, 1) := by decide +kernel
theorem dL_law_765 : decode cL_law 765 = .ok (.iload 4, 2) := by decide +kernel
theorem dL_law_767 : decode cL_law 767 = .ok (.iconst 3, 1) := by decide +kernel
theorem dL_law_768 : decode cL_law 768 = .ok (.iadd, 1) := by decide +kernel
theorem dL_law_769 : decode cL_law 769 = .ok (.iaload, 1) := by decide +kernel
theorem dL_law_770 : decode cL_law 770 = .ok (.ifCond .eq 7, 3) := by decide +kernel
theorem dL_law_773 : decode cL_law 773 = .ok (.iconst 1, 1) := by decide +kernel
theorem dL_law_774 : decode cL_law 774 = .ok (.goto 4, 3) := by decide +kernel
theorem dL_law_777 : decode cL_law 777 = .ok (.iconst 0, 1) := by decide +kernel
theorem dL_law_778 : decode cL_law 778 = .ok (.invokevirtual 111, 3) := by decide +kernel
theorem dL_law_781 : decode cL_law 781 = .ok (.aload_n 2, 1) := by decide +kernel
theorem dL_law_782 : decode cL_law 782 = .ok (.aload_n 0, 1) := by decide +kernel
theorem dL_law_783 : decode cL_law 783 = .ok (.iload 4, 2) := by decide +kernel
theorem dL_law_785 : decode cL_law 785 = .ok (.iconst 1, 1) := by decide +kernel
theorem dL_law_786 : decode cL_law 786 = .ok (.iadd, 1) := by decide +kernel
theorem dL_law_787 : decode cL_law 787 = .ok (.iaload, 1) := by decide +kernel
theorem dL_law_788 : decode cL_law 788 = .ok (.i2l, 1) := by decide +kernel
theorem dL_law_789 : decode cL_law 789 = .ok (.bipush 32, 2) := by decide +kernel
theorem dL_law_791 : decode cL_law 791 = .ok (.lshl, 1) := by decide +kernel
theorem dL_law_792 : decode cL_law 792 = .ok (.aload_n 0, 1) := by decide +kernel
theorem dL_law_793 : decode cL_law 793 = .ok (.iload 4, 2) := by decide +kernel
theorem dL_law_795 : decode cL_law 795 = .ok (.iconst 2, 1) := by decide +kernel
theorem dL_law_796 : decode cL_law 796 = .ok (.iadd, 1) := by decide +kernel
theorem dL_law_797 : decode cL_law 797 = .ok (.iaload, 1) := by decide +kernel
theorem dL_law_798 : decode cL_law 798 = .ok (.i2l, 1) := by decide +kernel
theorem dL_law_799 : decode cL_law 799 = .ok (.ldc2_w 94, 3) := by decide +kernel
theorem dL_law_802 : decode cL_law 802 = .ok (.land, 1) := by decide +kernel
theorem dL_law_803 : decode cL_law 803 = .ok (.lor, 1) := by decide +kernel
theorem dL_law_804 : decode cL_law 804 = .ok (.aload_n 0, 1) := by decide +kernel
theorem dL_law_805 : decode cL_law 805 = .ok (.iload 4, 2) := by decide +kernel
theorem dL_law_807 : decode cL_law 807 = .ok (.iconst 3, 1) := by decide +kernel
theorem dL_law_808 : decode cL_law 808 = .ok (.iadd, 1) := by decide +kernel
theorem dL_law_809 : decode cL_law 809 = .ok (.iaload, 1) := by decide +kernel
theorem dL_law_810 : decode cL_law 810 = .ok (.ifCond .eq 7, 3) := by decide +kernel
theorem dL_law_813 : decode cL_law 813 = .ok (.iconst 1, 1) := by decide +kernel
theorem dL_law_814 : decode cL_law 814 = .ok (.goto 4, 3) := by decide +kernel
theorem dL_law_817 : decode cL_law 817 = .ok (.iconst 0, 1) := by decide +kernel
theorem dL_law_818 : decode cL_law 818 = .ok (.invokevirtual 115, 3) := by decide +kernel
theorem dL_law_821 : decode cL_law 821 = .ok (.if_icmp .eq 87, 3) := by decide +kernel
theorem dL_law_824 : decode cL_law 824 = .ok (.iconst 0, 1) := by decide +kernel
theorem dL_law_825 : decode cL_law 825 = .ok (.ireturn, 1) := by decide +kernel
theorem dL_law_826 : decode cL_law 826 = .ok (.aload_n 1, 1) := by decide +kernel
theorem dL_law_827 : decode cL_law 827 = .ok (.aload_n 0, 1) := by decide +kernel
theorem dL_law_828 : decode cL_law 828 = .ok (.iload 4, 2) := by decide +kernel
theorem dL_law_830 : decode cL_law 830 = .ok (.iconst 1, 1) := by decide +kernel
theorem dL_law_831 : decode cL_law 831 = .ok (.iadd, 1) := by decide +kernel
theorem dL_law_832 : decode cL_law 832 = .ok (.iaload, 1) := by decide +kernel
theorem dL_law_833 : decode cL_law 833 = .ok (.invokevirtual 116, 3) := by decide +kernel
theorem dL_law_836 : decode cL_law 836 = .ok (.pop, 1) := by decide +kernel
theorem dL_law_837 : decode cL_law 837 = .ok (.aload_n 2, 1) := by decide +kernel
theorem dL_law_838 : decode cL_law 838 = .ok (.aload_n 0, 1) := by decide +kernel
theorem dL_law_839 : decode cL_law 839 = .ok (.iload 4, 2) := by decide +kernel
theorem dL_law_841 : decode cL_law 841 = .ok (.iconst 1, 1) := by decide +kernel
theorem dL_law_842 : decode cL_law 842 = .ok (.iadd, 1) := by decide +kernel
theorem dL_law_843 : decode cL_law 843 = .ok (.iaload, 1) := by decide +kernel
theorem dL_law_844 : decode cL_law 844 = .ok (.invokevirtual 119, 3) := by decide +kernel
theorem dL_law_847 : decode cL_law 847 = .ok (.pop, 1) := by decide +kernel
theorem dL_law_848 : decode cL_law 848 = .ok (.goto 60, 3) := by decide +kernel
theorem dL_law_851 : decode cL_law 851 = .ok (.aload_n 1, 1) := by decide +kernel
theorem dL_law_852 : decode cL_law 852 = .ok (.aload_n 0, 1) := by decide +kernel
theorem dL_law_853 : decode cL_law 853 = .ok (.iload 4, 2) := by decide +kernel
theorem dL_law_855 : decode cL_law 855 = .ok (.iconst 1, 1) := by decide +kernel
theorem dL_law_856 : decode cL_law 856 = .ok (.iadd, 1) := by decide +kernel
theorem dL_law_857 : decode cL_law 857 = .ok (.iaload, 1) := by decide +kernel
theorem dL_law_858 : decode cL_law 858 = .ok (.i2l, 1) := by decide +kernel
theorem dL_law_859 : decode cL_law 859 = .ok (.bipush 32, 2) := by decide +kernel
theorem dL_law_861 : decode cL_law 861 = .ok (.lshl, 1) := by decide +kernel
theorem dL_law_862 : decode cL_law 862 = .ok (.aload_n 0, 1) := by decide +kernel
theorem dL_law_863 : decode cL_law 863 = .ok (.iload 4, 2) := by decide +kernel
theorem dL_law_865 : decode cL_law 865 = .ok (.iconst 2, 1) := by decide +kernel
theorem dL_law_866 : decode cL_law 866 = .ok (.iadd, 1) := by decide +kernel
theorem dL_law_867 : decode cL_law 867 = .ok (.iaload, 1) := by decide +kernel
theorem dL_law_868 : decode cL_law 868 = .ok (.i2l, 1) := by decide +kernel
theorem dL_law_869 : decode cL_law 869 = .ok (.ldc2_w 94, 3) := by decide +kernel
theorem dL_law_872 : decode cL_law 872 = .ok (.land, 1) := by decide +kernel
theorem dL_law_873 : decode cL_law 873 = .ok (.lor, 1) := by decide +kernel
theorem dL_law_874 : decode cL_law 874 = .ok (.invokevirtual 120, 3) := by decide +kernel
theorem dL_law_877 : decode cL_law 877 = .ok (.pop, 1) := by decide +kernel
theorem dL_law_878 : decode cL_law 878 = .ok (.aload_n 2, 1) := by decide +kernel
theorem dL_law_879 : decode cL_law 879 = .ok (.aload_n 0, 1) := by decide +kernel
theorem dL_law_880 : decode cL_law 880 = .ok (.iload 4, 2) := by decide +kernel
theorem dL_law_882 : decode cL_law 882 = .ok (.iconst 1, 1) := by decide +kernel
theorem dL_law_883 : decode cL_law 883 = .ok (.iadd, 1) := by decide +kernel
theorem dL_law_884 : decode cL_law 884 = .ok (.iaload, 1) := by decide +kernel
theorem dL_law_885 : decode cL_law 885 = .ok (.i2l, 1) := by decide +kernel
theorem dL_law_886 : decode cL_law 886 = .ok (.bipush 32, 2) := by decide +kernel
theorem dL_law_888 : decode cL_law 888 = .ok (.lshl, 1) := by decide +kernel
theorem dL_law_889 : decode cL_law 889 = .ok (.aload_n 0, 1) := by decide +kernel
theorem dL_law_890 : decode cL_law 890 = .ok (.iload 4, 2) := by decide +kernel
theorem dL_law_892 : decode cL_law 892 = .ok (.iconst 2, 1) := by decide +kernel
theorem dL_law_893 : decode cL_law 893 = .ok (.iadd, 1) := by decide +kernel
theorem dL_law_894 : decode cL_law 894 = .ok (.iaload, 1) := by decide +kernel
theorem dL_law_895 : decode cL_law 895 = .ok (.i2l, 1) := by decide +kernel
theorem dL_law_896 : decode cL_law 896 = .ok (.ldc2_w 94, 3) := by decide +kernel
theorem dL_law_899 : decode cL_law 899 = .ok (.land, 1) := by decide +kernel
theorem dL_law_900 : decode cL_law 900 = .ok (.lor, 1) := by decide +kernel
theorem dL_law_901 : decode cL_law 901 = .ok (.invokevirtual 123, 3) := by decide +kernel
theorem dL_law_904 : decode cL_law 904 = .ok (.pop, 1) := by decide +kernel
theorem dL_law_905 : decode cL_law 905 = .ok (.goto 3, 3) := by decide +kernel
theorem dL_law_908 : decode cL_law 908 = .ok (.iinc 4 6, 3) := by decide +kernel
theorem dL_law_911 : decode cL_law 911 = .ok (.goto (-888), 3) := by decide +kernel
theorem dL_law_914 : decode cL_law 914 = .ok (.iconst 1, 1) := by decide +kernel
theorem dL_law_915 : decode cL_law 915 = .ok (.ireturn, 1) := by decide +kernel
abbrev vwCl : List vw_C := [(RJ0, TJ0, 4), (RJ4, TJ4, 4), (RX0, TX0, 15), (RX1, TX1, 11), (RX2, TX2, 21), (RX3, TX3, 10), (RX4, TX4, 18), (RX5, TX5, 17), (RX6, TX6, 12), (RX7, TX7, 6), (RX8, TX8, 20), (RX9, TX9, 14), (RX10, TX10, 19), (RX11, TX11, 9), (RX12, TX12, 13), (RX13, TX13, 205)]
