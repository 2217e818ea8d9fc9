def RX0 : String := "ThumbLinker$Build"
def TX0 : u_T := fun k => match k with
  | 0 => ("ThumbLinker$Build", "labels", "LThumbLinker$Labels;", true)
  | 1 => ("ThumbLinker$Build", "layout", "LThumbLinker$Layout;", true)
  | _ => ("ThumbLinker$Build", "image", "LThumbLinker$Image;", true)
def tyX0 : Nat → FieldType := fun k => match k with
  | 0 => .object "ThumbLinker$Labels"
  | 1 => .object "ThumbLinker$Layout"
  | _ => .object "ThumbLinker$Image"
abbrev wsX00 : List Cond := u_ws RX0 TX0 3
theorem nmX0 : ∀ a, a < 3 → ∀ b, b < 3 → a ≠ b → (TX0 a).2.1 ≠ (TX0 b).2.1 := by decide +kernel
theorem tyX0_ok : ∀ k, k < 3 → parseFieldDescriptor (TX0 k).2.2.1 = some (tyX0 k) := by decide +kernel
abbrev cX0_init : ByteArray := prog_2_method_1_code
def yX0_init : MethodName := ⟨RX0, "<init>", "()V"⟩
abbrev cX0_clear : ByteArray := prog_2_method_2_code
def yX0_clear : MethodName := ⟨RX0, "clear", "()V"⟩
abbrev cX0_addressOf : ByteArray := prog_2_method_3_code
def yX0_addressOf : MethodName := ⟨RX0, "addressOf", "(I)I"⟩
abbrev cX0_layOut : ByteArray := prog_2_method_4_code
def yX0_layOut : MethodName := ⟨RX0, "layOut", "(LThumbLinker$Statement;II)I"⟩
abbrev cX0_write : ByteArray := prog_2_method_5_code
def yX0_write : MethodName := ⟨RX0, "write", "(LThumbLinker$Statement;I)I"⟩
abbrev cX0_writeWord : ByteArray := prog_2_method_6_code
def yX0_writeWord : MethodName := ⟨RX0, "writeWord", "(LThumbLinker$Statement;II)I"⟩
abbrev cX0_writeInstruction : ByteArray := prog_2_method_7_code
def yX0_writeInstruction : MethodName := ⟨RX0, "writeInstruction", "(LThumbLinker$Statement;II)I"⟩
abbrev cX0_resolve : ByteArray := prog_2_method_8_code
def yX0_resolve : MethodName := ⟨RX0, "resolve", "(IJ)I"⟩
abbrev cX0_reaches : ByteArray := prog_2_method_9_code
def yX0_reaches : MethodName := ⟨RX0, "reaches", "(IIZ)Z"⟩
abbrev cX0_distanceBits : ByteArray := prog_2_method_10_code
def yX0_distanceBits : MethodName := ⟨RX0, "distanceBits", "(II)I"⟩
abbrev cX0_writeCall : ByteArray := prog_2_method_11_code
def yX0_writeCall : MethodName := ⟨RX0, "writeCall", "(III)V"⟩
def RX1 : String := "ThumbLinker$Fault"
def TX1 : u_T := fun k => match k with
  | 0 => ("ThumbLinker$Fault", "kind", "I", false)
  | 1 => ("ThumbLinker$Fault", "module", "I", false)
  | 2 => ("ThumbLinker$Fault", "line", "I", false)
  | _ => ("ThumbLinker$Fault", "place", "I", false)
def tyX1 : Nat → FieldType := fun k => match k with
  | 0 => .int
  | 1 => .int
  | 2 => .int
  | _ => .int
abbrev wsX10 : List Cond := u_ws RX1 TX1 4
theorem nmX1 : ∀ a, a < 4 → ∀ b, b < 4 → a ≠ b → (TX1 a).2.1 ≠ (TX1 b).2.1 := by decide +kernel
theorem tyX1_ok : ∀ k, k < 4 → parseFieldDescriptor (TX1 k).2.2.1 = some (tyX1 k) := by decide +kernel
abbrev cX1_init : ByteArray := prog_3_method_1_code
def yX1_init : MethodName := ⟨RX1, "<init>", "()V"⟩
abbrev cX1_forget : ByteArray := prog_3_method_2_code
def yX1_forget : MethodName := ⟨RX1, "forget", "()V"⟩
abbrev cX1_tell : ByteArray := prog_3_method_3_code
def yX1_tell : MethodName := ⟨RX1, "tell", "(IIII)Z"⟩
def RX2 : String := "ThumbLinker$Image"
def TX2 : u_T := fun k => match k with
  | 0 => ("ThumbLinker$Image", "bytes", "[B", true)
  | _ => ("ThumbLinker$Image", "length", "I", false)
def tyX2 : Nat → FieldType := fun k => match k with
  | 0 => .array .byte
  | _ => .int
abbrev wsX20 : List Cond := u_ws RX2 TX2 2
theorem nmX2 : ∀ a, a < 2 → ∀ b, b < 2 → a ≠ b → (TX2 a).2.1 ≠ (TX2 b).2.1 := by decide +kernel
theorem tyX2_ok : ∀ k, k < 2 → parseFieldDescriptor (TX2 k).2.2.1 = some (tyX2 k) := by decide +kernel
abbrev cX2_init : ByteArray := prog_4_method_1_code
def yX2_init : MethodName := ⟨RX2, "<init>", "()V"⟩
abbrev cX2_clear : ByteArray := prog_4_method_2_code
def yX2_clear : MethodName := ⟨RX2, "clear", "()V"⟩
abbrev cX2_putByte : ByteArray := prog_4_method_3_code
def yX2_putByte : MethodName := ⟨RX2, "putByte", "(II)V"⟩
abbrev cX2_putHalf : ByteArray := prog_4_method_4_code
def yX2_putHalf : MethodName := ⟨RX2, "putHalf", "(II)V"⟩
abbrev cX2_putWord : ByteArray := prog_4_method_5_code
def yX2_putWord : MethodName := ⟨RX2, "putWord", "(II)V"⟩
abbrev cX2_byteAt : ByteArray := prog_4_method_6_code
def yX2_byteAt : MethodName := ⟨RX2, "byteAt", "(I)I"⟩
abbrev cX2_recordCharacter : ByteArray := prog_4_method_7_code
def yX2_recordCharacter : MethodName := ⟨RX2, "recordCharacter", "(I)C"⟩
abbrev cX2_bodyCharacter : ByteArray := prog_4_method_8_code
def yX2_bodyCharacter : MethodName := ⟨RX2, "bodyCharacter", "(II)C"⟩
abbrev cX2_recordByte : ByteArray := prog_4_method_9_code
def yX2_recordByte : MethodName := ⟨RX2, "recordByte", "(III)I"⟩
abbrev cX2_plainRecordByte : ByteArray := prog_4_method_10_code
def yX2_plainRecordByte : MethodName := ⟨RX2, "plainRecordByte", "(III)I"⟩
def RX3 : String := "ThumbLinker$Labels"
def TX3 : u_T := fun k => match k with
  | 0 => ("ThumbLinker$Labels", "names", "[J", true)
  | 1 => ("ThumbLinker$Labels", "global", "[Z", true)
  | 2 => ("ThumbLinker$Labels", "modules", "[I", true)
  | 3 => ("ThumbLinker$Labels", "sections", "[I", true)
  | 4 => ("ThumbLinker$Labels", "offsets", "[I", true)
  | _ => ("ThumbLinker$Labels", "count", "I", false)
def tyX3 : Nat → FieldType := fun k => match k with
  | 0 => .array .long
  | 1 => .array .boolean
  | 2 => .array .int
  | 3 => .array .int
  | 4 => .array .int
  | _ => .int
abbrev wsX30 : List Cond := u_ws RX3 TX3 6
theorem nmX3 : ∀ a, a < 6 → ∀ b, b < 6 → a ≠ b → (TX3 a).2.1 ≠ (TX3 b).2.1 := by decide +kernel
theorem tyX3_ok : ∀ k, k < 6 → parseFieldDescriptor (TX3 k).2.2.1 = some (tyX3 k) := by decide +kernel
abbrev cX3_init : ByteArray := prog_5_method_1_code
def yX3_init : MethodName := ⟨RX3, "<init>", "()V"⟩
abbrev cX3_append : ByteArray := prog_5_method_2_code
def yX3_append : MethodName := ⟨RX3, "append", "(JIII)V"⟩
abbrev cX3_find : ByteArray := prog_5_method_3_code
def yX3_find : MethodName := ⟨RX3, "find", "(IJ)I"⟩
abbrev cX3_findGlobal : ByteArray := prog_5_method_4_code
def yX3_findGlobal : MethodName := ⟨RX3, "findGlobal", "(J)I"⟩
abbrev cX3_makeGlobal : ByteArray := prog_5_method_5_code
def yX3_makeGlobal : MethodName := ⟨RX3, "makeGlobal", "(IJ)I"⟩
def RX4 : String := "ThumbLinker$Layout"
def TX4 : u_T := fun k => match k with
  | 0 => ("ThumbLinker$Layout", "sizes", "[[I", true)
  | 1 => ("ThumbLinker$Layout", "addresses", "[[I", true)
  | 2 => ("ThumbLinker$Layout", "dataInFlash", "[I", true)
  | _ => ("ThumbLinker$Layout", "flashEnd", "I", false)
def tyX4 : Nat → FieldType := fun k => match k with
  | 0 => .array (.array .int)
  | 1 => .array (.array .int)
  | 2 => .array .int
  | _ => .int
abbrev wsX40 : List Cond := u_ws RX4 TX4 4
theorem nmX4 : ∀ a, a < 4 → ∀ b, b < 4 → a ≠ b → (TX4 a).2.1 ≠ (TX4 b).2.1 := by decide +kernel
theorem tyX4_ok : ∀ k, k < 4 → parseFieldDescriptor (TX4 k).2.2.1 = some (tyX4 k) := by decide +kernel
abbrev cX4_init : ByteArray := prog_6_method_1_code
def yX4_init : MethodName := ⟨RX4, "<init>", "()V"⟩
abbrev cX4_clear : ByteArray := prog_6_method_2_code
def yX4_clear : MethodName := ⟨RX4, "clear", "()V"⟩
abbrev cX4_arrange : ByteArray := prog_6_method_3_code
def yX4_arrange : MethodName := ⟨RX4, "arrange", "()Z"⟩
abbrev cX4_line : ByteArray := prog_6_method_4_code
def yX4_line : MethodName := ⟨RX4, "line", "(II)I"⟩
abbrev cX4_nextFour : ByteArray := prog_6_method_5_code
def yX4_nextFour : MethodName := ⟨RX4, "nextFour", "(I)I"⟩
def RX5 : String := "ThumbLinker$Mnemonic"
def TX5 : u_T := fun k => match k with
  | _ => ("", "", "", false)
def tyX5 : Nat → FieldType := fun k => match k with
  | _ => .int
abbrev wsX50 : List Cond := u_ws RX5 TX5 0
theorem nmX5 : ∀ a, a < 0 → ∀ b, b < 0 → a ≠ b → (TX5 a).2.1 ≠ (TX5 b).2.1 := by decide +kernel
theorem tyX5_ok : ∀ k, k < 0 → parseFieldDescriptor (TX5 k).2.2.1 = some (tyX5 k) := by decide +kernel
def RX6 : String := "ThumbLinker$Parser"
def TX6 : u_T := fun k => match k with
  | _ => ("ThumbLinker$Parser", "scan", "LThumbLinker$Scanner;", true)
def tyX6 : Nat → FieldType := fun k => match k with
  | _ => .object "ThumbLinker$Scanner"
abbrev wsX60 : List Cond := u_ws RX6 TX6 1
theorem nmX6 : ∀ a, a < 1 → ∀ b, b < 1 → a ≠ b → (TX6 a).2.1 ≠ (TX6 b).2.1 := by decide +kernel
theorem tyX6_ok : ∀ k, k < 1 → parseFieldDescriptor (TX6 k).2.2.1 = some (tyX6 k) := by decide +kernel
abbrev cX6_init : ByteArray := prog_8_method_1_code
def yX6_init : MethodName := ⟨RX6, "<init>", "()V"⟩
abbrev cX6_parse : ByteArray := prog_8_method_2_code
def yX6_parse : MethodName := ⟨RX6, "parse", "(LThumbLinker$Text;LThumbLinker$Statement;)V"⟩
abbrev cX6_label : ByteArray := prog_8_method_3_code
def yX6_label : MethodName := ⟨RX6, "label", "(LThumbLinker$Statement;)V"⟩
abbrev cX6_directive : ByteArray := prog_8_method_4_code
def yX6_directive : MethodName := ⟨RX6, "directive", "(LThumbLinker$Mnemonic;LThumbLinker$Statement;)V"⟩
abbrev cX6_reference : ByteArray := prog_8_method_5_code
def yX6_reference : MethodName := ⟨RX6, "reference", "(LThumbLinker$Statement;)V"⟩
abbrev cX6_value : ByteArray := prog_8_method_6_code
def yX6_value : MethodName := ⟨RX6, "value", "(LThumbLinker$Statement;)V"⟩
abbrev cX6_instruction : ByteArray := prog_8_method_7_code
def yX6_instruction : MethodName := ⟨RX6, "instruction", "(LThumbLinker$Mnemonic;LThumbLinker$Statement;)V"⟩
abbrev cX6_firstRegister : ByteArray := prog_8_method_8_code
def yX6_firstRegister : MethodName := ⟨RX6, "firstRegister", "()I"⟩
abbrev cX6_move : ByteArray := prog_8_method_9_code
def yX6_move : MethodName := ⟨RX6, "move", "(LThumbLinker$Mnemonic;)I"⟩
abbrev cX6_sum : ByteArray := prog_8_method_10_code
def yX6_sum : MethodName := ⟨RX6, "sum", "(LThumbLinker$Mnemonic;)I"⟩
abbrev cX6_shift : ByteArray := prog_8_method_11_code
def yX6_shift : MethodName := ⟨RX6, "shift", "(LThumbLinker$Mnemonic;)I"⟩
abbrev cX6_pair : ByteArray := prog_8_method_12_code
def yX6_pair : MethodName := ⟨RX6, "pair", "(LThumbLinker$Mnemonic;)I"⟩
abbrev cX6_memory : ByteArray := prog_8_method_13_code
def yX6_memory : MethodName := ⟨RX6, "memory", "(I)I"⟩
abbrev cX6_list : ByteArray := prog_8_method_14_code
def yX6_list : MethodName := ⟨RX6, "list", "(Ljava/lang/String;)I"⟩
abbrev cX6_exchanged : ByteArray := prog_8_method_15_code
def yX6_exchanged : MethodName := ⟨RX6, "exchanged", "()I"⟩
def RX7 : String := "ThumbLinker$Scanner"
def TX7 : u_T := fun k => match k with
  | 0 => ("ThumbLinker$Scanner", "line", "LThumbLinker$Text;", false)
  | 1 => ("ThumbLinker$Scanner", "end", "I", false)
  | 2 => ("ThumbLinker$Scanner", "start", "I", false)
  | 3 => ("ThumbLinker$Scanner", "fault", "I", false)
  | _ => ("ThumbLinker$Scanner", "faultPlace", "I", false)
def tyX7 : Nat → FieldType := fun k => match k with
  | 0 => .object "ThumbLinker$Text"
  | 1 => .int
  | 2 => .int
  | 3 => .int
  | _ => .int
abbrev wsX70 : List Cond := u_ws RX7 TX7 5
theorem nmX7 : ∀ a, a < 5 → ∀ b, b < 5 → a ≠ b → (TX7 a).2.1 ≠ (TX7 b).2.1 := by decide +kernel
theorem tyX7_ok : ∀ k, k < 5 → parseFieldDescriptor (TX7 k).2.2.1 = some (tyX7 k) := by decide +kernel
abbrev cX7_init : ByteArray := prog_9_method_1_code
def yX7_init : MethodName := ⟨RX7, "<init>", "()V"⟩
abbrev cX7_begin : ByteArray := prog_9_method_2_code
def yX7_begin : MethodName := ⟨RX7, "begin", "(LThumbLinker$Text;)V"⟩
abbrev cX7_step : ByteArray := prog_9_method_3_code
def yX7_step : MethodName := ⟨RX7, "step", "()V"⟩
abbrev cX7_stepBackTo : ByteArray := prog_9_method_4_code
def yX7_stepBackTo : MethodName := ⟨RX7, "stepBackTo", "(I)V"⟩
abbrev cX7_fail : ByteArray := prog_9_method_5_code
def yX7_fail : MethodName := ⟨RX7, "fail", "(II)V"⟩
abbrev cX7_atEnd : ByteArray := prog_9_method_6_code
def yX7_atEnd : MethodName := ⟨RX7, "atEnd", "()Z"⟩
abbrev cX7_sees : ByteArray := prog_9_method_7_code
def yX7_sees : MethodName := ⟨RX7, "sees", "(C)Z"⟩
abbrev cX7_seesLetter : ByteArray := prog_9_method_8_code
def yX7_seesLetter : MethodName := ⟨RX7, "seesLetter", "()Z"⟩
abbrev cX7_seesWord : ByteArray := prog_9_method_9_code
def yX7_seesWord : MethodName := ⟨RX7, "seesWord", "(Ljava/lang/String;)Z"⟩
abbrev cX7_seenMnemonic : ByteArray := prog_9_method_10_code
def yX7_seenMnemonic : MethodName := ⟨RX7, "seenMnemonic", "()LThumbLinker$Mnemonic;"⟩
abbrev cX7_seenRegister : ByteArray := prog_9_method_11_code
def yX7_seenRegister : MethodName := ⟨RX7, "seenRegister", "()I"⟩
abbrev cX7_seenName : ByteArray := prog_9_method_12_code
def yX7_seenName : MethodName := ⟨RX7, "seenName", "()J"⟩
abbrev cX7_accept : ByteArray := prog_9_method_13_code
def yX7_accept : MethodName := ⟨RX7, "accept", "(C)Z"⟩
abbrev cX7_expect : ByteArray := prog_9_method_14_code
def yX7_expect : MethodName := ⟨RX7, "expect", "(C)V"⟩
abbrev cX7_register : ByteArray := prog_9_method_15_code
def yX7_register : MethodName := ⟨RX7, "register", "()I"⟩
abbrev cX7_name : ByteArray := prog_9_method_16_code
def yX7_name : MethodName := ⟨RX7, "name", "()J"⟩
abbrev cX7_digits : ByteArray := prog_9_method_17_code
def yX7_digits : MethodName := ⟨RX7, "digits", "()I"⟩
abbrev cX7_number : ByteArray := prog_9_method_18_code
def yX7_number : MethodName := ⟨RX7, "number", "(II)I"⟩
def RX8 : String := "ThumbLinker$Source"
def TX8 : u_T := fun k => match k with
  | 0 => ("ThumbLinker$Source", "statements", "[LThumbLinker$Statement;", true)
  | _ => ("ThumbLinker$Source", "count", "I", false)
def tyX8 : Nat → FieldType := fun k => match k with
  | 0 => .array (.object "ThumbLinker$Statement")
  | _ => .int
abbrev wsX80 : List Cond := u_ws RX8 TX8 2
theorem nmX8 : ∀ a, a < 2 → ∀ b, b < 2 → a ≠ b → (TX8 a).2.1 ≠ (TX8 b).2.1 := by decide +kernel
theorem tyX8_ok : ∀ k, k < 2 → parseFieldDescriptor (TX8 k).2.2.1 = some (tyX8 k) := by decide +kernel
abbrev cX8_init : ByteArray := prog_10_method_1_code
def yX8_init : MethodName := ⟨RX8, "<init>", "()V"⟩
def RX9 : String := "ThumbLinker$Statement"
def TX9 : u_T := fun k => match k with
  | 0 => ("ThumbLinker$Statement", "label", "J", false)
  | 1 => ("ThumbLinker$Statement", "labelPlace", "I", false)
  | 2 => ("ThumbLinker$Statement", "place", "I", false)
  | 3 => ("ThumbLinker$Statement", "kind", "I", false)
  | 4 => ("ThumbLinker$Statement", "reach", "I", false)
  | 5 => ("ThumbLinker$Statement", "number", "I", false)
  | 6 => ("ThumbLinker$Statement", "bytes", "I", false)
  | 7 => ("ThumbLinker$Statement", "name", "J", false)
  | 8 => ("ThumbLinker$Statement", "namePlace", "I", false)
  | 9 => ("ThumbLinker$Statement", "section", "I", false)
  | 10 => ("ThumbLinker$Statement", "offset", "I", false)
  | 11 => ("ThumbLinker$Statement", "fault", "I", false)
  | _ => ("ThumbLinker$Statement", "faultPlace", "I", false)
def tyX9 : Nat → FieldType := fun k => match k with
  | 0 => .long
  | 1 => .int
  | 2 => .int
  | 3 => .int
  | 4 => .int
  | 5 => .int
  | 6 => .int
  | 7 => .long
  | 8 => .int
  | 9 => .int
  | 10 => .int
  | 11 => .int
  | _ => .int
abbrev wsX90 : List Cond := u_ws RX9 TX9 13
theorem nmX9 : ∀ a, a < 13 → ∀ b, b < 13 → a ≠ b → (TX9 a).2.1 ≠ (TX9 b).2.1 := by decide +kernel
theorem tyX9_ok : ∀ k, k < 13 → parseFieldDescriptor (TX9 k).2.2.1 = some (tyX9 k) := by decide +kernel
abbrev cX9_init : ByteArray := prog_11_method_1_code
def yX9_init : MethodName := ⟨RX9, "<init>", "()V"⟩
abbrev cX9_clear : ByteArray := prog_11_method_2_code
def yX9_clear : MethodName := ⟨RX9, "clear", "()V"⟩
def RX10 : String := "ThumbLinker$Text"
def TX10 : u_T := fun k => match k with
  | 0 => ("ThumbLinker$Text", "characters", "[C", true)
  | _ => ("ThumbLinker$Text", "length", "I", false)
def tyX10 : Nat → FieldType := fun k => match k with
  | 0 => .array .char
  | _ => .int
abbrev wsX100 : List Cond := u_ws RX10 TX10 2
theorem nmX10 : ∀ a, a < 2 → ∀ b, b < 2 → a ≠ b → (TX10 a).2.1 ≠ (TX10 b).2.1 := by decide +kernel
theorem tyX10_ok : ∀ k, k < 2 → parseFieldDescriptor (TX10 k).2.2.1 = some (tyX10 k) := by decide +kernel
abbrev cX10_init : ByteArray := prog_12_method_1_code
def yX10_init : MethodName := ⟨RX10, "<init>", "()V"⟩
abbrev cX10_charactersIn : ByteArray := prog_12_method_2_code
def yX10_charactersIn : MethodName := ⟨RX10, "charactersIn", "(I)I"⟩
abbrev cX10_appendFour : ByteArray := prog_12_method_3_code
def yX10_appendFour : MethodName := ⟨RX10, "appendFour", "(I)V"⟩
abbrev cX10_nameBetween : ByteArray := prog_12_method_4_code
def yX10_nameBetween : MethodName := ⟨RX10, "nameBetween", "(II)J"⟩
def RX11 : String := "ThumbLinker"
def TX11 : u_T := fun k => match k with
  | 0 => ("ThumbLinker", "typed", "LThumbLinker$Text;", true)
  | 1 => ("ThumbLinker", "sources", "[LThumbLinker$Source;", true)
  | 2 => ("ThumbLinker", "parser", "LThumbLinker$Parser;", true)
  | 3 => ("ThumbLinker", "lastFault", "LThumbLinker$Fault;", true)
  | 4 => ("ThumbLinker", "linked", "LThumbLinker$Build;", false)
  | _ => ("ThumbLinker", "draft", "LThumbLinker$Build;", false)
def tyX11 : Nat → FieldType := fun k => match k with
  | 0 => .object "ThumbLinker$Text"
  | 1 => .array (.object "ThumbLinker$Source")
  | 2 => .object "ThumbLinker$Parser"
  | 3 => .object "ThumbLinker$Fault"
  | 4 => .object "ThumbLinker$Build"
  | _ => .object "ThumbLinker$Build"
abbrev wsX110 : List Cond := u_ws RX11 TX11 6
theorem nmX11 : ∀ a, a < 6 → ∀ b, b < 6 → a ≠ b → (TX11 a).2.1 ≠ (TX11 b).2.1 := by decide +kernel
theorem tyX11_ok : ∀ k, k < 6 → parseFieldDescriptor (TX11 k).2.2.1 = some (tyX11 k) := by decide +kernel
abbrev cX11_init : ByteArray := prog_1_method_1_code
def yX11_init : MethodName := ⟨RX11, "<init>", "()V"⟩
abbrev cX11_type : ByteArray := prog_1_method_2_code
def yX11_type : MethodName := ⟨RX11, "type", "(IIII)I"⟩
abbrev cX11_erase : ByteArray := prog_1_method_3_code
def yX11_erase : MethodName := ⟨RX11, "erase", "()I"⟩
abbrev cX11_add : ByteArray := prog_1_method_4_code
def yX11_add : MethodName := ⟨RX11, "add", "(I)I"⟩
abbrev cX11_change : ByteArray := prog_1_method_5_code
def yX11_change : MethodName := ⟨RX11, "change", "(II)V"⟩
abbrev cX11_drop : ByteArray := prog_1_method_6_code
def yX11_drop : MethodName := ⟨RX11, "drop", "(I)I"⟩
abbrev cX11_link : ByteArray := prog_1_method_7_code
def yX11_link : MethodName := ⟨RX11, "link", "()I"⟩
abbrev cX11_fault : ByteArray := prog_1_method_8_code
def yX11_fault : MethodName := ⟨RX11, "fault", "(I)I"⟩
abbrev cX11_octet : ByteArray := prog_1_method_9_code
def yX11_octet : MethodName := ⟨RX11, "octet", "(I)I"⟩
abbrev cX11_hex : ByteArray := prog_1_method_10_code
def yX11_hex : MethodName := ⟨RX11, "hex", "(I)C"⟩
abbrev cX11_address : ByteArray := prog_1_method_11_code
def yX11_address : MethodName := ⟨RX11, "address", "(I)I"⟩
abbrev cX11_size : ByteArray := prog_1_method_12_code
def yX11_size : MethodName := ⟨RX11, "size", "(II)I"⟩
abbrev cX11_isModule : ByteArray := prog_1_method_13_code
def yX11_isModule : MethodName := ⟨RX11, "isModule", "(I)Z"⟩
abbrev cX11_isLetter : ByteArray := prog_1_method_14_code
def yX11_isLetter : MethodName := ⟨RX11, "isLetter", "(C)Z"⟩
abbrev cX11_isDigit : ByteArray := prog_1_method_15_code
def yX11_isDigit : MethodName := ⟨RX11, "isDigit", "(C)Z"⟩
abbrev cX11_layOutLines : ByteArray := prog_1_method_16_code
def yX11_layOutLines : MethodName := ⟨RX11, "layOutLines", "()Z"⟩
abbrev cX11_tellGlobals : ByteArray := prog_1_method_17_code
def yX11_tellGlobals : MethodName := ⟨RX11, "tellGlobals", "()Z"⟩
abbrev cX11_findRoom : ByteArray := prog_1_method_18_code
def yX11_findRoom : MethodName := ⟨RX11, "findRoom", "()Z"⟩
abbrev cX11_writeLines : ByteArray := prog_1_method_19_code
def yX11_writeLines : MethodName := ⟨RX11, "writeLines", "()Z"⟩
abbrev cX11_writeVectors : ByteArray := prog_1_method_20_code
def yX11_writeVectors : MethodName := ⟨RX11, "writeVectors", "()Z"⟩
def RX12 : String := "ThumbLinkerModel"
def TX12 : u_T := fun k => match k with
  | 0 => ("ThumbLinkerModel", "refusal", "I", false)
  | 1 => ("ThumbLinkerModel", "typed", "[C", true)
  | 2 => ("ThumbLinkerModel", "typedSize", "I", false)
  | 3 => ("ThumbLinkerModel", "lines", "[I", true)
  | 4 => ("ThumbLinkerModel", "length", "[I", true)
  | 5 => ("ThumbLinkerModel", "text", "[C", true)
  | 6 => ("ThumbLinkerModel", "line", "I", false)
  | 7 => ("ThumbLinkerModel", "at", "I", false)
  | 8 => ("ThumbLinkerModel", "end", "I", false)
  | 9 => ("ThumbLinkerModel", "fault", "I", false)
  | 10 => ("ThumbLinkerModel", "faultPlace", "I", false)
  | 11 => ("ThumbLinkerModel", "labelFrom", "I", false)
  | 12 => ("ThumbLinkerModel", "labelTo", "I", false)
  | 13 => ("ThumbLinkerModel", "statement", "I", false)
  | 14 => ("ThumbLinkerModel", "statementAt", "I", false)
  | 15 => ("ThumbLinkerModel", "code", "I", false)
  | 16 => ("ThumbLinkerModel", "number", "I", false)
  | 17 => ("ThumbLinkerModel", "nameFrom", "I", false)
  | 18 => ("ThumbLinkerModel", "nameTo", "I", false)
  | 19 => ("ThumbLinkerModel", "labels", "I", false)
  | 20 => ("ThumbLinkerModel", "goodLabels", "I", false)
  | 21 => ("ThumbLinkerModel", "labelName", "[C", true)
  | 22 => ("ThumbLinkerModel", "labelModule", "[I", true)
  | 23 => ("ThumbLinkerModel", "labelSection", "[I", true)
  | 24 => ("ThumbLinkerModel", "labelOffset", "[I", true)
  | 25 => ("ThumbLinkerModel", "isGlobal", "[Z", true)
  | 26 => ("ThumbLinkerModel", "size", "[I", true)
  | 27 => ("ThumbLinkerModel", "base", "[I", true)
  | 28 => ("ThumbLinkerModel", "flashBase", "[I", true)
  | 29 => ("ThumbLinkerModel", "bytes", "[I", true)
  | 30 => ("ThumbLinkerModel", "now", "I", false)
  | 31 => ("ThumbLinkerModel", "goodSize", "[I", true)
  | 32 => ("ThumbLinkerModel", "goodBase", "[I", true)
  | 33 => ("ThumbLinkerModel", "image", "[I", true)
  | 34 => ("ThumbLinkerModel", "imageSize", "I", false)
  | 35 => ("ThumbLinkerModel", "wrongAt", "[I", true)
  | 36 => ("ThumbLinkerModel", "hex", "[C", true)
  | 37 => ("ThumbLinkerModel", "hexSize", "I", false)
  | 38 => ("ThumbLinkerModel", "goesOn", "[I", true)
  | _ => ("ThumbLinkerModel", "sum", "I", false)
def tyX12 : Nat → FieldType := fun k => match k with
  | 0 => .int
  | 1 => .array .char
  | 2 => .int
  | 3 => .array .int
  | 4 => .array .int
  | 5 => .array .char
  | 6 => .int
  | 7 => .int
  | 8 => .int
  | 9 => .int
  | 10 => .int
  | 11 => .int
  | 12 => .int
  | 13 => .int
  | 14 => .int
  | 15 => .int
  | 16 => .int
  | 17 => .int
  | 18 => .int
  | 19 => .int
  | 20 => .int
  | 21 => .array .char
  | 22 => .array .int
  | 23 => .array .int
  | 24 => .array .int
  | 25 => .array .boolean
  | 26 => .array .int
  | 27 => .array .int
  | 28 => .array .int
  | 29 => .array .int
  | 30 => .int
  | 31 => .array .int
  | 32 => .array .int
  | 33 => .array .int
  | 34 => .int
  | 35 => .array .int
  | 36 => .array .char
  | 37 => .int
  | 38 => .array .int
  | _ => .int
abbrev wsX120 : List Cond := u_ws RX12 TX12 40
theorem nmX12 : ∀ a, a < 40 → ∀ b, b < 40 → a ≠ b → (TX12 a).2.1 ≠ (TX12 b).2.1 := by decide +kernel
theorem tyX12_ok : ∀ k, k < 40 → parseFieldDescriptor (TX12 k).2.2.1 = some (tyX12 k) := by decide +kernel
abbrev cX12_init : ByteArray := prog_14_method_1_code
def yX12_init : MethodName := ⟨RX12, "<init>", "()V"⟩
abbrev cX12_thrown : ByteArray := prog_14_method_2_code
def yX12_thrown : MethodName := ⟨RX12, "thrown", "()I"⟩
abbrev cX12_refused : ByteArray := prog_14_method_3_code
def yX12_refused : MethodName := ⟨RX12, "refused", "(I)Z"⟩
abbrev cX12_forget : ByteArray := prog_14_method_4_code
def yX12_forget : MethodName := ⟨RX12, "forget", "()V"⟩
abbrev cX12_isIn : ByteArray := prog_14_method_5_code
def yX12_isIn : MethodName := ⟨RX12, "isIn", "(III)Z"⟩
abbrev cX12_put : ByteArray := prog_14_method_6_code
def yX12_put : MethodName := ⟨RX12, "put", "(II)V"⟩
abbrev cX12_type : ByteArray := prog_14_method_7_code
def yX12_type : MethodName := ⟨RX12, "type", "(IIII)I"⟩
abbrev cX12_erase : ByteArray := prog_14_method_8_code
def yX12_erase : MethodName := ⟨RX12, "erase", "()I"⟩
abbrev cX12_store : ByteArray := prog_14_method_9_code
def yX12_store : MethodName := ⟨RX12, "store", "(I)V"⟩
abbrev cX12_isModule : ByteArray := prog_14_method_10_code
def yX12_isModule : MethodName := ⟨RX12, "isModule", "(I)Z"⟩
abbrev cX12_add : ByteArray := prog_14_method_11_code
def yX12_add : MethodName := ⟨RX12, "add", "(I)I"⟩
abbrev cX12_change : ByteArray := prog_14_method_12_code
def yX12_change : MethodName := ⟨RX12, "change", "(II)V"⟩
abbrev cX12_drop : ByteArray := prog_14_method_13_code
def yX12_drop : MethodName := ⟨RX12, "drop", "(I)I"⟩
abbrev cX12_next : ByteArray := prog_14_method_14_code
def yX12_next : MethodName := ⟨RX12, "next", "()C"⟩
abbrev cX12_wrong : ByteArray := prog_14_method_15_code
def yX12_wrong : MethodName := ⟨RX12, "wrong", "(II)V"⟩
abbrev cX12_isSmall : ByteArray := prog_14_method_16_code
def yX12_isSmall : MethodName := ⟨RX12, "isSmall", "(C)Z"⟩
abbrev cX12_isDigit : ByteArray := prog_14_method_17_code
def yX12_isDigit : MethodName := ⟨RX12, "isDigit", "(C)Z"⟩
abbrev cX12_isWordSign : ByteArray := prog_14_method_18_code
def yX12_isWordSign : MethodName := ⟨RX12, "isWordSign", "(C)Z"⟩
abbrev cX12_takes : ByteArray := prog_14_method_19_code
def yX12_takes : MethodName := ⟨RX12, "takes", "(C)Z"⟩
abbrev cX12_want : ByteArray := prog_14_method_20_code
def yX12_want : MethodName := ⟨RX12, "want", "(C)V"⟩
abbrev cX12_wordEnd : ByteArray := prog_14_method_21_code
def yX12_wordEnd : MethodName := ⟨RX12, "wordEnd", "()I"⟩
abbrev cX12_isWord : ByteArray := prog_14_method_22_code
def yX12_isWord : MethodName := ⟨RX12, "isWord", "(IIJ)Z"⟩
abbrev cX12_isName : ByteArray := prog_14_method_23_code
def yX12_isName : MethodName := ⟨RX12, "isName", "(II)Z"⟩
abbrev cX12_register : ByteArray := prog_14_method_24_code
def yX12_register : MethodName := ⟨RX12, "register", "()I"⟩
abbrev cX12_digits : ByteArray := prog_14_method_25_code
def yX12_digits : MethodName := ⟨RX12, "digits", "()I"⟩
abbrev cX12_readNumber : ByteArray := prog_14_method_26_code
def yX12_readNumber : MethodName := ⟨RX12, "readNumber", "(III)I"⟩
abbrev cX12_readName : ByteArray := prog_14_method_27_code
def yX12_readName : MethodName := ⟨RX12, "readName", "()V"⟩
abbrev cX12_immediate : ByteArray := prog_14_method_28_code
def yX12_immediate : MethodName := ⟨RX12, "immediate", "(III)I"⟩
abbrev cX12_plain : ByteArray := prog_14_method_29_code
def yX12_plain : MethodName := ⟨RX12, "plain", "(I)V"⟩
abbrev cX12_two : ByteArray := prog_14_method_30_code
def yX12_two : MethodName := ⟨RX12, "two", "(I)V"⟩
abbrev cX12_oneOrNumber : ByteArray := prog_14_method_31_code
def yX12_oneOrNumber : MethodName := ⟨RX12, "oneOrNumber", "(II)V"⟩
abbrev cX12_sums : ByteArray := prog_14_method_32_code
def yX12_sums : MethodName := ⟨RX12, "sums", "(II)V"⟩
abbrev cX12_shifts : ByteArray := prog_14_method_33_code
def yX12_shifts : MethodName := ⟨RX12, "shifts", "(III)V"⟩
abbrev cX12_memory : ByteArray := prog_14_method_34_code
def yX12_memory : MethodName := ⟨RX12, "memory", "(IIZ)V"⟩
abbrev cX12_listed : ByteArray := prog_14_method_35_code
def yX12_listed : MethodName := ⟨RX12, "listed", "(IJ)V"⟩
abbrev cX12_jump : ByteArray := prog_14_method_36_code
def yX12_jump : MethodName := ⟨RX12, "jump", "(II)V"⟩
abbrev cX12_condition : ByteArray := prog_14_method_37_code
def yX12_condition : MethodName := ⟨RX12, "condition", "(II)I"⟩
abbrev cX12_directive : ByteArray := prog_14_method_38_code
def yX12_directive : MethodName := ⟨RX12, "directive", "(II)Z"⟩
abbrev cX12_word : ByteArray := prog_14_method_39_code
def yX12_word : MethodName := ⟨RX12, "word", "()V"⟩
abbrev cX12_simple : ByteArray := prog_14_method_40_code
def yX12_simple : MethodName := ⟨RX12, "simple", "(II)Z"⟩
abbrev cX12_pairOf : ByteArray := prog_14_method_41_code
def yX12_pairOf : MethodName := ⟨RX12, "pairOf", "(II)I"⟩
abbrev cX12_other : ByteArray := prog_14_method_42_code
def yX12_other : MethodName := ⟨RX12, "other", "(II)Z"⟩
abbrev cX12_isTwice : ByteArray := prog_14_method_43_code
def yX12_isTwice : MethodName := ⟨RX12, "isTwice", "(I)Z"⟩
abbrev cX12_read : ByteArray := prog_14_method_44_code
def yX12_read : MethodName := ⟨RX12, "read", "(IIZ)V"⟩
abbrev cX12_labelOf : ByteArray := prog_14_method_45_code
def yX12_labelOf : MethodName := ⟨RX12, "labelOf", "(IIII)I"⟩
abbrev cX12_addLabel : ByteArray := prog_14_method_46_code
def yX12_addLabel : MethodName := ⟨RX12, "addLabel", "(I)V"⟩
abbrev cX12_putByte : ByteArray := prog_14_method_47_code
def yX12_putByte : MethodName := ⟨RX12, "putByte", "(II)V"⟩
abbrev cX12_putMany : ByteArray := prog_14_method_48_code
def yX12_putMany : MethodName := ⟨RX12, "putMany", "(III)V"⟩
abbrev cX12_lay : ByteArray := prog_14_method_49_code
def yX12_lay : MethodName := ⟨RX12, "lay", "(I)I"⟩
abbrev cX12_report : ByteArray := prog_14_method_50_code
def yX12_report : MethodName := ⟨RX12, "report", "(IIII)I"⟩
abbrev cX12_firstPass : ByteArray := prog_14_method_51_code
def yX12_firstPass : MethodName := ⟨RX12, "firstPass", "()I"⟩
abbrev cX12_isGlobalName : ByteArray := prog_14_method_52_code
def yX12_isGlobalName : MethodName := ⟨RX12, "isGlobalName", "(II)Z"⟩
abbrev cX12_globalOf : ByteArray := prog_14_method_53_code
def yX12_globalOf : MethodName := ⟨RX12, "globalOf", "(II)I"⟩
abbrev cX12_secondPass : ByteArray := prog_14_method_54_code
def yX12_secondPass : MethodName := ⟨RX12, "secondPass", "()I"⟩
abbrev cX12_up : ByteArray := prog_14_method_55_code
def yX12_up : MethodName := ⟨RX12, "up", "(I)I"⟩
abbrev cX12_place : ByteArray := prog_14_method_56_code
def yX12_place : MethodName := ⟨RX12, "place", "(IIZ)I"⟩
abbrev cX12_addressOf : ByteArray := prog_14_method_57_code
def yX12_addressOf : MethodName := ⟨RX12, "addressOf", "(I)I"⟩
abbrev cX12_setHalf : ByteArray := prog_14_method_58_code
def yX12_setHalf : MethodName := ⟨RX12, "setHalf", "(III)V"⟩
abbrev cX12_resolve : ByteArray := prog_14_method_59_code
def yX12_resolve : MethodName := ⟨RX12, "resolve", "(IIII)Z"⟩
abbrev cX12_thirdPass : ByteArray := prog_14_method_60_code
def yX12_thirdPass : MethodName := ⟨RX12, "thirdPass", "()I"⟩
abbrev cX12_sizeOf : ByteArray := prog_14_method_61_code
def yX12_sizeOf : MethodName := ⟨RX12, "sizeOf", "(I)I"⟩
abbrev cX12_mainAddress : ByteArray := prog_14_method_62_code
def yX12_mainAddress : MethodName := ⟨RX12, "mainAddress", "()I"⟩
abbrev cX12_link : ByteArray := prog_14_method_63_code
def yX12_link : MethodName := ⟨RX12, "link", "()I"⟩
abbrev cX12_setWord : ByteArray := prog_14_method_64_code
def yX12_setWord : MethodName := ⟨RX12, "setWord", "(II)V"⟩
abbrev cX12_finish : ByteArray := prog_14_method_65_code
def yX12_finish : MethodName := ⟨RX12, "finish", "(II)V"⟩
abbrev cX12_putHex : ByteArray := prog_14_method_66_code
def yX12_putHex : MethodName := ⟨RX12, "putHex", "(I)V"⟩
abbrev cX12_record : ByteArray := prog_14_method_67_code
def yX12_record : MethodName := ⟨RX12, "record", "(IIII)V"⟩
abbrev cX12_write : ByteArray := prog_14_method_68_code
def yX12_write : MethodName := ⟨RX12, "write", "()V"⟩
abbrev cX12_fault : ByteArray := prog_14_method_69_code
def yX12_fault : MethodName := ⟨RX12, "fault", "(I)I"⟩
abbrev cX12_octet : ByteArray := prog_14_method_70_code
def yX12_octet : MethodName := ⟨RX12, "octet", "(I)I"⟩
abbrev cX12_hex : ByteArray := prog_14_method_71_code
def yX12_hex : MethodName := ⟨RX12, "hex", "(I)C"⟩
abbrev cX12_address : ByteArray := prog_14_method_72_code
def yX12_address : MethodName := ⟨RX12, "address", "(I)I"⟩
abbrev cX12_size : ByteArray := prog_14_method_73_code
def yX12_size : MethodName := ⟨RX12, "size", "(II)I"⟩
def RJx29ce0 : String := "java/lang/Enum"
def TJx29ce0 : u_T := fun k => match k with
  | _ => ("", "", "", false)
def tyJx29ce0 : Nat → FieldType := fun k => match k with
  | _ => .int
abbrev wsJx29ce00 : List Cond := u_ws RJx29ce0 TJx29ce0 0
theorem nmJx29ce0 : ∀ a, a < 0 → ∀ b, b < 0 → a ≠ b → (TJx29ce0 a).2.1 ≠ (TJx29ce0 b).2.1 := by decide +kernel
theorem tyJx29ce0_ok : ∀ k, k < 0 → parseFieldDescriptor (TJx29ce0 k).2.2.1 = some (tyJx29ce0 k) := by decide +kernel
def RJ9 : String := "java/lang/Math"
def TJ9 : u_T := fun k => match k with
  | _ => ("", "", "", false)
def tyJ9 : Nat → FieldType := fun k => match k with
  | _ => .int
abbrev wsJ90 : List Cond := u_ws RJ9 TJ9 0
theorem nmJ9 : ∀ a, a < 0 → ∀ b, b < 0 → a ≠ b → (TJ9 a).2.1 ≠ (TJ9 b).2.1 := by decide +kernel
theorem tyJ9_ok : ∀ k, k < 0 → parseFieldDescriptor (TJ9 k).2.2.1 = some (tyJ9 k) := by decide +kernel
abbrev cJ9_min_7cf53 : ByteArray := prog_19_method_69_code
def yJ9_min_7cf53 : MethodName := ⟨RJ9, "min", "(II)I"⟩
def RJ0 : String := "java/lang/String"
def TJ0 : u_T := fun k => match k with
  | _ => ("", "", "", false)
def tyJ0 : Nat → FieldType := fun k => match k with
  | _ => .int
abbrev wsJ00 : List Cond := u_ws RJ0 TJ0 0
theorem nmJ0 : ∀ a, a < 0 → ∀ b, b < 0 → a ≠ b → (TJ0 a).2.1 ≠ (TJ0 b).2.1 := by decide +kernel
theorem tyJ0_ok : ∀ k, k < 0 → parseFieldDescriptor (TJ0 k).2.2.1 = some (tyJ0 k) := by decide +kernel
abbrev cJ0_length_8abf5 : ByteArray := prog_21_method_54_code
def yJ0_length_8abf5 : MethodName := ⟨RJ0, "length", "()I"⟩
abbrev cJ0_charAt_5068e : ByteArray := prog_21_method_56_code
def yJ0_charAt_5068e : MethodName := ⟨RJ0, "charAt", "(I)C"⟩
abbrev cJ0_coder_7d493 : ByteArray := prog_21_method_152_code
def yJ0_coder_7d493 : MethodName := ⟨RJ0, "coder", "()B"⟩
abbrev cJ0_isLatin1_aae02 : ByteArray := prog_21_method_154_code
def yJ0_isLatin1_aae02 : MethodName := ⟨RJ0, "isLatin1", "()Z"⟩
abbrev cJ0_checkIndex_df160 : ByteArray := prog_21_method_155_code
def yJ0_checkIndex_df160 : MethodName := ⟨RJ0, "checkIndex", "(II)V"⟩
def RJ1 : String := "java/lang/StringLatin1"
def TJ1 : u_T := fun k => match k with
  | _ => ("", "", "", false)
def tyJ1 : Nat → FieldType := fun k => match k with
  | _ => .int
abbrev wsJ10 : List Cond := u_ws RJ1 TJ1 0
theorem nmJ1 : ∀ a, a < 0 → ∀ b, b < 0 → a ≠ b → (TJ1 a).2.1 ≠ (TJ1 b).2.1 := by decide +kernel
theorem tyJ1_ok : ∀ k, k < 0 → parseFieldDescriptor (TJ1 k).2.2.1 = some (tyJ1 k) := by decide +kernel
abbrev cJ1_charAt_3b067 : ByteArray := prog_22_method_2_code
def yJ1_charAt_3b067 : MethodName := ⟨RJ1, "charAt", "([BI)C"⟩
def RJ2 : String := "java/lang/StringUTF16"
def TJ2 : u_T := fun k => match k with
  | _ => ("", "", "", false)
def tyJ2 : Nat → FieldType := fun k => match k with
  | _ => .int
abbrev wsJ20 : List Cond := u_ws RJ2 TJ2 0
theorem nmJ2 : ∀ a, a < 0 → ∀ b, b < 0 → a ≠ b → (TJ2 a).2.1 ≠ (TJ2 b).2.1 := by decide +kernel
theorem tyJ2_ok : ∀ k, k < 0 → parseFieldDescriptor (TJ2 k).2.2.1 = some (tyJ2 k) := by decide +kernel
abbrev cJ2_getChar_3b067 : ByteArray := prog_23_method_5_code
def yJ2_getChar_3b067 : MethodName := ⟨RJ2, "getChar", "([BI)C"⟩
abbrev cJ2_length_9d52b : ByteArray := prog_23_method_6_code
def yJ2_length_9d52b : MethodName := ⟨RJ2, "length", "([B)I"⟩
abbrev cJ2_charAt_3b067 : ByteArray := prog_23_method_83_code
def yJ2_charAt_3b067 : MethodName := ⟨RJ2, "charAt", "([BI)C"⟩
abbrev cJ2_checkIndex_2214a : ByteArray := prog_23_method_91_code
def yJ2_checkIndex_2214a : MethodName := ⟨RJ2, "checkIndex", "(I[B)V"⟩
def RJ7 : String := "java/util/Arrays"
def TJ7 : u_T := fun k => match k with
  | _ => ("", "", "", false)
def tyJ7 : Nat → FieldType := fun k => match k with
  | _ => .int
abbrev wsJ70 : List Cond := u_ws RJ7 TJ7 0
theorem nmJ7 : ∀ a, a < 0 → ∀ b, b < 0 → a ≠ b → (TJ7 a).2.1 ≠ (TJ7 b).2.1 := by decide +kernel
theorem tyJ7_ok : ∀ k, k < 0 → parseFieldDescriptor (TJ7 k).2.2.1 = some (tyJ7 k) := by decide +kernel
abbrev cJ7_fill_53178 : ByteArray := prog_25_method_103_code
def yJ7_fill_53178 : MethodName := ⟨RJ7, "fill", "([II)V"⟩
abbrev cJ7_fill_031fb : ByteArray := prog_25_method_109_code
def yJ7_fill_031fb : MethodName := ⟨RJ7, "fill", "([BB)V"⟩
def RJ3 : String := "jdk/internal/util/Preconditions"
def TJ3 : u_T := fun k => match k with
  | _ => ("", "", "", false)
def tyJ3 : Nat → FieldType := fun k => match k with
  | _ => .int
abbrev wsJ30 : List Cond := u_ws RJ3 TJ3 0
theorem nmJ3 : ∀ a, a < 0 → ∀ b, b < 0 → a ≠ b → (TJ3 a).2.1 ≠ (TJ3 b).2.1 := by decide +kernel
theorem tyJ3_ok : ∀ k, k < 0 → parseFieldDescriptor (TJ3 k).2.2.1 = some (tyJ3 k) := by decide +kernel
abbrev cJ3_checkIndex_8e157 : ByteArray := prog_26_method_11_code
def yJ3_checkIndex_8e157 : MethodName := ⟨RJ3, "checkIndex", "(IILjava/util/function/BiFunction;)I"⟩
def RL : String := "ThumbLinkerLaw"
abbrev cL_type : ByteArray := method_3_code
def yL_type : MethodName := ⟨RL, "type", "(LThumbLinker;IIII[J)I"⟩
abbrev cL_add : ByteArray := method_4_code
def yL_add : MethodName := ⟨RL, "add", "(LThumbLinker;I[J)I"⟩
abbrev cL_change : ByteArray := method_5_code
def yL_change : MethodName := ⟨RL, "change", "(LThumbLinker;II)I"⟩
abbrev cL_drop : ByteArray := method_6_code
def yL_drop : MethodName := ⟨RL, "drop", "(LThumbLinker;I[J)I"⟩
abbrev cL_fault : ByteArray := method_7_code
def yL_fault : MethodName := ⟨RL, "fault", "(LThumbLinker;I[J)I"⟩
abbrev cL_address : ByteArray := method_8_code
def yL_address : MethodName := ⟨RL, "address", "(LThumbLinker;I[J)I"⟩
abbrev cL_size : ByteArray := method_9_code
def yL_size : MethodName := ⟨RL, "size", "(LThumbLinker;II[J)I"⟩
abbrev cL_law : ByteArray := code
def yL_law : MethodName := ⟨RL, "law", "([I)Z"⟩
abbrev vwCl : List vw_C := [(RX0, TX0, 3), (RX1, TX1, 4), (RX2, TX2, 2), (RX3, TX3, 6), (RX4, TX4, 4), (RX6, TX6, 1), (RX7, TX7, 5), (RX8, TX8, 2), (RX9, TX9, 13), (RX10, TX10, 2), (RX11, TX11, 6), (RX12, TX12, 40)]
set_option maxRecDepth 100000 in
theorem inX0 : ∀ w ∈ wsX00, w ∈ lw_tbl := by decide +kernel
set_option maxRecDepth 100000 in
theorem inX1 : ∀ w ∈ wsX10, w ∈ lw_tbl := by decide +kernel
set_option maxRecDepth 100000 in
theorem inX2 : ∀ w ∈ wsX20, w ∈ lw_tbl := by decide +kernel
set_option maxRecDepth 100000 in
theorem inX3 : ∀ w ∈ wsX30, w ∈ lw_tbl := by decide +kernel
set_option maxRecDepth 100000 in
theorem inX4 : ∀ w ∈ wsX40, w ∈ lw_tbl := by decide +kernel
set_option maxRecDepth 100000 in
theorem inX5 : ∀ w ∈ wsX50, w ∈ lw_tbl := by decide +kernel
set_option maxRecDepth 100000 in
theorem inX6 : ∀ w ∈ wsX60, w ∈ lw_tbl := by decide +kernel
set_option maxRecDepth 100000 in
theorem inX7 : ∀ w ∈ wsX70, w ∈ lw_tbl := by decide +kernel
set_option maxRecDepth 100000 in
theorem inX8 : ∀ w ∈ wsX80, w ∈ lw_tbl := by decide +kernel
set_option maxRecDepth 100000 in
theorem inX9 : ∀ w ∈ wsX90, w ∈ lw_tbl := by decide +kernel
set_option maxRecDepth 100000 in
theorem inX10 : ∀ w ∈ wsX100, w ∈ lw_tbl := by decide +kernel
set_option maxRecDepth 100000 in
theorem inX11 : ∀ w ∈ wsX110, w ∈ lw_tbl := by decide +kernel
set_option maxRecDepth 100000 in
theorem inX12 : ∀ w ∈ wsX120, w ∈ lw_tbl := by decide +kernel
set_option maxRecDepth 100000 in
theorem inJx29ce0 : ∀ w ∈ wsJx29ce00, w ∈ lw_tbl := by decide +kernel
set_option maxRecDepth 100000 in
theorem inJ9 : ∀ w ∈ wsJ90, w ∈ lw_tbl := by decide +kernel
set_option maxRecDepth 100000 in
theorem inJ0 : ∀ w ∈ wsJ00, w ∈ lw_tbl := by decide +kernel
set_option maxRecDepth 100000 in
theorem inJ1 : ∀ w ∈ wsJ10, w ∈ lw_tbl := by decide +kernel
set_option maxRecDepth 100000 in
theorem inJ2 : ∀ w ∈ wsJ20, w ∈ lw_tbl := by decide +kernel
set_option maxRecDepth 100000 in
theorem inJ7 : ∀ w ∈ wsJ70, w ∈ lw_tbl := by decide +kernel
set_option maxRecDepth 100000 in
theorem inJ3 : ∀ w ∈ wsJ30, w ∈ lw_tbl := by decide +kernel
