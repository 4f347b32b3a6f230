/-! ===== BEGIN printed: names, fields, word lists, decode rows ===== -/
def RX0 : String := "Regexloom$Backing"
def TX0 : u_T := fun k => match k with
  | 0 => ("Regexloom$Backing", "frames", "LRegexloom$Table;", true)
  | 1 => ("Regexloom$Backing", "choices", "LRegexloom$Table;", true)
  | 2 => ("Regexloom$Backing", "settings", "LRegexloom$Table;", true)
  | 3 => ("Regexloom$Backing", "pattern", "LRegexloom$Pattern;", false)
  | 4 => ("Regexloom$Backing", "text", "LRegexloom$Text;", false)
  | 5 => ("Regexloom$Backing", "budget", "I", false)
  | 6 => ("Regexloom$Backing", "spent", "I", false)
  | 7 => ("Regexloom$Backing", "doing", "I", false)
  | 8 => ("Regexloom$Backing", "piece", "I", false)
  | 9 => ("Regexloom$Backing", "branch", "I", false)
  | 10 => ("Regexloom$Backing", "turn", "I", false)
  | 11 => ("Regexloom$Backing", "frame", "I", false)
  | 12 => ("Regexloom$Backing", "place", "I", false)
  | 13 => ("Regexloom$Backing", "sets", "I", false)
  | 14 => ("Regexloom$Backing", "cut", "I", false)
  | 15 => ("Regexloom$Backing", "cutPlace", "I", false)
  | _ => ("Regexloom$Backing", "end", "I", false)
def tyX0 : Nat → FieldType := fun k => match k with
  | 0 => .object "Regexloom$Table"
  | 1 => .object "Regexloom$Table"
  | 2 => .object "Regexloom$Table"
  | 3 => .object "Regexloom$Pattern"
  | 4 => .object "Regexloom$Text"
  | 5 => .int
  | 6 => .int
  | 7 => .int
  | 8 => .int
  | 9 => .int
  | 10 => .int
  | 11 => .int
  | 12 => .int
  | 13 => .int
  | 14 => .int
  | 15 => .int
  | _ => .int
abbrev wsX00 : List Cond := u_ws RX0 TX0 17
theorem nmX0 : ∀ a, a < 17 → ∀ b, b < 17 → a ≠ b → (TX0 a).2.1 ≠ (TX0 b).2.1 := by decide +kernel
theorem tyX0_ok : ∀ k, k < 17 → parseFieldDescriptor (TX0 k).2.2.1 = some (tyX0 k) := by decide +kernel
abbrev cX0_init : ByteArray := prog_2_method_1_code
def yX0_init : MethodName := ⟨RX0, "<init>", "()V"⟩
abbrev cX0_prepare : ByteArray := prog_2_method_2_code
def yX0_prepare : MethodName := ⟨RX0, "prepare", "(LRegexloom$Pattern;LRegexloom$Text;I)V"⟩
abbrev cX0_spent : ByteArray := prog_2_method_3_code
def yX0_spent : MethodName := ⟨RX0, "spent", "()I"⟩
abbrev cX0_endOfMatch : ByteArray := prog_2_method_4_code
def yX0_endOfMatch : MethodName := ⟨RX0, "endOfMatch", "()I"⟩
abbrev cX0_bound : ByteArray := prog_2_method_5_code
def yX0_bound : MethodName := ⟨RX0, "bound", "(II)I"⟩
abbrev cX0_seek : ByteArray := prog_2_method_6_code
def yX0_seek : MethodName := ⟨RX0, "seek", "(I)I"⟩
abbrev cX0_tryAt : ByteArray := prog_2_method_7_code
def yX0_tryAt : MethodName := ⟨RX0, "tryAt", "(I)I"⟩
abbrev cX0_spend : ByteArray := prog_2_method_8_code
def yX0_spend : MethodName := ⟨RX0, "spend", "()Z"⟩
abbrev cX0_enter : ByteArray := prog_2_method_9_code
def yX0_enter : MethodName := ⟨RX0, "enter", "(I)V"⟩
abbrev cX0_choose : ByteArray := prog_2_method_10_code
def yX0_choose : MethodName := ⟨RX0, "choose", "(II)V"⟩
abbrev cX0_doRow : ByteArray := prog_2_method_11_code
def yX0_doRow : MethodName := ⟨RX0, "doRow", "()V"⟩
abbrev cX0_doCount : ByteArray := prog_2_method_12_code
def yX0_doCount : MethodName := ⟨RX0, "doCount", "()V"⟩
abbrev cX0_doTurn : ByteArray := prog_2_method_13_code
def yX0_doTurn : MethodName := ⟨RX0, "doTurn", "()V"⟩
abbrev cX0_doLeave : ByteArray := prog_2_method_14_code
def yX0_doLeave : MethodName := ⟨RX0, "doLeave", "()V"⟩
abbrev cX0_pass : ByteArray := prog_2_method_15_code
def yX0_pass : MethodName := ⟨RX0, "pass", "()V"⟩
abbrev cX0_passIf : ByteArray := prog_2_method_16_code
def yX0_passIf : MethodName := ⟨RX0, "passIf", "(Z)V"⟩
abbrev cX0_doAtom : ByteArray := prog_2_method_17_code
def yX0_doAtom : MethodName := ⟨RX0, "doAtom", "()V"⟩
abbrev cX0_doEnter : ByteArray := prog_2_method_18_code
def yX0_doEnter : MethodName := ⟨RX0, "doEnter", "(I)V"⟩
abbrev cX0_doBehind : ByteArray := prog_2_method_19_code
def yX0_doBehind : MethodName := ⟨RX0, "doBehind", "()V"⟩
abbrev cX0_doReference : ByteArray := prog_2_method_20_code
def yX0_doReference : MethodName := ⟨RX0, "doReference", "()V"⟩
abbrev cX0_doCall : ByteArray := prog_2_method_21_code
def yX0_doCall : MethodName := ⟨RX0, "doCall", "()V"⟩
abbrev cX0_openCalls : ByteArray := prog_2_method_22_code
def yX0_openCalls : MethodName := ⟨RX0, "openCalls", "()I"⟩
abbrev cX0_doCondition : ByteArray := prog_2_method_23_code
def yX0_doCondition : MethodName := ⟨RX0, "doCondition", "()V"⟩
abbrev cX0_doBody : ByteArray := prog_2_method_24_code
def yX0_doBody : MethodName := ⟨RX0, "doBody", "()V"⟩
abbrev cX0_doBranch : ByteArray := prog_2_method_25_code
def yX0_doBranch : MethodName := ⟨RX0, "doBranch", "()V"⟩
abbrev cX0_doResume : ByteArray := prog_2_method_26_code
def yX0_doResume : MethodName := ⟨RX0, "doResume", "()V"⟩
abbrev cX0_endTurn : ByteArray := prog_2_method_27_code
def yX0_endTurn : MethodName := ⟨RX0, "endTurn", "(I)V"⟩
abbrev cX0_endLook : ByteArray := prog_2_method_28_code
def yX0_endLook : MethodName := ⟨RX0, "endLook", "(IZ)V"⟩
abbrev cX0_setGroup : ByteArray := prog_2_method_29_code
def yX0_setGroup : MethodName := ⟨RX0, "setGroup", "(II)V"⟩
abbrev cX0_settingOf : ByteArray := prog_2_method_30_code
def yX0_settingOf : MethodName := ⟨RX0, "settingOf", "(I)I"⟩
abbrev cX0_doBack : ByteArray := prog_2_method_31_code
def yX0_doBack : MethodName := ⟨RX0, "doBack", "()V"⟩
abbrev cX0_backOverCut : ByteArray := prog_2_method_32_code
def yX0_backOverCut : MethodName := ⟨RX0, "backOverCut", "(I)V"⟩
abbrev cX0_holdsCuts : ByteArray := prog_2_method_33_code
def yX0_holdsCuts : MethodName := ⟨RX0, "holdsCuts", "(I)Z"⟩
def RX1 : String := "Regexloom$Counting"
def TX1 : u_T := fun k => match k with
  | 0 => ("Regexloom$Counting", "marks", "LRegexloom$Table;", true)
  | 1 => ("Regexloom$Counting", "open", "LRegexloom$Table;", true)
  | 2 => ("Regexloom$Counting", "later", "LRegexloom$Table;", true)
  | 3 => ("Regexloom$Counting", "now", "LRegexloom$Table;", true)
  | 4 => ("Regexloom$Counting", "stamp", "I", false)
  | 5 => ("Regexloom$Counting", "program", "LRegexloom$Program;", false)
  | 6 => ("Regexloom$Counting", "text", "LRegexloom$Text;", false)
  | 7 => ("Regexloom$Counting", "place", "I", false)
  | _ => ("Regexloom$Counting", "to", "I", false)
def tyX1 : Nat → FieldType := fun k => match k with
  | 0 => .object "Regexloom$Table"
  | 1 => .object "Regexloom$Table"
  | 2 => .object "Regexloom$Table"
  | 3 => .object "Regexloom$Table"
  | 4 => .int
  | 5 => .object "Regexloom$Program"
  | 6 => .object "Regexloom$Text"
  | 7 => .int
  | _ => .int
abbrev wsX10 : List Cond := u_ws RX1 TX1 9
theorem nmX1 : ∀ a, a < 9 → ∀ b, b < 9 → a ≠ b → (TX1 a).2.1 ≠ (TX1 b).2.1 := by decide +kernel
theorem tyX1_ok : ∀ k, k < 9 → parseFieldDescriptor (TX1 k).2.2.1 = some (tyX1 k) := by decide +kernel
abbrev cX1_init : ByteArray := prog_3_method_1_code
def yX1_init : MethodName := ⟨RX1, "<init>", "()V"⟩
abbrev cX1_count : ByteArray := prog_3_method_2_code
def yX1_count : MethodName := ⟨RX1, "count", "(LRegexloom$Program;LRegexloom$Text;II)I"⟩
abbrev cX1_countBehindSign : ByteArray := prog_3_method_3_code
def yX1_countBehindSign : MethodName := ⟨RX1, "countBehindSign", "()V"⟩
abbrev cX1_waysFrom : ByteArray := prog_3_method_4_code
def yX1_waysFrom : MethodName := ⟨RX1, "waysFrom", "(I)I"⟩
abbrev cX1_leaveOpen : ByteArray := prog_3_method_5_code
def yX1_leaveOpen : MethodName := ⟨RX1, "leaveOpen", "(II)V"⟩
abbrev cX1_begin : ByteArray := prog_3_method_6_code
def yX1_begin : MethodName := ⟨RX1, "begin", "(I)V"⟩
abbrev cX1_finish : ByteArray := prog_3_method_7_code
def yX1_finish : MethodName := ⟨RX1, "finish", "(II)V"⟩
abbrev cX1_keep : ByteArray := prog_3_method_8_code
def yX1_keep : MethodName := ⟨RX1, "keep", "(II)V"⟩
abbrev cX1_known : ByteArray := prog_3_method_9_code
def yX1_known : MethodName := ⟨RX1, "known", "(II)I"⟩
def RX2 : String := "Regexloom$Out"
def TX2 : u_T := fun k => match k with
  | 0 => ("Regexloom$Out", "signs", "LRegexloom$Table;", true)
  | _ => ("Regexloom$Out", "isTooLong", "Z", false)
def tyX2 : Nat → FieldType := fun k => match k with
  | 0 => .object "Regexloom$Table"
  | _ => .boolean
abbrev wsX20 : List Cond := u_ws RX2 TX2 2
theorem nmX2 : ∀ a, a < 2 → ∀ b, b < 2 → a ≠ b → (TX2 a).2.1 ≠ (TX2 b).2.1 := by decide +kernel
theorem tyX2_ok : ∀ k, k < 2 → parseFieldDescriptor (TX2 k).2.2.1 = some (tyX2 k) := by decide +kernel
abbrev cX2_init : ByteArray := prog_4_method_1_code
def yX2_init : MethodName := ⟨RX2, "<init>", "()V"⟩
abbrev cX2_mannerOf : ByteArray := prog_4_method_2_code
def yX2_mannerOf : MethodName := ⟨RX2, "mannerOf", "(C)I"⟩
abbrev cX2_empty : ByteArray := prog_4_method_3_code
def yX2_empty : MethodName := ⟨RX2, "empty", "()V"⟩
abbrev cX2_size : ByteArray := prog_4_method_4_code
def yX2_size : MethodName := ⟨RX2, "size", "()I"⟩
abbrev cX2_isTooLong : ByteArray := prog_4_method_5_code
def yX2_isTooLong : MethodName := ⟨RX2, "isTooLong", "()Z"⟩
abbrev cX2_signAt : ByteArray := prog_4_method_6_code
def yX2_signAt : MethodName := ⟨RX2, "signAt", "(I)C"⟩
abbrev cX2_addSign : ByteArray := prog_4_method_7_code
def yX2_addSign : MethodName := ⟨RX2, "addSign", "(C)V"⟩
abbrev cX2_addSpan : ByteArray := prog_4_method_8_code
def yX2_addSpan : MethodName := ⟨RX2, "addSpan", "(LRegexloom$Text;III)V"⟩
def RX3 : String := "Regexloom$Pattern"
def TX3 : u_T := fun k => match k with
  | 0 => ("Regexloom$Pattern", "pieces", "LRegexloom$Table;", true)
  | 1 => ("Regexloom$Pattern", "branches", "LRegexloom$Table;", true)
  | 2 => ("Regexloom$Pattern", "firstGroups", "LRegexloom$Table;", true)
  | 3 => ("Regexloom$Pattern", "root", "I", false)
  | 4 => ("Regexloom$Pattern", "groups", "I", false)
  | 5 => ("Regexloom$Pattern", "isTold", "Z", false)
  | 6 => ("Regexloom$Pattern", "isPlain", "Z", false)
  | _ => ("Regexloom$Pattern", "isRegular", "Z", false)
def tyX3 : Nat → FieldType := fun k => match k with
  | 0 => .object "Regexloom$Table"
  | 1 => .object "Regexloom$Table"
  | 2 => .object "Regexloom$Table"
  | 3 => .int
  | 4 => .int
  | 5 => .boolean
  | 6 => .boolean
  | _ => .boolean
abbrev wsX30 : List Cond := u_ws RX3 TX3 8
theorem nmX3 : ∀ a, a < 8 → ∀ b, b < 8 → a ≠ b → (TX3 a).2.1 ≠ (TX3 b).2.1 := by decide +kernel
theorem tyX3_ok : ∀ k, k < 8 → parseFieldDescriptor (TX3 k).2.2.1 = some (tyX3 k) := by decide +kernel
abbrev cX3_init : ByteArray := prog_5_method_1_code
def yX3_init : MethodName := ⟨RX3, "<init>", "()V"⟩
abbrev cX3_empty : ByteArray := prog_5_method_2_code
def yX3_empty : MethodName := ⟨RX3, "empty", "()V"⟩
abbrev cX3_of : ByteArray := prog_5_method_3_code
def yX3_of : MethodName := ⟨RX3, "of", "(II)I"⟩
abbrev cX3_addPiece : ByteArray := prog_5_method_4_code
def yX3_addPiece : MethodName := ⟨RX3, "addPiece", "(IIIZ)I"⟩
abbrev cX3_addSet : ByteArray := prog_5_method_5_code
def yX3_addSet : MethodName := ⟨RX3, "addSet", "(J)I"⟩
abbrev cX3_setCount : ByteArray := prog_5_method_6_code
def yX3_setCount : MethodName := ⟨RX3, "setCount", "(IIII)V"⟩
abbrev cX3_addBranch : ByteArray := prog_5_method_7_code
def yX3_addBranch : MethodName := ⟨RX3, "addBranch", "()I"⟩
abbrev cX3_firstPiece : ByteArray := prog_5_method_8_code
def yX3_firstPiece : MethodName := ⟨RX3, "firstPiece", "(I)I"⟩
abbrev cX3_nextBranch : ByteArray := prog_5_method_9_code
def yX3_nextBranch : MethodName := ⟨RX3, "nextBranch", "(I)I"⟩
abbrev cX3_set : ByteArray := prog_5_method_10_code
def yX3_set : MethodName := ⟨RX3, "set", "(I)J"⟩
abbrev cX3_joined : ByteArray := prog_5_method_11_code
def yX3_joined : MethodName := ⟨RX3, "joined", "(II)J"⟩
abbrev cX3_bodyOfCall : ByteArray := prog_5_method_12_code
def yX3_bodyOfCall : MethodName := ⟨RX3, "bodyOfCall", "(I)I"⟩
def RX4 : String := "Regexloom$Program"
def TX4 : u_T := fun k => match k with
  | 0 => ("Regexloom$Program", "steps", "LRegexloom$Table;", true)
  | 1 => ("Regexloom$Program", "pattern", "LRegexloom$Pattern;", false)
  | 2 => ("Regexloom$Program", "level", "I", false)
  | _ => ("Regexloom$Program", "marks", "I", false)
def tyX4 : Nat → FieldType := fun k => match k with
  | 0 => .object "Regexloom$Table"
  | 1 => .object "Regexloom$Pattern"
  | 2 => .int
  | _ => .int
abbrev wsX40 : List Cond := u_ws RX4 TX4 4
theorem nmX4 : ∀ a, a < 4 → ∀ b, b < 4 → a ≠ b → (TX4 a).2.1 ≠ (TX4 b).2.1 := by decide +kernel
theorem tyX4_ok : ∀ k, k < 4 → parseFieldDescriptor (TX4 k).2.2.1 = some (tyX4 k) := by decide +kernel
abbrev cX4_init : ByteArray := prog_6_method_1_code
def yX4_init : MethodName := ⟨RX4, "<init>", "()V"⟩
abbrev cX4_compile : ByteArray := prog_6_method_2_code
def yX4_compile : MethodName := ⟨RX4, "compile", "(LRegexloom$Pattern;)V"⟩
abbrev cX4_size : ByteArray := prog_6_method_3_code
def yX4_size : MethodName := ⟨RX4, "size", "()I"⟩
abbrev cX4_marks : ByteArray := prog_6_method_4_code
def yX4_marks : MethodName := ⟨RX4, "marks", "()I"⟩
abbrev cX4_op : ByteArray := prog_6_method_5_code
def yX4_op : MethodName := ⟨RX4, "op", "(I)I"⟩
abbrev cX4_number : ByteArray := prog_6_method_6_code
def yX4_number : MethodName := ⟨RX4, "number", "(I)I"⟩
abbrev cX4_set : ByteArray := prog_6_method_7_code
def yX4_set : MethodName := ⟨RX4, "set", "(I)J"⟩
abbrev cX4_mark : ByteArray := prog_6_method_8_code
def yX4_mark : MethodName := ⟨RX4, "mark", "(II)I"⟩
abbrev cX4_to : ByteArray := prog_6_method_9_code
def yX4_to : MethodName := ⟨RX4, "to", "(I)I"⟩
abbrev cX4_orTo : ByteArray := prog_6_method_10_code
def yX4_orTo : MethodName := ⟨RX4, "orTo", "(I)I"⟩
abbrev cX4_first : ByteArray := prog_6_method_11_code
def yX4_first : MethodName := ⟨RX4, "first", "(IILRegexloom$Text;I)I"⟩
abbrev cX4_second : ByteArray := prog_6_method_12_code
def yX4_second : MethodName := ⟨RX4, "second", "(I)I"⟩
abbrev cX4_keyBehind : ByteArray := prog_6_method_13_code
def yX4_keyBehind : MethodName := ⟨RX4, "keyBehind", "(II)I"⟩
abbrev cX4_write : ByteArray := prog_6_method_14_code
def yX4_write : MethodName := ⟨RX4, "write", "(I)I"⟩
abbrev cX4_writeNumbered : ByteArray := prog_6_method_15_code
def yX4_writeNumbered : MethodName := ⟨RX4, "writeNumbered", "(II)I"⟩
abbrev cX4_writeBody : ByteArray := prog_6_method_16_code
def yX4_writeBody : MethodName := ⟨RX4, "writeBody", "(II)V"⟩
abbrev cX4_writeRow : ByteArray := prog_6_method_17_code
def yX4_writeRow : MethodName := ⟨RX4, "writeRow", "(II)V"⟩
abbrev cX4_writeAtom : ByteArray := prog_6_method_18_code
def yX4_writeAtom : MethodName := ⟨RX4, "writeAtom", "(II)V"⟩
abbrev cX4_link : ByteArray := prog_6_method_19_code
def yX4_link : MethodName := ⟨RX4, "link", "(IIIZ)V"⟩
abbrev cX4_writeCount : ByteArray := prog_6_method_20_code
def yX4_writeCount : MethodName := ⟨RX4, "writeCount", "(II)V"⟩
abbrev cX4_writeLooseCount : ByteArray := prog_6_method_21_code
def yX4_writeLooseCount : MethodName := ⟨RX4, "writeLooseCount", "(II)V"⟩
def RX5 : String := "Regexloom$Reader"
def TX5 : u_T := fun k => match k with
  | 0 => ("Regexloom$Reader", "draft", "[C", false)
  | 1 => ("Regexloom$Reader", "size", "I", false)
  | 2 => ("Regexloom$Reader", "at", "I", false)
  | 3 => ("Regexloom$Reader", "fault", "I", false)
  | 4 => ("Regexloom$Reader", "into", "LRegexloom$Pattern;", false)
  | 5 => ("Regexloom$Reader", "number", "I", false)
  | _ => ("Regexloom$Reader", "highestNeeded", "I", false)
def tyX5 : Nat → FieldType := fun k => match k with
  | 0 => .array .char
  | 1 => .int
  | 2 => .int
  | 3 => .int
  | 4 => .object "Regexloom$Pattern"
  | 5 => .int
  | _ => .int
abbrev wsX50 : List Cond := u_ws RX5 TX5 7
theorem nmX5 : ∀ a, a < 7 → ∀ b, b < 7 → a ≠ b → (TX5 a).2.1 ≠ (TX5 b).2.1 := by decide +kernel
theorem tyX5_ok : ∀ k, k < 7 → parseFieldDescriptor (TX5 k).2.2.1 = some (tyX5 k) := by decide +kernel
abbrev cX5_init : ByteArray := prog_7_method_1_code
def yX5_init : MethodName := ⟨RX5, "<init>", "()V"⟩
abbrev cX5_read : ByteArray := prog_7_method_2_code
def yX5_read : MethodName := ⟨RX5, "read", "([CILRegexloom$Pattern;)I"⟩
abbrev cX5_peek : ByteArray := prog_7_method_3_code
def yX5_peek : MethodName := ⟨RX5, "peek", "()C"⟩
abbrev cX5_refuse : ByteArray := prog_7_method_4_code
def yX5_refuse : MethodName := ⟨RX5, "refuse", "()V"⟩
abbrev cX5_expect : ByteArray := prog_7_method_5_code
def yX5_expect : MethodName := ⟨RX5, "expect", "(C)V"⟩
abbrev cX5_readBranches : ByteArray := prog_7_method_6_code
def yX5_readBranches : MethodName := ⟨RX5, "readBranches", "(IZI)I"⟩
abbrev cX5_readRow : ByteArray := prog_7_method_7_code
def yX5_readRow : MethodName := ⟨RX5, "readRow", "(IZI)V"⟩
abbrev cX5_readAtom : ByteArray := prog_7_method_8_code
def yX5_readAtom : MethodName := ⟨RX5, "readAtom", "(ZI)I"⟩
abbrev cX5_addSet : ByteArray := prog_7_method_9_code
def yX5_addSet : MethodName := ⟨RX5, "addSet", "(JZ)I"⟩
abbrev cX5_readEscape : ByteArray := prog_7_method_10_code
def yX5_readEscape : MethodName := ⟨RX5, "readEscape", "(Z)I"⟩
abbrev cX5_needed : ByteArray := prog_7_method_11_code
def yX5_needed : MethodName := ⟨RX5, "needed", "(C)I"⟩
abbrev cX5_readClass : ByteArray := prog_7_method_12_code
def yX5_readClass : MethodName := ⟨RX5, "readClass", "(Z)I"⟩
abbrev cX5_readMember : ByteArray := prog_7_method_13_code
def yX5_readMember : MethodName := ⟨RX5, "readMember", "()J"⟩
abbrev cX5_readParenthesis : ByteArray := prog_7_method_14_code
def yX5_readParenthesis : MethodName := ⟨RX5, "readParenthesis", "(ZI)I"⟩
abbrev cX5_fill : ByteArray := prog_7_method_15_code
def yX5_fill : MethodName := ⟨RX5, "fill", "(IIZI)I"⟩
abbrev cX5_readCut : ByteArray := prog_7_method_16_code
def yX5_readCut : MethodName := ⟨RX5, "readCut", "()I"⟩
abbrev cX5_readSpecial : ByteArray := prog_7_method_17_code
def yX5_readSpecial : MethodName := ⟨RX5, "readSpecial", "(ZI)I"⟩
abbrev cX5_addBare : ByteArray := prog_7_method_18_code
def yX5_addBare : MethodName := ⟨RX5, "addBare", "(I)I"⟩
abbrev cX5_readBehind : ByteArray := prog_7_method_19_code
def yX5_readBehind : MethodName := ⟨RX5, "readBehind", "(ZI)I"⟩
abbrev cX5_readCondition : ByteArray := prog_7_method_20_code
def yX5_readCondition : MethodName := ⟨RX5, "readCondition", "(ZI)I"⟩
abbrev cX5_readCount : ByteArray := prog_7_method_21_code
def yX5_readCount : MethodName := ⟨RX5, "readCount", "(I)V"⟩
abbrev cX5_canBeCounted : ByteArray := prog_7_method_22_code
def yX5_canBeCounted : MethodName := ⟨RX5, "canBeCounted", "(I)Z"⟩
abbrev cX5_readDigit : ByteArray := prog_7_method_23_code
def yX5_readDigit : MethodName := ⟨RX5, "readDigit", "(I)I"⟩
abbrev cX5_readMost : ByteArray := prog_7_method_24_code
def yX5_readMost : MethodName := ⟨RX5, "readMost", "(I)I"⟩
def RX6 : String := "Regexloom$Sets"
def TX6 : u_T := fun k => match k with
  | 0 => ("Regexloom$Sets", "marks", "LRegexloom$Table;", true)
  | 1 => ("Regexloom$Sets", "waiting", "LRegexloom$Table;", true)
  | 2 => ("Regexloom$Sets", "open", "LRegexloom$Table;", true)
  | 3 => ("Regexloom$Sets", "bounds", "LRegexloom$Table;", true)
  | 4 => ("Regexloom$Sets", "best", "LRegexloom$Table;", true)
  | 5 => ("Regexloom$Sets", "alive", "LRegexloom$Table;", true)
  | 6 => ("Regexloom$Sets", "threads", "LRegexloom$Table;", false)
  | 7 => ("Regexloom$Sets", "former", "LRegexloom$Table;", false)
  | 8 => ("Regexloom$Sets", "stamp", "I", false)
  | 9 => ("Regexloom$Sets", "program", "LRegexloom$Program;", false)
  | 10 => ("Regexloom$Sets", "text", "LRegexloom$Text;", false)
  | 11 => ("Regexloom$Sets", "stopsAtFirst", "Z", false)
  | 12 => ("Regexloom$Sets", "isAccepted", "Z", false)
  | _ => ("Regexloom$Sets", "end", "I", false)
def tyX6 : Nat → FieldType := fun k => match k with
  | 0 => .object "Regexloom$Table"
  | 1 => .object "Regexloom$Table"
  | 2 => .object "Regexloom$Table"
  | 3 => .object "Regexloom$Table"
  | 4 => .object "Regexloom$Table"
  | 5 => .object "Regexloom$Table"
  | 6 => .object "Regexloom$Table"
  | 7 => .object "Regexloom$Table"
  | 8 => .int
  | 9 => .object "Regexloom$Program"
  | 10 => .object "Regexloom$Text"
  | 11 => .boolean
  | 12 => .boolean
  | _ => .int
abbrev wsX60 : List Cond := u_ws RX6 TX6 14
theorem nmX6 : ∀ a, a < 14 → ∀ b, b < 14 → a ≠ b → (TX6 a).2.1 ≠ (TX6 b).2.1 := by decide +kernel
theorem tyX6_ok : ∀ k, k < 14 → parseFieldDescriptor (TX6 k).2.2.1 = some (tyX6 k) := by decide +kernel
abbrev cX6_init : ByteArray := prog_8_method_1_code
def yX6_init : MethodName := ⟨RX6, "<init>", "()V"⟩
abbrev cX6_canGoOn : ByteArray := prog_8_method_2_code
def yX6_canGoOn : MethodName := ⟨RX6, "canGoOn", "()Z"⟩
abbrev cX6_bound : ByteArray := prog_8_method_3_code
def yX6_bound : MethodName := ⟨RX6, "bound", "(II)I"⟩
abbrev cX6_run : ByteArray := prog_8_method_4_code
def yX6_run : MethodName := ⟨RX6, "run", "(LRegexloom$Program;LRegexloom$Text;IZ)I"⟩
abbrev cX6_takeSign : ByteArray := prog_8_method_5_code
def yX6_takeSign : MethodName := ⟨RX6, "takeSign", "(I)V"⟩
abbrev cX6_follow : ByteArray := prog_8_method_6_code
def yX6_follow : MethodName := ⟨RX6, "follow", "(II)V"⟩
abbrev cX6_leaveOpen : ByteArray := prog_8_method_7_code
def yX6_leaveOpen : MethodName := ⟨RX6, "leaveOpen", "(III)V"⟩
abbrev cX6_visit : ByteArray := prog_8_method_8_code
def yX6_visit : MethodName := ⟨RX6, "visit", "(III)V"⟩
abbrev cX6_await : ByteArray := prog_8_method_9_code
def yX6_await : MethodName := ⟨RX6, "await", "(I)V"⟩
abbrev cX6_accept : ByteArray := prog_8_method_10_code
def yX6_accept : MethodName := ⟨RX6, "accept", "(I)V"⟩
abbrev cX6_findAlive : ByteArray := prog_8_method_11_code
def yX6_findAlive : MethodName := ⟨RX6, "findAlive", "()V"⟩
abbrev cX6_isAlive : ByteArray := prog_8_method_12_code
def yX6_isAlive : MethodName := ⟨RX6, "isAlive", "(I)Z"⟩
abbrev cX6_leadsOn : ByteArray := prog_8_method_13_code
def yX6_leadsOn : MethodName := ⟨RX6, "leadsOn", "(I)Z"⟩
def RX7 : String := "Regexloom$Shape"
def TX7 : u_T := fun k => match k with
  | _ => ("", "", "", false)
def tyX7 : Nat → FieldType := fun k => match k with
  | _ => .int
abbrev wsX70 : List Cond := u_ws RX7 TX7 0
theorem nmX7 : ∀ a, a < 0 → ∀ b, b < 0 → a ≠ b → (TX7 a).2.1 ≠ (TX7 b).2.1 := by decide +kernel
theorem tyX7_ok : ∀ k, k < 0 → parseFieldDescriptor (TX7 k).2.2.1 = some (tyX7 k) := by decide +kernel
abbrev cX7_measure : ByteArray := prog_9_method_2_code
def yX7_measure : MethodName := ⟨RX7, "measure", "(LRegexloom$Pattern;)V"⟩
abbrev cX7_isEdge : ByteArray := prog_9_method_3_code
def yX7_isEdge : MethodName := ⟨RX7, "isEdge", "(I)Z"⟩
abbrev cX7_isHard : ByteArray := prog_9_method_4_code
def yX7_isHard : MethodName := ⟨RX7, "isHard", "(I)Z"⟩
abbrev cX7_isCountedAbove1 : ByteArray := prog_9_method_5_code
def yX7_isCountedAbove1 : MethodName := ⟨RX7, "isCountedAbove1", "(LRegexloom$Pattern;I)Z"⟩
abbrev cX7_canBeEmpty : ByteArray := prog_9_method_6_code
def yX7_canBeEmpty : MethodName := ⟨RX7, "canBeEmpty", "(LRegexloom$Pattern;I)Z"⟩
abbrev cX7_canAtomBeEmpty : ByteArray := prog_9_method_7_code
def yX7_canAtomBeEmpty : MethodName := ⟨RX7, "canAtomBeEmpty", "(LRegexloom$Pattern;II)Z"⟩
abbrev cX7_canRowBeEmpty : ByteArray := prog_9_method_8_code
def yX7_canRowBeEmpty : MethodName := ⟨RX7, "canRowBeEmpty", "(LRegexloom$Pattern;II)Z"⟩
abbrev cX7_weightOfBody : ByteArray := prog_9_method_9_code
def yX7_weightOfBody : MethodName := ⟨RX7, "weightOfBody", "(LRegexloom$Pattern;II)I"⟩
abbrev cX7_timesOf : ByteArray := prog_9_method_10_code
def yX7_timesOf : MethodName := ⟨RX7, "timesOf", "(LRegexloom$Pattern;I)I"⟩
def RX8 : String := "Regexloom$Signs"
def TX8 : u_T := fun k => match k with
  | _ => ("", "", "", false)
def tyX8 : Nat → FieldType := fun k => match k with
  | _ => .int
abbrev wsX80 : List Cond := u_ws RX8 TX8 0
theorem nmX8 : ∀ a, a < 0 → ∀ b, b < 0 → a ≠ b → (TX8 a).2.1 ≠ (TX8 b).2.1 := by decide +kernel
theorem tyX8_ok : ∀ k, k < 0 → parseFieldDescriptor (TX8 k).2.2.1 = some (tyX8 k) := by decide +kernel
abbrev cX8_codeOf : ByteArray := prog_10_method_2_code
def yX8_codeOf : MethodName := ⟨RX8, "codeOf", "(C)I"⟩
abbrev cX8_signOf : ByteArray := prog_10_method_3_code
def yX8_signOf : MethodName := ⟨RX8, "signOf", "(I)C"⟩
abbrev cX8_isOfDraft : ByteArray := prog_10_method_4_code
def yX8_isOfDraft : MethodName := ⟨RX8, "isOfDraft", "(C)Z"⟩
abbrev cX8_rangeKind : ByteArray := prog_10_method_5_code
def yX8_rangeKind : MethodName := ⟨RX8, "rangeKind", "(I)I"⟩
abbrev cX8_smallOf : ByteArray := prog_10_method_6_code
def yX8_smallOf : MethodName := ⟨RX8, "smallOf", "(I)I"⟩
abbrev cX8_capitalOf : ByteArray := prog_10_method_7_code
def yX8_capitalOf : MethodName := ⟨RX8, "capitalOf", "(I)I"⟩
abbrev cX8_isOfWord : ByteArray := prog_10_method_8_code
def yX8_isOfWord : MethodName := ⟨RX8, "isOfWord", "(I)Z"⟩
abbrev cX8_setOf : ByteArray := prog_10_method_9_code
def yX8_setOf : MethodName := ⟨RX8, "setOf", "(I)J"⟩
abbrev cX8_bothSizes : ByteArray := prog_10_method_10_code
def yX8_bothSizes : MethodName := ⟨RX8, "bothSizes", "(J)J"⟩
abbrev cX8_has : ByteArray := prog_10_method_11_code
def yX8_has : MethodName := ⟨RX8, "has", "(JI)Z"⟩
def RX9 : String := "Regexloom$Table"
def TX9 : u_T := fun k => match k with
  | 0 => ("Regexloom$Table", "width", "I", true)
  | 1 => ("Regexloom$Table", "most", "I", true)
  | 2 => ("Regexloom$Table", "cells", "[I", false)
  | _ => ("Regexloom$Table", "size", "I", false)
def tyX9 : Nat → FieldType := fun k => match k with
  | 0 => .int
  | 1 => .int
  | 2 => .array .int
  | _ => .int
abbrev wsX90 : List Cond := u_ws RX9 TX9 4
theorem nmX9 : ∀ a, a < 4 → ∀ b, b < 4 → a ≠ b → (TX9 a).2.1 ≠ (TX9 b).2.1 := by decide +kernel
theorem tyX9_ok : ∀ k, k < 4 → parseFieldDescriptor (TX9 k).2.2.1 = some (tyX9 k) := by decide +kernel
abbrev cX9_init : ByteArray := prog_11_method_1_code
def yX9_init : MethodName := ⟨RX9, "<init>", "(II)V"⟩
abbrev cX9_add : ByteArray := prog_11_method_2_code
def yX9_add : MethodName := ⟨RX9, "add", "()I"⟩
abbrev cX9_reach : ByteArray := prog_11_method_3_code
def yX9_reach : MethodName := ⟨RX9, "reach", "(I)V"⟩
abbrev cX9_size : ByteArray := prog_11_method_4_code
def yX9_size : MethodName := ⟨RX9, "size", "()I"⟩
abbrev cX9_cutTo : ByteArray := prog_11_method_5_code
def yX9_cutTo : MethodName := ⟨RX9, "cutTo", "(I)V"⟩
abbrev cX9_get : ByteArray := prog_11_method_6_code
def yX9_get : MethodName := ⟨RX9, "get", "(II)I"⟩
abbrev cX9_put : ByteArray := prog_11_method_7_code
def yX9_put : MethodName := ⟨RX9, "put", "(III)V"⟩
def RX10 : String := "Regexloom$Text"
def TX10 : u_T := fun k => match k with
  | _ => ("Regexloom$Text", "codes", "LRegexloom$Table;", true)
def tyX10 : Nat → FieldType := fun k => match k with
  | _ => .object "Regexloom$Table"
abbrev wsX100 : List Cond := u_ws RX10 TX10 1
theorem nmX10 : ∀ a, a < 1 → ∀ b, b < 1 → a ≠ b → (TX10 a).2.1 ≠ (TX10 b).2.1 := by decide +kernel
theorem tyX10_ok : ∀ k, k < 1 → parseFieldDescriptor (TX10 k).2.2.1 = some (tyX10 k) := by decide +kernel
abbrev cX10_init : ByteArray := prog_12_method_1_code
def yX10_init : MethodName := ⟨RX10, "<init>", "()V"⟩
abbrev cX10_size : ByteArray := prog_12_method_2_code
def yX10_size : MethodName := ⟨RX10, "size", "()I"⟩
abbrev cX10_empty : ByteArray := prog_12_method_3_code
def yX10_empty : MethodName := ⟨RX10, "empty", "()V"⟩
abbrev cX10_add : ByteArray := prog_12_method_4_code
def yX10_add : MethodName := ⟨RX10, "add", "(I)V"⟩
abbrev cX10_codeAt : ByteArray := prog_12_method_5_code
def yX10_codeAt : MethodName := ⟨RX10, "codeAt", "(I)I"⟩
abbrev cX10_holds : ByteArray := prog_12_method_6_code
def yX10_holds : MethodName := ⟨RX10, "holds", "(II)Z"⟩
def RX11 : String := "Regexloom"
def TX11 : u_T := fun k => match k with
  | 0 => ("Regexloom", "draft", "[C", true)
  | 1 => ("Regexloom", "drafted", "I", false)
  | 2 => ("Regexloom", "text", "LRegexloom$Text;", true)
  | 3 => ("Regexloom", "patterns", "[LRegexloom$Pattern;", true)
  | 4 => ("Regexloom", "spare", "LRegexloom$Pattern;", false)
  | 5 => ("Regexloom", "reader", "LRegexloom$Reader;", true)
  | 6 => ("Regexloom", "backing", "LRegexloom$Backing;", true)
  | 7 => ("Regexloom", "program", "LRegexloom$Program;", true)
  | 8 => ("Regexloom", "compiled", "I", false)
  | 9 => ("Regexloom", "sets", "LRegexloom$Sets;", true)
  | 10 => ("Regexloom", "counting", "LRegexloom$Counting;", true)
  | 11 => ("Regexloom", "budget", "I", false)
  | 12 => ("Regexloom", "bounds", "LRegexloom$Table;", true)
  | 13 => ("Regexloom", "latestTrials", "I", false)
  | 14 => ("Regexloom", "matches", "LRegexloom$Table;", true)
  | 15 => ("Regexloom", "out", "LRegexloom$Out;", false)
  | _ => ("Regexloom", "spareOut", "LRegexloom$Out;", false)
def tyX11 : Nat → FieldType := fun k => match k with
  | 0 => .array .char
  | 1 => .int
  | 2 => .object "Regexloom$Text"
  | 3 => .array (.object "Regexloom$Pattern")
  | 4 => .object "Regexloom$Pattern"
  | 5 => .object "Regexloom$Reader"
  | 6 => .object "Regexloom$Backing"
  | 7 => .object "Regexloom$Program"
  | 8 => .int
  | 9 => .object "Regexloom$Sets"
  | 10 => .object "Regexloom$Counting"
  | 11 => .int
  | 12 => .object "Regexloom$Table"
  | 13 => .int
  | 14 => .object "Regexloom$Table"
  | 15 => .object "Regexloom$Out"
  | _ => .object "Regexloom$Out"
abbrev wsX110 : List Cond := u_ws RX11 TX11 17
theorem nmX11 : ∀ a, a < 17 → ∀ b, b < 17 → a ≠ b → (TX11 a).2.1 ≠ (TX11 b).2.1 := by decide +kernel
theorem tyX11_ok : ∀ k, k < 17 → parseFieldDescriptor (TX11 k).2.2.1 = some (tyX11 k) := by decide +kernel
abbrev cX11_init : ByteArray := prog_1_method_1_code
def yX11_init : MethodName := ⟨RX11, "<init>", "()V"⟩
abbrev cX11_sign : ByteArray := prog_1_method_2_code
def yX11_sign : MethodName := ⟨RX11, "sign", "(C)I"⟩
abbrev cX11_clear : ByteArray := prog_1_method_3_code
def yX11_clear : MethodName := ⟨RX11, "clear", "()I"⟩
abbrev cX11_tell : ByteArray := prog_1_method_4_code
def yX11_tell : MethodName := ⟨RX11, "tell", "(I)I"⟩
abbrev cX11_fault : ByteArray := prog_1_method_5_code
def yX11_fault : MethodName := ⟨RX11, "fault", "()I"⟩
abbrev cX11_lot : ByteArray := prog_1_method_6_code
def yX11_lot : MethodName := ⟨RX11, "lot", "()I"⟩
abbrev cX11_wipe : ByteArray := prog_1_method_7_code
def yX11_wipe : MethodName := ⟨RX11, "wipe", "()I"⟩
abbrev cX11_length : ByteArray := prog_1_method_8_code
def yX11_length : MethodName := ⟨RX11, "length", "()I"⟩
abbrev cX11_isPlain : ByteArray := prog_1_method_9_code
def yX11_isPlain : MethodName := ⟨RX11, "isPlain", "(I)Z"⟩
abbrev cX11_isRegular : ByteArray := prog_1_method_10_code
def yX11_isRegular : MethodName := ⟨RX11, "isRegular", "(I)Z"⟩
abbrev cX11_setBudget : ByteArray := prog_1_method_11_code
def yX11_setBudget : MethodName := ⟨RX11, "setBudget", "(I)I"⟩
abbrev cX11_match : ByteArray := prog_1_method_12_code
def yX11_match : MethodName := ⟨RX11, "match", "(II)I"⟩
abbrev cX11_find : ByteArray := prog_1_method_13_code
def yX11_find : MethodName := ⟨RX11, "find", "(II)I"⟩
abbrev cX11_matchBySets : ByteArray := prog_1_method_14_code
def yX11_matchBySets : MethodName := ⟨RX11, "matchBySets", "(II)I"⟩
abbrev cX11_group : ByteArray := prog_1_method_15_code
def yX11_group : MethodName := ⟨RX11, "group", "(IZ)I"⟩
abbrev cX11_trials : ByteArray := prog_1_method_16_code
def yX11_trials : MethodName := ⟨RX11, "trials", "()I"⟩
abbrev cX11_longest : ByteArray := prog_1_method_17_code
def yX11_longest : MethodName := ⟨RX11, "longest", "(II)I"⟩
abbrev cX11_canStill : ByteArray := prog_1_method_18_code
def yX11_canStill : MethodName := ⟨RX11, "canStill", "(II)Z"⟩
abbrev cX11_which : ByteArray := prog_1_method_19_code
def yX11_which : MethodName := ⟨RX11, "which", "(I)I"⟩
abbrev cX11_ways : ByteArray := prog_1_method_20_code
def yX11_ways : MethodName := ⟨RX11, "ways", "(III)I"⟩
abbrev cX11_findAll : ByteArray := prog_1_method_21_code
def yX11_findAll : MethodName := ⟨RX11, "findAll", "(I)I"⟩
abbrev cX11_found : ByteArray := prog_1_method_22_code
def yX11_found : MethodName := ⟨RX11, "found", "(IZ)I"⟩
abbrev cX11_replace : ByteArray := prog_1_method_23_code
def yX11_replace : MethodName := ⟨RX11, "replace", "(I)I"⟩
abbrev cX11_outSign : ByteArray := prog_1_method_24_code
def yX11_outSign : MethodName := ⟨RX11, "outSign", "(I)C"⟩
abbrev cX11_needPattern : ByteArray := prog_1_method_25_code
def yX11_needPattern : MethodName := ⟨RX11, "needPattern", "(I)V"⟩
abbrev cX11_needPlace : ByteArray := prog_1_method_26_code
def yX11_needPlace : MethodName := ⟨RX11, "needPlace", "(I)V"⟩
abbrev cX11_toldOne : ByteArray := prog_1_method_27_code
def yX11_toldOne : MethodName := ⟨RX11, "toldOne", "(I)LRegexloom$Pattern;"⟩
abbrev cX11_needPlain : ByteArray := prog_1_method_28_code
def yX11_needPlain : MethodName := ⟨RX11, "needPlain", "(I)V"⟩
abbrev cX11_needRegular : ByteArray := prog_1_method_29_code
def yX11_needRegular : MethodName := ⟨RX11, "needRegular", "(I)V"⟩
abbrev cX11_compile : ByteArray := prog_1_method_30_code
def yX11_compile : MethodName := ⟨RX11, "compile", "(I)V"⟩
abbrev cX11_keepBounds : ByteArray := prog_1_method_31_code
def yX11_keepBounds : MethodName := ⟨RX11, "keepBounds", "(II)V"⟩
abbrev cX11_draftSign : ByteArray := prog_1_method_32_code
def yX11_draftSign : MethodName := ⟨RX11, "draftSign", "(I)C"⟩
abbrev cX11_putTemplate : ByteArray := prog_1_method_33_code
def yX11_putTemplate : MethodName := ⟨RX11, "putTemplate", "(II)V"⟩
def RX12 : String := "RegexloomModel$Choice"
def TX12 : u_T := fun k => match k with
  | 0 => ("RegexloomModel$Choice", "kind", "I", true)
  | 1 => ("RegexloomModel$Choice", "task", "LRegexloomModel$Task;", true)
  | 2 => ("RegexloomModel$Choice", "place", "I", true)
  | 3 => ("RegexloomModel$Choice", "trail", "I", true)
  | 4 => ("RegexloomModel$Choice", "node", "LRegexloomModel$Node;", true)
  | 5 => ("RegexloomModel$Choice", "scope", "LRegexloomModel$Scope;", true)
  | _ => ("RegexloomModel$Choice", "index", "I", false)
def tyX12 : Nat → FieldType := fun k => match k with
  | 0 => .int
  | 1 => .object "RegexloomModel$Task"
  | 2 => .int
  | 3 => .int
  | 4 => .object "RegexloomModel$Node"
  | 5 => .object "RegexloomModel$Scope"
  | _ => .int
abbrev wsX120 : List Cond := u_ws RX12 TX12 7
theorem nmX12 : ∀ a, a < 7 → ∀ b, b < 7 → a ≠ b → (TX12 a).2.1 ≠ (TX12 b).2.1 := by decide +kernel
theorem tyX12_ok : ∀ k, k < 7 → parseFieldDescriptor (TX12 k).2.2.1 = some (tyX12 k) := by decide +kernel
abbrev cX12_init : ByteArray := prog_15_method_1_code
def yX12_init : MethodName := ⟨RX12, "<init>", "(ILRegexloomModel$Task;IILRegexloomModel$Node;LRegexloomModel$Scope;)V"⟩
def RX13 : String := "RegexloomModel$Fault"
def TX13 : u_T := fun k => match k with
  | 0 => ("java/lang/Throwable", "cause", "Ljava/lang/Throwable;", false)
  | 1 => ("java/lang/Throwable", "stackTrace", "[Ljava/lang/StackTraceElement;", false)
  | 2 => ("java/lang/Throwable", "suppressedExceptions", "Ljava/util/List;", false)
  | 3 => ("java/lang/Throwable", "detailMessage", "Ljava/lang/String;", false)
  | 4 => ("java/lang/Throwable", "backtrace", "Ljava/lang/Object;", false)
  | 5 => ("java/lang/Throwable", "depth", "I", false)
  | _ => ("RegexloomModel$Fault", "place", "I", true)
def tyX13 : Nat → FieldType := fun k => match k with
  | 0 => .object "java/lang/Throwable"
  | 1 => .array (.object "java/lang/StackTraceElement")
  | 2 => .object "java/util/List"
  | 3 => .object "java/lang/String"
  | 4 => .object "java/lang/Object"
  | 5 => .int
  | _ => .int
abbrev wsX130 : List Cond := u_ws RX13 TX13 7
theorem nmX13 : ∀ a, a < 7 → ∀ b, b < 7 → a ≠ b → (TX13 a).2.1 ≠ (TX13 b).2.1 := by decide +kernel
theorem tyX13_ok : ∀ k, k < 7 → parseFieldDescriptor (TX13 k).2.2.1 = some (tyX13 k) := by decide +kernel
abbrev cX13_init : ByteArray := prog_16_method_1_code
def yX13_init : MethodName := ⟨RX13, "<init>", "(I)V"⟩
def RX14 : String := "RegexloomModel$Node"
def TX14 : u_T := fun k => match k with
  | 0 => ("RegexloomModel$Node", "kind", "I", true)
  | 1 => ("RegexloomModel$Node", "set", "J", false)
  | 2 => ("RegexloomModel$Node", "what", "I", false)
  | 3 => ("RegexloomModel$Node", "ignores", "Z", false)
  | 4 => ("RegexloomModel$Node", "branches", "Ljava/util/ArrayList;", true)
  | 5 => ("RegexloomModel$Node", "atom", "LRegexloomModel$Node;", false)
  | 6 => ("RegexloomModel$Node", "least", "I", false)
  | 7 => ("RegexloomModel$Node", "most", "I", false)
  | _ => ("RegexloomModel$Node", "mode", "I", false)
def tyX14 : Nat → FieldType := fun k => match k with
  | 0 => .int
  | 1 => .long
  | 2 => .int
  | 3 => .boolean
  | 4 => .object "java/util/ArrayList"
  | 5 => .object "RegexloomModel$Node"
  | 6 => .int
  | 7 => .int
  | _ => .int
abbrev wsX140 : List Cond := u_ws RX14 TX14 9
theorem nmX14 : ∀ a, a < 9 → ∀ b, b < 9 → a ≠ b → (TX14 a).2.1 ≠ (TX14 b).2.1 := by decide +kernel
theorem tyX14_ok : ∀ k, k < 9 → parseFieldDescriptor (TX14 k).2.2.1 = some (tyX14 k) := by decide +kernel
abbrev cX14_init : ByteArray := prog_17_method_1_code
def yX14_init : MethodName := ⟨RX14, "<init>", "(I)V"⟩
abbrev cX14_canCount : ByteArray := prog_17_method_2_code
def yX14_canCount : MethodName := ⟨RX14, "canCount", "()Z"⟩
def RX15 : String := "RegexloomModel$Pattern"
def TX15 : u_T := fun k => match k with
  | 0 => ("RegexloomModel$Pattern", "whole", "LRegexloomModel$Node;", false)
  | 1 => ("RegexloomModel$Pattern", "groups", "I", false)
  | 2 => ("RegexloomModel$Pattern", "byNumber", "[LRegexloomModel$Node;", true)
  | 3 => ("RegexloomModel$Pattern", "isPlain", "Z", false)
  | 4 => ("RegexloomModel$Pattern", "isRegular", "Z", false)
  | _ => ("RegexloomModel$Pattern", "steps", "Ljava/util/ArrayList;", false)
def tyX15 : Nat → FieldType := fun k => match k with
  | 0 => .object "RegexloomModel$Node"
  | 1 => .int
  | 2 => .array (.object "RegexloomModel$Node")
  | 3 => .boolean
  | 4 => .boolean
  | _ => .object "java/util/ArrayList"
abbrev wsX150 : List Cond := u_ws RX15 TX15 6
theorem nmX15 : ∀ a, a < 6 → ∀ b, b < 6 → a ≠ b → (TX15 a).2.1 ≠ (TX15 b).2.1 := by decide +kernel
theorem tyX15_ok : ∀ k, k < 6 → parseFieldDescriptor (TX15 k).2.2.1 = some (tyX15 k) := by decide +kernel
abbrev cX15_init : ByteArray := prog_18_method_1_code
def yX15_init : MethodName := ⟨RX15, "<init>", "()V"⟩
def RX16 : String := "RegexloomModel$Reader"
def TX16 : u_T := fun k => match k with
  | 0 => ("RegexloomModel$Reader", "draft", "[I", true)
  | 1 => ("RegexloomModel$Reader", "size", "I", true)
  | 2 => ("RegexloomModel$Reader", "at", "I", false)
  | 3 => ("RegexloomModel$Reader", "groups", "I", false)
  | 4 => ("RegexloomModel$Reader", "told", "I", false)
  | 5 => ("RegexloomModel$Reader", "referred", "I", false)
  | 6 => ("RegexloomModel$Reader", "ignores", "Z", false)
  | _ => ("RegexloomModel$Reader", "made", "LRegexloomModel$Pattern;", true)
def tyX16 : Nat → FieldType := fun k => match k with
  | 0 => .array .int
  | 1 => .int
  | 2 => .int
  | 3 => .int
  | 4 => .int
  | 5 => .int
  | 6 => .boolean
  | _ => .object "RegexloomModel$Pattern"
abbrev wsX160 : List Cond := u_ws RX16 TX16 8
theorem nmX16 : ∀ a, a < 8 → ∀ b, b < 8 → a ≠ b → (TX16 a).2.1 ≠ (TX16 b).2.1 := by decide +kernel
theorem tyX16_ok : ∀ k, k < 8 → parseFieldDescriptor (TX16 k).2.2.1 = some (tyX16 k) := by decide +kernel
abbrev cX16_init : ByteArray := prog_19_method_1_code
def yX16_init : MethodName := ⟨RX16, "<init>", "([II)V"⟩
abbrev cX16_all : ByteArray := prog_19_method_2_code
def yX16_all : MethodName := ⟨RX16, "all", "()LRegexloomModel$Pattern;"⟩
abbrev cX16_here : ByteArray := prog_19_method_3_code
def yX16_here : MethodName := ⟨RX16, "here", "()I"⟩
abbrev cX16_next : ByteArray := prog_19_method_4_code
def yX16_next : MethodName := ⟨RX16, "next", "()I"⟩
abbrev cX16_wants : ByteArray := prog_19_method_5_code
def yX16_wants : MethodName := ⟨RX16, "wants", "(I)V"⟩
abbrev cX16_digit : ByteArray := prog_19_method_6_code
def yX16_digit : MethodName := ⟨RX16, "digit", "(II)I"⟩
abbrev cX16_branches : ByteArray := prog_19_method_7_code
def yX16_branches : MethodName := ⟨RX16, "branches", "(LRegexloomModel$Node;IZ)V"⟩
abbrev cX16_piece : ByteArray := prog_19_method_8_code
def yX16_piece : MethodName := ⟨RX16, "piece", "()LRegexloomModel$Node;"⟩
abbrev cX16_signs : ByteArray := prog_19_method_9_code
def yX16_signs : MethodName := ⟨RX16, "signs", "(J)LRegexloomModel$Node;"⟩
abbrev cX16_cased : ByteArray := prog_19_method_10_code
def yX16_cased : MethodName := ⟨RX16, "cased", "(J)J"⟩
abbrev cX16_atom : ByteArray := prog_19_method_11_code
def yX16_atom : MethodName := ⟨RX16, "atom", "()LRegexloomModel$Node;"⟩
abbrev cX16_escaped : ByteArray := prog_19_method_12_code
def yX16_escaped : MethodName := ⟨RX16, "escaped", "()LRegexloomModel$Node;"⟩
abbrev cX16_refers : ByteArray := prog_19_method_13_code
def yX16_refers : MethodName := ⟨RX16, "refers", "(II)LRegexloomModel$Node;"⟩
abbrev cX16_areAlike : ByteArray := prog_19_method_14_code
def yX16_areAlike : MethodName := ⟨RX16, "areAlike", "(II)Z"⟩
abbrev cX16_set : ByteArray := prog_19_method_15_code
def yX16_set : MethodName := ⟨RX16, "set", "()J"⟩
abbrev cX16_opened : ByteArray := prog_19_method_16_code
def yX16_opened : MethodName := ⟨RX16, "opened", "()LRegexloomModel$Node;"⟩
abbrev cX16_closed : ByteArray := prog_19_method_17_code
def yX16_closed : MethodName := ⟨RX16, "closed", "(LRegexloomModel$Node;IZ)LRegexloomModel$Node;"⟩
abbrev cX16_look : ByteArray := prog_19_method_18_code
def yX16_look : MethodName := ⟨RX16, "look", "(I)LRegexloomModel$Node;"⟩
abbrev cX16_special : ByteArray := prog_19_method_19_code
def yX16_special : MethodName := ⟨RX16, "special", "()LRegexloomModel$Node;"⟩
def RX17 : String := "RegexloomModel$Scope"
def TX17 : u_T := fun k => match k with
  | 0 => ("RegexloomModel$Scope", "mark", "I", true)
  | 1 => ("RegexloomModel$Scope", "isTop", "Z", true)
  | 2 => ("RegexloomModel$Scope", "branches", "I", true)
  | _ => ("RegexloomModel$Scope", "calls", "I", true)
def tyX17 : Nat → FieldType := fun k => match k with
  | 0 => .int
  | 1 => .boolean
  | 2 => .int
  | _ => .int
abbrev wsX170 : List Cond := u_ws RX17 TX17 4
theorem nmX17 : ∀ a, a < 4 → ∀ b, b < 4 → a ≠ b → (TX17 a).2.1 ≠ (TX17 b).2.1 := by decide +kernel
theorem tyX17_ok : ∀ k, k < 4 → parseFieldDescriptor (TX17 k).2.2.1 = some (tyX17 k) := by decide +kernel
abbrev cX17_init : ByteArray := prog_20_method_1_code
def yX17_init : MethodName := ⟨RX17, "<init>", "(IZII)V"⟩
def RX18 : String := "RegexloomModel$Step"
def TX18 : u_T := fun k => match k with
  | 0 => ("RegexloomModel$Step", "kind", "I", true)
  | 1 => ("RegexloomModel$Step", "set", "J", false)
  | 2 => ("RegexloomModel$Step", "what", "I", false)
  | _ => ("RegexloomModel$Step", "ways", "[I", false)
def tyX18 : Nat → FieldType := fun k => match k with
  | 0 => .int
  | 1 => .long
  | 2 => .int
  | _ => .array .int
abbrev wsX180 : List Cond := u_ws RX18 TX18 4
theorem nmX18 : ∀ a, a < 4 → ∀ b, b < 4 → a ≠ b → (TX18 a).2.1 ≠ (TX18 b).2.1 := by decide +kernel
theorem tyX18_ok : ∀ k, k < 4 → parseFieldDescriptor (TX18 k).2.2.1 = some (tyX18 k) := by decide +kernel
abbrev cX18_init : ByteArray := prog_21_method_1_code
def yX18_init : MethodName := ⟨RX18, "<init>", "(I)V"⟩
def RX19 : String := "RegexloomModel$Task"
def TX19 : u_T := fun k => match k with
  | 0 => ("RegexloomModel$Task", "kind", "I", true)
  | 1 => ("RegexloomModel$Task", "next", "LRegexloomModel$Task;", true)
  | 2 => ("RegexloomModel$Task", "scope", "LRegexloomModel$Scope;", true)
  | 3 => ("RegexloomModel$Task", "row", "Ljava/util/ArrayList;", false)
  | 4 => ("RegexloomModel$Task", "node", "LRegexloomModel$Node;", false)
  | 5 => ("RegexloomModel$Task", "place", "I", false)
  | 6 => ("RegexloomModel$Task", "turns", "I", false)
  | 7 => ("RegexloomModel$Task", "mark", "I", false)
  | 8 => ("RegexloomModel$Task", "isNeeded", "Z", false)
  | _ => ("RegexloomModel$Task", "groups", "[I", false)
def tyX19 : Nat → FieldType := fun k => match k with
  | 0 => .int
  | 1 => .object "RegexloomModel$Task"
  | 2 => .object "RegexloomModel$Scope"
  | 3 => .object "java/util/ArrayList"
  | 4 => .object "RegexloomModel$Node"
  | 5 => .int
  | 6 => .int
  | 7 => .int
  | 8 => .boolean
  | _ => .array .int
abbrev wsX190 : List Cond := u_ws RX19 TX19 10
theorem nmX19 : ∀ a, a < 10 → ∀ b, b < 10 → a ≠ b → (TX19 a).2.1 ≠ (TX19 b).2.1 := by decide +kernel
theorem tyX19_ok : ∀ k, k < 10 → parseFieldDescriptor (TX19 k).2.2.1 = some (tyX19 k) := by decide +kernel
abbrev cX19_init : ByteArray := prog_22_method_1_code
def yX19_init : MethodName := ⟨RX19, "<init>", "(ILRegexloomModel$Scope;LRegexloomModel$Task;)V"⟩
def RX20 : String := "RegexloomModel$Tired"
def TX20 : u_T := fun k => match k with
  | 0 => ("java/lang/Throwable", "cause", "Ljava/lang/Throwable;", false)
  | 1 => ("java/lang/Throwable", "stackTrace", "[Ljava/lang/StackTraceElement;", false)
  | 2 => ("java/lang/Throwable", "suppressedExceptions", "Ljava/util/List;", false)
  | 3 => ("java/lang/Throwable", "detailMessage", "Ljava/lang/String;", false)
  | 4 => ("java/lang/Throwable", "backtrace", "Ljava/lang/Object;", false)
  | _ => ("java/lang/Throwable", "depth", "I", false)
def tyX20 : Nat → FieldType := fun k => match k with
  | 0 => .object "java/lang/Throwable"
  | 1 => .array (.object "java/lang/StackTraceElement")
  | 2 => .object "java/util/List"
  | 3 => .object "java/lang/String"
  | 4 => .object "java/lang/Object"
  | _ => .int
abbrev wsX200 : List Cond := u_ws RX20 TX20 6
theorem nmX20 : ∀ a, a < 6 → ∀ b, b < 6 → a ≠ b → (TX20 a).2.1 ≠ (TX20 b).2.1 := by decide +kernel
theorem tyX20_ok : ∀ k, k < 6 → parseFieldDescriptor (TX20 k).2.2.1 = some (tyX20 k) := by decide +kernel
abbrev cX20_init : ByteArray := prog_23_method_1_code
def yX20_init : MethodName := ⟨RX20, "<init>", "()V"⟩
def RX21 : String := "RegexloomModel"
def TX21 : u_T := fun k => match k with
  | 0 => ("RegexloomModel", "refusal", "I", false)
  | 1 => ("RegexloomModel", "draft", "[I", true)
  | 2 => ("RegexloomModel", "drafted", "I", false)
  | 3 => ("RegexloomModel", "text", "[I", true)
  | 4 => ("RegexloomModel", "length", "I", false)
  | 5 => ("RegexloomModel", "patterns", "[LRegexloomModel$Pattern;", true)
  | 6 => ("RegexloomModel", "budget", "I", false)
  | 7 => ("RegexloomModel", "out", "[I", true)
  | 8 => ("RegexloomModel", "outLength", "I", false)
  | 9 => ("RegexloomModel", "begins", "Ljava/util/ArrayList;", true)
  | 10 => ("RegexloomModel", "ends", "Ljava/util/ArrayList;", true)
  | 11 => ("RegexloomModel", "told", "[I", true)
  | 12 => ("RegexloomModel", "toldTrials", "I", false)
  | 13 => ("RegexloomModel", "choices", "Ljava/util/ArrayList;", true)
  | 14 => ("RegexloomModel", "groups", "[I", true)
  | 15 => ("RegexloomModel", "trail", "[I", false)
  | 16 => ("RegexloomModel", "trailSize", "I", false)
  | 17 => ("RegexloomModel", "own", "LRegexloomModel$Pattern;", false)
  | 18 => ("RegexloomModel", "place", "I", false)
  | 19 => ("RegexloomModel", "task", "LRegexloomModel$Task;", false)
  | 20 => ("RegexloomModel", "trials", "I", false)
  | 21 => ("RegexloomModel", "isOver", "Z", false)
  | 22 => ("RegexloomModel", "skipTo", "I", false)
  | 23 => ("RegexloomModel", "steps", "Ljava/util/ArrayList;", true)
  | 24 => ("RegexloomModel", "marks", "I", false)
  | 25 => ("RegexloomModel", "leads", "[J", true)
  | 26 => ("RegexloomModel", "seen", "[J", false)
  | 27 => ("RegexloomModel", "known", "[I", false)
  | 28 => ("RegexloomModel", "seenMany", "I", false)
  | 29 => ("RegexloomModel", "left", "[J", false)
  | 30 => ("RegexloomModel", "leftTrail", "[I", false)
  | _ => ("RegexloomModel", "leftMany", "I", false)
def tyX21 : Nat → FieldType := fun k => match k with
  | 0 => .int
  | 1 => .array .int
  | 2 => .int
  | 3 => .array .int
  | 4 => .int
  | 5 => .array (.object "RegexloomModel$Pattern")
  | 6 => .int
  | 7 => .array .int
  | 8 => .int
  | 9 => .object "java/util/ArrayList"
  | 10 => .object "java/util/ArrayList"
  | 11 => .array .int
  | 12 => .int
  | 13 => .object "java/util/ArrayList"
  | 14 => .array .int
  | 15 => .array .int
  | 16 => .int
  | 17 => .object "RegexloomModel$Pattern"
  | 18 => .int
  | 19 => .object "RegexloomModel$Task"
  | 20 => .int
  | 21 => .boolean
  | 22 => .int
  | 23 => .object "java/util/ArrayList"
  | 24 => .int
  | 25 => .array .long
  | 26 => .array .long
  | 27 => .array .int
  | 28 => .int
  | 29 => .array .long
  | 30 => .array .int
  | _ => .int
abbrev wsX210 : List Cond := u_ws RX21 TX21 32
theorem nmX21 : ∀ a, a < 32 → ∀ b, b < 32 → a ≠ b → (TX21 a).2.1 ≠ (TX21 b).2.1 := by decide +kernel
theorem tyX21_ok : ∀ k, k < 32 → parseFieldDescriptor (TX21 k).2.2.1 = some (tyX21 k) := by decide +kernel
abbrev cX21_bit : ByteArray := prog_14_method_1_code
def yX21_bit : MethodName := ⟨RX21, "bit", "(I)I"⟩
abbrev cX21_isDraftSign : ByteArray := prog_14_method_2_code
def yX21_isDraftSign : MethodName := ⟨RX21, "isDraftSign", "(I)Z"⟩
abbrev cX21_bothCases : ByteArray := prog_14_method_4_code
def yX21_bothCases : MethodName := ⟨RX21, "bothCases", "(J)J"⟩
abbrev cX21_canBeEmpty : ByteArray := prog_14_method_5_code
def yX21_canBeEmpty : MethodName := ⟨RX21, "canBeEmpty", "(LRegexloomModel$Node;)Z"⟩
abbrev cX21_isPlain : ByteArray := prog_14_method_6_code
def yX21_isPlain : MethodName := ⟨RX21, "isPlain", "(LRegexloomModel$Node;)Z"⟩
abbrev cX21_isRegular : ByteArray := prog_14_method_7_code
def yX21_isRegular : MethodName := ⟨RX21, "isRegular", "(LRegexloomModel$Node;)Z"⟩
abbrev cX21_weight : ByteArray := prog_14_method_8_code
def yX21_weight : MethodName := ⟨RX21, "weight", "(LRegexloomModel$Node;)J"⟩
abbrev cX21_init : ByteArray := prog_14_method_9_code
def yX21_init : MethodName := ⟨RX21, "<init>", "()V"⟩
abbrev cX21_thrown : ByteArray := prog_14_method_10_code
def yX21_thrown : MethodName := ⟨RX21, "thrown", "()I"⟩
abbrev cX21_refused : ByteArray := prog_14_method_11_code
def yX21_refused : MethodName := ⟨RX21, "refused", "(I)Z"⟩
abbrev cX21_fine : ByteArray := prog_14_method_12_code
def yX21_fine : MethodName := ⟨RX21, "fine", "(I)I"⟩
abbrev cX21_in : ByteArray := prog_14_method_13_code
def yX21_in : MethodName := ⟨RX21, "in", "(III)Z"⟩
abbrev cX21_sign : ByteArray := prog_14_method_14_code
def yX21_sign : MethodName := ⟨RX21, "sign", "(C)I"⟩
abbrev cX21_clear : ByteArray := prog_14_method_15_code
def yX21_clear : MethodName := ⟨RX21, "clear", "()I"⟩
abbrev cX21_tell : ByteArray := prog_14_method_16_code
def yX21_tell : MethodName := ⟨RX21, "tell", "(I)I"⟩
abbrev cX21_read : ByteArray := prog_14_method_17_code
def yX21_read : MethodName := ⟨RX21, "read", "()LRegexloomModel$Pattern;"⟩
abbrev cX21_fault : ByteArray := prog_14_method_18_code
def yX21_fault : MethodName := ⟨RX21, "fault", "()I"⟩
abbrev cX21_lot : ByteArray := prog_14_method_19_code
def yX21_lot : MethodName := ⟨RX21, "lot", "()I"⟩
abbrev cX21_wipe : ByteArray := prog_14_method_20_code
def yX21_wipe : MethodName := ⟨RX21, "wipe", "()I"⟩
abbrev cX21_length : ByteArray := prog_14_method_21_code
def yX21_length : MethodName := ⟨RX21, "length", "()I"⟩
abbrev cX21_unknown : ByteArray := prog_14_method_22_code
def yX21_unknown : MethodName := ⟨RX21, "unknown", "(I)I"⟩
abbrev cX21_isPlain_ : ByteArray := prog_14_method_23_code
def yX21_isPlain_ : MethodName := ⟨RX21, "isPlain", "(I)Z"⟩
abbrev cX21_isRegular_ : ByteArray := prog_14_method_24_code
def yX21_isRegular_ : MethodName := ⟨RX21, "isRegular", "(I)Z"⟩
abbrev cX21_setBudget : ByteArray := prog_14_method_25_code
def yX21_setBudget : MethodName := ⟨RX21, "setBudget", "(I)I"⟩
abbrev cX21_isWord : ByteArray := prog_14_method_26_code
def yX21_isWord : MethodName := ⟨RX21, "isWord", "(I)Z"⟩
abbrev cX21_holds : ByteArray := prog_14_method_27_code
def yX21_holds : MethodName := ⟨RX21, "holds", "(II)Z"⟩
abbrev cX21_fits : ByteArray := prog_14_method_28_code
def yX21_fits : MethodName := ⟨RX21, "fits", "(JI)Z"⟩
abbrev cX21_tried : ByteArray := prog_14_method_29_code
def yX21_tried : MethodName := ⟨RX21, "tried", "()V"⟩
abbrev cX21_set : ByteArray := prog_14_method_30_code
def yX21_set : MethodName := ⟨RX21, "set", "(III)V"⟩
abbrev cX21_restore : ByteArray := prog_14_method_31_code
def yX21_restore : MethodName := ⟨RX21, "restore", "(I)V"⟩
abbrev cX21_drop : ByteArray := prog_14_method_32_code
def yX21_drop : MethodName := ⟨RX21, "drop", "(I)V"⟩
abbrev cX21_choose : ByteArray := prog_14_method_33_code
def yX21_choose : MethodName := ⟨RX21, "choose", "(ILRegexloomModel$Task;LRegexloomModel$Node;LRegexloomModel$Scope;)LRegexloomModel$Choice;"⟩
abbrev cX21_row : ByteArray := prog_14_method_34_code
def yX21_row : MethodName := ⟨RX21, "row", "(Ljava/util/ArrayList;ILRegexloomModel$Scope;LRegexloomModel$Task;)LRegexloomModel$Task;"⟩
abbrev cX21_tryAt : ByteArray := prog_14_method_35_code
def yX21_tryAt : MethodName := ⟨RX21, "tryAt", "(LRegexloomModel$Pattern;I)I"⟩
abbrev cX21_branches : ByteArray := prog_14_method_36_code
def yX21_branches : MethodName := ⟨RX21, "branches", "(LRegexloomModel$Node;LRegexloomModel$Scope;LRegexloomModel$Task;)LRegexloomModel$Task;"⟩
abbrev cX21_step : ByteArray := prog_14_method_37_code
def yX21_step : MethodName := ⟨RX21, "step", "()Z"⟩
abbrev cX21_begin : ByteArray := prog_14_method_38_code
def yX21_begin : MethodName := ⟨RX21, "begin", "(LRegexloomModel$Node;LRegexloomModel$Scope;LRegexloomModel$Task;)Z"⟩
abbrev cX21_walled : ByteArray := prog_14_method_39_code
def yX21_walled : MethodName := ⟨RX21, "walled", "(ILRegexloomModel$Task;LRegexloomModel$Node;LRegexloomModel$Scope;)LRegexloomModel$Scope;"⟩
abbrev cX21_leaving : ByteArray := prog_14_method_40_code
def yX21_leaving : MethodName := ⟨RX21, "leaving", "(LRegexloomModel$Scope;LRegexloomModel$Task;I)LRegexloomModel$Task;"⟩
abbrev cX21_leave : ByteArray := prog_14_method_41_code
def yX21_leave : MethodName := ⟨RX21, "leave", "(LRegexloomModel$Task;)Z"⟩
abbrev cX21_look : ByteArray := prog_14_method_42_code
def yX21_look : MethodName := ⟨RX21, "look", "(LRegexloomModel$Node;LRegexloomModel$Scope;LRegexloomModel$Task;)Z"⟩
abbrev cX21_small : ByteArray := prog_14_method_43_code
def yX21_small : MethodName := ⟨RX21, "small", "(I)I"⟩
abbrev cX21_refers : ByteArray := prog_14_method_44_code
def yX21_refers : MethodName := ⟨RX21, "refers", "(LRegexloomModel$Node;)Z"⟩
abbrev cX21_call : ByteArray := prog_14_method_45_code
def yX21_call : MethodName := ⟨RX21, "call", "(LRegexloomModel$Node;LRegexloomModel$Scope;LRegexloomModel$Task;)Z"⟩
abbrev cX21_count : ByteArray := prog_14_method_46_code
def yX21_count : MethodName := ⟨RX21, "count", "(LRegexloomModel$Node;LRegexloomModel$Scope;LRegexloomModel$Task;)Z"⟩
abbrev cX21_turn : ByteArray := prog_14_method_47_code
def yX21_turn : MethodName := ⟨RX21, "turn", "(LRegexloomModel$Node;ILRegexloomModel$Scope;LRegexloomModel$Task;)Z"⟩
abbrev cX21_oneMore : ByteArray := prog_14_method_48_code
def yX21_oneMore : MethodName := ⟨RX21, "oneMore", "(LRegexloomModel$Node;ILRegexloomModel$Scope;LRegexloomModel$Task;)Z"⟩
abbrev cX21_backUp : ByteArray := prog_14_method_49_code
def yX21_backUp : MethodName := ⟨RX21, "backUp", "()V"⟩
abbrev cX21_takeUp : ByteArray := prog_14_method_50_code
def yX21_takeUp : MethodName := ⟨RX21, "takeUp", "(LRegexloomModel$Choice;)Z"⟩
abbrev cX21_lookFarther : ByteArray := prog_14_method_51_code
def yX21_lookFarther : MethodName := ⟨RX21, "lookFarther", "(LRegexloomModel$Choice;)Z"⟩
abbrev cX21_cut : ByteArray := prog_14_method_52_code
def yX21_cut : MethodName := ⟨RX21, "cut", "(LRegexloomModel$Choice;)V"⟩
abbrev cX21_search : ByteArray := prog_14_method_53_code
def yX21_search : MethodName := ⟨RX21, "search", "(LRegexloomModel$Pattern;I)I"⟩
abbrev cX21_keepMatch : ByteArray := prog_14_method_54_code
def yX21_keepMatch : MethodName := ⟨RX21, "keepMatch", "(Z)V"⟩
abbrev cX21_unknownPlace : ByteArray := prog_14_method_55_code
def yX21_unknownPlace : MethodName := ⟨RX21, "unknownPlace", "(II)I"⟩
abbrev cX21_match : ByteArray := prog_14_method_56_code
def yX21_match : MethodName := ⟨RX21, "match", "(II)I"⟩
abbrev cX21_find : ByteArray := prog_14_method_57_code
def yX21_find : MethodName := ⟨RX21, "find", "(II)I"⟩
abbrev cX21_group : ByteArray := prog_14_method_58_code
def yX21_group : MethodName := ⟨RX21, "group", "(IZ)I"⟩
abbrev cX21_trials : ByteArray := prog_14_method_59_code
def yX21_trials : MethodName := ⟨RX21, "trials", "()I"⟩
abbrev cX21_which : ByteArray := prog_14_method_60_code
def yX21_which : MethodName := ⟨RX21, "which", "(I)I"⟩
abbrev cX21_searchAll : ByteArray := prog_14_method_61_code
def yX21_searchAll : MethodName := ⟨RX21, "searchAll", "(LRegexloomModel$Pattern;Ljava/util/ArrayList;Ljava/util/ArrayList;Ljava/util/ArrayList;)Z"⟩
abbrev cX21_findAll : ByteArray := prog_14_method_62_code
def yX21_findAll : MethodName := ⟨RX21, "findAll", "(I)I"⟩
abbrev cX21_found : ByteArray := prog_14_method_63_code
def yX21_found : MethodName := ⟨RX21, "found", "(IZ)I"⟩
abbrev cX21_largeOrSmall : ByteArray := prog_14_method_64_code
def yX21_largeOrSmall : MethodName := ⟨RX21, "largeOrSmall", "(II)I"⟩
abbrev cX21_fill : ByteArray := prog_14_method_65_code
def yX21_fill : MethodName := ⟨RX21, "fill", "(Ljava/util/ArrayList;[I)V"⟩
abbrev cX21_replace : ByteArray := prog_14_method_66_code
def yX21_replace : MethodName := ⟨RX21, "replace", "(I)I"⟩
abbrev cX21_outSign : ByteArray := prog_14_method_67_code
def yX21_outSign : MethodName := ⟨RX21, "outSign", "(I)C"⟩
abbrev cX21_add : ByteArray := prog_14_method_68_code
def yX21_add : MethodName := ⟨RX21, "add", "(I)LRegexloomModel$Step;"⟩
abbrev cX21_layBranches : ByteArray := prog_14_method_69_code
def yX21_layBranches : MethodName := ⟨RX21, "layBranches", "(LRegexloomModel$Node;)V"⟩
abbrev cX21_lay : ByteArray := prog_14_method_70_code
def yX21_lay : MethodName := ⟨RX21, "lay", "(LRegexloomModel$Node;)V"⟩
abbrev cX21_inAndPast : ByteArray := prog_14_method_71_code
def yX21_inAndPast : MethodName := ⟨RX21, "inAndPast", "(LRegexloomModel$Node;II)[I"⟩
abbrev cX21_layCount : ByteArray := prog_14_method_72_code
def yX21_layCount : MethodName := ⟨RX21, "layCount", "(LRegexloomModel$Node;)V"⟩
abbrev cX21_layEmpty : ByteArray := prog_14_method_73_code
def yX21_layEmpty : MethodName := ⟨RX21, "layEmpty", "(LRegexloomModel$Node;)V"⟩
abbrev cX21_stepsOf : ByteArray := prog_14_method_74_code
def yX21_stepsOf : MethodName := ⟨RX21, "stepsOf", "(LRegexloomModel$Pattern;)Ljava/util/ArrayList;"⟩
abbrev cX21_state : ByteArray := prog_14_method_75_code
def yX21_state : MethodName := ⟨RX21, "state", "(IIJ)J"⟩
abbrev cX21_stepIn : ByteArray := prog_14_method_76_code
def yX21_stepIn : MethodName := ⟨RX21, "stepIn", "(J)I"⟩
abbrev cX21_placeIn : ByteArray := prog_14_method_77_code
def yX21_placeIn : MethodName := ⟨RX21, "placeIn", "(J)I"⟩
abbrev cX21_marksIn : ByteArray := prog_14_method_78_code
def yX21_marksIn : MethodName := ⟨RX21, "marksIn", "(J)J"⟩
abbrev cX21_lead : ByteArray := prog_14_method_79_code
def yX21_lead : MethodName := ⟨RX21, "lead", "(Ljava/util/ArrayList;JZ)I"⟩
abbrev cX21_forget : ByteArray := prog_14_method_80_code
def yX21_forget : MethodName := ⟨RX21, "forget", "()V"⟩
abbrev cX21_placeOf : ByteArray := prog_14_method_81_code
def yX21_placeOf : MethodName := ⟨RX21, "placeOf", "(J)I"⟩
abbrev cX21_see : ByteArray := prog_14_method_82_code
def yX21_see : MethodName := ⟨RX21, "see", "(J)Z"⟩
abbrev cX21_leave_ : ByteArray := prog_14_method_83_code
def yX21_leave_ : MethodName := ⟨RX21, "leave", "(JI)V"⟩
abbrev cX21_matchBySets : ByteArray := prog_14_method_84_code
def yX21_matchBySets : MethodName := ⟨RX21, "matchBySets", "(II)I"⟩
abbrev cX21_save : ByteArray := prog_14_method_85_code
def yX21_save : MethodName := ⟨RX21, "save", "(II)V"⟩
abbrev cX21_reach : ByteArray := prog_14_method_86_code
def yX21_reach : MethodName := ⟨RX21, "reach", "(Ljava/util/ArrayList;IZ)V"⟩
abbrev cX21_notRegular : ByteArray := prog_14_method_87_code
def yX21_notRegular : MethodName := ⟨RX21, "notRegular", "(II)I"⟩
abbrev cX21_longest : ByteArray := prog_14_method_88_code
def yX21_longest : MethodName := ⟨RX21, "longest", "(II)I"⟩
abbrev cX21_canStill : ByteArray := prog_14_method_89_code
def yX21_canStill : MethodName := ⟨RX21, "canStill", "(II)Z"⟩
abbrev cX21_waysFrom : ByteArray := prog_14_method_90_code
def yX21_waysFrom : MethodName := ⟨RX21, "waysFrom", "(Ljava/util/ArrayList;JI)I"⟩
abbrev cX21_ways : ByteArray := prog_14_method_91_code
def yX21_ways : MethodName := ⟨RX21, "ways", "(III)I"⟩
def RJx145de : String := "java/io/Serializable"
def TJx145de : u_T := fun k => match k with
  | _ => ("", "", "", false)
def tyJx145de : Nat → FieldType := fun k => match k with
  | _ => .int
abbrev wsJx145de0 : List Cond := u_ws RJx145de TJx145de 0
theorem nmJx145de : ∀ a, a < 0 → ∀ b, b < 0 → a ≠ b → (TJx145de a).2.1 ≠ (TJx145de b).2.1 := by decide +kernel
theorem tyJx145de_ok : ∀ k, k < 0 → parseFieldDescriptor (TJx145de k).2.2.1 = some (tyJx145de k) := by decide +kernel
def RJx9f9b0 : String := "java/lang/CharSequence"
def TJx9f9b0 : u_T := fun k => match k with
  | _ => ("", "", "", false)
def tyJx9f9b0 : Nat → FieldType := fun k => match k with
  | _ => .int
abbrev wsJx9f9b00 : List Cond := u_ws RJx9f9b0 TJx9f9b0 0
theorem nmJx9f9b0 : ∀ a, a < 0 → ∀ b, b < 0 → a ≠ b → (TJx9f9b0 a).2.1 ≠ (TJx9f9b0 b).2.1 := by decide +kernel
theorem tyJx9f9b0_ok : ∀ k, k < 0 → parseFieldDescriptor (TJx9f9b0 k).2.2.1 = some (tyJx9f9b0 k) := by decide +kernel
def RJ11 : String := "java/lang/Character"
def TJ11 : u_T := fun k => match k with
  | _ => ("", "", "", false)
def tyJ11 : Nat → FieldType := fun k => match k with
  | _ => .int
abbrev wsJ110 : List Cond := u_ws RJ11 TJ11 0
theorem nmJ11 : ∀ a, a < 0 → ∀ b, b < 0 → a ≠ b → (TJ11 a).2.1 ≠ (TJ11 b).2.1 := by decide +kernel
theorem tyJ11_ok : ∀ k, k < 0 → parseFieldDescriptor (TJ11 k).2.2.1 = some (tyJ11 k) := by decide +kernel
abbrev cJ11_isValidCodePoint_9a6ad : ByteArray := prog_26_method_11_code
def yJ11_isValidCodePoint_9a6ad : MethodName := ⟨RJ11, "isValidCodePoint", "(I)Z"⟩
abbrev cJ11_highSurrogate_5068e : ByteArray := prog_26_method_28_code
def yJ11_highSurrogate_5068e : MethodName := ⟨RJ11, "highSurrogate", "(I)C"⟩
abbrev cJ11_lowSurrogate_5068e : ByteArray := prog_26_method_29_code
def yJ11_lowSurrogate_5068e : MethodName := ⟨RJ11, "lowSurrogate", "(I)C"⟩
def RJx8e188 : String := "java/lang/Cloneable"
def TJx8e188 : u_T := fun k => match k with
  | _ => ("", "", "", false)
def tyJx8e188 : Nat → FieldType := fun k => match k with
  | _ => .int
abbrev wsJx8e1880 : List Cond := u_ws RJx8e188 TJx8e188 0
theorem nmJx8e188 : ∀ a, a < 0 → ∀ b, b < 0 → a ≠ b → (TJx8e188 a).2.1 ≠ (TJx8e188 b).2.1 := by decide +kernel
theorem tyJx8e188_ok : ∀ k, k < 0 → parseFieldDescriptor (TJx8e188 k).2.2.1 = some (tyJx8e188 k) := by decide +kernel
def RJxb160c : String := "java/lang/Comparable"
def TJxb160c : u_T := fun k => match k with
  | _ => ("", "", "", false)
def tyJxb160c : Nat → FieldType := fun k => match k with
  | _ => .int
abbrev wsJxb160c0 : List Cond := u_ws RJxb160c TJxb160c 0
theorem nmJxb160c : ∀ a, a < 0 → ∀ b, b < 0 → a ≠ b → (TJxb160c a).2.1 ≠ (TJxb160c b).2.1 := by decide +kernel
theorem tyJxb160c_ok : ∀ k, k < 0 → parseFieldDescriptor (TJxb160c k).2.2.1 = some (tyJxb160c k) := by decide +kernel
def RJxabbfe : String := "java/lang/Integer$IntegerCache"
def TJxabbfe : u_T := fun k => match k with
  | _ => ("", "", "", false)
def tyJxabbfe : Nat → FieldType := fun k => match k with
  | _ => .int
abbrev wsJxabbfe0 : List Cond := u_ws RJxabbfe TJxabbfe 0
theorem nmJxabbfe : ∀ a, a < 0 → ∀ b, b < 0 → a ≠ b → (TJxabbfe a).2.1 ≠ (TJxabbfe b).2.1 := by decide +kernel
theorem tyJxabbfe_ok : ∀ k, k < 0 → parseFieldDescriptor (TJxabbfe k).2.2.1 = some (tyJxabbfe k) := by decide +kernel
def RJ6 : String := "java/lang/Integer"
def TJ6 : u_T := fun k => match k with
  | _ => ("java/lang/Integer", "value", "I", true)
def tyJ6 : Nat → FieldType := fun k => match k with
  | _ => .int
abbrev wsJ60 : List Cond := u_ws RJ6 TJ6 1
theorem nmJ6 : ∀ a, a < 1 → ∀ b, b < 1 → a ≠ b → (TJ6 a).2.1 ≠ (TJ6 b).2.1 := by decide +kernel
theorem tyJ6_ok : ∀ k, k < 1 → parseFieldDescriptor (TJ6 k).2.2.1 = some (tyJ6 k) := by decide +kernel
abbrev cJ6_valueOf_2dffe : ByteArray := prog_33_method_22_code
def yJ6_valueOf_2dffe : MethodName := ⟨RJ6, "valueOf", "(I)Ljava/lang/Integer;"⟩
abbrev cJ6_init_d00df : ByteArray := prog_33_method_23_code
def yJ6_init_d00df : MethodName := ⟨RJ6, "<init>", "(I)V"⟩
abbrev cJ6_intValue_8abf5 : ByteArray := prog_33_method_27_code
def yJ6_intValue_8abf5 : MethodName := ⟨RJ6, "intValue", "()I"⟩
def RJxab1ab : String := "java/lang/Iterable"
def TJxab1ab : u_T := fun k => match k with
  | _ => ("", "", "", false)
def tyJxab1ab : Nat → FieldType := fun k => match k with
  | _ => .int
abbrev wsJxab1ab0 : List Cond := u_ws RJxab1ab TJxab1ab 0
theorem nmJxab1ab : ∀ a, a < 0 → ∀ b, b < 0 → a ≠ b → (TJxab1ab a).2.1 ≠ (TJxab1ab b).2.1 := by decide +kernel
theorem tyJxab1ab_ok : ∀ k, k < 0 → parseFieldDescriptor (TJxab1ab k).2.2.1 = some (tyJxab1ab k) := by decide +kernel
def RJ9 : String := "java/lang/Math"
def TJ9 : u_T := fun k => match k with
  | _ => ("", "", "", false)
def tyJ9 : Nat → FieldType := fun k => match k with
  | _ => .int
abbrev wsJ90 : List Cond := u_ws RJ9 TJ9 0
theorem nmJ9 : ∀ a, a < 0 → ∀ b, b < 0 → a ≠ b → (TJ9 a).2.1 ≠ (TJ9 b).2.1 := by decide +kernel
theorem tyJ9_ok : ∀ k, k < 0 → parseFieldDescriptor (TJ9 k).2.2.1 = some (tyJ9 k) := by decide +kernel
abbrev cJ9_max_7cf53 : ByteArray := prog_36_method_65_code
def yJ9_max_7cf53 : MethodName := ⟨RJ9, "max", "(II)I"⟩
abbrev cJ9_min_7cf53 : ByteArray := prog_36_method_69_code
def yJ9_min_7cf53 : MethodName := ⟨RJ9, "min", "(II)I"⟩
def RJxd2413 : String := "java/lang/Number"
def TJxd2413 : u_T := fun k => match k with
  | _ => ("", "", "", false)
def tyJxd2413 : Nat → FieldType := fun k => match k with
  | _ => .int
abbrev wsJxd24130 : List Cond := u_ws RJxd2413 TJxd2413 0
theorem nmJxd2413 : ∀ a, a < 0 → ∀ b, b < 0 → a ≠ b → (TJxd2413 a).2.1 ≠ (TJxd2413 b).2.1 := by decide +kernel
theorem tyJxd2413_ok : ∀ k, k < 0 → parseFieldDescriptor (TJxd2413 k).2.2.1 = some (tyJxd2413 k) := by decide +kernel
abbrev cJxd2413_init_da8c8 : ByteArray := prog_37_method_1_code
def yJxd2413_init_da8c8 : MethodName := ⟨RJxd2413, "<init>", "()V"⟩
def RJ0 : String := "java/lang/String"
def TJ0 : u_T := fun k => match k with
  | _ => ("", "", "", false)
def tyJ0 : Nat → FieldType := fun k => match k with
  | _ => .int
abbrev wsJ00 : List Cond := u_ws RJ0 TJ0 0
theorem nmJ0 : ∀ a, a < 0 → ∀ b, b < 0 → a ≠ b → (TJ0 a).2.1 ≠ (TJ0 b).2.1 := by decide +kernel
theorem tyJ0_ok : ∀ k, k < 0 → parseFieldDescriptor (TJ0 k).2.2.1 = some (tyJ0 k) := by decide +kernel
abbrev cJ0_length_8abf5 : ByteArray := prog_39_method_54_code
def yJ0_length_8abf5 : MethodName := ⟨RJ0, "length", "()I"⟩
abbrev cJ0_indexOf_0f7a4 : ByteArray := prog_39_method_79_code
def yJ0_indexOf_0f7a4 : MethodName := ⟨RJ0, "indexOf", "(I)I"⟩
abbrev cJ0_indexOf_7cf53 : ByteArray := prog_39_method_80_code
def yJ0_indexOf_7cf53 : MethodName := ⟨RJ0, "indexOf", "(II)I"⟩
abbrev cJ0_coder_7d493 : ByteArray := prog_39_method_152_code
def yJ0_coder_7d493 : MethodName := ⟨RJ0, "coder", "()B"⟩
abbrev cJ0_isLatin1_aae02 : ByteArray := prog_39_method_154_code
def yJ0_isLatin1_aae02 : MethodName := ⟨RJ0, "isLatin1", "()Z"⟩
abbrev cJ0_checkBoundsBeginEnd_23922 : ByteArray := prog_39_method_158_code
def yJ0_checkBoundsBeginEnd_23922 : MethodName := ⟨RJ0, "checkBoundsBeginEnd", "(III)V"⟩
def RJ1 : String := "java/lang/StringLatin1"
def TJ1 : u_T := fun k => match k with
  | _ => ("", "", "", false)
def tyJ1 : Nat → FieldType := fun k => match k with
  | _ => .int
abbrev wsJ10 : List Cond := u_ws RJ1 TJ1 0
theorem nmJ1 : ∀ a, a < 0 → ∀ b, b < 0 → a ≠ b → (TJ1 a).2.1 ≠ (TJ1 b).2.1 := by decide +kernel
theorem tyJ1_ok : ∀ k, k < 0 → parseFieldDescriptor (TJ1 k).2.2.1 = some (tyJ1 k) := by decide +kernel
abbrev cJ1_canEncode_9a6ad : ByteArray := prog_40_method_4_code
def yJ1_canEncode_9a6ad : MethodName := ⟨RJ1, "canEncode", "(I)Z"⟩
abbrev cJ1_indexOf_4cfef : ByteArray := prog_40_method_22_code
def yJ1_indexOf_4cfef : MethodName := ⟨RJ1, "indexOf", "([BIII)I"⟩
abbrev cJ1_indexOfChar_4cfef : ByteArray := prog_40_method_23_code
def yJ1_indexOfChar_4cfef : MethodName := ⟨RJ1, "indexOfChar", "([BIII)I"⟩
def RJ2 : String := "java/lang/StringUTF16"
def TJ2 : u_T := fun k => match k with
  | _ => ("", "", "", false)
def tyJ2 : Nat → FieldType := fun k => match k with
  | _ => .int
abbrev wsJ20 : List Cond := u_ws RJ2 TJ2 0
theorem nmJ2 : ∀ a, a < 0 → ∀ b, b < 0 → a ≠ b → (TJ2 a).2.1 ≠ (TJ2 b).2.1 := by decide +kernel
theorem tyJ2_ok : ∀ k, k < 0 → parseFieldDescriptor (TJ2 k).2.2.1 = some (tyJ2 k) := by decide +kernel
abbrev cJ2_getChar_3b067 : ByteArray := prog_41_method_5_code
def yJ2_getChar_3b067 : MethodName := ⟨RJ2, "getChar", "([BI)C"⟩
abbrev cJ2_length_9d52b : ByteArray := prog_41_method_6_code
def yJ2_length_9d52b : MethodName := ⟨RJ2, "length", "([B)I"⟩
abbrev cJ2_indexOf_4cfef : ByteArray := prog_41_method_40_code
def yJ2_indexOf_4cfef : MethodName := ⟨RJ2, "indexOf", "([BIII)I"⟩
abbrev cJ2_indexOfChar_4cfef : ByteArray := prog_41_method_47_code
def yJ2_indexOfChar_4cfef : MethodName := ⟨RJ2, "indexOfChar", "([BIII)I"⟩
abbrev cJ2_indexOfCharUnsafe_4cfef : ByteArray := prog_41_method_48_code
def yJ2_indexOfCharUnsafe_4cfef : MethodName := ⟨RJ2, "indexOfCharUnsafe", "([BIII)I"⟩
abbrev cJ2_indexOfSupplementary_4cfef : ByteArray := prog_41_method_49_code
def yJ2_indexOfSupplementary_4cfef : MethodName := ⟨RJ2, "indexOfSupplementary", "([BIII)I"⟩
abbrev cJ2_checkBoundsBeginEnd_d044e : ByteArray := prog_41_method_93_code
def yJ2_checkBoundsBeginEnd_d044e : MethodName := ⟨RJ2, "checkBoundsBeginEnd", "(II[B)V"⟩
def RJ10 : String := "java/lang/System"
def TJ10 : u_T := fun k => match k with
  | _ => ("", "", "", false)
def tyJ10 : Nat → FieldType := fun k => match k with
  | _ => .int
abbrev wsJ100 : List Cond := u_ws RJ10 TJ10 0
theorem nmJ10 : ∀ a, a < 0 → ∀ b, b < 0 → a ≠ b → (TJ10 a).2.1 ≠ (TJ10 b).2.1 := by decide +kernel
theorem tyJ10_ok : ∀ k, k < 0 → parseFieldDescriptor (TJ10 k).2.2.1 = some (tyJ10 k) := by decide +kernel
def RJxfd54e : String := "java/lang/constant/Constable"
def TJxfd54e : u_T := fun k => match k with
  | _ => ("", "", "", false)
def tyJxfd54e : Nat → FieldType := fun k => match k with
  | _ => .int
abbrev wsJxfd54e0 : List Cond := u_ws RJxfd54e TJxfd54e 0
theorem nmJxfd54e : ∀ a, a < 0 → ∀ b, b < 0 → a ≠ b → (TJxfd54e a).2.1 ≠ (TJxfd54e b).2.1 := by decide +kernel
theorem tyJxfd54e_ok : ∀ k, k < 0 → parseFieldDescriptor (TJxfd54e k).2.2.1 = some (tyJxfd54e k) := by decide +kernel
def RJx3cf43 : String := "java/lang/constant/ConstantDesc"
def TJx3cf43 : u_T := fun k => match k with
  | _ => ("", "", "", false)
def tyJx3cf43 : Nat → FieldType := fun k => match k with
  | _ => .int
abbrev wsJx3cf430 : List Cond := u_ws RJx3cf43 TJx3cf43 0
theorem nmJx3cf43 : ∀ a, a < 0 → ∀ b, b < 0 → a ≠ b → (TJx3cf43 a).2.1 ≠ (TJx3cf43 b).2.1 := by decide +kernel
theorem tyJx3cf43_ok : ∀ k, k < 0 → parseFieldDescriptor (TJx3cf43 k).2.2.1 = some (tyJx3cf43 k) := by decide +kernel
def RJxa1e45 : String := "java/util/AbstractCollection"
def TJxa1e45 : u_T := fun k => match k with
  | _ => ("", "", "", false)
def tyJxa1e45 : Nat → FieldType := fun k => match k with
  | _ => .int
abbrev wsJxa1e450 : List Cond := u_ws RJxa1e45 TJxa1e45 0
theorem nmJxa1e45 : ∀ a, a < 0 → ∀ b, b < 0 → a ≠ b → (TJxa1e45 a).2.1 ≠ (TJxa1e45 b).2.1 := by decide +kernel
theorem tyJxa1e45_ok : ∀ k, k < 0 → parseFieldDescriptor (TJxa1e45 k).2.2.1 = some (tyJxa1e45 k) := by decide +kernel
abbrev cJxa1e45_init_da8c8 : ByteArray := prog_46_method_1_code
def yJxa1e45_init_da8c8 : MethodName := ⟨RJxa1e45, "<init>", "()V"⟩
def RJxc12de : String := "java/util/AbstractList"
def TJxc12de : u_T := fun k => match k with
  | _ => ("", "", "", false)
def tyJxc12de : Nat → FieldType := fun k => match k with
  | _ => .int
abbrev wsJxc12de0 : List Cond := u_ws RJxc12de TJxc12de 0
theorem nmJxc12de : ∀ a, a < 0 → ∀ b, b < 0 → a ≠ b → (TJxc12de a).2.1 ≠ (TJxc12de b).2.1 := by decide +kernel
theorem tyJxc12de_ok : ∀ k, k < 0 → parseFieldDescriptor (TJxc12de k).2.2.1 = some (tyJxc12de k) := by decide +kernel
abbrev cJxc12de_init_da8c8 : ByteArray := prog_47_method_1_code
def yJxc12de_init_da8c8 : MethodName := ⟨RJxc12de, "<init>", "()V"⟩
def RJx35411 : String := "java/util/ArrayList$Itr"
def TJx35411 : u_T := fun k => match k with
  | 0 => ("java/util/ArrayList$Itr", "cursor", "I", false)
  | 1 => ("java/util/ArrayList$Itr", "lastRet", "I", false)
  | 2 => ("java/util/ArrayList$Itr", "expectedModCount", "I", false)
  | _ => ("java/util/ArrayList$Itr", "this$0", "Ljava/util/ArrayList;", true)
def tyJx35411 : Nat → FieldType := fun k => match k with
  | 0 => .int
  | 1 => .int
  | 2 => .int
  | _ => .object "java/util/ArrayList"
abbrev wsJx354110 : List Cond := u_ws RJx35411 TJx35411 4
theorem nmJx35411 : ∀ a, a < 4 → ∀ b, b < 4 → a ≠ b → (TJx35411 a).2.1 ≠ (TJx35411 b).2.1 := by decide +kernel
theorem tyJx35411_ok : ∀ k, k < 4 → parseFieldDescriptor (TJx35411 k).2.2.1 = some (tyJx35411 k) := by decide +kernel
abbrev cJx35411_init_45d68 : ByteArray := prog_49_method_1_code
def yJx35411_init_45d68 : MethodName := ⟨RJx35411, "<init>", "(Ljava/util/ArrayList;)V"⟩
abbrev cJx35411_hasNext_aae02 : ByteArray := prog_49_method_2_code
def yJx35411_hasNext_aae02 : MethodName := ⟨RJx35411, "hasNext", "()Z"⟩
abbrev cJx35411_next_0502b : ByteArray := prog_49_method_3_code
def yJx35411_next_0502b : MethodName := ⟨RJx35411, "next", "()Ljava/lang/Object;"⟩
abbrev cJx35411_checkForComodification_da8c8 : ByteArray := prog_49_method_6_code
def yJx35411_checkForComodification_da8c8 : MethodName := ⟨RJx35411, "checkForComodification", "()V"⟩
def RJx4a65c : String := "java/util/ArrayList"
def TJx4a65c : u_T := fun k => match k with
  | 0 => ("java/util/AbstractList", "modCount", "I", false)
  | 1 => ("java/util/ArrayList", "elementData", "[Ljava/lang/Object;", false)
  | _ => ("java/util/ArrayList", "size", "I", false)
def tyJx4a65c : Nat → FieldType := fun k => match k with
  | 0 => .int
  | 1 => .array (.object "java/lang/Object")
  | _ => .int
abbrev wsJx4a65c0 : List Cond := u_ws RJx4a65c TJx4a65c 3
theorem nmJx4a65c : ∀ a, a < 3 → ∀ b, b < 3 → a ≠ b → (TJx4a65c a).2.1 ≠ (TJx4a65c b).2.1 := by decide +kernel
theorem tyJx4a65c_ok : ∀ k, k < 3 → parseFieldDescriptor (TJx4a65c k).2.2.1 = some (tyJx4a65c k) := by decide +kernel
abbrev cJx4a65c_init_da8c8 : ByteArray := prog_48_method_2_code
def yJx4a65c_init_da8c8 : MethodName := ⟨RJx4a65c, "<init>", "()V"⟩
abbrev cJx4a65c_init_4bcb3 : ByteArray := prog_48_method_3_code
def yJx4a65c_init_4bcb3 : MethodName := ⟨RJx4a65c, "<init>", "(Ljava/util/Collection;)V"⟩
abbrev cJx4a65c_grow_92f84 : ByteArray := prog_48_method_6_code
def yJx4a65c_grow_92f84 : MethodName := ⟨RJx4a65c, "grow", "(I)[Ljava/lang/Object;"⟩
abbrev cJx4a65c_grow_d5877 : ByteArray := prog_48_method_7_code
def yJx4a65c_grow_d5877 : MethodName := ⟨RJx4a65c, "grow", "()[Ljava/lang/Object;"⟩
abbrev cJx4a65c_size_8abf5 : ByteArray := prog_48_method_8_code
def yJx4a65c_size_8abf5 : MethodName := ⟨RJx4a65c, "size", "()I"⟩
abbrev cJx4a65c_isEmpty_aae02 : ByteArray := prog_48_method_9_code
def yJx4a65c_isEmpty_aae02 : MethodName := ⟨RJx4a65c, "isEmpty", "()Z"⟩
abbrev cJx4a65c_toArray_d5877 : ByteArray := prog_48_method_16_code
def yJx4a65c_toArray_d5877 : MethodName := ⟨RJx4a65c, "toArray", "()[Ljava/lang/Object;"⟩
abbrev cJx4a65c_elementData_915e3 : ByteArray := prog_48_method_18_code
def yJx4a65c_elementData_915e3 : MethodName := ⟨RJx4a65c, "elementData", "(I)Ljava/lang/Object;"⟩
abbrev cJx4a65c_get_915e3 : ByteArray := prog_48_method_20_code
def yJx4a65c_get_915e3 : MethodName := ⟨RJx4a65c, "get", "(I)Ljava/lang/Object;"⟩
abbrev cJx4a65c_add_72be8 : ByteArray := prog_48_method_24_code
def yJx4a65c_add_72be8 : MethodName := ⟨RJx4a65c, "add", "(Ljava/lang/Object;[Ljava/lang/Object;I)V"⟩
abbrev cJx4a65c_add_9ea2d : ByteArray := prog_48_method_25_code
def yJx4a65c_add_9ea2d : MethodName := ⟨RJx4a65c, "add", "(Ljava/lang/Object;)Z"⟩
abbrev cJx4a65c_remove_915e3 : ByteArray := prog_48_method_29_code
def yJx4a65c_remove_915e3 : MethodName := ⟨RJx4a65c, "remove", "(I)Ljava/lang/Object;"⟩
abbrev cJx4a65c_fastRemove_b59b0 : ByteArray := prog_48_method_39_code
def yJx4a65c_fastRemove_b59b0 : MethodName := ⟨RJx4a65c, "fastRemove", "([Ljava/lang/Object;I)V"⟩
abbrev cJx4a65c_clear_da8c8 : ByteArray := prog_48_method_40_code
def yJx4a65c_clear_da8c8 : MethodName := ⟨RJx4a65c, "clear", "()V"⟩
abbrev cJx4a65c_iterator_32c93 : ByteArray := prog_48_method_55_code
def yJx4a65c_iterator_32c93 : MethodName := ⟨RJx4a65c, "iterator", "()Ljava/util/Iterator;"⟩
def RJ7 : String := "java/util/Arrays"
def TJ7 : u_T := fun k => match k with
  | _ => ("", "", "", false)
def tyJ7 : Nat → FieldType := fun k => match k with
  | _ => .int
abbrev wsJ70 : List Cond := u_ws RJ7 TJ7 0
theorem nmJ7 : ∀ a, a < 0 → ∀ b, b < 0 → a ≠ b → (TJ7 a).2.1 ≠ (TJ7 b).2.1 := by decide +kernel
theorem tyJ7_ok : ∀ k, k < 0 → parseFieldDescriptor (TJ7 k).2.2.1 = some (tyJ7 k) := by decide +kernel
abbrev cJ7_fill_d0a16 : ByteArray := prog_50_method_101_code
def yJ7_fill_d0a16 : MethodName := ⟨RJ7, "fill", "([JJ)V"⟩
abbrev cJ7_fill_53178 : ByteArray := prog_50_method_103_code
def yJ7_fill_53178 : MethodName := ⟨RJ7, "fill", "([II)V"⟩
abbrev cJ7_copyOf_1904c : ByteArray := prog_50_method_119_code
def yJ7_copyOf_1904c : MethodName := ⟨RJ7, "copyOf", "([Ljava/lang/Object;I)[Ljava/lang/Object;"⟩
abbrev cJ7_copyOf_6403c : ByteArray := prog_50_method_120_code
def yJ7_copyOf_6403c : MethodName := ⟨RJ7, "copyOf", "([Ljava/lang/Object;ILjava/lang/Class;)[Ljava/lang/Object;"⟩
abbrev cJ7_copyOf_59c91 : ByteArray := prog_50_method_123_code
def yJ7_copyOf_59c91 : MethodName := ⟨RJ7, "copyOf", "([II)[I"⟩
abbrev cJ7_copyOf_c38d5 : ByteArray := prog_50_method_124_code
def yJ7_copyOf_c38d5 : MethodName := ⟨RJ7, "copyOf", "([JI)[J"⟩
def RJx5ef63 : String := "java/util/Collection"
def TJx5ef63 : u_T := fun k => match k with
  | _ => ("", "", "", false)
def tyJx5ef63 : Nat → FieldType := fun k => match k with
  | _ => .int
abbrev wsJx5ef630 : List Cond := u_ws RJx5ef63 TJx5ef63 0
theorem nmJx5ef63 : ∀ a, a < 0 → ∀ b, b < 0 → a ≠ b → (TJx5ef63 a).2.1 ≠ (TJx5ef63 b).2.1 := by decide +kernel
theorem tyJx5ef63_ok : ∀ k, k < 0 → parseFieldDescriptor (TJx5ef63 k).2.2.1 = some (tyJx5ef63 k) := by decide +kernel
def RJx4d0d8 : String := "java/util/Iterator"
def TJx4d0d8 : u_T := fun k => match k with
  | _ => ("", "", "", false)
def tyJx4d0d8 : Nat → FieldType := fun k => match k with
  | _ => .int
abbrev wsJx4d0d80 : List Cond := u_ws RJx4d0d8 TJx4d0d8 0
theorem nmJx4d0d8 : ∀ a, a < 0 → ∀ b, b < 0 → a ≠ b → (TJx4d0d8 a).2.1 ≠ (TJx4d0d8 b).2.1 := by decide +kernel
theorem tyJx4d0d8_ok : ∀ k, k < 0 → parseFieldDescriptor (TJx4d0d8 k).2.2.1 = some (tyJx4d0d8 k) := by decide +kernel
def RJxbd725 : String := "java/util/List"
def TJxbd725 : u_T := fun k => match k with
  | _ => ("", "", "", false)
def tyJxbd725 : Nat → FieldType := fun k => match k with
  | _ => .int
abbrev wsJxbd7250 : List Cond := u_ws RJxbd725 TJxbd725 0
theorem nmJxbd725 : ∀ a, a < 0 → ∀ b, b < 0 → a ≠ b → (TJxbd725 a).2.1 ≠ (TJxbd725 b).2.1 := by decide +kernel
theorem tyJxbd725_ok : ∀ k, k < 0 → parseFieldDescriptor (TJxbd725 k).2.2.1 = some (tyJxbd725 k) := by decide +kernel
def RJ15 : String := "java/util/Objects"
def TJ15 : u_T := fun k => match k with
  | _ => ("", "", "", false)
def tyJ15 : Nat → FieldType := fun k => match k with
  | _ => .int
abbrev wsJ150 : List Cond := u_ws RJ15 TJ15 0
theorem nmJ15 : ∀ a, a < 0 → ∀ b, b < 0 → a ≠ b → (TJ15 a).2.1 ≠ (TJ15 b).2.1 := by decide +kernel
theorem tyJ15_ok : ∀ k, k < 0 → parseFieldDescriptor (TJ15 k).2.2.1 = some (tyJ15 k) := by decide +kernel
abbrev cJ15_checkIndex_7cf53 : ByteArray := prog_54_method_17_code
def yJ15_checkIndex_7cf53 : MethodName := ⟨RJ15, "checkIndex", "(II)I"⟩
def RJxf0a74 : String := "java/util/RandomAccess"
def TJxf0a74 : u_T := fun k => match k with
  | _ => ("", "", "", false)
def tyJxf0a74 : Nat → FieldType := fun k => match k with
  | _ => .int
abbrev wsJxf0a740 : List Cond := u_ws RJxf0a74 TJxf0a74 0
theorem nmJxf0a74 : ∀ a, a < 0 → ∀ b, b < 0 → a ≠ b → (TJxf0a74 a).2.1 ≠ (TJxf0a74 b).2.1 := by decide +kernel
theorem tyJxf0a74_ok : ∀ k, k < 0 → parseFieldDescriptor (TJxf0a74 k).2.2.1 = some (tyJxf0a74 k) := by decide +kernel
def RJxa66e6 : String := "java/util/SequencedCollection"
def TJxa66e6 : u_T := fun k => match k with
  | _ => ("", "", "", false)
def tyJxa66e6 : Nat → FieldType := fun k => match k with
  | _ => .int
abbrev wsJxa66e60 : List Cond := u_ws RJxa66e6 TJxa66e6 0
theorem nmJxa66e6 : ∀ a, a < 0 → ∀ b, b < 0 → a ≠ b → (TJxa66e6 a).2.1 ≠ (TJxa66e6 b).2.1 := by decide +kernel
theorem tyJxa66e6_ok : ∀ k, k < 0 → parseFieldDescriptor (TJxa66e6 k).2.2.1 = some (tyJxa66e6 k) := by decide +kernel
def RJ8 : String := "jdk/internal/util/ArraysSupport"
def TJ8 : u_T := fun k => match k with
  | _ => ("", "", "", false)
def tyJ8 : Nat → FieldType := fun k => match k with
  | _ => .int
abbrev wsJ80 : List Cond := u_ws RJ8 TJ8 0
theorem nmJ8 : ∀ a, a < 0 → ∀ b, b < 0 → a ≠ b → (TJ8 a).2.1 ≠ (TJ8 b).2.1 := by decide +kernel
theorem tyJ8_ok : ∀ k, k < 0 → parseFieldDescriptor (TJ8 k).2.2.1 = some (tyJ8 k) := by decide +kernel
abbrev cJ8_newLength_cabcc : ByteArray := prog_57_method_27_code
def yJ8_newLength_cabcc : MethodName := ⟨RJ8, "newLength", "(III)I"⟩
abbrev cJ8_hugeLength_7cf53 : ByteArray := prog_57_method_28_code
def yJ8_hugeLength_7cf53 : MethodName := ⟨RJ8, "hugeLength", "(II)I"⟩
def RJ3 : String := "jdk/internal/util/Preconditions"
def TJ3 : u_T := fun k => match k with
  | _ => ("", "", "", false)
def tyJ3 : Nat → FieldType := fun k => match k with
  | _ => .int
abbrev wsJ30 : List Cond := u_ws RJ3 TJ3 0
theorem nmJ3 : ∀ a, a < 0 → ∀ b, b < 0 → a ≠ b → (TJ3 a).2.1 ≠ (TJ3 b).2.1 := by decide +kernel
theorem tyJ3_ok : ∀ k, k < 0 → parseFieldDescriptor (TJ3 k).2.2.1 = some (tyJ3 k) := by decide +kernel
abbrev cJ3_checkIndex_8e157 : ByteArray := prog_58_method_11_code
def yJ3_checkIndex_8e157 : MethodName := ⟨RJ3, "checkIndex", "(IILjava/util/function/BiFunction;)I"⟩
abbrev cJ3_checkFromToIndex_8c36e : ByteArray := prog_58_method_12_code
def yJ3_checkFromToIndex_8c36e : MethodName := ⟨RJ3, "checkFromToIndex", "(IIILjava/util/function/BiFunction;)I"⟩
def RL : String := "RegexloomLaw"
abbrev cL_sign : ByteArray := method_3_code
def yL_sign : MethodName := ⟨RL, "sign", "(LRegexloom;C[J)I"⟩
abbrev cL_tell : ByteArray := method_4_code
def yL_tell : MethodName := ⟨RL, "tell", "(LRegexloom;I[J)I"⟩
abbrev cL_lot : ByteArray := method_5_code
def yL_lot : MethodName := ⟨RL, "lot", "(LRegexloom;[J)I"⟩
abbrev cL_isPlain : ByteArray := method_6_code
def yL_isPlain : MethodName := ⟨RL, "isPlain", "(LRegexloom;I[J)I"⟩
abbrev cL_isRegular : ByteArray := method_7_code
def yL_isRegular : MethodName := ⟨RL, "isRegular", "(LRegexloom;I[J)I"⟩
abbrev cL_setBudget : ByteArray := method_8_code
def yL_setBudget : MethodName := ⟨RL, "setBudget", "(LRegexloom;I[J)I"⟩
abbrev cL_match : ByteArray := method_9_code
def yL_match : MethodName := ⟨RL, "match", "(LRegexloom;II[J)I"⟩
abbrev cL_find : ByteArray := method_10_code
def yL_find : MethodName := ⟨RL, "find", "(LRegexloom;II[J)I"⟩
abbrev cL_matchBySets : ByteArray := method_11_code
def yL_matchBySets : MethodName := ⟨RL, "matchBySets", "(LRegexloom;II[J)I"⟩
abbrev cL_group : ByteArray := method_12_code
def yL_group : MethodName := ⟨RL, "group", "(LRegexloom;IZ[J)I"⟩
abbrev cL_longest : ByteArray := method_13_code
def yL_longest : MethodName := ⟨RL, "longest", "(LRegexloom;II[J)I"⟩
abbrev cL_canStill : ByteArray := method_14_code
def yL_canStill : MethodName := ⟨RL, "canStill", "(LRegexloom;II[J)I"⟩
abbrev cL_which : ByteArray := method_15_code
def yL_which : MethodName := ⟨RL, "which", "(LRegexloom;I[J)I"⟩
abbrev cL_ways : ByteArray := method_16_code
def yL_ways : MethodName := ⟨RL, "ways", "(LRegexloom;III[J)I"⟩
abbrev cL_findAll : ByteArray := method_17_code
def yL_findAll : MethodName := ⟨RL, "findAll", "(LRegexloom;I[J)I"⟩
abbrev cL_found : ByteArray := method_18_code
def yL_found : MethodName := ⟨RL, "found", "(LRegexloom;IZ[J)I"⟩
abbrev cL_replace : ByteArray := method_19_code
def yL_replace : MethodName := ⟨RL, "replace", "(LRegexloom;I[J)I"⟩
abbrev cL_outSign : ByteArray := method_20_code
def yL_outSign : MethodName := ⟨RL, "outSign", "(LRegexloom;I[J)I"⟩
abbrev cL_law : ByteArray := code
def yL_law : MethodName := ⟨RL, "law", "([I)Z"⟩
theorem dX0_init_0 : decode cX0_init 0 = .ok (.aload_n 0, 1) := by decide +kernel
theorem dX0_init_1 : decode cX0_init 1 = .ok (.invokespecial 3, 3) := by decide +kernel
theorem dX0_init_4 : decode cX0_init 4 = .ok (.aload_n 0, 1) := by decide +kernel
theorem dX0_init_5 : decode cX0_init 5 = .ok (.new 9, 3) := by decide +kernel
theorem dX0_init_8 : decode cX0_init 8 = .ok (.dup, 1) := by decide +kernel
theorem dX0_init_9 : decode cX0_init 9 = .ok (.bipush 8, 2) := by decide +kernel
theorem dX0_init_11 : decode cX0_init 11 = .ok (.sipush 1024, 3) := by decide +kernel
theorem dX0_init_14 : decode cX0_init 14 = .ok (.invokespecial 11, 3) := by decide +kernel
theorem dX0_init_17 : decode cX0_init 17 = .ok (.putfield 14, 3) := by decide +kernel
theorem dX0_init_20 : decode cX0_init 20 = .ok (.aload_n 0, 1) := by decide +kernel
theorem dX0_init_21 : decode cX0_init 21 = .ok (.new 9, 3) := by decide +kernel
theorem dX0_init_24 : decode cX0_init 24 = .ok (.dup, 1) := by decide +kernel
theorem dX0_init_25 : decode cX0_init 25 = .ok (.bipush 7, 2) := by decide +kernel
theorem dX0_init_27 : decode cX0_init 27 = .ok (.sipush 8192, 3) := by decide +kernel
theorem dX0_init_30 : decode cX0_init 30 = .ok (.invokespecial 11, 3) := by decide +kernel
theorem dX0_init_33 : decode cX0_init 33 = .ok (.putfield 20, 3) := by decide +kernel
theorem dX0_init_36 : decode cX0_init 36 = .ok (.aload_n 0, 1) := by decide +kernel
theorem dX0_init_37 : decode cX0_init 37 = .ok (.new 9, 3) := by decide +kernel
theorem dX0_init_40 : decode cX0_init 40 = .ok (.dup, 1) := by decide +kernel
theorem dX0_init_41 : decode cX0_init 41 = .ok (.iconst 4, 1) := by decide +kernel
theorem dX0_init_42 : decode cX0_init 42 = .ok (.sipush 1024, 3) := by decide +kernel
theorem dX0_init_45 : decode cX0_init 45 = .ok (.invokespecial 11, 3) := by decide +kernel
theorem dX0_init_48 : decode cX0_init 48 = .ok (.putfield 23, 3) := by decide +kernel
theorem dX0_init_51 : decode cX0_init 51 = .ok (.return_, 1) := by decide +kernel
theorem dX1_init_0 : decode cX1_init 0 = .ok (.aload_n 0, 1) := by decide +kernel
theorem dX1_init_1 : decode cX1_init 1 = .ok (.invokespecial 3, 3) := by decide +kernel
theorem dX1_init_4 : decode cX1_init 4 = .ok (.aload_n 0, 1) := by decide +kernel
theorem dX1_init_5 : decode cX1_init 5 = .ok (.new 9, 3) := by decide +kernel
theorem dX1_init_8 : decode cX1_init 8 = .ok (.dup, 1) := by decide +kernel
theorem dX1_init_9 : decode cX1_init 9 = .ok (.iconst 2, 1) := by decide +kernel
theorem dX1_init_10 : decode cX1_init 10 = .ok (.ldc 13, 2) := by decide +kernel
theorem dX1_init_12 : decode cX1_init 12 = .ok (.invokespecial 14, 3) := by decide +kernel
theorem dX1_init_15 : decode cX1_init 15 = .ok (.putfield 17, 3) := by decide +kernel
theorem dX1_init_18 : decode cX1_init 18 = .ok (.aload_n 0, 1) := by decide +kernel
theorem dX1_init_19 : decode cX1_init 19 = .ok (.new 9, 3) := by decide +kernel
theorem dX1_init_22 : decode cX1_init 22 = .ok (.dup, 1) := by decide +kernel
theorem dX1_init_23 : decode cX1_init 23 = .ok (.iconst 3, 1) := by decide +kernel
theorem dX1_init_24 : decode cX1_init 24 = .ok (.ldc 13, 2) := by decide +kernel
theorem dX1_init_26 : decode cX1_init 26 = .ok (.invokespecial 14, 3) := by decide +kernel
theorem dX1_init_29 : decode cX1_init 29 = .ok (.putfield 23, 3) := by decide +kernel
theorem dX1_init_32 : decode cX1_init 32 = .ok (.aload_n 0, 1) := by decide +kernel
theorem dX1_init_33 : decode cX1_init 33 = .ok (.new 9, 3) := by decide +kernel
theorem dX1_init_36 : decode cX1_init 36 = .ok (.dup, 1) := by decide +kernel
theorem dX1_init_37 : decode cX1_init 37 = .ok (.iconst 1, 1) := by decide +kernel
theorem dX1_init_38 : decode cX1_init 38 = .ok (.sipush 4096, 3) := by decide +kernel
theorem dX1_init_41 : decode cX1_init 41 = .ok (.invokespecial 14, 3) := by decide +kernel
theorem dX1_init_44 : decode cX1_init 44 = .ok (.putfield 26, 3) := by decide +kernel
theorem dX1_init_47 : decode cX1_init 47 = .ok (.aload_n 0, 1) := by decide +kernel
theorem dX1_init_48 : decode cX1_init 48 = .ok (.new 9, 3) := by decide +kernel
theorem dX1_init_51 : decode cX1_init 51 = .ok (.dup, 1) := by decide +kernel
theorem dX1_init_52 : decode cX1_init 52 = .ok (.iconst 1, 1) := by decide +kernel
theorem dX1_init_53 : decode cX1_init 53 = .ok (.sipush 4096, 3) := by decide +kernel
theorem dX1_init_56 : decode cX1_init 56 = .ok (.invokespecial 14, 3) := by decide +kernel
theorem dX1_init_59 : decode cX1_init 59 = .ok (.putfield 29, 3) := by decide +kernel
theorem dX1_init_62 : decode cX1_init 62 = .ok (.return_, 1) := by decide +kernel
theorem dX2_init_0 : decode cX2_init 0 = .ok (.aload_n 0, 1) := by decide +kernel
theorem dX2_init_1 : decode cX2_init 1 = .ok (.invokespecial 3, 3) := by decide +kernel
theorem dX2_init_4 : decode cX2_init 4 = .ok (.aload_n 0, 1) := by decide +kernel
theorem dX2_init_5 : decode cX2_init 5 = .ok (.new 9, 3) := by decide +kernel
theorem dX2_init_8 : decode cX2_init 8 = .ok (.dup, 1) := by decide +kernel
theorem dX2_init_9 : decode cX2_init 9 = .ok (.iconst 1, 1) := by decide +kernel
theorem dX2_init_10 : decode cX2_init 10 = .ok (.bipush 100, 2) := by decide +kernel
theorem dX2_init_12 : decode cX2_init 12 = .ok (.invokespecial 11, 3) := by decide +kernel
theorem dX2_init_15 : decode cX2_init 15 = .ok (.putfield 14, 3) := by decide +kernel
theorem dX2_init_18 : decode cX2_init 18 = .ok (.return_, 1) := by decide +kernel
theorem dX2_size_0 : decode cX2_size 0 = .ok (.aload_n 0, 1) := by decide +kernel
theorem dX2_size_1 : decode cX2_size 1 = .ok (.getfield 14, 3) := by decide +kernel
theorem dX2_size_4 : decode cX2_size 4 = .ok (.invokevirtual 28, 3) := by decide +kernel
theorem dX2_size_7 : decode cX2_size 7 = .ok (.ireturn, 1) := by decide +kernel
theorem dX3_init_0 : decode cX3_init 0 = .ok (.aload_n 0, 1) := by decide +kernel
theorem dX3_init_1 : decode cX3_init 1 = .ok (.invokespecial 3, 3) := by decide +kernel
theorem dX3_init_4 : decode cX3_init 4 = .ok (.aload_n 0, 1) := by decide +kernel
theorem dX3_init_5 : decode cX3_init 5 = .ok (.new 9, 3) := by decide +kernel
theorem dX3_init_8 : decode cX3_init 8 = .ok (.dup, 1) := by decide +kernel
theorem dX3_init_9 : decode cX3_init 9 = .ok (.bipush 10, 2) := by decide +kernel
theorem dX3_init_11 : decode cX3_init 11 = .ok (.bipush 33, 2) := by decide +kernel
theorem dX3_init_13 : decode cX3_init 13 = .ok (.invokespecial 11, 3) := by decide +kernel
theorem dX3_init_16 : decode cX3_init 16 = .ok (.putfield 14, 3) := by decide +kernel
theorem dX3_init_19 : decode cX3_init 19 = .ok (.aload_n 0, 1) := by decide +kernel
theorem dX3_init_20 : decode cX3_init 20 = .ok (.new 9, 3) := by decide +kernel
theorem dX3_init_23 : decode cX3_init 23 = .ok (.dup, 1) := by decide +kernel
theorem dX3_init_24 : decode cX3_init 24 = .ok (.iconst 2, 1) := by decide +kernel
theorem dX3_init_25 : decode cX3_init 25 = .ok (.bipush 33, 2) := by decide +kernel
theorem dX3_init_27 : decode cX3_init 27 = .ok (.invokespecial 11, 3) := by decide +kernel
theorem dX3_init_30 : decode cX3_init 30 = .ok (.putfield 20, 3) := by decide +kernel
theorem dX3_init_33 : decode cX3_init 33 = .ok (.aload_n 0, 1) := by decide +kernel
theorem dX3_init_34 : decode cX3_init 34 = .ok (.new 9, 3) := by decide +kernel
theorem dX3_init_37 : decode cX3_init 37 = .ok (.dup, 1) := by decide +kernel
theorem dX3_init_38 : decode cX3_init 38 = .ok (.iconst 1, 1) := by decide +kernel
theorem dX3_init_39 : decode cX3_init 39 = .ok (.bipush 7, 2) := by decide +kernel
theorem dX3_init_41 : decode cX3_init 41 = .ok (.invokespecial 11, 3) := by decide +kernel
theorem dX3_init_44 : decode cX3_init 44 = .ok (.putfield 23, 3) := by decide +kernel
theorem dX3_init_47 : decode cX3_init 47 = .ok (.return_, 1) := by decide +kernel
theorem dX3_empty_0 : decode cX3_empty 0 = .ok (.aload_n 0, 1) := by decide +kernel
theorem dX3_empty_1 : decode cX3_empty 1 = .ok (.getfield 14, 3) := by decide +kernel
theorem dX3_empty_4 : decode cX3_empty 4 = .ok (.iconst 0, 1) := by decide +kernel
theorem dX3_empty_5 : decode cX3_empty 5 = .ok (.invokevirtual 26, 3) := by decide +kernel
theorem dX3_empty_8 : decode cX3_empty 8 = .ok (.aload_n 0, 1) := by decide +kernel
theorem dX3_empty_9 : decode cX3_empty 9 = .ok (.getfield 20, 3) := by decide +kernel
theorem dX3_empty_12 : decode cX3_empty 12 = .ok (.iconst 0, 1) := by decide +kernel
theorem dX3_empty_13 : decode cX3_empty 13 = .ok (.invokevirtual 26, 3) := by decide +kernel
theorem dX3_empty_16 : decode cX3_empty 16 = .ok (.aload_n 0, 1) := by decide +kernel
theorem dX3_empty_17 : decode cX3_empty 17 = .ok (.getfield 23, 3) := by decide +kernel
theorem dX3_empty_20 : decode cX3_empty 20 = .ok (.bipush 7, 2) := by decide +kernel
theorem dX3_empty_22 : decode cX3_empty 22 = .ok (.invokevirtual 30, 3) := by decide +kernel
theorem dX3_empty_25 : decode cX3_empty 25 = .ok (.iconst 0, 1) := by decide +kernel
theorem dX3_empty_26 : decode cX3_empty 26 = .ok (.istore_n 1, 1) := by decide +kernel
theorem dX3_empty_27 : decode cX3_empty 27 = .ok (.iload_n 1, 1) := by decide +kernel
theorem dX3_empty_28 : decode cX3_empty 28 = .ok (.bipush 6, 2) := by decide +kernel
theorem dX3_empty_30 : decode cX3_empty 30 = .ok (.if_icmp .gt 19, 3) := by decide +kernel
theorem dX3_empty_33 : decode cX3_empty 33 = .ok (.aload_n 0, 1) := by decide +kernel
theorem dX3_empty_34 : decode cX3_empty 34 = .ok (.getfield 23, 3) := by decide +kernel
theorem dX3_empty_37 : decode cX3_empty 37 = .ok (.iload_n 1, 1) := by decide +kernel
theorem dX3_empty_38 : decode cX3_empty 38 = .ok (.iconst 0, 1) := by decide +kernel
theorem dX3_empty_39 : decode cX3_empty 39 = .ok (.iconst (-1), 1) := by decide +kernel
theorem dX3_empty_40 : decode cX3_empty 40 = .ok (.invokevirtual 33, 3) := by decide +kernel
theorem dX3_empty_43 : decode cX3_empty 43 = .ok (.iinc 1 1, 3) := by decide +kernel
theorem dX3_empty_46 : decode cX3_empty 46 = .ok (.goto (-19), 3) := by decide +kernel
theorem dX3_empty_49 : decode cX3_empty 49 = .ok (.aload_n 0, 1) := by decide +kernel
theorem dX3_empty_50 : decode cX3_empty 50 = .ok (.iconst (-1), 1) := by decide +kernel
theorem dX3_empty_51 : decode cX3_empty 51 = .ok (.putfield 37, 3) := by decide +kernel
theorem dX3_empty_54 : decode cX3_empty 54 = .ok (.aload_n 0, 1) := by decide +kernel
theorem dX3_empty_55 : decode cX3_empty 55 = .ok (.iconst 0, 1) := by decide +kernel
theorem dX3_empty_56 : decode cX3_empty 56 = .ok (.putfield 41, 3) := by decide +kernel
theorem dX3_empty_59 : decode cX3_empty 59 = .ok (.aload_n 0, 1) := by decide +kernel
theorem dX3_empty_60 : decode cX3_empty 60 = .ok (.iconst 0, 1) := by decide +kernel
theorem dX3_empty_61 : decode cX3_empty 61 = .ok (.putfield 44, 3) := by decide +kernel
theorem dX3_empty_64 : decode cX3_empty 64 = .ok (.aload_n 0, 1) := by decide +kernel
theorem dX3_empty_65 : decode cX3_empty 65 = .ok (.iconst 0, 1) := by decide +kernel
theorem dX3_empty_66 : decode cX3_empty 66 = .ok (.putfield 48, 3) := by decide +kernel
theorem dX3_empty_69 : decode cX3_empty 69 = .ok (.aload_n 0, 1) := by decide +kernel
theorem dX3_empty_70 : decode cX3_empty 70 = .ok (.iconst 0, 1) := by decide +kernel
theorem dX3_empty_71 : decode cX3_empty 71 = .ok (.putfield 51, 3) := by decide +kernel
theorem dX3_empty_74 : decode cX3_empty 74 = .ok (.return_, 1) := by decide +kernel
theorem dX3_addBranch_0 : decode cX3_addBranch 0 = .ok (.aload_n 0, 1) := by decide +kernel
theorem dX3_addBranch_1 : decode cX3_addBranch 1 = .ok (.getfield 20, 3) := by decide +kernel
theorem dX3_addBranch_4 : decode cX3_addBranch 4 = .ok (.invokevirtual 58, 3) := by decide +kernel
theorem dX3_addBranch_7 : decode cX3_addBranch 7 = .ok (.istore_n 1, 1) := by decide +kernel
theorem dX3_addBranch_8 : decode cX3_addBranch 8 = .ok (.aload_n 0, 1) := by decide +kernel
theorem dX3_addBranch_9 : decode cX3_addBranch 9 = .ok (.getfield 20, 3) := by decide +kernel
theorem dX3_addBranch_12 : decode cX3_addBranch 12 = .ok (.iload_n 1, 1) := by decide +kernel
theorem dX3_addBranch_13 : decode cX3_addBranch 13 = .ok (.iconst 0, 1) := by decide +kernel
theorem dX3_addBranch_14 : decode cX3_addBranch 14 = .ok (.iconst (-1), 1) := by decide +kernel
theorem dX3_addBranch_15 : decode cX3_addBranch 15 = .ok (.invokevirtual 33, 3) := by decide +kernel
theorem dX3_addBranch_18 : decode cX3_addBranch 18 = .ok (.aload_n 0, 1) := by decide +kernel
theorem dX3_addBranch_19 : decode cX3_addBranch 19 = .ok (.getfield 20, 3) := by decide +kernel
theorem dX3_addBranch_22 : decode cX3_addBranch 22 = .ok (.iload_n 1, 1) := by decide +kernel
theorem dX3_addBranch_23 : decode cX3_addBranch 23 = .ok (.iconst 1, 1) := by decide +kernel
theorem dX3_addBranch_24 : decode cX3_addBranch 24 = .ok (.iconst (-1), 1) := by decide +kernel
theorem dX3_addBranch_25 : decode cX3_addBranch 25 = .ok (.invokevirtual 33, 3) := by decide +kernel
theorem dX3_addBranch_28 : decode cX3_addBranch 28 = .ok (.iload_n 1, 1) := by decide +kernel
theorem dX3_addBranch_29 : decode cX3_addBranch 29 = .ok (.ireturn, 1) := by decide +kernel
theorem dX3_firstPiece_0 : decode cX3_firstPiece 0 = .ok (.aload_n 0, 1) := by decide +kernel
theorem dX3_firstPiece_1 : decode cX3_firstPiece 1 = .ok (.getfield 20, 3) := by decide +kernel
theorem dX3_firstPiece_4 : decode cX3_firstPiece 4 = .ok (.iload_n 1, 1) := by decide +kernel
theorem dX3_firstPiece_5 : decode cX3_firstPiece 5 = .ok (.iconst 0, 1) := by decide +kernel
theorem dX3_firstPiece_6 : decode cX3_firstPiece 6 = .ok (.invokevirtual 54, 3) := by decide +kernel
theorem dX3_firstPiece_9 : decode cX3_firstPiece 9 = .ok (.ireturn, 1) := by decide +kernel
theorem dX3_nextBranch_0 : decode cX3_nextBranch 0 = .ok (.aload_n 0, 1) := by decide +kernel
theorem dX3_nextBranch_1 : decode cX3_nextBranch 1 = .ok (.getfield 20, 3) := by decide +kernel
theorem dX3_nextBranch_4 : decode cX3_nextBranch 4 = .ok (.iload_n 1, 1) := by decide +kernel
theorem dX3_nextBranch_5 : decode cX3_nextBranch 5 = .ok (.iconst 1, 1) := by decide +kernel
theorem dX3_nextBranch_6 : decode cX3_nextBranch 6 = .ok (.invokevirtual 54, 3) := by decide +kernel
theorem dX3_nextBranch_9 : decode cX3_nextBranch 9 = .ok (.ireturn, 1) := by decide +kernel
theorem dX4_init_0 : decode cX4_init 0 = .ok (.aload_n 0, 1) := by decide +kernel
theorem dX4_init_1 : decode cX4_init 1 = .ok (.invokespecial 3, 3) := by decide +kernel
theorem dX4_init_4 : decode cX4_init 4 = .ok (.aload_n 0, 1) := by decide +kernel
theorem dX4_init_5 : decode cX4_init 5 = .ok (.new 9, 3) := by decide +kernel
theorem dX4_init_8 : decode cX4_init 8 = .ok (.dup, 1) := by decide +kernel
theorem dX4_init_9 : decode cX4_init 9 = .ok (.bipush 7, 2) := by decide +kernel
theorem dX4_init_11 : decode cX4_init 11 = .ok (.sipush 4096, 3) := by decide +kernel
theorem dX4_init_14 : decode cX4_init 14 = .ok (.invokespecial 13, 3) := by decide +kernel
theorem dX4_init_17 : decode cX4_init 17 = .ok (.putfield 16, 3) := by decide +kernel
theorem dX4_init_20 : decode cX4_init 20 = .ok (.return_, 1) := by decide +kernel
theorem dX5_init_0 : decode cX5_init 0 = .ok (.aload_n 0, 1) := by decide +kernel
theorem dX5_init_1 : decode cX5_init 1 = .ok (.invokespecial 3, 3) := by decide +kernel
theorem dX5_init_4 : decode cX5_init 4 = .ok (.return_, 1) := by decide +kernel
theorem dX5_read_0 : decode cX5_read 0 = .ok (.aload_n 0, 1) := by decide +kernel
theorem dX5_read_1 : decode cX5_read 1 = .ok (.aload_n 1, 1) := by decide +kernel
theorem dX5_read_2 : decode cX5_read 2 = .ok (.putfield 9, 3) := by decide +kernel
theorem dX5_read_5 : decode cX5_read 5 = .ok (.aload_n 0, 1) := by decide +kernel
theorem dX5_read_6 : decode cX5_read 6 = .ok (.iload_n 2, 1) := by decide +kernel
theorem dX5_read_7 : decode cX5_read 7 = .ok (.putfield 15, 3) := by decide +kernel
theorem dX5_read_10 : decode cX5_read 10 = .ok (.aload_n 0, 1) := by decide +kernel
theorem dX5_read_11 : decode cX5_read 11 = .ok (.iconst 0, 1) := by decide +kernel
theorem dX5_read_12 : decode cX5_read 12 = .ok (.putfield 19, 3) := by decide +kernel
theorem dX5_read_15 : decode cX5_read 15 = .ok (.aload_n 0, 1) := by decide +kernel
theorem dX5_read_16 : decode cX5_read 16 = .ok (.iconst (-1), 1) := by decide +kernel
theorem dX5_read_17 : decode cX5_read 17 = .ok (.putfield 22, 3) := by decide +kernel
theorem dX5_read_20 : decode cX5_read 20 = .ok (.aload_n 0, 1) := by decide +kernel
theorem dX5_read_21 : decode cX5_read 21 = .ok (.aload_n 3, 1) := by decide +kernel
theorem dX5_read_22 : decode cX5_read 22 = .ok (.putfield 25, 3) := by decide +kernel
theorem dX5_read_25 : decode cX5_read 25 = .ok (.aload_n 0, 1) := by decide +kernel
theorem dX5_read_26 : decode cX5_read 26 = .ok (.iconst 0, 1) := by decide +kernel
theorem dX5_read_27 : decode cX5_read 27 = .ok (.putfield 29, 3) := by decide +kernel
theorem dX5_read_30 : decode cX5_read 30 = .ok (.aload_n 0, 1) := by decide +kernel
theorem dX5_read_31 : decode cX5_read 31 = .ok (.iconst 0, 1) := by decide +kernel
theorem dX5_read_32 : decode cX5_read 32 = .ok (.putfield 32, 3) := by decide +kernel
theorem dX5_read_35 : decode cX5_read 35 = .ok (.aload_n 0, 1) := by decide +kernel
theorem dX5_read_36 : decode cX5_read 36 = .ok (.getfield 25, 3) := by decide +kernel
theorem dX5_read_39 : decode cX5_read 39 = .ok (.invokevirtual 35, 3) := by decide +kernel
theorem dX5_read_42 : decode cX5_read 42 = .ok (.aload_n 0, 1) := by decide +kernel
theorem dX5_read_43 : decode cX5_read 43 = .ok (.getfield 25, 3) := by decide +kernel
theorem dX5_read_46 : decode cX5_read 46 = .ok (.aload_n 0, 1) := by decide +kernel
theorem dX5_read_47 : decode cX5_read 47 = .ok (.iconst 0, 1) := by decide +kernel
theorem dX5_read_48 : decode cX5_read 48 = .ok (.iconst 0, 1) := by decide +kernel
theorem dX5_read_49 : decode cX5_read 49 = .ok (.iconst 0, 1) := by decide +kernel
theorem dX5_read_50 : decode cX5_read 50 = .ok (.invokevirtual 40, 3) := by decide +kernel
theorem dX5_read_53 : decode cX5_read 53 = .ok (.putfield 44, 3) := by decide +kernel
theorem dX5_read_56 : decode cX5_read 56 = .ok (.aload_n 0, 1) := by decide +kernel
theorem dX5_read_57 : decode cX5_read 57 = .ok (.getfield 19, 3) := by decide +kernel
theorem dX5_read_60 : decode cX5_read 60 = .ok (.aload_n 0, 1) := by decide +kernel
theorem dX5_read_61 : decode cX5_read 61 = .ok (.getfield 15, 3) := by decide +kernel
theorem dX5_read_64 : decode cX5_read 64 = .ok (.if_icmp .ge 7, 3) := by decide +kernel
theorem dX5_read_71 : decode cX5_read 71 = .ok (.aload_n 0, 1) := by decide +kernel
theorem dX5_read_72 : decode cX5_read 72 = .ok (.getfield 22, 3) := by decide +kernel
theorem dX5_read_75 : decode cX5_read 75 = .ok (.iconst (-1), 1) := by decide +kernel
theorem dX5_read_76 : decode cX5_read 76 = .ok (.if_icmp .ne 24, 3) := by decide +kernel
theorem dX5_read_79 : decode cX5_read 79 = .ok (.aload_n 0, 1) := by decide +kernel
theorem dX5_read_80 : decode cX5_read 80 = .ok (.getfield 32, 3) := by decide +kernel
theorem dX5_read_83 : decode cX5_read 83 = .ok (.aload_n 0, 1) := by decide +kernel
theorem dX5_read_84 : decode cX5_read 84 = .ok (.getfield 29, 3) := by decide +kernel
theorem dX5_read_87 : decode cX5_read 87 = .ok (.if_icmp .le 13, 3) := by decide +kernel
theorem dX5_read_100 : decode cX5_read 100 = .ok (.aload_n 0, 1) := by decide +kernel
theorem dX5_read_101 : decode cX5_read 101 = .ok (.getfield 25, 3) := by decide +kernel
theorem dX5_read_104 : decode cX5_read 104 = .ok (.aload_n 0, 1) := by decide +kernel
theorem dX5_read_105 : decode cX5_read 105 = .ok (.getfield 29, 3) := by decide +kernel
theorem dX5_read_108 : decode cX5_read 108 = .ok (.putfield 50, 3) := by decide +kernel
theorem dX5_read_111 : decode cX5_read 111 = .ok (.aload_n 0, 1) := by decide +kernel
theorem dX5_read_112 : decode cX5_read 112 = .ok (.getfield 22, 3) := by decide +kernel
theorem dX5_read_115 : decode cX5_read 115 = .ok (.ireturn, 1) := by decide +kernel
theorem dX5_peek_0 : decode cX5_peek 0 = .ok (.aload_n 0, 1) := by decide +kernel
theorem dX5_peek_1 : decode cX5_peek 1 = .ok (.getfield 9, 3) := by decide +kernel
theorem dX5_peek_4 : decode cX5_peek 4 = .ok (.ifnull 45, 3) := by decide +kernel
theorem dX5_peek_7 : decode cX5_peek 7 = .ok (.aload_n 0, 1) := by decide +kernel
theorem dX5_peek_8 : decode cX5_peek 8 = .ok (.getfield 19, 3) := by decide +kernel
theorem dX5_peek_11 : decode cX5_peek 11 = .ok (.ifCond .lt 38, 3) := by decide +kernel
theorem dX5_peek_14 : decode cX5_peek 14 = .ok (.aload_n 0, 1) := by decide +kernel
theorem dX5_peek_15 : decode cX5_peek 15 = .ok (.getfield 19, 3) := by decide +kernel
theorem dX5_peek_18 : decode cX5_peek 18 = .ok (.aload_n 0, 1) := by decide +kernel
theorem dX5_peek_19 : decode cX5_peek 19 = .ok (.getfield 15, 3) := by decide +kernel
theorem dX5_peek_22 : decode cX5_peek 22 = .ok (.if_icmp .ge 27, 3) := by decide +kernel
theorem dX5_peek_49 : decode cX5_peek 49 = .ok (.iconst 0, 1) := by decide +kernel
theorem dX5_peek_50 : decode cX5_peek 50 = .ok (.ireturn, 1) := by decide +kernel
theorem dX5_readBranches_0 : decode cX5_readBranches 0 = .ok (.iload_n 3, 1) := by decide +kernel
theorem dX5_readBranches_1 : decode cX5_readBranches 1 = .ok (.bipush 40, 2) := by decide +kernel
theorem dX5_readBranches_3 : decode cX5_readBranches 3 = .ok (.if_icmp .le 9, 3) := by decide +kernel
theorem dX5_readBranches_12 : decode cX5_readBranches 12 = .ok (.aload_n 0, 1) := by decide +kernel
theorem dX5_readBranches_13 : decode cX5_readBranches 13 = .ok (.getfield 29, 3) := by decide +kernel
theorem dX5_readBranches_16 : decode cX5_readBranches 16 = .ok (.istore 4, 2) := by decide +kernel
theorem dX5_readBranches_18 : decode cX5_readBranches 18 = .ok (.aload_n 0, 1) := by decide +kernel
theorem dX5_readBranches_19 : decode cX5_readBranches 19 = .ok (.getfield 29, 3) := by decide +kernel
theorem dX5_readBranches_22 : decode cX5_readBranches 22 = .ok (.istore 5, 2) := by decide +kernel
theorem dX5_readBranches_24 : decode cX5_readBranches 24 = .ok (.aload_n 0, 1) := by decide +kernel
theorem dX5_readBranches_25 : decode cX5_readBranches 25 = .ok (.getfield 25, 3) := by decide +kernel
theorem dX5_readBranches_28 : decode cX5_readBranches 28 = .ok (.invokevirtual 57, 3) := by decide +kernel
theorem dX5_readBranches_31 : decode cX5_readBranches 31 = .ok (.istore 6, 2) := by decide +kernel
theorem dX5_readBranches_33 : decode cX5_readBranches 33 = .ok (.iload 6, 2) := by decide +kernel
theorem dX5_readBranches_35 : decode cX5_readBranches 35 = .ok (.istore 7, 2) := by decide +kernel
theorem dX5_readBranches_37 : decode cX5_readBranches 37 = .ok (.aload_n 0, 1) := by decide +kernel
theorem dX5_readBranches_38 : decode cX5_readBranches 38 = .ok (.iload 6, 2) := by decide +kernel
theorem dX5_readBranches_40 : decode cX5_readBranches 40 = .ok (.iload_n 2, 1) := by decide +kernel
theorem dX5_readBranches_41 : decode cX5_readBranches 41 = .ok (.iload_n 3, 1) := by decide +kernel
theorem dX5_readBranches_42 : decode cX5_readBranches 42 = .ok (.invokevirtual 61, 3) := by decide +kernel
theorem dX5_readBranches_45 : decode cX5_readBranches 45 = .ok (.iconst 1, 1) := by decide +kernel
theorem dX5_readBranches_46 : decode cX5_readBranches 46 = .ok (.istore 8, 2) := by decide +kernel
theorem dX5_readBranches_48 : decode cX5_readBranches 48 = .ok (.iload 8, 2) := by decide +kernel
theorem dX5_readBranches_50 : decode cX5_readBranches 50 = .ok (.bipush 32, 2) := by decide +kernel
theorem dX5_readBranches_52 : decode cX5_readBranches 52 = .ok (.if_icmp .gt 112, 3) := by decide +kernel
theorem dX5_readBranches_55 : decode cX5_readBranches 55 = .ok (.aload_n 0, 1) := by decide +kernel
theorem dX5_readBranches_56 : decode cX5_readBranches 56 = .ok (.getfield 22, 3) := by decide +kernel
theorem dX5_readBranches_59 : decode cX5_readBranches 59 = .ok (.iconst (-1), 1) := by decide +kernel
theorem dX5_readBranches_60 : decode cX5_readBranches 60 = .ok (.if_icmp .ne 104, 3) := by decide +kernel
theorem dX5_readBranches_63 : decode cX5_readBranches 63 = .ok (.aload_n 0, 1) := by decide +kernel
theorem dX5_readBranches_64 : decode cX5_readBranches 64 = .ok (.invokevirtual 53, 3) := by decide +kernel
theorem dX5_readBranches_67 : decode cX5_readBranches 67 = .ok (.bipush 124, 2) := by decide +kernel
theorem dX5_readBranches_69 : decode cX5_readBranches 69 = .ok (.if_icmp .ne 95, 3) := by decide +kernel
theorem dX5_readBranches_164 : decode cX5_readBranches 164 = .ok (.aload_n 0, 1) := by decide +kernel
theorem dX5_readBranches_165 : decode cX5_readBranches 165 = .ok (.iload 5, 2) := by decide +kernel
theorem dX5_readBranches_167 : decode cX5_readBranches 167 = .ok (.aload_n 0, 1) := by decide +kernel
theorem dX5_readBranches_168 : decode cX5_readBranches 168 = .ok (.getfield 29, 3) := by decide +kernel
theorem dX5_readBranches_171 : decode cX5_readBranches 171 = .ok (.invokestatic 65, 3) := by decide +kernel
theorem dX5_readBranches_174 : decode cX5_readBranches 174 = .ok (.putfield 29, 3) := by decide +kernel
theorem dX5_readBranches_177 : decode cX5_readBranches 177 = .ok (.iload 6, 2) := by decide +kernel
theorem dX5_readBranches_179 : decode cX5_readBranches 179 = .ok (.ireturn, 1) := by decide +kernel
theorem dX5_readRow_0 : decode cX5_readRow 0 = .ok (.iconst (-1), 1) := by decide +kernel
theorem dX5_readRow_1 : decode cX5_readRow 1 = .ok (.istore 4, 2) := by decide +kernel
theorem dX5_readRow_3 : decode cX5_readRow 3 = .ok (.iconst 0, 1) := by decide +kernel
theorem dX5_readRow_4 : decode cX5_readRow 4 = .ok (.istore 5, 2) := by decide +kernel
theorem dX5_readRow_6 : decode cX5_readRow 6 = .ok (.iload 5, 2) := by decide +kernel
theorem dX5_readRow_8 : decode cX5_readRow 8 = .ok (.bipush 32, 2) := by decide +kernel
theorem dX5_readRow_10 : decode cX5_readRow 10 = .ok (.if_icmp .ge 103, 3) := by decide +kernel
theorem dX5_readRow_13 : decode cX5_readRow 13 = .ok (.aload_n 0, 1) := by decide +kernel
theorem dX5_readRow_14 : decode cX5_readRow 14 = .ok (.getfield 22, 3) := by decide +kernel
theorem dX5_readRow_17 : decode cX5_readRow 17 = .ok (.iconst (-1), 1) := by decide +kernel
theorem dX5_readRow_18 : decode cX5_readRow 18 = .ok (.if_icmp .ne 95, 3) := by decide +kernel
theorem dX5_readRow_21 : decode cX5_readRow 21 = .ok (.aload_n 0, 1) := by decide +kernel
theorem dX5_readRow_22 : decode cX5_readRow 22 = .ok (.getfield 19, 3) := by decide +kernel
theorem dX5_readRow_25 : decode cX5_readRow 25 = .ok (.aload_n 0, 1) := by decide +kernel
theorem dX5_readRow_26 : decode cX5_readRow 26 = .ok (.getfield 15, 3) := by decide +kernel
theorem dX5_readRow_29 : decode cX5_readRow 29 = .ok (.if_icmp .ge 21, 3) := by decide +kernel
theorem dX5_readRow_50 : decode cX5_readRow 50 = .ok (.return_, 1) := by decide +kernel
theorem dX6_init_0 : decode cX6_init 0 = .ok (.aload_n 0, 1) := by decide +kernel
theorem dX6_init_1 : decode cX6_init 1 = .ok (.invokespecial 3, 3) := by decide +kernel
theorem dX6_init_4 : decode cX6_init 4 = .ok (.aload_n 0, 1) := by decide +kernel
theorem dX6_init_5 : decode cX6_init 5 = .ok (.new 9, 3) := by decide +kernel
theorem dX6_init_8 : decode cX6_init 8 = .ok (.dup, 1) := by decide +kernel
theorem dX6_init_9 : decode cX6_init 9 = .ok (.iconst 1, 1) := by decide +kernel
theorem dX6_init_10 : decode cX6_init 10 = .ok (.ldc 13, 2) := by decide +kernel
theorem dX6_init_12 : decode cX6_init 12 = .ok (.invokespecial 14, 3) := by decide +kernel
theorem dX6_init_15 : decode cX6_init 15 = .ok (.putfield 17, 3) := by decide +kernel
theorem dX6_init_18 : decode cX6_init 18 = .ok (.aload_n 0, 1) := by decide +kernel
theorem dX6_init_19 : decode cX6_init 19 = .ok (.new 9, 3) := by decide +kernel
theorem dX6_init_22 : decode cX6_init 22 = .ok (.dup, 1) := by decide +kernel
theorem dX6_init_23 : decode cX6_init 23 = .ok (.iconst 1, 1) := by decide +kernel
theorem dX6_init_24 : decode cX6_init 24 = .ok (.sipush 4096, 3) := by decide +kernel
theorem dX6_init_27 : decode cX6_init 27 = .ok (.invokespecial 14, 3) := by decide +kernel
theorem dX6_init_30 : decode cX6_init 30 = .ok (.putfield 23, 3) := by decide +kernel
theorem dX6_init_33 : decode cX6_init 33 = .ok (.aload_n 0, 1) := by decide +kernel
theorem dX6_init_34 : decode cX6_init 34 = .ok (.new 9, 3) := by decide +kernel
theorem dX6_init_37 : decode cX6_init 37 = .ok (.dup, 1) := by decide +kernel
theorem dX6_init_38 : decode cX6_init 38 = .ok (.iconst 3, 1) := by decide +kernel
theorem dX6_init_39 : decode cX6_init 39 = .ok (.ldc 13, 2) := by decide +kernel
theorem dX6_init_41 : decode cX6_init 41 = .ok (.invokespecial 14, 3) := by decide +kernel
theorem dX6_init_44 : decode cX6_init 44 = .ok (.putfield 26, 3) := by decide +kernel
theorem dX6_init_47 : decode cX6_init 47 = .ok (.aload_n 0, 1) := by decide +kernel
theorem dX6_init_48 : decode cX6_init 48 = .ok (.new 9, 3) := by decide +kernel
theorem dX6_init_51 : decode cX6_init 51 = .ok (.dup, 1) := by decide +kernel
theorem dX6_init_52 : decode cX6_init 52 = .ok (.iconst 1, 1) := by decide +kernel
theorem dX6_init_53 : decode cX6_init 53 = .ok (.bipush 15, 2) := by decide +kernel
theorem dX6_init_55 : decode cX6_init 55 = .ok (.invokespecial 14, 3) := by decide +kernel
theorem dX6_init_58 : decode cX6_init 58 = .ok (.putfield 29, 3) := by decide +kernel
theorem dX6_init_61 : decode cX6_init 61 = .ok (.aload_n 0, 1) := by decide +kernel
theorem dX6_init_62 : decode cX6_init 62 = .ok (.new 9, 3) := by decide +kernel
theorem dX6_init_65 : decode cX6_init 65 = .ok (.dup, 1) := by decide +kernel
theorem dX6_init_66 : decode cX6_init 66 = .ok (.iconst 1, 1) := by decide +kernel
theorem dX6_init_67 : decode cX6_init 67 = .ok (.bipush 15, 2) := by decide +kernel
theorem dX6_init_69 : decode cX6_init 69 = .ok (.invokespecial 14, 3) := by decide +kernel
theorem dX6_init_72 : decode cX6_init 72 = .ok (.putfield 32, 3) := by decide +kernel
theorem dX6_init_75 : decode cX6_init 75 = .ok (.aload_n 0, 1) := by decide +kernel
theorem dX6_init_76 : decode cX6_init 76 = .ok (.new 9, 3) := by decide +kernel
theorem dX6_init_79 : decode cX6_init 79 = .ok (.dup, 1) := by decide +kernel
theorem dX6_init_80 : decode cX6_init 80 = .ok (.iconst 1, 1) := by decide +kernel
theorem dX6_init_81 : decode cX6_init 81 = .ok (.sipush 4096, 3) := by decide +kernel
theorem dX6_init_84 : decode cX6_init 84 = .ok (.invokespecial 14, 3) := by decide +kernel
theorem dX6_init_87 : decode cX6_init 87 = .ok (.putfield 35, 3) := by decide +kernel
theorem dX6_init_90 : decode cX6_init 90 = .ok (.aload_n 0, 1) := by decide +kernel
theorem dX6_init_91 : decode cX6_init 91 = .ok (.new 9, 3) := by decide +kernel
theorem dX6_init_94 : decode cX6_init 94 = .ok (.dup, 1) := by decide +kernel
theorem dX6_init_95 : decode cX6_init 95 = .ok (.bipush 15, 2) := by decide +kernel
theorem dX6_init_97 : decode cX6_init 97 = .ok (.bipush 32, 2) := by decide +kernel
theorem dX6_init_99 : decode cX6_init 99 = .ok (.invokespecial 14, 3) := by decide +kernel
theorem dX6_init_102 : decode cX6_init 102 = .ok (.putfield 38, 3) := by decide +kernel
theorem dX6_init_105 : decode cX6_init 105 = .ok (.aload_n 0, 1) := by decide +kernel
theorem dX6_init_106 : decode cX6_init 106 = .ok (.new 9, 3) := by decide +kernel
theorem dX6_init_109 : decode cX6_init 109 = .ok (.dup, 1) := by decide +kernel
theorem dX6_init_110 : decode cX6_init 110 = .ok (.bipush 15, 2) := by decide +kernel
theorem dX6_init_112 : decode cX6_init 112 = .ok (.bipush 32, 2) := by decide +kernel
theorem dX6_init_114 : decode cX6_init 114 = .ok (.invokespecial 14, 3) := by decide +kernel
theorem dX6_init_117 : decode cX6_init 117 = .ok (.putfield 41, 3) := by decide +kernel
theorem dX6_init_120 : decode cX6_init 120 = .ok (.return_, 1) := by decide +kernel
theorem dX7_measure_0 : decode cX7_measure 0 = .ok (.aload_n 0, 1) := by decide +kernel
theorem dX7_measure_1 : decode cX7_measure 1 = .ok (.aload_n 0, 1) := by decide +kernel
theorem dX7_measure_2 : decode cX7_measure 2 = .ok (.getfield 9, 3) := by decide +kernel
theorem dX7_measure_5 : decode cX7_measure 5 = .ok (.iconst 0, 1) := by decide +kernel
theorem dX7_measure_6 : decode cX7_measure 6 = .ok (.invokestatic 15, 3) := by decide +kernel
theorem dX7_measure_9 : decode cX7_measure 9 = .ok (.bipush 24, 2) := by decide +kernel
theorem dX7_measure_11 : decode cX7_measure 11 = .ok (.if_icmp .gt 7, 3) := by decide +kernel
theorem dX7_measure_14 : decode cX7_measure 14 = .ok (.iconst 1, 1) := by decide +kernel
theorem dX7_measure_15 : decode cX7_measure 15 = .ok (.goto 4, 3) := by decide +kernel
theorem dX7_measure_19 : decode cX7_measure 19 = .ok (.istore_n 1, 1) := by decide +kernel
theorem dX7_measure_20 : decode cX7_measure 20 = .ok (.iconst 0, 1) := by decide +kernel
theorem dX7_measure_21 : decode cX7_measure 21 = .ok (.istore_n 2, 1) := by decide +kernel
theorem dX7_measure_22 : decode cX7_measure 22 = .ok (.iconst 0, 1) := by decide +kernel
theorem dX7_measure_23 : decode cX7_measure 23 = .ok (.istore_n 3, 1) := by decide +kernel
theorem dX7_measure_24 : decode cX7_measure 24 = .ok (.iload_n 3, 1) := by decide +kernel
theorem dX7_measure_25 : decode cX7_measure 25 = .ok (.aload_n 0, 1) := by decide +kernel
theorem dX7_measure_26 : decode cX7_measure 26 = .ok (.getfield 21, 3) := by decide +kernel
theorem dX7_measure_29 : decode cX7_measure 29 = .ok (.invokevirtual 25, 3) := by decide +kernel
theorem dX7_measure_32 : decode cX7_measure 32 = .ok (.if_icmp .ge 63, 3) := by decide +kernel
theorem dX7_measure_95 : decode cX7_measure 95 = .ok (.aload_n 0, 1) := by decide +kernel
theorem dX7_measure_96 : decode cX7_measure 96 = .ok (.iload_n 1, 1) := by decide +kernel
theorem dX7_measure_97 : decode cX7_measure 97 = .ok (.putfield 49, 3) := by decide +kernel
theorem dX7_measure_100 : decode cX7_measure 100 = .ok (.aload_n 0, 1) := by decide +kernel
theorem dX7_measure_101 : decode cX7_measure 101 = .ok (.iload_n 1, 1) := by decide +kernel
theorem dX7_measure_102 : decode cX7_measure 102 = .ok (.ifCond .eq 11, 3) := by decide +kernel
theorem dX7_measure_105 : decode cX7_measure 105 = .ok (.iload_n 2, 1) := by decide +kernel
theorem dX7_measure_106 : decode cX7_measure 106 = .ok (.ifCond .ne 7, 3) := by decide +kernel
theorem dX7_measure_109 : decode cX7_measure 109 = .ok (.iconst 1, 1) := by decide +kernel
theorem dX7_measure_110 : decode cX7_measure 110 = .ok (.goto 4, 3) := by decide +kernel
theorem dX7_measure_114 : decode cX7_measure 114 = .ok (.putfield 53, 3) := by decide +kernel
theorem dX7_measure_117 : decode cX7_measure 117 = .ok (.return_, 1) := by decide +kernel
theorem dX7_weightOfBody_0 : decode cX7_weightOfBody 0 = .ok (.iload_n 2, 1) := by decide +kernel
theorem dX7_weightOfBody_1 : decode cX7_weightOfBody 1 = .ok (.bipush 40, 2) := by decide +kernel
theorem dX7_weightOfBody_3 : decode cX7_weightOfBody 3 = .ok (.if_icmp .le 5, 3) := by decide +kernel
theorem dX7_weightOfBody_8 : decode cX7_weightOfBody 8 = .ok (.iconst 0, 1) := by decide +kernel
theorem dX7_weightOfBody_9 : decode cX7_weightOfBody 9 = .ok (.istore_n 3, 1) := by decide +kernel
theorem dX7_weightOfBody_10 : decode cX7_weightOfBody 10 = .ok (.iload_n 1, 1) := by decide +kernel
theorem dX7_weightOfBody_11 : decode cX7_weightOfBody 11 = .ok (.istore 4, 2) := by decide +kernel
theorem dX7_weightOfBody_13 : decode cX7_weightOfBody 13 = .ok (.iconst 0, 1) := by decide +kernel
theorem dX7_weightOfBody_14 : decode cX7_weightOfBody 14 = .ok (.istore 5, 2) := by decide +kernel
theorem dX7_weightOfBody_16 : decode cX7_weightOfBody 16 = .ok (.iload 5, 2) := by decide +kernel
theorem dX7_weightOfBody_18 : decode cX7_weightOfBody 18 = .ok (.bipush 32, 2) := by decide +kernel
theorem dX7_weightOfBody_20 : decode cX7_weightOfBody 20 = .ok (.if_icmp .gt 104, 3) := by decide +kernel
theorem dX7_weightOfBody_23 : decode cX7_weightOfBody 23 = .ok (.iload 4, 2) := by decide +kernel
theorem dX7_weightOfBody_25 : decode cX7_weightOfBody 25 = .ok (.iconst (-1), 1) := by decide +kernel
theorem dX7_weightOfBody_26 : decode cX7_weightOfBody 26 = .ok (.if_icmp .eq 98, 3) := by decide +kernel
theorem dX7_weightOfBody_29 : decode cX7_weightOfBody 29 = .ok (.aload_n 0, 1) := by decide +kernel
theorem dX7_weightOfBody_30 : decode cX7_weightOfBody 30 = .ok (.iload 4, 2) := by decide +kernel
theorem dX7_weightOfBody_32 : decode cX7_weightOfBody 32 = .ok (.invokevirtual 68, 3) := by decide +kernel
theorem dX7_weightOfBody_35 : decode cX7_weightOfBody 35 = .ok (.istore 6, 2) := by decide +kernel
theorem dX7_weightOfBody_37 : decode cX7_weightOfBody 37 = .ok (.iconst 0, 1) := by decide +kernel
theorem dX7_weightOfBody_38 : decode cX7_weightOfBody 38 = .ok (.istore 7, 2) := by decide +kernel
theorem dX7_weightOfBody_40 : decode cX7_weightOfBody 40 = .ok (.iload 7, 2) := by decide +kernel
theorem dX7_weightOfBody_42 : decode cX7_weightOfBody 42 = .ok (.bipush 32, 2) := by decide +kernel
theorem dX7_weightOfBody_44 : decode cX7_weightOfBody 44 = .ok (.if_icmp .gt 66, 3) := by decide +kernel
theorem dX7_weightOfBody_47 : decode cX7_weightOfBody 47 = .ok (.iload 6, 2) := by decide +kernel
theorem dX7_weightOfBody_49 : decode cX7_weightOfBody 49 = .ok (.iconst (-1), 1) := by decide +kernel
theorem dX7_weightOfBody_50 : decode cX7_weightOfBody 50 = .ok (.if_icmp .eq 60, 3) := by decide +kernel
theorem dX7_weightOfBody_110 : decode cX7_weightOfBody 110 = .ok (.aload_n 0, 1) := by decide +kernel
theorem dX7_weightOfBody_111 : decode cX7_weightOfBody 111 = .ok (.iload 4, 2) := by decide +kernel
theorem dX7_weightOfBody_113 : decode cX7_weightOfBody 113 = .ok (.invokevirtual 64, 3) := by decide +kernel
theorem dX7_weightOfBody_116 : decode cX7_weightOfBody 116 = .ok (.istore 4, 2) := by decide +kernel
theorem dX7_weightOfBody_118 : decode cX7_weightOfBody 118 = .ok (.iinc 5 1, 3) := by decide +kernel
theorem dX7_weightOfBody_121 : decode cX7_weightOfBody 121 = .ok (.goto (-105), 3) := by decide +kernel
theorem dX7_weightOfBody_124 : decode cX7_weightOfBody 124 = .ok (.iload_n 3, 1) := by decide +kernel
theorem dX7_weightOfBody_125 : decode cX7_weightOfBody 125 = .ok (.ireturn, 1) := by decide +kernel
theorem dX8_codeOf_0 : decode cX8_codeOf 0 = .ok (.iload_n 0, 1) := by decide +kernel
theorem dX8_codeOf_1 : decode cX8_codeOf 1 = .ok (.bipush 97, 2) := by decide +kernel
theorem dX8_codeOf_3 : decode cX8_codeOf 3 = .ok (.if_icmp .lt 14, 3) := by decide +kernel
theorem dX8_codeOf_6 : decode cX8_codeOf 6 = .ok (.iload_n 0, 1) := by decide +kernel
theorem dX8_codeOf_7 : decode cX8_codeOf 7 = .ok (.bipush 122, 2) := by decide +kernel
theorem dX8_codeOf_9 : decode cX8_codeOf 9 = .ok (.if_icmp .gt 8, 3) := by decide +kernel
theorem dX8_codeOf_12 : decode cX8_codeOf 12 = .ok (.iload_n 0, 1) := by decide +kernel
theorem dX8_codeOf_13 : decode cX8_codeOf 13 = .ok (.bipush 97, 2) := by decide +kernel
theorem dX8_codeOf_15 : decode cX8_codeOf 15 = .ok (.isub, 1) := by decide +kernel
theorem dX8_codeOf_16 : decode cX8_codeOf 16 = .ok (.ireturn, 1) := by decide +kernel
theorem dX8_codeOf_17 : decode cX8_codeOf 17 = .ok (.iload_n 0, 1) := by decide +kernel
theorem dX8_codeOf_18 : decode cX8_codeOf 18 = .ok (.bipush 65, 2) := by decide +kernel
theorem dX8_codeOf_20 : decode cX8_codeOf 20 = .ok (.if_icmp .lt 17, 3) := by decide +kernel
theorem dX8_codeOf_23 : decode cX8_codeOf 23 = .ok (.iload_n 0, 1) := by decide +kernel
theorem dX8_codeOf_24 : decode cX8_codeOf 24 = .ok (.bipush 90, 2) := by decide +kernel
theorem dX8_codeOf_26 : decode cX8_codeOf 26 = .ok (.if_icmp .gt 11, 3) := by decide +kernel
theorem dX8_codeOf_29 : decode cX8_codeOf 29 = .ok (.iload_n 0, 1) := by decide +kernel
theorem dX8_codeOf_30 : decode cX8_codeOf 30 = .ok (.bipush 65, 2) := by decide +kernel
theorem dX8_codeOf_32 : decode cX8_codeOf 32 = .ok (.isub, 1) := by decide +kernel
theorem dX8_codeOf_33 : decode cX8_codeOf 33 = .ok (.bipush 26, 2) := by decide +kernel
theorem dX8_codeOf_35 : decode cX8_codeOf 35 = .ok (.iadd, 1) := by decide +kernel
theorem dX8_codeOf_36 : decode cX8_codeOf 36 = .ok (.ireturn, 1) := by decide +kernel
theorem dX8_codeOf_37 : decode cX8_codeOf 37 = .ok (.iload_n 0, 1) := by decide +kernel
theorem dX8_codeOf_38 : decode cX8_codeOf 38 = .ok (.bipush 48, 2) := by decide +kernel
theorem dX8_codeOf_40 : decode cX8_codeOf 40 = .ok (.if_icmp .lt 17, 3) := by decide +kernel
theorem dX8_codeOf_43 : decode cX8_codeOf 43 = .ok (.iload_n 0, 1) := by decide +kernel
theorem dX8_codeOf_44 : decode cX8_codeOf 44 = .ok (.bipush 57, 2) := by decide +kernel
theorem dX8_codeOf_46 : decode cX8_codeOf 46 = .ok (.if_icmp .gt 11, 3) := by decide +kernel
theorem dX8_codeOf_49 : decode cX8_codeOf 49 = .ok (.iload_n 0, 1) := by decide +kernel
theorem dX8_codeOf_50 : decode cX8_codeOf 50 = .ok (.bipush 48, 2) := by decide +kernel
theorem dX8_codeOf_52 : decode cX8_codeOf 52 = .ok (.isub, 1) := by decide +kernel
theorem dX8_codeOf_53 : decode cX8_codeOf 53 = .ok (.bipush 52, 2) := by decide +kernel
theorem dX8_codeOf_55 : decode cX8_codeOf 55 = .ok (.iadd, 1) := by decide +kernel
theorem dX8_codeOf_56 : decode cX8_codeOf 56 = .ok (.ireturn, 1) := by decide +kernel
theorem dX8_codeOf_57 : decode cX8_codeOf 57 = .ok (.iload_n 0, 1) := by decide +kernel
theorem dX8_codeOf_58 : decode cX8_codeOf 58 = .ok (.bipush 95, 2) := by decide +kernel
theorem dX8_codeOf_60 : decode cX8_codeOf 60 = .ok (.if_icmp .ne 6, 3) := by decide +kernel
theorem dX8_codeOf_63 : decode cX8_codeOf 63 = .ok (.bipush 62, 2) := by decide +kernel
theorem dX8_codeOf_65 : decode cX8_codeOf 65 = .ok (.ireturn, 1) := by decide +kernel
theorem dX8_codeOf_66 : decode cX8_codeOf 66 = .ok (.iload_n 0, 1) := by decide +kernel
theorem dX8_codeOf_67 : decode cX8_codeOf 67 = .ok (.bipush 32, 2) := by decide +kernel
theorem dX8_codeOf_69 : decode cX8_codeOf 69 = .ok (.if_icmp .ne 8, 3) := by decide +kernel
theorem dX8_codeOf_72 : decode cX8_codeOf 72 = .ok (.bipush 63, 2) := by decide +kernel
theorem dX8_codeOf_74 : decode cX8_codeOf 74 = .ok (.goto 4, 3) := by decide +kernel
theorem dX8_codeOf_77 : decode cX8_codeOf 77 = .ok (.iconst (-1), 1) := by decide +kernel
theorem dX8_codeOf_78 : decode cX8_codeOf 78 = .ok (.ireturn, 1) := by decide +kernel
theorem dX8_isOfDraft_0 : decode cX8_isOfDraft 0 = .ok (.iload_n 0, 1) := by decide +kernel
theorem dX8_isOfDraft_1 : decode cX8_isOfDraft 1 = .ok (.invokestatic 11, 3) := by decide +kernel
theorem dX8_isOfDraft_4 : decode cX8_isOfDraft 4 = .ok (.iconst (-1), 1) := by decide +kernel
theorem dX8_isOfDraft_5 : decode cX8_isOfDraft 5 = .ok (.if_icmp .ne 12, 3) := by decide +kernel
theorem dX8_isOfDraft_8 : decode cX8_isOfDraft 8 = .ok (.ldc 15, 2) := by decide +kernel
theorem dX8_isOfDraft_10 : decode cX8_isOfDraft 10 = .ok (.iload_n 0, 1) := by decide +kernel
theorem dX8_isOfDraft_11 : decode cX8_isOfDraft 11 = .ok (.invokevirtual 17, 3) := by decide +kernel
theorem dX8_isOfDraft_14 : decode cX8_isOfDraft 14 = .ok (.ifCond .lt 7, 3) := by decide +kernel
theorem dX8_isOfDraft_17 : decode cX8_isOfDraft 17 = .ok (.iconst 1, 1) := by decide +kernel
theorem dX8_isOfDraft_18 : decode cX8_isOfDraft 18 = .ok (.goto 4, 3) := by decide +kernel
theorem dX8_isOfDraft_21 : decode cX8_isOfDraft 21 = .ok (.iconst 0, 1) := by decide +kernel
theorem dX8_isOfDraft_22 : decode cX8_isOfDraft 22 = .ok (.ireturn, 1) := by decide +kernel
theorem dX9_init_0 : decode cX9_init 0 = .ok (.aload_n 0, 1) := by decide +kernel
theorem dX9_init_1 : decode cX9_init 1 = .ok (.invokespecial 3, 3) := by decide +kernel
theorem dX9_init_4 : decode cX9_init 4 = .ok (.aload_n 0, 1) := by decide +kernel
theorem dX9_init_5 : decode cX9_init 5 = .ok (.iload_n 1, 1) := by decide +kernel
theorem dX9_init_6 : decode cX9_init 6 = .ok (.iconst 1, 1) := by decide +kernel
theorem dX9_init_7 : decode cX9_init 7 = .ok (.if_icmp .ge 7, 3) := by decide +kernel
theorem dX9_init_14 : decode cX9_init 14 = .ok (.iload_n 1, 1) := by decide +kernel
theorem dX9_init_15 : decode cX9_init 15 = .ok (.putfield 9, 3) := by decide +kernel
theorem dX9_init_18 : decode cX9_init 18 = .ok (.aload_n 0, 1) := by decide +kernel
theorem dX9_init_19 : decode cX9_init 19 = .ok (.iload_n 2, 1) := by decide +kernel
theorem dX9_init_20 : decode cX9_init 20 = .ok (.iconst 1, 1) := by decide +kernel
theorem dX9_init_21 : decode cX9_init 21 = .ok (.if_icmp .ge 7, 3) := by decide +kernel
theorem dX9_init_28 : decode cX9_init 28 = .ok (.iload_n 2, 1) := by decide +kernel
theorem dX9_init_29 : decode cX9_init 29 = .ok (.putfield 15, 3) := by decide +kernel
theorem dX9_init_32 : decode cX9_init 32 = .ok (.aload_n 0, 1) := by decide +kernel
theorem dX9_init_33 : decode cX9_init 33 = .ok (.aload_n 0, 1) := by decide +kernel
theorem dX9_init_34 : decode cX9_init 34 = .ok (.getfield 9, 3) := by decide +kernel
theorem dX9_init_37 : decode cX9_init 37 = .ok (.aload_n 0, 1) := by decide +kernel
theorem dX9_init_38 : decode cX9_init 38 = .ok (.getfield 15, 3) := by decide +kernel
theorem dX9_init_41 : decode cX9_init 41 = .ok (.bipush 32, 2) := by decide +kernel
theorem dX9_init_43 : decode cX9_init 43 = .ok (.invokestatic 18, 3) := by decide +kernel
theorem dX9_init_46 : decode cX9_init 46 = .ok (.imul, 1) := by decide +kernel
theorem dX9_init_47 : decode cX9_init 47 = .ok (.newarray .int, 2) := by decide +kernel
theorem dX9_init_49 : decode cX9_init 49 = .ok (.putfield 24, 3) := by decide +kernel
theorem dX9_init_52 : decode cX9_init 52 = .ok (.return_, 1) := by decide +kernel
theorem dX9_add_0 : decode cX9_add 0 = .ok (.aload_n 0, 1) := by decide +kernel
theorem dX9_add_1 : decode cX9_add 1 = .ok (.getfield 28, 3) := by decide +kernel
theorem dX9_add_4 : decode cX9_add 4 = .ok (.aload_n 0, 1) := by decide +kernel
theorem dX9_add_5 : decode cX9_add 5 = .ok (.getfield 15, 3) := by decide +kernel
theorem dX9_add_8 : decode cX9_add 8 = .ok (.if_icmp .lt 5, 3) := by decide +kernel
theorem dX9_add_13 : decode cX9_add 13 = .ok (.aload_n 0, 1) := by decide +kernel
theorem dX9_add_14 : decode cX9_add 14 = .ok (.getfield 28, 3) := by decide +kernel
theorem dX9_add_17 : decode cX9_add 17 = .ok (.iconst 1, 1) := by decide +kernel
theorem dX9_add_18 : decode cX9_add 18 = .ok (.iadd, 1) := by decide +kernel
theorem dX9_add_19 : decode cX9_add 19 = .ok (.aload_n 0, 1) := by decide +kernel
theorem dX9_add_20 : decode cX9_add 20 = .ok (.getfield 9, 3) := by decide +kernel
theorem dX9_add_23 : decode cX9_add 23 = .ok (.imul, 1) := by decide +kernel
theorem dX9_add_24 : decode cX9_add 24 = .ok (.aload_n 0, 1) := by decide +kernel
theorem dX9_add_25 : decode cX9_add 25 = .ok (.getfield 24, 3) := by decide +kernel
theorem dX9_add_28 : decode cX9_add 28 = .ok (.arraylength, 1) := by decide +kernel
theorem dX9_add_29 : decode cX9_add 29 = .ok (.if_icmp .le 34, 3) := by decide +kernel
theorem dX9_add_63 : decode cX9_add 63 = .ok (.aload_n 0, 1) := by decide +kernel
theorem dX9_add_64 : decode cX9_add 64 = .ok (.dup, 1) := by decide +kernel
theorem dX9_add_65 : decode cX9_add 65 = .ok (.getfield 28, 3) := by decide +kernel
theorem dX9_add_68 : decode cX9_add 68 = .ok (.iconst 1, 1) := by decide +kernel
theorem dX9_add_69 : decode cX9_add 69 = .ok (.iadd, 1) := by decide +kernel
theorem dX9_add_70 : decode cX9_add 70 = .ok (.putfield 28, 3) := by decide +kernel
theorem dX9_add_73 : decode cX9_add 73 = .ok (.aload_n 0, 1) := by decide +kernel
theorem dX9_add_74 : decode cX9_add 74 = .ok (.getfield 28, 3) := by decide +kernel
theorem dX9_add_77 : decode cX9_add 77 = .ok (.iconst 1, 1) := by decide +kernel
theorem dX9_add_78 : decode cX9_add 78 = .ok (.isub, 1) := by decide +kernel
theorem dX9_add_79 : decode cX9_add 79 = .ok (.ireturn, 1) := by decide +kernel
theorem dX9_reach_0 : decode cX9_reach 0 = .ok (.aload_n 0, 1) := by decide +kernel
theorem dX9_reach_1 : decode cX9_reach 1 = .ok (.getfield 15, 3) := by decide +kernel
theorem dX9_reach_4 : decode cX9_reach 4 = .ok (.iload_n 1, 1) := by decide +kernel
theorem dX9_reach_5 : decode cX9_reach 5 = .ok (.invokestatic 18, 3) := by decide +kernel
theorem dX9_reach_8 : decode cX9_reach 8 = .ok (.istore_n 2, 1) := by decide +kernel
theorem dX9_reach_9 : decode cX9_reach 9 = .ok (.iload_n 2, 1) := by decide +kernel
theorem dX9_reach_10 : decode cX9_reach 10 = .ok (.aload_n 0, 1) := by decide +kernel
theorem dX9_reach_11 : decode cX9_reach 11 = .ok (.getfield 28, 3) := by decide +kernel
theorem dX9_reach_14 : decode cX9_reach 14 = .ok (.if_icmp .gt 4, 3) := by decide +kernel
theorem dX9_reach_18 : decode cX9_reach 18 = .ok (.iload_n 2, 1) := by decide +kernel
theorem dX9_reach_19 : decode cX9_reach 19 = .ok (.aload_n 0, 1) := by decide +kernel
theorem dX9_reach_20 : decode cX9_reach 20 = .ok (.getfield 9, 3) := by decide +kernel
theorem dX9_reach_23 : decode cX9_reach 23 = .ok (.imul, 1) := by decide +kernel
theorem dX9_reach_24 : decode cX9_reach 24 = .ok (.aload_n 0, 1) := by decide +kernel
theorem dX9_reach_25 : decode cX9_reach 25 = .ok (.getfield 24, 3) := by decide +kernel
theorem dX9_reach_28 : decode cX9_reach 28 = .ok (.arraylength, 1) := by decide +kernel
theorem dX9_reach_29 : decode cX9_reach 29 = .ok (.if_icmp .le 29, 3) := by decide +kernel
theorem dX9_reach_58 : decode cX9_reach 58 = .ok (.aload_n 0, 1) := by decide +kernel
theorem dX9_reach_59 : decode cX9_reach 59 = .ok (.iload_n 2, 1) := by decide +kernel
theorem dX9_reach_60 : decode cX9_reach 60 = .ok (.putfield 28, 3) := by decide +kernel
theorem dX9_reach_63 : decode cX9_reach 63 = .ok (.return_, 1) := by decide +kernel
theorem dX9_size_0 : decode cX9_size 0 = .ok (.aload_n 0, 1) := by decide +kernel
theorem dX9_size_1 : decode cX9_size 1 = .ok (.getfield 28, 3) := by decide +kernel
theorem dX9_size_4 : decode cX9_size 4 = .ok (.ireturn, 1) := by decide +kernel
theorem dX9_cutTo_0 : decode cX9_cutTo 0 = .ok (.iload_n 1, 1) := by decide +kernel
theorem dX9_cutTo_1 : decode cX9_cutTo 1 = .ok (.ifCond .lt 16, 3) := by decide +kernel
theorem dX9_cutTo_4 : decode cX9_cutTo 4 = .ok (.iload_n 1, 1) := by decide +kernel
theorem dX9_cutTo_5 : decode cX9_cutTo 5 = .ok (.aload_n 0, 1) := by decide +kernel
theorem dX9_cutTo_6 : decode cX9_cutTo 6 = .ok (.getfield 28, 3) := by decide +kernel
theorem dX9_cutTo_9 : decode cX9_cutTo 9 = .ok (.if_icmp .ge 8, 3) := by decide +kernel
theorem dX9_cutTo_17 : decode cX9_cutTo 17 = .ok (.return_, 1) := by decide +kernel
theorem dX9_get_0 : decode cX9_get 0 = .ok (.iload_n 1, 1) := by decide +kernel
theorem dX9_get_1 : decode cX9_get 1 = .ok (.ifCond .lt 23, 3) := by decide +kernel
theorem dX9_get_4 : decode cX9_get 4 = .ok (.iload_n 1, 1) := by decide +kernel
theorem dX9_get_5 : decode cX9_get 5 = .ok (.aload_n 0, 1) := by decide +kernel
theorem dX9_get_6 : decode cX9_get 6 = .ok (.getfield 28, 3) := by decide +kernel
theorem dX9_get_9 : decode cX9_get 9 = .ok (.if_icmp .ge 15, 3) := by decide +kernel
theorem dX9_get_12 : decode cX9_get 12 = .ok (.iload_n 2, 1) := by decide +kernel
theorem dX9_get_13 : decode cX9_get 13 = .ok (.ifCond .lt 11, 3) := by decide +kernel
theorem dX9_get_16 : decode cX9_get 16 = .ok (.iload_n 2, 1) := by decide +kernel
theorem dX9_get_17 : decode cX9_get 17 = .ok (.aload_n 0, 1) := by decide +kernel
theorem dX9_get_18 : decode cX9_get 18 = .ok (.getfield 9, 3) := by decide +kernel
theorem dX9_get_21 : decode cX9_get 21 = .ok (.if_icmp .lt 5, 3) := by decide +kernel
theorem dX9_get_26 : decode cX9_get 26 = .ok (.aload_n 0, 1) := by decide +kernel
theorem dX9_get_27 : decode cX9_get 27 = .ok (.getfield 24, 3) := by decide +kernel
theorem dX9_get_30 : decode cX9_get 30 = .ok (.iload_n 1, 1) := by decide +kernel
theorem dX9_get_31 : decode cX9_get 31 = .ok (.aload_n 0, 1) := by decide +kernel
theorem dX9_get_32 : decode cX9_get 32 = .ok (.getfield 9, 3) := by decide +kernel
theorem dX9_get_35 : decode cX9_get 35 = .ok (.imul, 1) := by decide +kernel
theorem dX9_get_36 : decode cX9_get 36 = .ok (.iload_n 2, 1) := by decide +kernel
theorem dX9_get_37 : decode cX9_get 37 = .ok (.iadd, 1) := by decide +kernel
theorem dX9_get_38 : decode cX9_get 38 = .ok (.iaload, 1) := by decide +kernel
theorem dX9_get_39 : decode cX9_get 39 = .ok (.ireturn, 1) := by decide +kernel
theorem dX9_put_0 : decode cX9_put 0 = .ok (.iload_n 1, 1) := by decide +kernel
theorem dX9_put_1 : decode cX9_put 1 = .ok (.ifCond .lt 37, 3) := by decide +kernel
theorem dX9_put_4 : decode cX9_put 4 = .ok (.iload_n 1, 1) := by decide +kernel
theorem dX9_put_5 : decode cX9_put 5 = .ok (.aload_n 0, 1) := by decide +kernel
theorem dX9_put_6 : decode cX9_put 6 = .ok (.getfield 28, 3) := by decide +kernel
theorem dX9_put_9 : decode cX9_put 9 = .ok (.if_icmp .ge 29, 3) := by decide +kernel
theorem dX9_put_12 : decode cX9_put 12 = .ok (.iload_n 2, 1) := by decide +kernel
theorem dX9_put_13 : decode cX9_put 13 = .ok (.ifCond .lt 25, 3) := by decide +kernel
theorem dX9_put_16 : decode cX9_put 16 = .ok (.iload_n 2, 1) := by decide +kernel
theorem dX9_put_17 : decode cX9_put 17 = .ok (.aload_n 0, 1) := by decide +kernel
theorem dX9_put_18 : decode cX9_put 18 = .ok (.getfield 9, 3) := by decide +kernel
theorem dX9_put_21 : decode cX9_put 21 = .ok (.if_icmp .ge 17, 3) := by decide +kernel
theorem dX9_put_24 : decode cX9_put 24 = .ok (.aload_n 0, 1) := by decide +kernel
theorem dX9_put_25 : decode cX9_put 25 = .ok (.getfield 24, 3) := by decide +kernel
theorem dX9_put_28 : decode cX9_put 28 = .ok (.iload_n 1, 1) := by decide +kernel
theorem dX9_put_29 : decode cX9_put 29 = .ok (.aload_n 0, 1) := by decide +kernel
theorem dX9_put_30 : decode cX9_put 30 = .ok (.getfield 9, 3) := by decide +kernel
theorem dX9_put_33 : decode cX9_put 33 = .ok (.imul, 1) := by decide +kernel
theorem dX9_put_34 : decode cX9_put 34 = .ok (.iload_n 2, 1) := by decide +kernel
theorem dX9_put_35 : decode cX9_put 35 = .ok (.iadd, 1) := by decide +kernel
theorem dX9_put_36 : decode cX9_put 36 = .ok (.iload_n 3, 1) := by decide +kernel
theorem dX9_put_37 : decode cX9_put 37 = .ok (.iastore, 1) := by decide +kernel
theorem dX9_put_38 : decode cX9_put 38 = .ok (.return_, 1) := by decide +kernel
theorem dX10_init_0 : decode cX10_init 0 = .ok (.aload_n 0, 1) := by decide +kernel
theorem dX10_init_1 : decode cX10_init 1 = .ok (.invokespecial 3, 3) := by decide +kernel
theorem dX10_init_4 : decode cX10_init 4 = .ok (.aload_n 0, 1) := by decide +kernel
theorem dX10_init_5 : decode cX10_init 5 = .ok (.new 9, 3) := by decide +kernel
theorem dX10_init_8 : decode cX10_init 8 = .ok (.dup, 1) := by decide +kernel
theorem dX10_init_9 : decode cX10_init 9 = .ok (.iconst 1, 1) := by decide +kernel
theorem dX10_init_10 : decode cX10_init 10 = .ok (.bipush 20, 2) := by decide +kernel
theorem dX10_init_12 : decode cX10_init 12 = .ok (.invokespecial 11, 3) := by decide +kernel
theorem dX10_init_15 : decode cX10_init 15 = .ok (.putfield 14, 3) := by decide +kernel
theorem dX10_init_18 : decode cX10_init 18 = .ok (.return_, 1) := by decide +kernel
theorem dX10_size_0 : decode cX10_size 0 = .ok (.aload_n 0, 1) := by decide +kernel
theorem dX10_size_1 : decode cX10_size 1 = .ok (.getfield 14, 3) := by decide +kernel
theorem dX10_size_4 : decode cX10_size 4 = .ok (.invokevirtual 20, 3) := by decide +kernel
theorem dX10_size_7 : decode cX10_size 7 = .ok (.ireturn, 1) := by decide +kernel
theorem dX10_empty_0 : decode cX10_empty 0 = .ok (.aload_n 0, 1) := by decide +kernel
theorem dX10_empty_1 : decode cX10_empty 1 = .ok (.getfield 14, 3) := by decide +kernel
theorem dX10_empty_4 : decode cX10_empty 4 = .ok (.iconst 0, 1) := by decide +kernel
theorem dX10_empty_5 : decode cX10_empty 5 = .ok (.invokevirtual 24, 3) := by decide +kernel
theorem dX10_empty_8 : decode cX10_empty 8 = .ok (.return_, 1) := by decide +kernel
theorem dX11_init_0 : decode cX11_init 0 = .ok (.aload_n 0, 1) := by decide +kernel
theorem dX11_init_1 : decode cX11_init 1 = .ok (.invokespecial 1, 3) := by decide +kernel
theorem dX11_init_4 : decode cX11_init 4 = .ok (.aload_n 0, 1) := by decide +kernel
theorem dX11_init_5 : decode cX11_init 5 = .ok (.bipush 32, 2) := by decide +kernel
theorem dX11_init_7 : decode cX11_init 7 = .ok (.newarray .char, 2) := by decide +kernel
theorem dX11_init_9 : decode cX11_init 9 = .ok (.putfield 9, 3) := by decide +kernel
theorem dX11_init_12 : decode cX11_init 12 = .ok (.aload_n 0, 1) := by decide +kernel
theorem dX11_init_13 : decode cX11_init 13 = .ok (.new 13, 3) := by decide +kernel
theorem dX11_init_16 : decode cX11_init 16 = .ok (.dup, 1) := by decide +kernel
theorem dX11_init_17 : decode cX11_init 17 = .ok (.invokespecial 15, 3) := by decide +kernel
theorem dX11_init_20 : decode cX11_init 20 = .ok (.putfield 16, 3) := by decide +kernel
theorem dX11_init_23 : decode cX11_init 23 = .ok (.aload_n 0, 1) := by decide +kernel
theorem dX11_init_24 : decode cX11_init 24 = .ok (.iconst 4, 1) := by decide +kernel
theorem dX11_init_25 : decode cX11_init 25 = .ok (.anewarray 20, 3) := by decide +kernel
theorem dX11_init_28 : decode cX11_init 28 = .ok (.putfield 22, 3) := by decide +kernel
theorem dX11_init_31 : decode cX11_init 31 = .ok (.aload_n 0, 1) := by decide +kernel
theorem dX11_init_32 : decode cX11_init 32 = .ok (.new 20, 3) := by decide +kernel
theorem dX11_init_35 : decode cX11_init 35 = .ok (.dup, 1) := by decide +kernel
theorem dX11_init_36 : decode cX11_init 36 = .ok (.invokespecial 26, 3) := by decide +kernel
theorem dX11_init_39 : decode cX11_init 39 = .ok (.putfield 27, 3) := by decide +kernel
theorem dX11_init_42 : decode cX11_init 42 = .ok (.aload_n 0, 1) := by decide +kernel
theorem dX11_init_43 : decode cX11_init 43 = .ok (.new 31, 3) := by decide +kernel
theorem dX11_init_46 : decode cX11_init 46 = .ok (.dup, 1) := by decide +kernel
theorem dX11_init_47 : decode cX11_init 47 = .ok (.invokespecial 33, 3) := by decide +kernel
theorem dX11_init_50 : decode cX11_init 50 = .ok (.putfield 34, 3) := by decide +kernel
theorem dX11_init_53 : decode cX11_init 53 = .ok (.aload_n 0, 1) := by decide +kernel
theorem dX11_init_54 : decode cX11_init 54 = .ok (.new 38, 3) := by decide +kernel
theorem dX11_init_57 : decode cX11_init 57 = .ok (.dup, 1) := by decide +kernel
theorem dX11_init_58 : decode cX11_init 58 = .ok (.invokespecial 40, 3) := by decide +kernel
theorem dX11_init_61 : decode cX11_init 61 = .ok (.putfield 41, 3) := by decide +kernel
theorem dX11_init_64 : decode cX11_init 64 = .ok (.aload_n 0, 1) := by decide +kernel
theorem dX11_init_65 : decode cX11_init 65 = .ok (.new 45, 3) := by decide +kernel
theorem dX11_init_68 : decode cX11_init 68 = .ok (.dup, 1) := by decide +kernel
theorem dX11_init_69 : decode cX11_init 69 = .ok (.invokespecial 47, 3) := by decide +kernel
theorem dX11_init_72 : decode cX11_init 72 = .ok (.putfield 48, 3) := by decide +kernel
theorem dX11_init_75 : decode cX11_init 75 = .ok (.aload_n 0, 1) := by decide +kernel
theorem dX11_init_76 : decode cX11_init 76 = .ok (.iconst (-1), 1) := by decide +kernel
theorem dX11_init_77 : decode cX11_init 77 = .ok (.putfield 52, 3) := by decide +kernel
theorem dX11_init_80 : decode cX11_init 80 = .ok (.aload_n 0, 1) := by decide +kernel
theorem dX11_init_81 : decode cX11_init 81 = .ok (.new 56, 3) := by decide +kernel
theorem dX11_init_84 : decode cX11_init 84 = .ok (.dup, 1) := by decide +kernel
theorem dX11_init_85 : decode cX11_init 85 = .ok (.invokespecial 58, 3) := by decide +kernel
theorem dX11_init_88 : decode cX11_init 88 = .ok (.putfield 59, 3) := by decide +kernel
theorem dX11_init_91 : decode cX11_init 91 = .ok (.aload_n 0, 1) := by decide +kernel
theorem dX11_init_92 : decode cX11_init 92 = .ok (.new 63, 3) := by decide +kernel
theorem dX11_init_95 : decode cX11_init 95 = .ok (.dup, 1) := by decide +kernel
theorem dX11_init_96 : decode cX11_init 96 = .ok (.invokespecial 65, 3) := by decide +kernel
theorem dX11_init_99 : decode cX11_init 99 = .ok (.putfield 66, 3) := by decide +kernel
theorem dX11_init_102 : decode cX11_init 102 = .ok (.aload_n 0, 1) := by decide +kernel
theorem dX11_init_103 : decode cX11_init 103 = .ok (.sipush 250, 3) := by decide +kernel
theorem dX11_init_106 : decode cX11_init 106 = .ok (.putfield 70, 3) := by decide +kernel
theorem dX11_init_109 : decode cX11_init 109 = .ok (.aload_n 0, 1) := by decide +kernel
theorem dX11_init_110 : decode cX11_init 110 = .ok (.new 73, 3) := by decide +kernel
theorem dX11_init_113 : decode cX11_init 113 = .ok (.dup, 1) := by decide +kernel
theorem dX11_init_114 : decode cX11_init 114 = .ok (.iconst 2, 1) := by decide +kernel
theorem dX11_init_115 : decode cX11_init 115 = .ok (.bipush 7, 2) := by decide +kernel
theorem dX11_init_117 : decode cX11_init 117 = .ok (.invokespecial 75, 3) := by decide +kernel
theorem dX11_init_120 : decode cX11_init 120 = .ok (.putfield 78, 3) := by decide +kernel
theorem dX11_init_123 : decode cX11_init 123 = .ok (.aload_n 0, 1) := by decide +kernel
theorem dX11_init_124 : decode cX11_init 124 = .ok (.new 73, 3) := by decide +kernel
theorem dX11_init_127 : decode cX11_init 127 = .ok (.dup, 1) := by decide +kernel
theorem dX11_init_128 : decode cX11_init 128 = .ok (.iconst 2, 1) := by decide +kernel
theorem dX11_init_129 : decode cX11_init 129 = .ok (.bipush 21, 2) := by decide +kernel
theorem dX11_init_131 : decode cX11_init 131 = .ok (.invokespecial 75, 3) := by decide +kernel
theorem dX11_init_134 : decode cX11_init 134 = .ok (.putfield 82, 3) := by decide +kernel
theorem dX11_init_137 : decode cX11_init 137 = .ok (.aload_n 0, 1) := by decide +kernel
theorem dX11_init_138 : decode cX11_init 138 = .ok (.new 85, 3) := by decide +kernel
theorem dX11_init_141 : decode cX11_init 141 = .ok (.dup, 1) := by decide +kernel
theorem dX11_init_142 : decode cX11_init 142 = .ok (.invokespecial 87, 3) := by decide +kernel
theorem dX11_init_145 : decode cX11_init 145 = .ok (.putfield 88, 3) := by decide +kernel
theorem dX11_init_148 : decode cX11_init 148 = .ok (.aload_n 0, 1) := by decide +kernel
theorem dX11_init_149 : decode cX11_init 149 = .ok (.new 85, 3) := by decide +kernel
theorem dX11_init_152 : decode cX11_init 152 = .ok (.dup, 1) := by decide +kernel
theorem dX11_init_153 : decode cX11_init 153 = .ok (.invokespecial 87, 3) := by decide +kernel
theorem dX11_init_156 : decode cX11_init 156 = .ok (.putfield 92, 3) := by decide +kernel
theorem dX11_init_159 : decode cX11_init 159 = .ok (.iconst 0, 1) := by decide +kernel
theorem dX11_init_160 : decode cX11_init 160 = .ok (.istore_n 1, 1) := by decide +kernel
theorem dX11_init_161 : decode cX11_init 161 = .ok (.iload_n 1, 1) := by decide +kernel
theorem dX11_init_162 : decode cX11_init 162 = .ok (.iconst 4, 1) := by decide +kernel
theorem dX11_init_163 : decode cX11_init 163 = .ok (.if_icmp .ge 22, 3) := by decide +kernel
theorem dX11_init_166 : decode cX11_init 166 = .ok (.aload_n 0, 1) := by decide +kernel
theorem dX11_init_167 : decode cX11_init 167 = .ok (.getfield 22, 3) := by decide +kernel
theorem dX11_init_170 : decode cX11_init 170 = .ok (.iload_n 1, 1) := by decide +kernel
theorem dX11_init_171 : decode cX11_init 171 = .ok (.new 20, 3) := by decide +kernel
theorem dX11_init_174 : decode cX11_init 174 = .ok (.dup, 1) := by decide +kernel
theorem dX11_init_175 : decode cX11_init 175 = .ok (.invokespecial 26, 3) := by decide +kernel
theorem dX11_init_178 : decode cX11_init 178 = .ok (.aastore, 1) := by decide +kernel
theorem dX11_init_179 : decode cX11_init 179 = .ok (.iinc 1 1, 3) := by decide +kernel
theorem dX11_init_182 : decode cX11_init 182 = .ok (.goto (-21), 3) := by decide +kernel
theorem dX11_init_185 : decode cX11_init 185 = .ok (.aload_n 0, 1) := by decide +kernel
theorem dX11_init_186 : decode cX11_init 186 = .ok (.getfield 78, 3) := by decide +kernel
theorem dX11_init_189 : decode cX11_init 189 = .ok (.bipush 7, 2) := by decide +kernel
theorem dX11_init_191 : decode cX11_init 191 = .ok (.invokevirtual 95, 3) := by decide +kernel
theorem dX11_init_194 : decode cX11_init 194 = .ok (.iconst 0, 1) := by decide +kernel
theorem dX11_init_195 : decode cX11_init 195 = .ok (.istore_n 1, 1) := by decide +kernel
theorem dX11_init_196 : decode cX11_init 196 = .ok (.iload_n 1, 1) := by decide +kernel
theorem dX11_init_197 : decode cX11_init 197 = .ok (.bipush 6, 2) := by decide +kernel
theorem dX11_init_199 : decode cX11_init 199 = .ok (.if_icmp .gt 29, 3) := by decide +kernel
theorem dX11_init_202 : decode cX11_init 202 = .ok (.aload_n 0, 1) := by decide +kernel
theorem dX11_init_203 : decode cX11_init 203 = .ok (.getfield 78, 3) := by decide +kernel
theorem dX11_init_206 : decode cX11_init 206 = .ok (.iload_n 1, 1) := by decide +kernel
theorem dX11_init_207 : decode cX11_init 207 = .ok (.iconst 0, 1) := by decide +kernel
theorem dX11_init_208 : decode cX11_init 208 = .ok (.iconst (-1), 1) := by decide +kernel
theorem dX11_init_209 : decode cX11_init 209 = .ok (.invokevirtual 99, 3) := by decide +kernel
theorem dX11_init_212 : decode cX11_init 212 = .ok (.aload_n 0, 1) := by decide +kernel
theorem dX11_init_213 : decode cX11_init 213 = .ok (.getfield 78, 3) := by decide +kernel
theorem dX11_init_216 : decode cX11_init 216 = .ok (.iload_n 1, 1) := by decide +kernel
theorem dX11_init_217 : decode cX11_init 217 = .ok (.iconst 1, 1) := by decide +kernel
theorem dX11_init_218 : decode cX11_init 218 = .ok (.iconst (-1), 1) := by decide +kernel
theorem dX11_init_219 : decode cX11_init 219 = .ok (.invokevirtual 99, 3) := by decide +kernel
theorem dX11_init_222 : decode cX11_init 222 = .ok (.iinc 1 1, 3) := by decide +kernel
theorem dX11_init_225 : decode cX11_init 225 = .ok (.goto (-29), 3) := by decide +kernel
theorem dX11_init_228 : decode cX11_init 228 = .ok (.return_, 1) := by decide +kernel
theorem dX11_sign_0 : decode cX11_sign 0 = .ok (.iload_n 1, 1) := by decide +kernel
theorem dX11_sign_1 : decode cX11_sign 1 = .ok (.invokestatic 103, 3) := by decide +kernel
theorem dX11_sign_4 : decode cX11_sign 4 = .ok (.ifCond .ne 13, 3) := by decide +kernel
theorem dX11_sign_7 : decode cX11_sign 7 = .ok (.new 109, 3) := by decide +kernel
theorem dX11_sign_10 : decode cX11_sign 10 = .ok (.dup, 1) := by decide +kernel
theorem dX11_sign_11 : decode cX11_sign 11 = .ok (.ldc 111, 2) := by decide +kernel
theorem dX11_sign_13 : decode cX11_sign 13 = .ok (.invokespecial 113, 3) := by decide +kernel
theorem dX11_sign_16 : decode cX11_sign 16 = .ok (.athrow, 1) := by decide +kernel
theorem dX11_sign_17 : decode cX11_sign 17 = .ok (.aload_n 0, 1) := by decide +kernel
theorem dX11_sign_18 : decode cX11_sign 18 = .ok (.getfield 116, 3) := by decide +kernel
theorem dX11_sign_21 : decode cX11_sign 21 = .ok (.ifCond .lt 12, 3) := by decide +kernel
theorem dX11_sign_24 : decode cX11_sign 24 = .ok (.aload_n 0, 1) := by decide +kernel
theorem dX11_sign_25 : decode cX11_sign 25 = .ok (.getfield 116, 3) := by decide +kernel
theorem dX11_sign_28 : decode cX11_sign 28 = .ok (.bipush 32, 2) := by decide +kernel
theorem dX11_sign_30 : decode cX11_sign 30 = .ok (.if_icmp .lt 13, 3) := by decide +kernel
theorem dX11_sign_43 : decode cX11_sign 43 = .ok (.aload_n 0, 1) := by decide +kernel
theorem dX11_sign_44 : decode cX11_sign 44 = .ok (.getfield 9, 3) := by decide +kernel
theorem dX11_sign_47 : decode cX11_sign 47 = .ok (.aload_n 0, 1) := by decide +kernel
theorem dX11_sign_48 : decode cX11_sign 48 = .ok (.getfield 116, 3) := by decide +kernel
theorem dX11_sign_51 : decode cX11_sign 51 = .ok (.iload_n 1, 1) := by decide +kernel
theorem dX11_sign_52 : decode cX11_sign 52 = .ok (.castore, 1) := by decide +kernel
theorem dX11_sign_53 : decode cX11_sign 53 = .ok (.aload_n 0, 1) := by decide +kernel
theorem dX11_sign_54 : decode cX11_sign 54 = .ok (.dup, 1) := by decide +kernel
theorem dX11_sign_55 : decode cX11_sign 55 = .ok (.getfield 116, 3) := by decide +kernel
theorem dX11_sign_58 : decode cX11_sign 58 = .ok (.iconst 1, 1) := by decide +kernel
theorem dX11_sign_59 : decode cX11_sign 59 = .ok (.iadd, 1) := by decide +kernel
theorem dX11_sign_60 : decode cX11_sign 60 = .ok (.putfield 116, 3) := by decide +kernel
theorem dX11_sign_63 : decode cX11_sign 63 = .ok (.aload_n 0, 1) := by decide +kernel
theorem dX11_sign_64 : decode cX11_sign 64 = .ok (.getfield 116, 3) := by decide +kernel
theorem dX11_sign_67 : decode cX11_sign 67 = .ok (.ireturn, 1) := by decide +kernel
theorem dX11_clear_0 : decode cX11_clear 0 = .ok (.aload_n 0, 1) := by decide +kernel
theorem dX11_clear_1 : decode cX11_clear 1 = .ok (.getfield 116, 3) := by decide +kernel
theorem dX11_clear_4 : decode cX11_clear 4 = .ok (.istore_n 1, 1) := by decide +kernel
theorem dX11_clear_5 : decode cX11_clear 5 = .ok (.aload_n 0, 1) := by decide +kernel
theorem dX11_clear_6 : decode cX11_clear 6 = .ok (.iconst 0, 1) := by decide +kernel
theorem dX11_clear_7 : decode cX11_clear 7 = .ok (.putfield 116, 3) := by decide +kernel
theorem dX11_clear_10 : decode cX11_clear 10 = .ok (.iload_n 1, 1) := by decide +kernel
theorem dX11_clear_11 : decode cX11_clear 11 = .ok (.ireturn, 1) := by decide +kernel
theorem dX11_tell_0 : decode cX11_tell 0 = .ok (.aload_n 0, 1) := by decide +kernel
theorem dX11_tell_1 : decode cX11_tell 1 = .ok (.iload_n 1, 1) := by decide +kernel
theorem dX11_tell_2 : decode cX11_tell 2 = .ok (.invokevirtual 124, 3) := by decide +kernel
theorem dX11_tell_5 : decode cX11_tell 5 = .ok (.aload_n 0, 1) := by decide +kernel
theorem dX11_tell_6 : decode cX11_tell 6 = .ok (.getfield 34, 3) := by decide +kernel
theorem dX11_tell_9 : decode cX11_tell 9 = .ok (.aload_n 0, 1) := by decide +kernel
theorem dX11_tell_10 : decode cX11_tell 10 = .ok (.getfield 9, 3) := by decide +kernel
theorem dX11_tell_13 : decode cX11_tell 13 = .ok (.aload_n 0, 1) := by decide +kernel
theorem dX11_tell_14 : decode cX11_tell 14 = .ok (.getfield 116, 3) := by decide +kernel
theorem dX11_tell_17 : decode cX11_tell 17 = .ok (.aload_n 0, 1) := by decide +kernel
theorem dX11_tell_18 : decode cX11_tell 18 = .ok (.getfield 27, 3) := by decide +kernel
theorem dX11_tell_21 : decode cX11_tell 21 = .ok (.invokevirtual 127, 3) := by decide +kernel
theorem dX11_tell_24 : decode cX11_tell 24 = .ok (.iconst (-1), 1) := by decide +kernel
theorem dX11_tell_25 : decode cX11_tell 25 = .ok (.if_icmp .eq 13, 3) := by decide +kernel
theorem dX11_tell_38 : decode cX11_tell 38 = .ok (.aload_n 0, 1) := by decide +kernel
theorem dX11_tell_39 : decode cX11_tell 39 = .ok (.getfield 22, 3) := by decide +kernel
theorem dX11_tell_42 : decode cX11_tell 42 = .ok (.iload_n 1, 1) := by decide +kernel
theorem dX11_tell_43 : decode cX11_tell 43 = .ok (.aaload, 1) := by decide +kernel
theorem dX11_tell_44 : decode cX11_tell 44 = .ok (.astore_n 2, 1) := by decide +kernel
theorem dX11_tell_45 : decode cX11_tell 45 = .ok (.aload_n 0, 1) := by decide +kernel
theorem dX11_tell_46 : decode cX11_tell 46 = .ok (.getfield 27, 3) := by decide +kernel
theorem dX11_tell_49 : decode cX11_tell 49 = .ok (.iconst 1, 1) := by decide +kernel
theorem dX11_tell_50 : decode cX11_tell 50 = .ok (.putfield 133, 3) := by decide +kernel
theorem dX11_tell_53 : decode cX11_tell 53 = .ok (.aload_n 0, 1) := by decide +kernel
theorem dX11_tell_54 : decode cX11_tell 54 = .ok (.getfield 27, 3) := by decide +kernel
theorem dX11_tell_57 : decode cX11_tell 57 = .ok (.invokestatic 137, 3) := by decide +kernel
theorem dX11_tell_60 : decode cX11_tell 60 = .ok (.aload_n 0, 1) := by decide +kernel
theorem dX11_tell_61 : decode cX11_tell 61 = .ok (.getfield 22, 3) := by decide +kernel
theorem dX11_tell_64 : decode cX11_tell 64 = .ok (.iload_n 1, 1) := by decide +kernel
theorem dX11_tell_65 : decode cX11_tell 65 = .ok (.aload_n 0, 1) := by decide +kernel
theorem dX11_tell_66 : decode cX11_tell 66 = .ok (.getfield 27, 3) := by decide +kernel
theorem dX11_tell_69 : decode cX11_tell 69 = .ok (.aastore, 1) := by decide +kernel
theorem dX11_tell_70 : decode cX11_tell 70 = .ok (.aload_n 0, 1) := by decide +kernel
theorem dX11_tell_71 : decode cX11_tell 71 = .ok (.aload_n 2, 1) := by decide +kernel
theorem dX11_tell_72 : decode cX11_tell 72 = .ok (.putfield 27, 3) := by decide +kernel
theorem dX11_tell_75 : decode cX11_tell 75 = .ok (.aload_n 0, 1) := by decide +kernel
theorem dX11_tell_76 : decode cX11_tell 76 = .ok (.iconst (-1), 1) := by decide +kernel
theorem dX11_tell_77 : decode cX11_tell 77 = .ok (.putfield 52, 3) := by decide +kernel
theorem dX11_tell_80 : decode cX11_tell 80 = .ok (.aload_n 0, 1) := by decide +kernel
theorem dX11_tell_81 : decode cX11_tell 81 = .ok (.iconst 0, 1) := by decide +kernel
theorem dX11_tell_82 : decode cX11_tell 82 = .ok (.putfield 116, 3) := by decide +kernel
theorem dX11_tell_85 : decode cX11_tell 85 = .ok (.aload_n 0, 1) := by decide +kernel
theorem dX11_tell_86 : decode cX11_tell 86 = .ok (.getfield 22, 3) := by decide +kernel
theorem dX11_tell_89 : decode cX11_tell 89 = .ok (.iload_n 1, 1) := by decide +kernel
theorem dX11_tell_90 : decode cX11_tell 90 = .ok (.aaload, 1) := by decide +kernel
theorem dX11_tell_91 : decode cX11_tell 91 = .ok (.getfield 143, 3) := by decide +kernel
theorem dX11_tell_94 : decode cX11_tell 94 = .ok (.ireturn, 1) := by decide +kernel
theorem dX11_fault_0 : decode cX11_fault 0 = .ok (.aload_n 0, 1) := by decide +kernel
theorem dX11_fault_1 : decode cX11_fault 1 = .ok (.getfield 34, 3) := by decide +kernel
theorem dX11_fault_4 : decode cX11_fault 4 = .ok (.aload_n 0, 1) := by decide +kernel
theorem dX11_fault_5 : decode cX11_fault 5 = .ok (.getfield 9, 3) := by decide +kernel
theorem dX11_fault_8 : decode cX11_fault 8 = .ok (.aload_n 0, 1) := by decide +kernel
theorem dX11_fault_9 : decode cX11_fault 9 = .ok (.getfield 116, 3) := by decide +kernel
theorem dX11_fault_12 : decode cX11_fault 12 = .ok (.aload_n 0, 1) := by decide +kernel
theorem dX11_fault_13 : decode cX11_fault 13 = .ok (.getfield 27, 3) := by decide +kernel
theorem dX11_fault_16 : decode cX11_fault 16 = .ok (.invokevirtual 127, 3) := by decide +kernel
theorem dX11_fault_19 : decode cX11_fault 19 = .ok (.ireturn, 1) := by decide +kernel
theorem dX11_lot_0 : decode cX11_lot 0 = .ok (.aload_n 0, 1) := by decide +kernel
theorem dX11_lot_1 : decode cX11_lot 1 = .ok (.getfield 16, 3) := by decide +kernel
theorem dX11_lot_4 : decode cX11_lot 4 = .ok (.invokevirtual 146, 3) := by decide +kernel
theorem dX11_lot_7 : decode cX11_lot 7 = .ok (.aload_n 0, 1) := by decide +kernel
theorem dX11_lot_8 : decode cX11_lot 8 = .ok (.getfield 116, 3) := by decide +kernel
theorem dX11_lot_11 : decode cX11_lot 11 = .ok (.iadd, 1) := by decide +kernel
theorem dX11_lot_12 : decode cX11_lot 12 = .ok (.bipush 20, 2) := by decide +kernel
theorem dX11_lot_14 : decode cX11_lot 14 = .ok (.if_icmp .le 13, 3) := by decide +kernel
theorem dX11_lot_27 : decode cX11_lot 27 = .ok (.iconst 0, 1) := by decide +kernel
theorem dX11_lot_28 : decode cX11_lot 28 = .ok (.istore_n 1, 1) := by decide +kernel
theorem dX11_lot_29 : decode cX11_lot 29 = .ok (.iload_n 1, 1) := by decide +kernel
theorem dX11_lot_30 : decode cX11_lot 30 = .ok (.aload_n 0, 1) := by decide +kernel
theorem dX11_lot_31 : decode cX11_lot 31 = .ok (.getfield 116, 3) := by decide +kernel
theorem dX11_lot_34 : decode cX11_lot 34 = .ok (.if_icmp .ge 31, 3) := by decide +kernel
theorem dX11_lot_65 : decode cX11_lot 65 = .ok (.iconst 0, 1) := by decide +kernel
theorem dX11_lot_66 : decode cX11_lot 66 = .ok (.istore_n 1, 1) := by decide +kernel
theorem dX11_lot_67 : decode cX11_lot 67 = .ok (.iload_n 1, 1) := by decide +kernel
theorem dX11_lot_68 : decode cX11_lot 68 = .ok (.aload_n 0, 1) := by decide +kernel
theorem dX11_lot_69 : decode cX11_lot 69 = .ok (.getfield 116, 3) := by decide +kernel
theorem dX11_lot_72 : decode cX11_lot 72 = .ok (.if_icmp .ge 24, 3) := by decide +kernel
theorem dX11_lot_96 : decode cX11_lot 96 = .ok (.aload_n 0, 1) := by decide +kernel
theorem dX11_lot_97 : decode cX11_lot 97 = .ok (.iconst 0, 1) := by decide +kernel
theorem dX11_lot_98 : decode cX11_lot 98 = .ok (.putfield 116, 3) := by decide +kernel
theorem dX11_lot_101 : decode cX11_lot 101 = .ok (.aload_n 0, 1) := by decide +kernel
theorem dX11_lot_102 : decode cX11_lot 102 = .ok (.getfield 16, 3) := by decide +kernel
theorem dX11_lot_105 : decode cX11_lot 105 = .ok (.invokevirtual 146, 3) := by decide +kernel
theorem dX11_lot_108 : decode cX11_lot 108 = .ok (.ireturn, 1) := by decide +kernel
theorem dX11_wipe_0 : decode cX11_wipe 0 = .ok (.aload_n 0, 1) := by decide +kernel
theorem dX11_wipe_1 : decode cX11_wipe 1 = .ok (.getfield 16, 3) := by decide +kernel
theorem dX11_wipe_4 : decode cX11_wipe 4 = .ok (.invokevirtual 146, 3) := by decide +kernel
theorem dX11_wipe_7 : decode cX11_wipe 7 = .ok (.istore_n 1, 1) := by decide +kernel
theorem dX11_wipe_8 : decode cX11_wipe 8 = .ok (.aload_n 0, 1) := by decide +kernel
theorem dX11_wipe_9 : decode cX11_wipe 9 = .ok (.getfield 16, 3) := by decide +kernel
theorem dX11_wipe_12 : decode cX11_wipe 12 = .ok (.invokevirtual 165, 3) := by decide +kernel
theorem dX11_wipe_15 : decode cX11_wipe 15 = .ok (.iload_n 1, 1) := by decide +kernel
theorem dX11_wipe_16 : decode cX11_wipe 16 = .ok (.ireturn, 1) := by decide +kernel
theorem dX11_length_0 : decode cX11_length 0 = .ok (.aload_n 0, 1) := by decide +kernel
theorem dX11_length_1 : decode cX11_length 1 = .ok (.getfield 16, 3) := by decide +kernel
theorem dX11_length_4 : decode cX11_length 4 = .ok (.invokevirtual 146, 3) := by decide +kernel
theorem dX11_length_7 : decode cX11_length 7 = .ok (.ireturn, 1) := by decide +kernel
theorem dX11_isPlain_0 : decode cX11_isPlain 0 = .ok (.aload_n 0, 1) := by decide +kernel
theorem dX11_isPlain_1 : decode cX11_isPlain 1 = .ok (.iload_n 1, 1) := by decide +kernel
theorem dX11_isPlain_2 : decode cX11_isPlain 2 = .ok (.invokevirtual 124, 3) := by decide +kernel
theorem dX11_isPlain_5 : decode cX11_isPlain 5 = .ok (.aload_n 0, 1) := by decide +kernel
theorem dX11_isPlain_6 : decode cX11_isPlain 6 = .ok (.iload_n 1, 1) := by decide +kernel
theorem dX11_isPlain_7 : decode cX11_isPlain 7 = .ok (.invokevirtual 168, 3) := by decide +kernel
theorem dX11_isRegular_0 : decode cX11_isRegular 0 = .ok (.aload_n 0, 1) := by decide +kernel
theorem dX11_isRegular_1 : decode cX11_isRegular 1 = .ok (.iload_n 1, 1) := by decide +kernel
theorem dX11_isRegular_2 : decode cX11_isRegular 2 = .ok (.invokevirtual 124, 3) := by decide +kernel
theorem dX11_isRegular_5 : decode cX11_isRegular 5 = .ok (.aload_n 0, 1) := by decide +kernel
theorem dX11_isRegular_6 : decode cX11_isRegular 6 = .ok (.iload_n 1, 1) := by decide +kernel
theorem dX11_isRegular_7 : decode cX11_isRegular 7 = .ok (.invokevirtual 168, 3) := by decide +kernel
theorem dX11_setBudget_0 : decode cX11_setBudget 0 = .ok (.iload_n 1, 1) := by decide +kernel
theorem dX11_setBudget_1 : decode cX11_setBudget 1 = .ok (.iconst 1, 1) := by decide +kernel
theorem dX11_setBudget_2 : decode cX11_setBudget 2 = .ok (.if_icmp .lt 10, 3) := by decide +kernel
theorem dX11_setBudget_5 : decode cX11_setBudget 5 = .ok (.iload_n 1, 1) := by decide +kernel
theorem dX11_setBudget_6 : decode cX11_setBudget 6 = .ok (.sipush 250, 3) := by decide +kernel
theorem dX11_setBudget_9 : decode cX11_setBudget 9 = .ok (.if_icmp .le 13, 3) := by decide +kernel
theorem dX11_setBudget_12 : decode cX11_setBudget 12 = .ok (.new 109, 3) := by decide +kernel
theorem dX11_setBudget_15 : decode cX11_setBudget 15 = .ok (.dup, 1) := by decide +kernel
theorem dX11_setBudget_16 : decode cX11_setBudget 16 = .ok (.ldc 178, 2) := by decide +kernel
theorem dX11_setBudget_18 : decode cX11_setBudget 18 = .ok (.invokespecial 113, 3) := by decide +kernel
theorem dX11_setBudget_21 : decode cX11_setBudget 21 = .ok (.athrow, 1) := by decide +kernel
theorem dX11_setBudget_22 : decode cX11_setBudget 22 = .ok (.aload_n 0, 1) := by decide +kernel
theorem dX11_setBudget_23 : decode cX11_setBudget 23 = .ok (.getfield 70, 3) := by decide +kernel
theorem dX11_setBudget_26 : decode cX11_setBudget 26 = .ok (.istore_n 2, 1) := by decide +kernel
theorem dX11_setBudget_27 : decode cX11_setBudget 27 = .ok (.aload_n 0, 1) := by decide +kernel
theorem dX11_setBudget_28 : decode cX11_setBudget 28 = .ok (.iload_n 1, 1) := by decide +kernel
theorem dX11_setBudget_29 : decode cX11_setBudget 29 = .ok (.putfield 70, 3) := by decide +kernel
theorem dX11_setBudget_32 : decode cX11_setBudget 32 = .ok (.iload_n 2, 1) := by decide +kernel
theorem dX11_setBudget_33 : decode cX11_setBudget 33 = .ok (.ireturn, 1) := by decide +kernel
theorem dX11_match_0 : decode cX11_match 0 = .ok (.aload_n 0, 1) := by decide +kernel
theorem dX11_match_1 : decode cX11_match 1 = .ok (.iload_n 1, 1) := by decide +kernel
theorem dX11_match_2 : decode cX11_match 2 = .ok (.invokevirtual 124, 3) := by decide +kernel
theorem dX11_match_5 : decode cX11_match 5 = .ok (.aload_n 0, 1) := by decide +kernel
theorem dX11_match_6 : decode cX11_match 6 = .ok (.iload_n 2, 1) := by decide +kernel
theorem dX11_match_7 : decode cX11_match 7 = .ok (.invokevirtual 180, 3) := by decide +kernel
theorem dX11_match_10 : decode cX11_match 10 = .ok (.aload_n 0, 1) := by decide +kernel
theorem dX11_match_11 : decode cX11_match 11 = .ok (.getfield 41, 3) := by decide +kernel
theorem dX11_match_14 : decode cX11_match 14 = .ok (.aload_n 0, 1) := by decide +kernel
theorem dX11_match_15 : decode cX11_match 15 = .ok (.iload_n 1, 1) := by decide +kernel
theorem dX11_match_16 : decode cX11_match 16 = .ok (.invokevirtual 168, 3) := by decide +kernel
theorem dX11_find_0 : decode cX11_find 0 = .ok (.aload_n 0, 1) := by decide +kernel
theorem dX11_find_1 : decode cX11_find 1 = .ok (.iload_n 1, 1) := by decide +kernel
theorem dX11_find_2 : decode cX11_find 2 = .ok (.invokevirtual 124, 3) := by decide +kernel
theorem dX11_find_5 : decode cX11_find 5 = .ok (.aload_n 0, 1) := by decide +kernel
theorem dX11_find_6 : decode cX11_find 6 = .ok (.iload_n 2, 1) := by decide +kernel
theorem dX11_find_7 : decode cX11_find 7 = .ok (.invokevirtual 180, 3) := by decide +kernel
theorem dX11_find_10 : decode cX11_find 10 = .ok (.aload_n 0, 1) := by decide +kernel
theorem dX11_find_11 : decode cX11_find 11 = .ok (.getfield 41, 3) := by decide +kernel
theorem dX11_find_14 : decode cX11_find 14 = .ok (.aload_n 0, 1) := by decide +kernel
theorem dX11_find_15 : decode cX11_find 15 = .ok (.iload_n 1, 1) := by decide +kernel
theorem dX11_find_16 : decode cX11_find 16 = .ok (.invokevirtual 168, 3) := by decide +kernel
theorem dX11_matchBySets_0 : decode cX11_matchBySets 0 = .ok (.aload_n 0, 1) := by decide +kernel
theorem dX11_matchBySets_1 : decode cX11_matchBySets 1 = .ok (.iload_n 1, 1) := by decide +kernel
theorem dX11_matchBySets_2 : decode cX11_matchBySets 2 = .ok (.invokevirtual 124, 3) := by decide +kernel
theorem dX11_matchBySets_5 : decode cX11_matchBySets 5 = .ok (.aload_n 0, 1) := by decide +kernel
theorem dX11_matchBySets_6 : decode cX11_matchBySets 6 = .ok (.iload_n 2, 1) := by decide +kernel
theorem dX11_matchBySets_7 : decode cX11_matchBySets 7 = .ok (.invokevirtual 180, 3) := by decide +kernel
theorem dX11_matchBySets_10 : decode cX11_matchBySets 10 = .ok (.aload_n 0, 1) := by decide +kernel
theorem dX11_matchBySets_11 : decode cX11_matchBySets 11 = .ok (.iload_n 1, 1) := by decide +kernel
theorem dX11_matchBySets_12 : decode cX11_matchBySets 12 = .ok (.invokevirtual 206, 3) := by decide +kernel
theorem dX11_group_0 : decode cX11_group 0 = .ok (.iload_n 1, 1) := by decide +kernel
theorem dX11_group_1 : decode cX11_group 1 = .ok (.ifCond .lt 9, 3) := by decide +kernel
theorem dX11_group_4 : decode cX11_group 4 = .ok (.iload_n 1, 1) := by decide +kernel
theorem dX11_group_5 : decode cX11_group 5 = .ok (.bipush 6, 2) := by decide +kernel
theorem dX11_group_7 : decode cX11_group 7 = .ok (.if_icmp .le 13, 3) := by decide +kernel
theorem dX11_group_10 : decode cX11_group 10 = .ok (.new 220, 3) := by decide +kernel
theorem dX11_group_13 : decode cX11_group 13 = .ok (.dup, 1) := by decide +kernel
theorem dX11_group_14 : decode cX11_group 14 = .ok (.ldc 222, 2) := by decide +kernel
theorem dX11_group_16 : decode cX11_group 16 = .ok (.invokespecial 224, 3) := by decide +kernel
theorem dX11_group_19 : decode cX11_group 19 = .ok (.athrow, 1) := by decide +kernel
theorem dX11_group_20 : decode cX11_group 20 = .ok (.aload_n 0, 1) := by decide +kernel
theorem dX11_group_21 : decode cX11_group 21 = .ok (.getfield 78, 3) := by decide +kernel
theorem dX11_group_24 : decode cX11_group 24 = .ok (.iload_n 1, 1) := by decide +kernel
theorem dX11_group_25 : decode cX11_group 25 = .ok (.iload_n 2, 1) := by decide +kernel
theorem dX11_group_26 : decode cX11_group 26 = .ok (.ifCond .eq 7, 3) := by decide +kernel
theorem dX11_group_29 : decode cX11_group 29 = .ok (.iconst 1, 1) := by decide +kernel
theorem dX11_group_30 : decode cX11_group 30 = .ok (.goto 4, 3) := by decide +kernel
theorem dX11_group_33 : decode cX11_group 33 = .ok (.iconst 0, 1) := by decide +kernel
theorem dX11_group_34 : decode cX11_group 34 = .ok (.invokevirtual 225, 3) := by decide +kernel
theorem dX11_group_37 : decode cX11_group 37 = .ok (.ireturn, 1) := by decide +kernel
theorem dX11_trials_0 : decode cX11_trials 0 = .ok (.aload_n 0, 1) := by decide +kernel
theorem dX11_trials_1 : decode cX11_trials 1 = .ok (.getfield 194, 3) := by decide +kernel
theorem dX11_trials_4 : decode cX11_trials 4 = .ok (.ireturn, 1) := by decide +kernel
theorem dX11_longest_0 : decode cX11_longest 0 = .ok (.aload_n 0, 1) := by decide +kernel
theorem dX11_longest_1 : decode cX11_longest 1 = .ok (.iload_n 1, 1) := by decide +kernel
theorem dX11_longest_2 : decode cX11_longest 2 = .ok (.invokevirtual 124, 3) := by decide +kernel
theorem dX11_longest_5 : decode cX11_longest 5 = .ok (.aload_n 0, 1) := by decide +kernel
theorem dX11_longest_6 : decode cX11_longest 6 = .ok (.iload_n 2, 1) := by decide +kernel
theorem dX11_longest_7 : decode cX11_longest 7 = .ok (.invokevirtual 180, 3) := by decide +kernel
theorem dX11_longest_10 : decode cX11_longest 10 = .ok (.aload_n 0, 1) := by decide +kernel
theorem dX11_longest_11 : decode cX11_longest 11 = .ok (.iload_n 1, 1) := by decide +kernel
theorem dX11_longest_12 : decode cX11_longest 12 = .ok (.invokevirtual 228, 3) := by decide +kernel
theorem dX11_canStill_0 : decode cX11_canStill 0 = .ok (.aload_n 0, 1) := by decide +kernel
theorem dX11_canStill_1 : decode cX11_canStill 1 = .ok (.iload_n 1, 1) := by decide +kernel
theorem dX11_canStill_2 : decode cX11_canStill 2 = .ok (.invokevirtual 124, 3) := by decide +kernel
theorem dX11_canStill_5 : decode cX11_canStill 5 = .ok (.aload_n 0, 1) := by decide +kernel
theorem dX11_canStill_6 : decode cX11_canStill 6 = .ok (.iload_n 2, 1) := by decide +kernel
theorem dX11_canStill_7 : decode cX11_canStill 7 = .ok (.invokevirtual 180, 3) := by decide +kernel
theorem dX11_canStill_10 : decode cX11_canStill 10 = .ok (.aload_n 0, 1) := by decide +kernel
theorem dX11_canStill_11 : decode cX11_canStill 11 = .ok (.iload_n 1, 1) := by decide +kernel
theorem dX11_canStill_12 : decode cX11_canStill 12 = .ok (.invokevirtual 228, 3) := by decide +kernel
theorem dX11_which_0 : decode cX11_which 0 = .ok (.aload_n 0, 1) := by decide +kernel
theorem dX11_which_1 : decode cX11_which 1 = .ok (.iload_n 1, 1) := by decide +kernel
theorem dX11_which_2 : decode cX11_which 2 = .ok (.invokevirtual 180, 3) := by decide +kernel
theorem dX11_which_5 : decode cX11_which 5 = .ok (.iconst 0, 1) := by decide +kernel
theorem dX11_which_6 : decode cX11_which 6 = .ok (.istore_n 2, 1) := by decide +kernel
theorem dX11_which_7 : decode cX11_which 7 = .ok (.iconst 0, 1) := by decide +kernel
theorem dX11_which_8 : decode cX11_which 8 = .ok (.istore_n 3, 1) := by decide +kernel
theorem dX11_which_9 : decode cX11_which 9 = .ok (.iload_n 3, 1) := by decide +kernel
theorem dX11_which_10 : decode cX11_which 10 = .ok (.iconst 4, 1) := by decide +kernel
theorem dX11_which_11 : decode cX11_which 11 = .ok (.if_icmp .ge 59, 3) := by decide +kernel
theorem dX11_which_14 : decode cX11_which 14 = .ok (.aload_n 0, 1) := by decide +kernel
theorem dX11_which_15 : decode cX11_which 15 = .ok (.getfield 22, 3) := by decide +kernel
theorem dX11_which_18 : decode cX11_which 18 = .ok (.iload_n 3, 1) := by decide +kernel
theorem dX11_which_19 : decode cX11_which 19 = .ok (.aaload, 1) := by decide +kernel
theorem dX11_which_20 : decode cX11_which 20 = .ok (.getfield 133, 3) := by decide +kernel
theorem dX11_which_23 : decode cX11_which 23 = .ok (.ifCond .eq 41, 3) := by decide +kernel
theorem dX11_which_64 : decode cX11_which 64 = .ok (.iinc 3 1, 3) := by decide +kernel
theorem dX11_which_67 : decode cX11_which 67 = .ok (.goto (-58), 3) := by decide +kernel
theorem dX11_which_70 : decode cX11_which 70 = .ok (.iload_n 2, 1) := by decide +kernel
theorem dX11_which_71 : decode cX11_which 71 = .ok (.ireturn, 1) := by decide +kernel
theorem dX11_ways_0 : decode cX11_ways 0 = .ok (.aload_n 0, 1) := by decide +kernel
theorem dX11_ways_1 : decode cX11_ways 1 = .ok (.iload_n 1, 1) := by decide +kernel
theorem dX11_ways_2 : decode cX11_ways 2 = .ok (.invokevirtual 124, 3) := by decide +kernel
theorem dX11_ways_5 : decode cX11_ways 5 = .ok (.aload_n 0, 1) := by decide +kernel
theorem dX11_ways_6 : decode cX11_ways 6 = .ok (.iload_n 2, 1) := by decide +kernel
theorem dX11_ways_7 : decode cX11_ways 7 = .ok (.invokevirtual 180, 3) := by decide +kernel
theorem dX11_ways_10 : decode cX11_ways 10 = .ok (.aload_n 0, 1) := by decide +kernel
theorem dX11_ways_11 : decode cX11_ways 11 = .ok (.iload_n 3, 1) := by decide +kernel
theorem dX11_ways_12 : decode cX11_ways 12 = .ok (.invokevirtual 180, 3) := by decide +kernel
theorem dX11_ways_15 : decode cX11_ways 15 = .ok (.aload_n 0, 1) := by decide +kernel
theorem dX11_ways_16 : decode cX11_ways 16 = .ok (.iload_n 1, 1) := by decide +kernel
theorem dX11_ways_17 : decode cX11_ways 17 = .ok (.invokevirtual 206, 3) := by decide +kernel
theorem dX11_findAll_0 : decode cX11_findAll 0 = .ok (.aload_n 0, 1) := by decide +kernel
theorem dX11_findAll_1 : decode cX11_findAll 1 = .ok (.iload_n 1, 1) := by decide +kernel
theorem dX11_findAll_2 : decode cX11_findAll 2 = .ok (.invokevirtual 124, 3) := by decide +kernel
theorem dX11_findAll_5 : decode cX11_findAll 5 = .ok (.aload_n 0, 1) := by decide +kernel
theorem dX11_findAll_6 : decode cX11_findAll 6 = .ok (.getfield 41, 3) := by decide +kernel
theorem dX11_findAll_9 : decode cX11_findAll 9 = .ok (.aload_n 0, 1) := by decide +kernel
theorem dX11_findAll_10 : decode cX11_findAll 10 = .ok (.iload_n 1, 1) := by decide +kernel
theorem dX11_findAll_11 : decode cX11_findAll 11 = .ok (.invokevirtual 168, 3) := by decide +kernel
theorem dX11_found_0 : decode cX11_found 0 = .ok (.iload_n 1, 1) := by decide +kernel
theorem dX11_found_1 : decode cX11_found 1 = .ok (.ifCond .lt 14, 3) := by decide +kernel
theorem dX11_found_4 : decode cX11_found 4 = .ok (.iload_n 1, 1) := by decide +kernel
theorem dX11_found_5 : decode cX11_found 5 = .ok (.aload_n 0, 1) := by decide +kernel
theorem dX11_found_6 : decode cX11_found 6 = .ok (.getfield 82, 3) := by decide +kernel
theorem dX11_found_9 : decode cX11_found 9 = .ok (.invokevirtual 244, 3) := by decide +kernel
theorem dX11_found_12 : decode cX11_found 12 = .ok (.if_icmp .lt 13, 3) := by decide +kernel
theorem dX11_found_15 : decode cX11_found 15 = .ok (.new 220, 3) := by decide +kernel
theorem dX11_found_18 : decode cX11_found 18 = .ok (.dup, 1) := by decide +kernel
theorem dX11_found_19 : decode cX11_found 19 = .ok (.ldc 245, 2) := by decide +kernel
theorem dX11_found_21 : decode cX11_found 21 = .ok (.invokespecial 224, 3) := by decide +kernel
theorem dX11_found_24 : decode cX11_found 24 = .ok (.athrow, 1) := by decide +kernel
theorem dX11_replace_0 : decode cX11_replace 0 = .ok (.aload_n 0, 1) := by decide +kernel
theorem dX11_replace_1 : decode cX11_replace 1 = .ok (.iload_n 1, 1) := by decide +kernel
theorem dX11_replace_2 : decode cX11_replace 2 = .ok (.invokevirtual 124, 3) := by decide +kernel
theorem dX11_replace_5 : decode cX11_replace 5 = .ok (.aload_n 0, 1) := by decide +kernel
theorem dX11_replace_6 : decode cX11_replace 6 = .ok (.getfield 41, 3) := by decide +kernel
theorem dX11_replace_9 : decode cX11_replace 9 = .ok (.aload_n 0, 1) := by decide +kernel
theorem dX11_replace_10 : decode cX11_replace 10 = .ok (.iload_n 1, 1) := by decide +kernel
theorem dX11_replace_11 : decode cX11_replace 11 = .ok (.invokevirtual 168, 3) := by decide +kernel
theorem dX11_outSign_0 : decode cX11_outSign 0 = .ok (.iload_n 1, 1) := by decide +kernel
theorem dX11_outSign_1 : decode cX11_outSign 1 = .ok (.ifCond .lt 14, 3) := by decide +kernel
theorem dX11_outSign_4 : decode cX11_outSign 4 = .ok (.iload_n 1, 1) := by decide +kernel
theorem dX11_outSign_5 : decode cX11_outSign 5 = .ok (.aload_n 0, 1) := by decide +kernel
theorem dX11_outSign_6 : decode cX11_outSign 6 = .ok (.getfield 88, 3) := by decide +kernel
theorem dX11_outSign_9 : decode cX11_outSign 9 = .ok (.invokevirtual 262, 3) := by decide +kernel
theorem dX11_outSign_12 : decode cX11_outSign 12 = .ok (.if_icmp .lt 14, 3) := by decide +kernel
theorem dX11_outSign_15 : decode cX11_outSign 15 = .ok (.new 220, 3) := by decide +kernel
theorem dX11_outSign_18 : decode cX11_outSign 18 = .ok (.dup, 1) := by decide +kernel
theorem dX11_outSign_19 : decode cX11_outSign 19 = .ok (.ldc_w 263, 3) := by decide +kernel
theorem dX11_outSign_22 : decode cX11_outSign 22 = .ok (.invokespecial 224, 3) := by decide +kernel
theorem dX11_outSign_25 : decode cX11_outSign 25 = .ok (.athrow, 1) := by decide +kernel
theorem dX11_needPattern_0 : decode cX11_needPattern 0 = .ok (.iload_n 1, 1) := by decide +kernel
theorem dX11_needPattern_1 : decode cX11_needPattern 1 = .ok (.ifCond .lt 8, 3) := by decide +kernel
theorem dX11_needPattern_4 : decode cX11_needPattern 4 = .ok (.iload_n 1, 1) := by decide +kernel
theorem dX11_needPattern_5 : decode cX11_needPattern 5 = .ok (.iconst 4, 1) := by decide +kernel
theorem dX11_needPattern_6 : decode cX11_needPattern 6 = .ok (.if_icmp .lt 14, 3) := by decide +kernel
theorem dX11_needPattern_9 : decode cX11_needPattern 9 = .ok (.new 220, 3) := by decide +kernel
theorem dX11_needPattern_12 : decode cX11_needPattern 12 = .ok (.dup, 1) := by decide +kernel
theorem dX11_needPattern_13 : decode cX11_needPattern 13 = .ok (.ldc_w 268, 3) := by decide +kernel
theorem dX11_needPattern_16 : decode cX11_needPattern 16 = .ok (.invokespecial 224, 3) := by decide +kernel
theorem dX11_needPattern_19 : decode cX11_needPattern 19 = .ok (.athrow, 1) := by decide +kernel
theorem dX11_needPattern_20 : decode cX11_needPattern 20 = .ok (.return_, 1) := by decide +kernel
theorem dX11_needPlace_0 : decode cX11_needPlace 0 = .ok (.iload_n 1, 1) := by decide +kernel
theorem dX11_needPlace_1 : decode cX11_needPlace 1 = .ok (.ifCond .lt 14, 3) := by decide +kernel
theorem dX11_needPlace_4 : decode cX11_needPlace 4 = .ok (.iload_n 1, 1) := by decide +kernel
theorem dX11_needPlace_5 : decode cX11_needPlace 5 = .ok (.aload_n 0, 1) := by decide +kernel
theorem dX11_needPlace_6 : decode cX11_needPlace 6 = .ok (.getfield 16, 3) := by decide +kernel
theorem dX11_needPlace_9 : decode cX11_needPlace 9 = .ok (.invokevirtual 146, 3) := by decide +kernel
theorem dX11_needPlace_12 : decode cX11_needPlace 12 = .ok (.if_icmp .le 14, 3) := by decide +kernel
theorem dX11_needPlace_15 : decode cX11_needPlace 15 = .ok (.new 220, 3) := by decide +kernel
theorem dX11_needPlace_18 : decode cX11_needPlace 18 = .ok (.dup, 1) := by decide +kernel
theorem dX11_needPlace_19 : decode cX11_needPlace 19 = .ok (.ldc_w 270, 3) := by decide +kernel
theorem dX11_needPlace_22 : decode cX11_needPlace 22 = .ok (.invokespecial 224, 3) := by decide +kernel
theorem dX11_needPlace_25 : decode cX11_needPlace 25 = .ok (.athrow, 1) := by decide +kernel
theorem dX11_needPlace_26 : decode cX11_needPlace 26 = .ok (.return_, 1) := by decide +kernel
theorem dX11_toldOne_0 : decode cX11_toldOne 0 = .ok (.iload_n 1, 1) := by decide +kernel
theorem dX11_toldOne_1 : decode cX11_toldOne 1 = .ok (.ifCond .lt 20, 3) := by decide +kernel
theorem dX11_toldOne_4 : decode cX11_toldOne 4 = .ok (.iload_n 1, 1) := by decide +kernel
theorem dX11_toldOne_5 : decode cX11_toldOne 5 = .ok (.iconst 4, 1) := by decide +kernel
theorem dX11_toldOne_6 : decode cX11_toldOne 6 = .ok (.if_icmp .ge 15, 3) := by decide +kernel
theorem dX11_toldOne_9 : decode cX11_toldOne 9 = .ok (.aload_n 0, 1) := by decide +kernel
theorem dX11_toldOne_10 : decode cX11_toldOne 10 = .ok (.getfield 22, 3) := by decide +kernel
theorem dX11_toldOne_13 : decode cX11_toldOne 13 = .ok (.iload_n 1, 1) := by decide +kernel
theorem dX11_toldOne_14 : decode cX11_toldOne 14 = .ok (.aaload, 1) := by decide +kernel
theorem dX11_toldOne_15 : decode cX11_toldOne 15 = .ok (.getfield 133, 3) := by decide +kernel
theorem dX11_toldOne_18 : decode cX11_toldOne 18 = .ok (.ifCond .ne 14, 3) := by decide +kernel
theorem dX11_toldOne_21 : decode cX11_toldOne 21 = .ok (.new 119, 3) := by decide +kernel
theorem dX11_toldOne_24 : decode cX11_toldOne 24 = .ok (.dup, 1) := by decide +kernel
theorem dX11_toldOne_25 : decode cX11_toldOne 25 = .ok (.ldc_w 272, 3) := by decide +kernel
theorem dX11_toldOne_28 : decode cX11_toldOne 28 = .ok (.invokespecial 123, 3) := by decide +kernel
theorem dX11_toldOne_31 : decode cX11_toldOne 31 = .ok (.athrow, 1) := by decide +kernel
theorem dX11_needPlain_0 : decode cX11_needPlain 0 = .ok (.aload_n 0, 1) := by decide +kernel
theorem dX11_needPlain_1 : decode cX11_needPlain 1 = .ok (.iload_n 1, 1) := by decide +kernel
theorem dX11_needPlain_2 : decode cX11_needPlain 2 = .ok (.invokevirtual 168, 3) := by decide +kernel
theorem dX11_needRegular_0 : decode cX11_needRegular 0 = .ok (.aload_n 0, 1) := by decide +kernel
theorem dX11_needRegular_1 : decode cX11_needRegular 1 = .ok (.iload_n 1, 1) := by decide +kernel
theorem dX11_needRegular_2 : decode cX11_needRegular 2 = .ok (.invokevirtual 168, 3) := by decide +kernel
theorem dX14_init_0 : decode cX14_init 0 = .ok (.aload_n 0, 1) := by decide +kernel
theorem dX14_init_1 : decode cX14_init 1 = .ok (.invokespecial 3, 3) := by decide +kernel
theorem dX14_init_4 : decode cX14_init 4 = .ok (.aload_n 0, 1) := by decide +kernel
theorem dX14_init_5 : decode cX14_init 5 = .ok (.new 9, 3) := by decide +kernel
theorem dX14_init_8 : decode cX14_init 8 = .ok (.dup, 1) := by decide +kernel
theorem dX14_init_9 : decode cX14_init 9 = .ok (.invokespecial 11, 3) := by decide +kernel
theorem dX14_init_12 : decode cX14_init 12 = .ok (.putfield 12, 3) := by decide +kernel
theorem dX14_init_15 : decode cX14_init 15 = .ok (.aload_n 0, 1) := by decide +kernel
theorem dX14_init_16 : decode cX14_init 16 = .ok (.iload_n 1, 1) := by decide +kernel
theorem dX14_init_17 : decode cX14_init 17 = .ok (.putfield 18, 3) := by decide +kernel
theorem dX14_init_20 : decode cX14_init 20 = .ok (.return_, 1) := by decide +kernel
theorem dX15_init_0 : decode cX15_init 0 = .ok (.aload_n 0, 1) := by decide +kernel
theorem dX15_init_1 : decode cX15_init 1 = .ok (.invokespecial 3, 3) := by decide +kernel
theorem dX15_init_4 : decode cX15_init 4 = .ok (.aload_n 0, 1) := by decide +kernel
theorem dX15_init_5 : decode cX15_init 5 = .ok (.bipush 7, 2) := by decide +kernel
theorem dX15_init_7 : decode cX15_init 7 = .ok (.anewarray 9, 3) := by decide +kernel
theorem dX15_init_10 : decode cX15_init 10 = .ok (.putfield 11, 3) := by decide +kernel
theorem dX15_init_13 : decode cX15_init 13 = .ok (.return_, 1) := by decide +kernel
theorem dX16_init_0 : decode cX16_init 0 = .ok (.aload_n 0, 1) := by decide +kernel
theorem dX16_init_1 : decode cX16_init 1 = .ok (.invokespecial 3, 3) := by decide +kernel
theorem dX16_init_4 : decode cX16_init 4 = .ok (.aload_n 0, 1) := by decide +kernel
theorem dX16_init_5 : decode cX16_init 5 = .ok (.new 9, 3) := by decide +kernel
theorem dX16_init_8 : decode cX16_init 8 = .ok (.dup, 1) := by decide +kernel
theorem dX16_init_9 : decode cX16_init 9 = .ok (.invokespecial 11, 3) := by decide +kernel
theorem dX16_init_12 : decode cX16_init 12 = .ok (.putfield 12, 3) := by decide +kernel
theorem dX16_init_15 : decode cX16_init 15 = .ok (.aload_n 0, 1) := by decide +kernel
theorem dX16_init_16 : decode cX16_init 16 = .ok (.aload_n 1, 1) := by decide +kernel
theorem dX16_init_17 : decode cX16_init 17 = .ok (.putfield 18, 3) := by decide +kernel
theorem dX16_init_20 : decode cX16_init 20 = .ok (.aload_n 0, 1) := by decide +kernel
theorem dX16_init_21 : decode cX16_init 21 = .ok (.iload_n 2, 1) := by decide +kernel
theorem dX16_init_22 : decode cX16_init 22 = .ok (.putfield 22, 3) := by decide +kernel
theorem dX16_init_25 : decode cX16_init 25 = .ok (.return_, 1) := by decide +kernel
theorem dX16_all_0 : decode cX16_all 0 = .ok (.aload_n 0, 1) := by decide +kernel
theorem dX16_all_1 : decode cX16_all 1 = .ok (.getfield 12, 3) := by decide +kernel
theorem dX16_all_4 : decode cX16_all 4 = .ok (.new 26, 3) := by decide +kernel
theorem dX16_all_7 : decode cX16_all 7 = .ok (.dup, 1) := by decide +kernel
theorem dX16_all_8 : decode cX16_all 8 = .ok (.bipush 6, 2) := by decide +kernel
theorem dX16_all_10 : decode cX16_all 10 = .ok (.invokespecial 28, 3) := by decide +kernel
theorem dX16_all_13 : decode cX16_all 13 = .ok (.putfield 31, 3) := by decide +kernel
theorem dX16_all_16 : decode cX16_all 16 = .ok (.aload_n 0, 1) := by decide +kernel
theorem dX16_all_17 : decode cX16_all 17 = .ok (.aload_n 0, 1) := by decide +kernel
theorem dX16_all_18 : decode cX16_all 18 = .ok (.getfield 12, 3) := by decide +kernel
theorem dX16_all_21 : decode cX16_all 21 = .ok (.getfield 31, 3) := by decide +kernel
theorem dX16_all_24 : decode cX16_all 24 = .ok (.bipush 99, 2) := by decide +kernel
theorem dX16_all_26 : decode cX16_all 26 = .ok (.iconst 0, 1) := by decide +kernel
theorem dX16_all_27 : decode cX16_all 27 = .ok (.invokevirtual 35, 3) := by decide +kernel
theorem dX16_all_30 : decode cX16_all 30 = .ok (.aload_n 0, 1) := by decide +kernel
theorem dX16_all_31 : decode cX16_all 31 = .ok (.getfield 39, 3) := by decide +kernel
theorem dX16_all_34 : decode cX16_all 34 = .ok (.aload_n 0, 1) := by decide +kernel
theorem dX16_all_35 : decode cX16_all 35 = .ok (.getfield 22, 3) := by decide +kernel
theorem dX16_all_38 : decode cX16_all 38 = .ok (.if_icmp .ge 15, 3) := by decide +kernel
theorem dX16_all_53 : decode cX16_all 53 = .ok (.aload_n 0, 1) := by decide +kernel
theorem dX16_all_54 : decode cX16_all 54 = .ok (.getfield 45, 3) := by decide +kernel
theorem dX16_all_57 : decode cX16_all 57 = .ok (.aload_n 0, 1) := by decide +kernel
theorem dX16_all_58 : decode cX16_all 58 = .ok (.getfield 48, 3) := by decide +kernel
theorem dX16_all_61 : decode cX16_all 61 = .ok (.if_icmp .le 17, 3) := by decide +kernel
theorem dX16_all_78 : decode cX16_all 78 = .ok (.aload_n 0, 1) := by decide +kernel
theorem dX16_all_79 : decode cX16_all 79 = .ok (.getfield 12, 3) := by decide +kernel
theorem dX16_all_82 : decode cX16_all 82 = .ok (.aload_n 0, 1) := by decide +kernel
theorem dX16_all_83 : decode cX16_all 83 = .ok (.getfield 48, 3) := by decide +kernel
theorem dX16_all_86 : decode cX16_all 86 = .ok (.putfield 51, 3) := by decide +kernel
theorem dX16_all_89 : decode cX16_all 89 = .ok (.aload_n 0, 1) := by decide +kernel
theorem dX16_all_90 : decode cX16_all 90 = .ok (.getfield 12, 3) := by decide +kernel
theorem dX16_all_93 : decode cX16_all 93 = .ok (.areturn, 1) := by decide +kernel
theorem dX16_here_0 : decode cX16_here 0 = .ok (.aload_n 0, 1) := by decide +kernel
theorem dX16_here_1 : decode cX16_here 1 = .ok (.getfield 39, 3) := by decide +kernel
theorem dX16_here_4 : decode cX16_here 4 = .ok (.aload_n 0, 1) := by decide +kernel
theorem dX16_here_5 : decode cX16_here 5 = .ok (.getfield 22, 3) := by decide +kernel
theorem dX16_here_8 : decode cX16_here 8 = .ok (.if_icmp .ge 15, 3) := by decide +kernel
theorem dX16_here_23 : decode cX16_here 23 = .ok (.iconst (-1), 1) := by decide +kernel
theorem dX16_here_24 : decode cX16_here 24 = .ok (.ireturn, 1) := by decide +kernel
theorem dX16_branches_0 : decode cX16_branches 0 = .ok (.aload_n 0, 1) := by decide +kernel
theorem dX16_branches_1 : decode cX16_branches 1 = .ok (.getfield 58, 3) := by decide +kernel
theorem dX16_branches_4 : decode cX16_branches 4 = .ok (.istore 4, 2) := by decide +kernel
theorem dX16_branches_6 : decode cX16_branches 6 = .ok (.aload_n 0, 1) := by decide +kernel
theorem dX16_branches_7 : decode cX16_branches 7 = .ok (.getfield 58, 3) := by decide +kernel
theorem dX16_branches_10 : decode cX16_branches 10 = .ok (.istore 5, 2) := by decide +kernel
theorem dX16_branches_12 : decode cX16_branches 12 = .ok (.iconst 1, 1) := by decide +kernel
theorem dX16_branches_13 : decode cX16_branches 13 = .ok (.istore 6, 2) := by decide +kernel
theorem dX16_branches_15 : decode cX16_branches 15 = .ok (.iload 6, 2) := by decide +kernel
theorem dX16_branches_17 : decode cX16_branches 17 = .ok (.ifCond .eq 141, 3) := by decide +kernel
theorem dX16_branches_20 : decode cX16_branches 20 = .ok (.aload_n 0, 1) := by decide +kernel
theorem dX16_branches_21 : decode cX16_branches 21 = .ok (.iload_n 3, 1) := by decide +kernel
theorem dX16_branches_22 : decode cX16_branches 22 = .ok (.ifCond .eq 8, 3) := by decide +kernel
theorem dX16_branches_30 : decode cX16_branches 30 = .ok (.aload_n 0, 1) := by decide +kernel
theorem dX16_branches_31 : decode cX16_branches 31 = .ok (.getfield 58, 3) := by decide +kernel
theorem dX16_branches_34 : decode cX16_branches 34 = .ok (.putfield 58, 3) := by decide +kernel
theorem dX16_branches_37 : decode cX16_branches 37 = .ok (.new 59, 3) := by decide +kernel
theorem dX16_branches_40 : decode cX16_branches 40 = .ok (.dup, 1) := by decide +kernel
theorem dX16_branches_41 : decode cX16_branches 41 = .ok (.invokespecial 61, 3) := by decide +kernel
theorem dX16_branches_44 : decode cX16_branches 44 = .ok (.astore 7, 2) := by decide +kernel
theorem dX16_branches_46 : decode cX16_branches 46 = .ok (.aload_n 0, 1) := by decide +kernel
theorem dX16_branches_47 : decode cX16_branches 47 = .ok (.getfield 39, 3) := by decide +kernel
theorem dX16_branches_50 : decode cX16_branches 50 = .ok (.aload_n 0, 1) := by decide +kernel
theorem dX16_branches_51 : decode cX16_branches 51 = .ok (.getfield 22, 3) := by decide +kernel
theorem dX16_branches_54 : decode cX16_branches 54 = .ok (.if_icmp .ge 34, 3) := by decide +kernel
theorem dX16_branches_88 : decode cX16_branches 88 = .ok (.iload 5, 2) := by decide +kernel
theorem dX16_branches_90 : decode cX16_branches 90 = .ok (.aload_n 0, 1) := by decide +kernel
theorem dX16_branches_91 : decode cX16_branches 91 = .ok (.getfield 58, 3) := by decide +kernel
theorem dX16_branches_94 : decode cX16_branches 94 = .ok (.invokestatic 73, 3) := by decide +kernel
theorem dX16_branches_97 : decode cX16_branches 97 = .ok (.istore 5, 2) := by decide +kernel
theorem dX16_branches_99 : decode cX16_branches 99 = .ok (.aload_n 1, 1) := by decide +kernel
theorem dX16_branches_100 : decode cX16_branches 100 = .ok (.getfield 79, 3) := by decide +kernel
theorem dX16_branches_103 : decode cX16_branches 103 = .ok (.aload 7, 2) := by decide +kernel
theorem dX16_branches_105 : decode cX16_branches 105 = .ok (.invokevirtual 69, 3) := by decide +kernel
theorem dX16_branches_108 : decode cX16_branches 108 = .ok (.pop, 1) := by decide +kernel
theorem dX16_branches_109 : decode cX16_branches 109 = .ok (.aload_n 0, 1) := by decide +kernel
theorem dX16_branches_110 : decode cX16_branches 110 = .ok (.invokevirtual 62, 3) := by decide +kernel
theorem dX16_branches_113 : decode cX16_branches 113 = .ok (.bipush 124, 2) := by decide +kernel
theorem dX16_branches_115 : decode cX16_branches 115 = .ok (.if_icmp .ne 18, 3) := by decide +kernel
theorem dX16_branches_133 : decode cX16_branches 133 = .ok (.iconst 0, 1) := by decide +kernel
theorem dX16_branches_134 : decode cX16_branches 134 = .ok (.istore 6, 2) := by decide +kernel
theorem dX16_branches_136 : decode cX16_branches 136 = .ok (.aload_n 0, 1) := by decide +kernel
theorem dX16_branches_137 : decode cX16_branches 137 = .ok (.dup, 1) := by decide +kernel
theorem dX16_branches_138 : decode cX16_branches 138 = .ok (.getfield 39, 3) := by decide +kernel
theorem dX16_branches_141 : decode cX16_branches 141 = .ok (.iload 6, 2) := by decide +kernel
theorem dX16_branches_143 : decode cX16_branches 143 = .ok (.ifCond .eq 7, 3) := by decide +kernel
theorem dX16_branches_150 : decode cX16_branches 150 = .ok (.iconst 0, 1) := by decide +kernel
theorem dX16_branches_151 : decode cX16_branches 151 = .ok (.iadd, 1) := by decide +kernel
theorem dX16_branches_152 : decode cX16_branches 152 = .ok (.putfield 39, 3) := by decide +kernel
theorem dX16_branches_155 : decode cX16_branches 155 = .ok (.goto (-140), 3) := by decide +kernel
theorem dX16_branches_158 : decode cX16_branches 158 = .ok (.aload_n 0, 1) := by decide +kernel
theorem dX16_branches_159 : decode cX16_branches 159 = .ok (.iload_n 3, 1) := by decide +kernel
theorem dX16_branches_160 : decode cX16_branches 160 = .ok (.ifCond .eq 8, 3) := by decide +kernel
theorem dX16_branches_168 : decode cX16_branches 168 = .ok (.aload_n 0, 1) := by decide +kernel
theorem dX16_branches_169 : decode cX16_branches 169 = .ok (.getfield 58, 3) := by decide +kernel
theorem dX16_branches_172 : decode cX16_branches 172 = .ok (.putfield 58, 3) := by decide +kernel
theorem dX16_branches_175 : decode cX16_branches 175 = .ok (.return_, 1) := by decide +kernel
theorem dX21_bit_0 : decode cX21_bit 0 = .ok (.iload_n 0, 1) := by decide +kernel
theorem dX21_bit_1 : decode cX21_bit 1 = .ok (.bipush 97, 2) := by decide +kernel
theorem dX21_bit_3 : decode cX21_bit 3 = .ok (.if_icmp .lt 16, 3) := by decide +kernel
theorem dX21_bit_6 : decode cX21_bit 6 = .ok (.iload_n 0, 1) := by decide +kernel
theorem dX21_bit_7 : decode cX21_bit 7 = .ok (.bipush 122, 2) := by decide +kernel
theorem dX21_bit_9 : decode cX21_bit 9 = .ok (.if_icmp .gt 10, 3) := by decide +kernel
theorem dX21_bit_12 : decode cX21_bit 12 = .ok (.iload_n 0, 1) := by decide +kernel
theorem dX21_bit_13 : decode cX21_bit 13 = .ok (.bipush 97, 2) := by decide +kernel
theorem dX21_bit_15 : decode cX21_bit 15 = .ok (.isub, 1) := by decide +kernel
theorem dX21_bit_16 : decode cX21_bit 16 = .ok (.goto 70, 3) := by decide +kernel
theorem dX21_bit_19 : decode cX21_bit 19 = .ok (.iload_n 0, 1) := by decide +kernel
theorem dX21_bit_20 : decode cX21_bit 20 = .ok (.bipush 65, 2) := by decide +kernel
theorem dX21_bit_22 : decode cX21_bit 22 = .ok (.if_icmp .lt 19, 3) := by decide +kernel
theorem dX21_bit_25 : decode cX21_bit 25 = .ok (.iload_n 0, 1) := by decide +kernel
theorem dX21_bit_26 : decode cX21_bit 26 = .ok (.bipush 90, 2) := by decide +kernel
theorem dX21_bit_28 : decode cX21_bit 28 = .ok (.if_icmp .gt 13, 3) := by decide +kernel
theorem dX21_bit_31 : decode cX21_bit 31 = .ok (.bipush 26, 2) := by decide +kernel
theorem dX21_bit_33 : decode cX21_bit 33 = .ok (.iload_n 0, 1) := by decide +kernel
theorem dX21_bit_34 : decode cX21_bit 34 = .ok (.iadd, 1) := by decide +kernel
theorem dX21_bit_35 : decode cX21_bit 35 = .ok (.bipush 65, 2) := by decide +kernel
theorem dX21_bit_37 : decode cX21_bit 37 = .ok (.isub, 1) := by decide +kernel
theorem dX21_bit_38 : decode cX21_bit 38 = .ok (.goto 48, 3) := by decide +kernel
theorem dX21_bit_41 : decode cX21_bit 41 = .ok (.iload_n 0, 1) := by decide +kernel
theorem dX21_bit_42 : decode cX21_bit 42 = .ok (.bipush 48, 2) := by decide +kernel
theorem dX21_bit_44 : decode cX21_bit 44 = .ok (.if_icmp .lt 19, 3) := by decide +kernel
theorem dX21_bit_47 : decode cX21_bit 47 = .ok (.iload_n 0, 1) := by decide +kernel
theorem dX21_bit_48 : decode cX21_bit 48 = .ok (.bipush 57, 2) := by decide +kernel
theorem dX21_bit_50 : decode cX21_bit 50 = .ok (.if_icmp .gt 13, 3) := by decide +kernel
theorem dX21_bit_53 : decode cX21_bit 53 = .ok (.bipush 52, 2) := by decide +kernel
theorem dX21_bit_55 : decode cX21_bit 55 = .ok (.iload_n 0, 1) := by decide +kernel
theorem dX21_bit_56 : decode cX21_bit 56 = .ok (.iadd, 1) := by decide +kernel
theorem dX21_bit_57 : decode cX21_bit 57 = .ok (.bipush 48, 2) := by decide +kernel
theorem dX21_bit_59 : decode cX21_bit 59 = .ok (.isub, 1) := by decide +kernel
theorem dX21_bit_60 : decode cX21_bit 60 = .ok (.goto 26, 3) := by decide +kernel
theorem dX21_bit_63 : decode cX21_bit 63 = .ok (.iload_n 0, 1) := by decide +kernel
theorem dX21_bit_64 : decode cX21_bit 64 = .ok (.bipush 95, 2) := by decide +kernel
theorem dX21_bit_66 : decode cX21_bit 66 = .ok (.if_icmp .ne 8, 3) := by decide +kernel
theorem dX21_bit_69 : decode cX21_bit 69 = .ok (.bipush 62, 2) := by decide +kernel
theorem dX21_bit_71 : decode cX21_bit 71 = .ok (.goto 15, 3) := by decide +kernel
theorem dX21_bit_74 : decode cX21_bit 74 = .ok (.iload_n 0, 1) := by decide +kernel
theorem dX21_bit_75 : decode cX21_bit 75 = .ok (.bipush 32, 2) := by decide +kernel
theorem dX21_bit_77 : decode cX21_bit 77 = .ok (.if_icmp .ne 8, 3) := by decide +kernel
theorem dX21_bit_80 : decode cX21_bit 80 = .ok (.bipush 63, 2) := by decide +kernel
theorem dX21_bit_82 : decode cX21_bit 82 = .ok (.goto 4, 3) := by decide +kernel
theorem dX21_bit_85 : decode cX21_bit 85 = .ok (.iconst (-1), 1) := by decide +kernel
theorem dX21_bit_86 : decode cX21_bit 86 = .ok (.ireturn, 1) := by decide +kernel
theorem dX21_isDraftSign_0 : decode cX21_isDraftSign 0 = .ok (.iload_n 0, 1) := by decide +kernel
theorem dX21_isDraftSign_1 : decode cX21_isDraftSign 1 = .ok (.invokestatic 3, 3) := by decide +kernel
theorem dX21_isDraftSign_4 : decode cX21_isDraftSign 4 = .ok (.ifCond .ge 12, 3) := by decide +kernel
theorem dX21_isDraftSign_7 : decode cX21_isDraftSign 7 = .ok (.ldc 7, 2) := by decide +kernel
theorem dX21_isDraftSign_9 : decode cX21_isDraftSign 9 = .ok (.iload_n 0, 1) := by decide +kernel
theorem dX21_isDraftSign_10 : decode cX21_isDraftSign 10 = .ok (.invokevirtual 9, 3) := by decide +kernel
theorem dX21_isDraftSign_13 : decode cX21_isDraftSign 13 = .ok (.ifCond .lt 7, 3) := by decide +kernel
theorem dX21_isDraftSign_16 : decode cX21_isDraftSign 16 = .ok (.iconst 1, 1) := by decide +kernel
theorem dX21_isDraftSign_17 : decode cX21_isDraftSign 17 = .ok (.goto 4, 3) := by decide +kernel
theorem dX21_isDraftSign_20 : decode cX21_isDraftSign 20 = .ok (.iconst 0, 1) := by decide +kernel
theorem dX21_isDraftSign_21 : decode cX21_isDraftSign 21 = .ok (.ireturn, 1) := by decide +kernel
theorem dX21_isPlain_0 : decode cX21_isPlain 0 = .ok (.aload_n 0, 1) := by decide +kernel
theorem dX21_isPlain_1 : decode cX21_isPlain 1 = .ok (.getfield 16, 3) := by decide +kernel
theorem dX21_isPlain_4 : decode cX21_isPlain 4 = .ok (.bipush 13, 2) := by decide +kernel
theorem dX21_isPlain_6 : decode cX21_isPlain 6 = .ok (.if_icmp .ne 63, 3) := by decide +kernel
theorem dX21_isPlain_69 : decode cX21_isPlain 69 = .ok (.aload_n 0, 1) := by decide +kernel
theorem dX21_isPlain_70 : decode cX21_isPlain 70 = .ok (.getfield 16, 3) := by decide +kernel
theorem dX21_isPlain_73 : decode cX21_isPlain 73 = .ok (.bipush 6, 2) := by decide +kernel
theorem dX21_isPlain_75 : decode cX21_isPlain 75 = .ok (.if_icmp .gt 7, 3) := by decide +kernel
theorem dX21_isPlain_78 : decode cX21_isPlain 78 = .ok (.iconst 1, 1) := by decide +kernel
theorem dX21_isPlain_79 : decode cX21_isPlain 79 = .ok (.goto 4, 3) := by decide +kernel
theorem dX21_isPlain_83 : decode cX21_isPlain 83 = .ok (.istore_n 1, 1) := by decide +kernel
theorem dX21_isPlain_84 : decode cX21_isPlain 84 = .ok (.aload_n 0, 1) := by decide +kernel
theorem dX21_isPlain_85 : decode cX21_isPlain 85 = .ok (.getfield 33, 3) := by decide +kernel
theorem dX21_isPlain_88 : decode cX21_isPlain 88 = .ok (.invokevirtual 37, 3) := by decide +kernel
theorem dX21_isPlain_91 : decode cX21_isPlain 91 = .ok (.astore_n 2, 1) := by decide +kernel
theorem dX21_isPlain_92 : decode cX21_isPlain 92 = .ok (.aload_n 2, 1) := by decide +kernel
theorem dX21_isPlain_93 : decode cX21_isPlain 93 = .ok (.invokeinterface 43 1, 5) := by decide +kernel
theorem dX21_isPlain_98 : decode cX21_isPlain 98 = .ok (.ifCond .eq 55, 3) := by decide +kernel
theorem dX21_isPlain_101 : decode cX21_isPlain 101 = .ok (.aload_n 2, 1) := by decide +kernel
theorem dX21_isPlain_102 : decode cX21_isPlain 102 = .ok (.invokeinterface 49 1, 5) := by decide +kernel
theorem dX21_isPlain_107 : decode cX21_isPlain 107 = .ok (.checkcast 38, 3) := by decide +kernel
theorem dX21_isPlain_110 : decode cX21_isPlain 110 = .ok (.astore_n 3, 1) := by decide +kernel
theorem dX21_isPlain_111 : decode cX21_isPlain 111 = .ok (.aload_n 3, 1) := by decide +kernel
theorem dX21_isPlain_112 : decode cX21_isPlain 112 = .ok (.invokevirtual 37, 3) := by decide +kernel
theorem dX21_isPlain_115 : decode cX21_isPlain 115 = .ok (.astore 4, 2) := by decide +kernel
theorem dX21_isPlain_117 : decode cX21_isPlain 117 = .ok (.aload 4, 2) := by decide +kernel
theorem dX21_isPlain_119 : decode cX21_isPlain 119 = .ok (.invokeinterface 43 1, 5) := by decide +kernel
theorem dX21_isPlain_124 : decode cX21_isPlain 124 = .ok (.ifCond .eq 26, 3) := by decide +kernel
theorem dX21_isPlain_150 : decode cX21_isPlain 150 = .ok (.goto (-58), 3) := by decide +kernel
theorem dX21_isPlain_153 : decode cX21_isPlain 153 = .ok (.iload_n 1, 1) := by decide +kernel
theorem dX21_isPlain_154 : decode cX21_isPlain 154 = .ok (.ireturn, 1) := by decide +kernel
theorem dX21_isRegular_0 : decode cX21_isRegular 0 = .ok (.aload_n 0, 1) := by decide +kernel
theorem dX21_isRegular_1 : decode cX21_isRegular 1 = .ok (.getfield 16, 3) := by decide +kernel
theorem dX21_isRegular_4 : decode cX21_isRegular 4 = .ok (.iconst 1, 1) := by decide +kernel
theorem dX21_isRegular_5 : decode cX21_isRegular 5 = .ok (.if_icmp .lt 11, 3) := by decide +kernel
theorem dX21_isRegular_8 : decode cX21_isRegular 8 = .ok (.aload_n 0, 1) := by decide +kernel
theorem dX21_isRegular_9 : decode cX21_isRegular 9 = .ok (.getfield 16, 3) := by decide +kernel
theorem dX21_isRegular_12 : decode cX21_isRegular 12 = .ok (.iconst 4, 1) := by decide +kernel
theorem dX21_isRegular_13 : decode cX21_isRegular 13 = .ok (.if_icmp .le 7, 3) := by decide +kernel
theorem dX21_isRegular_16 : decode cX21_isRegular 16 = .ok (.iconst 1, 1) := by decide +kernel
theorem dX21_isRegular_17 : decode cX21_isRegular 17 = .ok (.goto 4, 3) := by decide +kernel
theorem dX21_isRegular_21 : decode cX21_isRegular 21 = .ok (.istore_n 1, 1) := by decide +kernel
theorem dX21_isRegular_22 : decode cX21_isRegular 22 = .ok (.iload_n 1, 1) := by decide +kernel
theorem dX21_isRegular_23 : decode cX21_isRegular 23 = .ok (.aload_n 0, 1) := by decide +kernel
theorem dX21_isRegular_24 : decode cX21_isRegular 24 = .ok (.getfield 16, 3) := by decide +kernel
theorem dX21_isRegular_27 : decode cX21_isRegular 27 = .ok (.bipush 13, 2) := by decide +kernel
theorem dX21_isRegular_29 : decode cX21_isRegular 29 = .ok (.if_icmp .ne 13, 3) := by decide +kernel
theorem dX21_isRegular_42 : decode cX21_isRegular 42 = .ok (.iconst 1, 1) := by decide +kernel
theorem dX21_isRegular_43 : decode cX21_isRegular 43 = .ok (.goto 4, 3) := by decide +kernel
theorem dX21_isRegular_47 : decode cX21_isRegular 47 = .ok (.iand, 1) := by decide +kernel
theorem dX21_isRegular_48 : decode cX21_isRegular 48 = .ok (.istore_n 1, 1) := by decide +kernel
theorem dX21_isRegular_49 : decode cX21_isRegular 49 = .ok (.aload_n 0, 1) := by decide +kernel
theorem dX21_isRegular_50 : decode cX21_isRegular 50 = .ok (.getfield 33, 3) := by decide +kernel
theorem dX21_isRegular_53 : decode cX21_isRegular 53 = .ok (.invokevirtual 37, 3) := by decide +kernel
theorem dX21_isRegular_56 : decode cX21_isRegular 56 = .ok (.astore_n 2, 1) := by decide +kernel
theorem dX21_isRegular_57 : decode cX21_isRegular 57 = .ok (.aload_n 2, 1) := by decide +kernel
theorem dX21_isRegular_58 : decode cX21_isRegular 58 = .ok (.invokeinterface 43 1, 5) := by decide +kernel
theorem dX21_isRegular_63 : decode cX21_isRegular 63 = .ok (.ifCond .eq 55, 3) := by decide +kernel
theorem dX21_isRegular_66 : decode cX21_isRegular 66 = .ok (.aload_n 2, 1) := by decide +kernel
theorem dX21_isRegular_67 : decode cX21_isRegular 67 = .ok (.invokeinterface 49 1, 5) := by decide +kernel
theorem dX21_isRegular_72 : decode cX21_isRegular 72 = .ok (.checkcast 38, 3) := by decide +kernel
theorem dX21_isRegular_75 : decode cX21_isRegular 75 = .ok (.astore_n 3, 1) := by decide +kernel
theorem dX21_isRegular_76 : decode cX21_isRegular 76 = .ok (.aload_n 3, 1) := by decide +kernel
theorem dX21_isRegular_77 : decode cX21_isRegular 77 = .ok (.invokevirtual 37, 3) := by decide +kernel
theorem dX21_isRegular_80 : decode cX21_isRegular 80 = .ok (.astore 4, 2) := by decide +kernel
theorem dX21_isRegular_82 : decode cX21_isRegular 82 = .ok (.aload 4, 2) := by decide +kernel
theorem dX21_isRegular_84 : decode cX21_isRegular 84 = .ok (.invokeinterface 43 1, 5) := by decide +kernel
theorem dX21_isRegular_89 : decode cX21_isRegular 89 = .ok (.ifCond .eq 26, 3) := by decide +kernel
theorem dX21_isRegular_115 : decode cX21_isRegular 115 = .ok (.goto (-58), 3) := by decide +kernel
theorem dX21_isRegular_118 : decode cX21_isRegular 118 = .ok (.iload_n 1, 1) := by decide +kernel
theorem dX21_isRegular_119 : decode cX21_isRegular 119 = .ok (.ireturn, 1) := by decide +kernel
theorem dX21_weight_0 : decode cX21_weight 0 = .ok (.aload_n 0, 1) := by decide +kernel
theorem dX21_weight_1 : decode cX21_weight 1 = .ok (.getfield 16, 3) := by decide +kernel
theorem dX21_weight_4 : decode cX21_weight 4 = .ok (.bipush 13, 2) := by decide +kernel
theorem dX21_weight_6 : decode cX21_weight 6 = .ok (.if_icmp .ne 38, 3) := by decide +kernel
theorem dX21_weight_44 : decode cX21_weight 44 = .ok (.aload_n 0, 1) := by decide +kernel
theorem dX21_weight_45 : decode cX21_weight 45 = .ok (.getfield 16, 3) := by decide +kernel
theorem dX21_weight_48 : decode cX21_weight 48 = .ok (.ifCond .ne 7, 3) := by decide +kernel
theorem dX21_weight_55 : decode cX21_weight 55 = .ok (.lconst 0, 1) := by decide +kernel
theorem dX21_weight_56 : decode cX21_weight 56 = .ok (.lstore_n 1, 1) := by decide +kernel
theorem dX21_weight_57 : decode cX21_weight 57 = .ok (.aload_n 0, 1) := by decide +kernel
theorem dX21_weight_58 : decode cX21_weight 58 = .ok (.getfield 33, 3) := by decide +kernel
theorem dX21_weight_61 : decode cX21_weight 61 = .ok (.invokevirtual 37, 3) := by decide +kernel
theorem dX21_weight_64 : decode cX21_weight 64 = .ok (.astore_n 3, 1) := by decide +kernel
theorem dX21_weight_65 : decode cX21_weight 65 = .ok (.aload_n 3, 1) := by decide +kernel
theorem dX21_weight_66 : decode cX21_weight 66 = .ok (.invokeinterface 43 1, 5) := by decide +kernel
theorem dX21_weight_71 : decode cX21_weight 71 = .ok (.ifCond .eq 57, 3) := by decide +kernel
theorem dX21_weight_74 : decode cX21_weight 74 = .ok (.aload_n 3, 1) := by decide +kernel
theorem dX21_weight_75 : decode cX21_weight 75 = .ok (.invokeinterface 49 1, 5) := by decide +kernel
theorem dX21_weight_80 : decode cX21_weight 80 = .ok (.checkcast 38, 3) := by decide +kernel
theorem dX21_weight_83 : decode cX21_weight 83 = .ok (.astore 4, 2) := by decide +kernel
theorem dX21_weight_85 : decode cX21_weight 85 = .ok (.aload 4, 2) := by decide +kernel
theorem dX21_weight_87 : decode cX21_weight 87 = .ok (.invokevirtual 37, 3) := by decide +kernel
theorem dX21_weight_90 : decode cX21_weight 90 = .ok (.astore 5, 2) := by decide +kernel
theorem dX21_weight_92 : decode cX21_weight 92 = .ok (.aload 5, 2) := by decide +kernel
theorem dX21_weight_94 : decode cX21_weight 94 = .ok (.invokeinterface 43 1, 5) := by decide +kernel
theorem dX21_weight_99 : decode cX21_weight 99 = .ok (.ifCond .eq 26, 3) := by decide +kernel
theorem dX21_weight_125 : decode cX21_weight 125 = .ok (.goto (-60), 3) := by decide +kernel
theorem dX21_weight_128 : decode cX21_weight 128 = .ok (.lload_n 1, 1) := by decide +kernel
theorem dX21_weight_129 : decode cX21_weight 129 = .ok (.lreturn, 1) := by decide +kernel
theorem dX21_init_0 : decode cX21_init 0 = .ok (.aload_n 0, 1) := by decide +kernel
theorem dX21_init_1 : decode cX21_init 1 = .ok (.invokespecial 75, 3) := by decide +kernel
theorem dX21_init_4 : decode cX21_init 4 = .ok (.aload_n 0, 1) := by decide +kernel
theorem dX21_init_5 : decode cX21_init 5 = .ok (.bipush 32, 2) := by decide +kernel
theorem dX21_init_7 : decode cX21_init 7 = .ok (.newarray .int, 2) := by decide +kernel
theorem dX21_init_9 : decode cX21_init 9 = .ok (.putfield 81, 3) := by decide +kernel
theorem dX21_init_12 : decode cX21_init 12 = .ok (.aload_n 0, 1) := by decide +kernel
theorem dX21_init_13 : decode cX21_init 13 = .ok (.bipush 20, 2) := by decide +kernel
theorem dX21_init_15 : decode cX21_init 15 = .ok (.newarray .int, 2) := by decide +kernel
theorem dX21_init_17 : decode cX21_init 17 = .ok (.putfield 85, 3) := by decide +kernel
theorem dX21_init_20 : decode cX21_init 20 = .ok (.aload_n 0, 1) := by decide +kernel
theorem dX21_init_21 : decode cX21_init 21 = .ok (.iconst 4, 1) := by decide +kernel
theorem dX21_init_22 : decode cX21_init 22 = .ok (.anewarray 88, 3) := by decide +kernel
theorem dX21_init_25 : decode cX21_init 25 = .ok (.putfield 90, 3) := by decide +kernel
theorem dX21_init_28 : decode cX21_init 28 = .ok (.aload_n 0, 1) := by decide +kernel
theorem dX21_init_29 : decode cX21_init 29 = .ok (.sipush 250, 3) := by decide +kernel
theorem dX21_init_32 : decode cX21_init 32 = .ok (.putfield 94, 3) := by decide +kernel
theorem dX21_init_35 : decode cX21_init 35 = .ok (.aload_n 0, 1) := by decide +kernel
theorem dX21_init_36 : decode cX21_init 36 = .ok (.bipush 100, 2) := by decide +kernel
theorem dX21_init_38 : decode cX21_init 38 = .ok (.newarray .int, 2) := by decide +kernel
theorem dX21_init_40 : decode cX21_init 40 = .ok (.putfield 97, 3) := by decide +kernel
theorem dX21_init_43 : decode cX21_init 43 = .ok (.aload_n 0, 1) := by decide +kernel
theorem dX21_init_44 : decode cX21_init 44 = .ok (.new 38, 3) := by decide +kernel
theorem dX21_init_47 : decode cX21_init 47 = .ok (.dup, 1) := by decide +kernel
theorem dX21_init_48 : decode cX21_init 48 = .ok (.invokespecial 100, 3) := by decide +kernel
theorem dX21_init_51 : decode cX21_init 51 = .ok (.putfield 101, 3) := by decide +kernel
theorem dX21_init_54 : decode cX21_init 54 = .ok (.aload_n 0, 1) := by decide +kernel
theorem dX21_init_55 : decode cX21_init 55 = .ok (.new 38, 3) := by decide +kernel
theorem dX21_init_58 : decode cX21_init 58 = .ok (.dup, 1) := by decide +kernel
theorem dX21_init_59 : decode cX21_init 59 = .ok (.invokespecial 100, 3) := by decide +kernel
theorem dX21_init_62 : decode cX21_init 62 = .ok (.putfield 104, 3) := by decide +kernel
theorem dX21_init_65 : decode cX21_init 65 = .ok (.aload_n 0, 1) := by decide +kernel
theorem dX21_init_66 : decode cX21_init 66 = .ok (.bipush 14, 2) := by decide +kernel
theorem dX21_init_68 : decode cX21_init 68 = .ok (.newarray .int, 2) := by decide +kernel
theorem dX21_init_70 : decode cX21_init 70 = .ok (.putfield 107, 3) := by decide +kernel
theorem dX21_init_73 : decode cX21_init 73 = .ok (.aload_n 0, 1) := by decide +kernel
theorem dX21_init_74 : decode cX21_init 74 = .ok (.new 38, 3) := by decide +kernel
theorem dX21_init_77 : decode cX21_init 77 = .ok (.dup, 1) := by decide +kernel
theorem dX21_init_78 : decode cX21_init 78 = .ok (.invokespecial 100, 3) := by decide +kernel
theorem dX21_init_81 : decode cX21_init 81 = .ok (.putfield 110, 3) := by decide +kernel
theorem dX21_init_84 : decode cX21_init 84 = .ok (.aload_n 0, 1) := by decide +kernel
theorem dX21_init_85 : decode cX21_init 85 = .ok (.bipush 28, 2) := by decide +kernel
theorem dX21_init_87 : decode cX21_init 87 = .ok (.newarray .int, 2) := by decide +kernel
theorem dX21_init_89 : decode cX21_init 89 = .ok (.putfield 113, 3) := by decide +kernel
theorem dX21_init_92 : decode cX21_init 92 = .ok (.aload_n 0, 1) := by decide +kernel
theorem dX21_init_93 : decode cX21_init 93 = .ok (.bipush 96, 2) := by decide +kernel
theorem dX21_init_95 : decode cX21_init 95 = .ok (.newarray .int, 2) := by decide +kernel
theorem dX21_init_97 : decode cX21_init 97 = .ok (.putfield 116, 3) := by decide +kernel
theorem dX21_init_100 : decode cX21_init 100 = .ok (.aload_n 0, 1) := by decide +kernel
theorem dX21_init_101 : decode cX21_init 101 = .ok (.new 38, 3) := by decide +kernel
theorem dX21_init_104 : decode cX21_init 104 = .ok (.dup, 1) := by decide +kernel
theorem dX21_init_105 : decode cX21_init 105 = .ok (.invokespecial 100, 3) := by decide +kernel
theorem dX21_init_108 : decode cX21_init 108 = .ok (.putfield 119, 3) := by decide +kernel
theorem dX21_init_111 : decode cX21_init 111 = .ok (.aload_n 0, 1) := by decide +kernel
theorem dX21_init_112 : decode cX21_init 112 = .ok (.bipush 64, 2) := by decide +kernel
theorem dX21_init_114 : decode cX21_init 114 = .ok (.newarray .long, 2) := by decide +kernel
theorem dX21_init_116 : decode cX21_init 116 = .ok (.putfield 122, 3) := by decide +kernel
theorem dX21_init_119 : decode cX21_init 119 = .ok (.aload_n 0, 1) := by decide +kernel
theorem dX21_init_120 : decode cX21_init 120 = .ok (.sipush 1024, 3) := by decide +kernel
theorem dX21_init_123 : decode cX21_init 123 = .ok (.newarray .long, 2) := by decide +kernel
theorem dX21_init_125 : decode cX21_init 125 = .ok (.putfield 126, 3) := by decide +kernel
theorem dX21_init_128 : decode cX21_init 128 = .ok (.aload_n 0, 1) := by decide +kernel
theorem dX21_init_129 : decode cX21_init 129 = .ok (.sipush 1024, 3) := by decide +kernel
theorem dX21_init_132 : decode cX21_init 132 = .ok (.newarray .int, 2) := by decide +kernel
theorem dX21_init_134 : decode cX21_init 134 = .ok (.putfield 129, 3) := by decide +kernel
theorem dX21_init_137 : decode cX21_init 137 = .ok (.aload_n 0, 1) := by decide +kernel
theorem dX21_init_138 : decode cX21_init 138 = .ok (.sipush 256, 3) := by decide +kernel
theorem dX21_init_141 : decode cX21_init 141 = .ok (.newarray .long, 2) := by decide +kernel
theorem dX21_init_143 : decode cX21_init 143 = .ok (.putfield 132, 3) := by decide +kernel
theorem dX21_init_146 : decode cX21_init 146 = .ok (.aload_n 0, 1) := by decide +kernel
theorem dX21_init_147 : decode cX21_init 147 = .ok (.sipush 256, 3) := by decide +kernel
theorem dX21_init_150 : decode cX21_init 150 = .ok (.newarray .int, 2) := by decide +kernel
theorem dX21_init_152 : decode cX21_init 152 = .ok (.putfield 135, 3) := by decide +kernel
theorem dX21_init_155 : decode cX21_init 155 = .ok (.aload_n 0, 1) := by decide +kernel
theorem dX21_init_156 : decode cX21_init 156 = .ok (.getfield 107, 3) := by decide +kernel
theorem dX21_init_159 : decode cX21_init 159 = .ok (.iconst (-1), 1) := by decide +kernel
theorem dX21_init_160 : decode cX21_init 160 = .ok (.invokestatic 138, 3) := by decide +kernel
theorem dX21_init_163 : decode cX21_init 163 = .ok (.return_, 1) := by decide +kernel
theorem dX21_thrown_0 : decode cX21_thrown 0 = .ok (.aload_n 0, 1) := by decide +kernel
theorem dX21_thrown_1 : decode cX21_thrown 1 = .ok (.getfield 144, 3) := by decide +kernel
theorem dX21_thrown_4 : decode cX21_thrown 4 = .ok (.ireturn, 1) := by decide +kernel
theorem dX21_refused_0 : decode cX21_refused 0 = .ok (.aload_n 0, 1) := by decide +kernel
theorem dX21_refused_1 : decode cX21_refused 1 = .ok (.iload_n 1, 1) := by decide +kernel
theorem dX21_refused_2 : decode cX21_refused 2 = .ok (.putfield 144, 3) := by decide +kernel
theorem dX21_refused_5 : decode cX21_refused 5 = .ok (.iload_n 1, 1) := by decide +kernel
theorem dX21_refused_6 : decode cX21_refused 6 = .ok (.ifCond .eq 7, 3) := by decide +kernel
theorem dX21_refused_9 : decode cX21_refused 9 = .ok (.iconst 1, 1) := by decide +kernel
theorem dX21_refused_10 : decode cX21_refused 10 = .ok (.goto 4, 3) := by decide +kernel
theorem dX21_refused_13 : decode cX21_refused 13 = .ok (.iconst 0, 1) := by decide +kernel
theorem dX21_refused_14 : decode cX21_refused 14 = .ok (.ireturn, 1) := by decide +kernel
theorem dX21_fine_0 : decode cX21_fine 0 = .ok (.aload_n 0, 1) := by decide +kernel
theorem dX21_fine_1 : decode cX21_fine 1 = .ok (.iconst 0, 1) := by decide +kernel
theorem dX21_fine_2 : decode cX21_fine 2 = .ok (.putfield 144, 3) := by decide +kernel
theorem dX21_fine_5 : decode cX21_fine 5 = .ok (.iload_n 1, 1) := by decide +kernel
theorem dX21_fine_6 : decode cX21_fine 6 = .ok (.ireturn, 1) := by decide +kernel
theorem dX21_in_0 : decode cX21_in 0 = .ok (.iload_n 0, 1) := by decide +kernel
theorem dX21_in_1 : decode cX21_in 1 = .ok (.iload_n 1, 1) := by decide +kernel
theorem dX21_in_2 : decode cX21_in 2 = .ok (.if_icmp .lt 12, 3) := by decide +kernel
theorem dX21_in_5 : decode cX21_in 5 = .ok (.iload_n 0, 1) := by decide +kernel
theorem dX21_in_6 : decode cX21_in 6 = .ok (.iload_n 2, 1) := by decide +kernel
theorem dX21_in_7 : decode cX21_in 7 = .ok (.if_icmp .gt 7, 3) := by decide +kernel
theorem dX21_in_10 : decode cX21_in 10 = .ok (.iconst 1, 1) := by decide +kernel
theorem dX21_in_11 : decode cX21_in 11 = .ok (.goto 4, 3) := by decide +kernel
theorem dX21_in_14 : decode cX21_in 14 = .ok (.iconst 0, 1) := by decide +kernel
theorem dX21_in_15 : decode cX21_in 15 = .ok (.ireturn, 1) := by decide +kernel
theorem dX21_sign_0 : decode cX21_sign 0 = .ok (.aload_n 0, 1) := by decide +kernel
theorem dX21_sign_1 : decode cX21_sign 1 = .ok (.iload_n 1, 1) := by decide +kernel
theorem dX21_sign_2 : decode cX21_sign 2 = .ok (.invokestatic 147, 3) := by decide +kernel
theorem dX21_sign_5 : decode cX21_sign 5 = .ok (.ifCond .ne 7, 3) := by decide +kernel
theorem dX21_sign_8 : decode cX21_sign 8 = .ok (.iconst 1, 1) := by decide +kernel
theorem dX21_sign_9 : decode cX21_sign 9 = .ok (.goto 17, 3) := by decide +kernel
theorem dX21_sign_12 : decode cX21_sign 12 = .ok (.aload_n 0, 1) := by decide +kernel
theorem dX21_sign_13 : decode cX21_sign 13 = .ok (.getfield 151, 3) := by decide +kernel
theorem dX21_sign_16 : decode cX21_sign 16 = .ok (.bipush 32, 2) := by decide +kernel
theorem dX21_sign_18 : decode cX21_sign 18 = .ok (.if_icmp .ne 7, 3) := by decide +kernel
theorem dX21_sign_25 : decode cX21_sign 25 = .ok (.iconst 0, 1) := by decide +kernel
theorem dX21_sign_26 : decode cX21_sign 26 = .ok (.invokevirtual 154, 3) := by decide +kernel
theorem dX21_sign_29 : decode cX21_sign 29 = .ok (.ifCond .eq 5, 3) := by decide +kernel
theorem dX21_sign_32 : decode cX21_sign 32 = .ok (.iconst 0, 1) := by decide +kernel
theorem dX21_sign_33 : decode cX21_sign 33 = .ok (.ireturn, 1) := by decide +kernel
theorem dX21_sign_34 : decode cX21_sign 34 = .ok (.aload_n 0, 1) := by decide +kernel
theorem dX21_sign_35 : decode cX21_sign 35 = .ok (.getfield 81, 3) := by decide +kernel
theorem dX21_sign_38 : decode cX21_sign 38 = .ok (.aload_n 0, 1) := by decide +kernel
theorem dX21_sign_39 : decode cX21_sign 39 = .ok (.getfield 151, 3) := by decide +kernel
theorem dX21_sign_42 : decode cX21_sign 42 = .ok (.iload_n 1, 1) := by decide +kernel
theorem dX21_sign_43 : decode cX21_sign 43 = .ok (.iastore, 1) := by decide +kernel
theorem dX21_sign_44 : decode cX21_sign 44 = .ok (.aload_n 0, 1) := by decide +kernel
theorem dX21_sign_45 : decode cX21_sign 45 = .ok (.dup, 1) := by decide +kernel
theorem dX21_sign_46 : decode cX21_sign 46 = .ok (.getfield 151, 3) := by decide +kernel
theorem dX21_sign_49 : decode cX21_sign 49 = .ok (.iconst 1, 1) := by decide +kernel
theorem dX21_sign_50 : decode cX21_sign 50 = .ok (.iadd, 1) := by decide +kernel
theorem dX21_sign_51 : decode cX21_sign 51 = .ok (.putfield 151, 3) := by decide +kernel
theorem dX21_sign_54 : decode cX21_sign 54 = .ok (.aload_n 0, 1) := by decide +kernel
theorem dX21_sign_55 : decode cX21_sign 55 = .ok (.getfield 151, 3) := by decide +kernel
theorem dX21_sign_58 : decode cX21_sign 58 = .ok (.ireturn, 1) := by decide +kernel
theorem dX21_clear_0 : decode cX21_clear 0 = .ok (.aload_n 0, 1) := by decide +kernel
theorem dX21_clear_1 : decode cX21_clear 1 = .ok (.getfield 151, 3) := by decide +kernel
theorem dX21_clear_4 : decode cX21_clear 4 = .ok (.istore_n 1, 1) := by decide +kernel
theorem dX21_clear_5 : decode cX21_clear 5 = .ok (.aload_n 0, 1) := by decide +kernel
theorem dX21_clear_6 : decode cX21_clear 6 = .ok (.iconst 0, 1) := by decide +kernel
theorem dX21_clear_7 : decode cX21_clear 7 = .ok (.putfield 151, 3) := by decide +kernel
theorem dX21_clear_10 : decode cX21_clear 10 = .ok (.aload_n 0, 1) := by decide +kernel
theorem dX21_clear_11 : decode cX21_clear 11 = .ok (.iload_n 1, 1) := by decide +kernel
theorem dX21_clear_12 : decode cX21_clear 12 = .ok (.invokevirtual 157, 3) := by decide +kernel
theorem dX21_clear_15 : decode cX21_clear 15 = .ok (.ireturn, 1) := by decide +kernel
theorem dX21_tell_0 : decode cX21_tell 0 = .ok (.iload_n 1, 1) := by decide +kernel
theorem dX21_tell_1 : decode cX21_tell 1 = .ok (.iconst 0, 1) := by decide +kernel
theorem dX21_tell_2 : decode cX21_tell 2 = .ok (.iconst 3, 1) := by decide +kernel
theorem dX21_tell_3 : decode cX21_tell 3 = .ok (.invokestatic 160, 3) := by decide +kernel
theorem dX21_tell_6 : decode cX21_tell 6 = .ok (.istore_n 2, 1) := by decide +kernel
theorem dX21_tell_7 : decode cX21_tell 7 = .ok (.iload_n 2, 1) := by decide +kernel
theorem dX21_tell_8 : decode cX21_tell 8 = .ok (.ifCond .eq 10, 3) := by decide +kernel
theorem dX21_tell_11 : decode cX21_tell 11 = .ok (.aload_n 0, 1) := by decide +kernel
theorem dX21_tell_12 : decode cX21_tell 12 = .ok (.invokevirtual 164, 3) := by decide +kernel
theorem dX21_tell_15 : decode cX21_tell 15 = .ok (.goto 4, 3) := by decide +kernel
theorem dX21_tell_18 : decode cX21_tell 18 = .ok (.aconst_null, 1) := by decide +kernel
theorem dX21_tell_19 : decode cX21_tell 19 = .ok (.astore_n 3, 1) := by decide +kernel
theorem dX21_tell_20 : decode cX21_tell 20 = .ok (.aload_n 0, 1) := by decide +kernel
theorem dX21_tell_21 : decode cX21_tell 21 = .ok (.iload_n 2, 1) := by decide +kernel
theorem dX21_tell_22 : decode cX21_tell 22 = .ok (.ifCond .ne 7, 3) := by decide +kernel
theorem dX21_tell_25 : decode cX21_tell 25 = .ok (.iconst 1, 1) := by decide +kernel
theorem dX21_tell_26 : decode cX21_tell 26 = .ok (.goto 12, 3) := by decide +kernel
theorem dX21_tell_29 : decode cX21_tell 29 = .ok (.aload_n 3, 1) := by decide +kernel
theorem dX21_tell_30 : decode cX21_tell 30 = .ok (.ifnonnull 7, 3) := by decide +kernel
theorem dX21_tell_37 : decode cX21_tell 37 = .ok (.iconst 0, 1) := by decide +kernel
theorem dX21_tell_38 : decode cX21_tell 38 = .ok (.invokevirtual 154, 3) := by decide +kernel
theorem dX21_tell_41 : decode cX21_tell 41 = .ok (.ifCond .eq 5, 3) := by decide +kernel
theorem dX21_tell_44 : decode cX21_tell 44 = .ok (.iconst 0, 1) := by decide +kernel
theorem dX21_tell_45 : decode cX21_tell 45 = .ok (.ireturn, 1) := by decide +kernel
theorem dX21_tell_46 : decode cX21_tell 46 = .ok (.aload_n 0, 1) := by decide +kernel
theorem dX21_tell_47 : decode cX21_tell 47 = .ok (.getfield 90, 3) := by decide +kernel
theorem dX21_tell_50 : decode cX21_tell 50 = .ok (.iload_n 1, 1) := by decide +kernel
theorem dX21_tell_51 : decode cX21_tell 51 = .ok (.aload_n 3, 1) := by decide +kernel
theorem dX21_tell_52 : decode cX21_tell 52 = .ok (.aastore, 1) := by decide +kernel
theorem dX21_tell_53 : decode cX21_tell 53 = .ok (.aload_n 0, 1) := by decide +kernel
theorem dX21_tell_54 : decode cX21_tell 54 = .ok (.iconst 0, 1) := by decide +kernel
theorem dX21_tell_55 : decode cX21_tell 55 = .ok (.putfield 151, 3) := by decide +kernel
theorem dX21_tell_58 : decode cX21_tell 58 = .ok (.aload_n 3, 1) := by decide +kernel
theorem dX21_tell_59 : decode cX21_tell 59 = .ok (.getfield 168, 3) := by decide +kernel
theorem dX21_tell_62 : decode cX21_tell 62 = .ok (.ireturn, 1) := by decide +kernel
theorem dX21_read_0 : decode cX21_read 0 = .ok (.new 170, 3) := by decide +kernel
theorem dX21_read_3 : decode cX21_read 3 = .ok (.dup, 1) := by decide +kernel
theorem dX21_read_4 : decode cX21_read 4 = .ok (.aload_n 0, 1) := by decide +kernel
theorem dX21_read_5 : decode cX21_read 5 = .ok (.getfield 81, 3) := by decide +kernel
theorem dX21_read_8 : decode cX21_read 8 = .ok (.aload_n 0, 1) := by decide +kernel
theorem dX21_read_9 : decode cX21_read 9 = .ok (.getfield 151, 3) := by decide +kernel
theorem dX21_read_12 : decode cX21_read 12 = .ok (.invokespecial 172, 3) := by decide +kernel
theorem dX21_read_15 : decode cX21_read 15 = .ok (.invokevirtual 174, 3) := by decide +kernel
theorem dX21_read_18 : decode cX21_read 18 = .ok (.astore_n 1, 1) := by decide +kernel
theorem dX21_read_19 : decode cX21_read 19 = .ok (.aload_n 1, 1) := by decide +kernel
theorem dX21_read_20 : decode cX21_read 20 = .ok (.getfield 177, 3) := by decide +kernel
theorem dX21_read_23 : decode cX21_read 23 = .ok (.iconst 0, 1) := by decide +kernel
theorem dX21_read_24 : decode cX21_read 24 = .ok (.aload_n 1, 1) := by decide +kernel
theorem dX21_read_25 : decode cX21_read 25 = .ok (.getfield 181, 3) := by decide +kernel
theorem dX21_read_28 : decode cX21_read 28 = .ok (.aastore, 1) := by decide +kernel
theorem dX21_read_29 : decode cX21_read 29 = .ok (.aload_n 1, 1) := by decide +kernel
theorem dX21_read_30 : decode cX21_read 30 = .ok (.aload_n 1, 1) := by decide +kernel
theorem dX21_read_31 : decode cX21_read 31 = .ok (.getfield 181, 3) := by decide +kernel
theorem dX21_read_34 : decode cX21_read 34 = .ok (.invokestatic 59, 3) := by decide +kernel
theorem dX21_read_37 : decode cX21_read 37 = .ok (.ifCond .eq 21, 3) := by decide +kernel
theorem dX21_read_40 : decode cX21_read 40 = .ok (.aload_n 1, 1) := by decide +kernel
theorem dX21_read_41 : decode cX21_read 41 = .ok (.getfield 181, 3) := by decide +kernel
theorem dX21_read_44 : decode cX21_read 44 = .ok (.invokestatic 71, 3) := by decide +kernel
theorem dX21_read_47 : decode cX21_read 47 = .ok (.ldc2_w 184, 3) := by decide +kernel
theorem dX21_read_50 : decode cX21_read 50 = .ok (.lcmp, 1) := by decide +kernel
theorem dX21_read_51 : decode cX21_read 51 = .ok (.ifCond .gt 7, 3) := by decide +kernel
theorem dX21_read_54 : decode cX21_read 54 = .ok (.iconst 1, 1) := by decide +kernel
theorem dX21_read_55 : decode cX21_read 55 = .ok (.goto 4, 3) := by decide +kernel
theorem dX21_read_59 : decode cX21_read 59 = .ok (.putfield 186, 3) := by decide +kernel
theorem dX21_read_62 : decode cX21_read 62 = .ok (.aload_n 1, 1) := by decide +kernel
theorem dX21_read_63 : decode cX21_read 63 = .ok (.aload_n 1, 1) := by decide +kernel
theorem dX21_read_64 : decode cX21_read 64 = .ok (.getfield 186, 3) := by decide +kernel
theorem dX21_read_67 : decode cX21_read 67 = .ok (.ifCond .eq 17, 3) := by decide +kernel
theorem dX21_read_70 : decode cX21_read 70 = .ok (.aload_n 1, 1) := by decide +kernel
theorem dX21_read_71 : decode cX21_read 71 = .ok (.getfield 181, 3) := by decide +kernel
theorem dX21_read_74 : decode cX21_read 74 = .ok (.invokestatic 62, 3) := by decide +kernel
theorem dX21_read_77 : decode cX21_read 77 = .ok (.ifCond .eq 7, 3) := by decide +kernel
theorem dX21_read_80 : decode cX21_read 80 = .ok (.iconst 1, 1) := by decide +kernel
theorem dX21_read_81 : decode cX21_read 81 = .ok (.goto 4, 3) := by decide +kernel
theorem dX21_read_85 : decode cX21_read 85 = .ok (.putfield 189, 3) := by decide +kernel
theorem dX21_read_88 : decode cX21_read 88 = .ok (.aload_n 1, 1) := by decide +kernel
theorem dX21_read_89 : decode cX21_read 89 = .ok (.areturn, 1) := by decide +kernel
theorem dX21_fault_0 : decode cX21_fault 0 = .ok (.aload_n 0, 1) := by decide +kernel
theorem dX21_fault_1 : decode cX21_fault 1 = .ok (.iconst 0, 1) := by decide +kernel
theorem dX21_fault_2 : decode cX21_fault 2 = .ok (.putfield 144, 3) := by decide +kernel
theorem dX21_fault_5 : decode cX21_fault 5 = .ok (.new 170, 3) := by decide +kernel
theorem dX21_fault_8 : decode cX21_fault 8 = .ok (.dup, 1) := by decide +kernel
theorem dX21_fault_9 : decode cX21_fault 9 = .ok (.aload_n 0, 1) := by decide +kernel
theorem dX21_fault_10 : decode cX21_fault 10 = .ok (.getfield 81, 3) := by decide +kernel
theorem dX21_fault_13 : decode cX21_fault 13 = .ok (.aload_n 0, 1) := by decide +kernel
theorem dX21_fault_14 : decode cX21_fault 14 = .ok (.getfield 151, 3) := by decide +kernel
theorem dX21_fault_17 : decode cX21_fault 17 = .ok (.invokespecial 172, 3) := by decide +kernel
theorem dX21_fault_20 : decode cX21_fault 20 = .ok (.invokevirtual 174, 3) := by decide +kernel
theorem dX21_fault_23 : decode cX21_fault 23 = .ok (.pop, 1) := by decide +kernel
theorem dX21_fault_24 : decode cX21_fault 24 = .ok (.iconst (-1), 1) := by decide +kernel
theorem dX21_fault_25 : decode cX21_fault 25 = .ok (.ireturn, 1) := by decide +kernel
theorem dX21_lot_0 : decode cX21_lot 0 = .ok (.aload_n 0, 1) := by decide +kernel
theorem dX21_lot_1 : decode cX21_lot 1 = .ok (.getfield 196, 3) := by decide +kernel
theorem dX21_lot_4 : decode cX21_lot 4 = .ok (.aload_n 0, 1) := by decide +kernel
theorem dX21_lot_5 : decode cX21_lot 5 = .ok (.getfield 151, 3) := by decide +kernel
theorem dX21_lot_8 : decode cX21_lot 8 = .ok (.iadd, 1) := by decide +kernel
theorem dX21_lot_9 : decode cX21_lot 9 = .ok (.bipush 20, 2) := by decide +kernel
theorem dX21_lot_11 : decode cX21_lot 11 = .ok (.if_icmp .gt 7, 3) := by decide +kernel
theorem dX21_lot_14 : decode cX21_lot 14 = .ok (.iconst 1, 1) := by decide +kernel
theorem dX21_lot_15 : decode cX21_lot 15 = .ok (.goto 4, 3) := by decide +kernel
theorem dX21_lot_19 : decode cX21_lot 19 = .ok (.istore_n 1, 1) := by decide +kernel
theorem dX21_lot_20 : decode cX21_lot 20 = .ok (.iconst 0, 1) := by decide +kernel
theorem dX21_lot_21 : decode cX21_lot 21 = .ok (.istore_n 2, 1) := by decide +kernel
theorem dX21_lot_22 : decode cX21_lot 22 = .ok (.iload_n 2, 1) := by decide +kernel
theorem dX21_lot_23 : decode cX21_lot 23 = .ok (.aload_n 0, 1) := by decide +kernel
theorem dX21_lot_24 : decode cX21_lot 24 = .ok (.getfield 151, 3) := by decide +kernel
theorem dX21_lot_27 : decode cX21_lot 27 = .ok (.if_icmp .ge 31, 3) := by decide +kernel
theorem dX21_lot_58 : decode cX21_lot 58 = .ok (.aload_n 0, 1) := by decide +kernel
theorem dX21_lot_59 : decode cX21_lot 59 = .ok (.iload_n 1, 1) := by decide +kernel
theorem dX21_lot_60 : decode cX21_lot 60 = .ok (.ifCond .eq 7, 3) := by decide +kernel
theorem dX21_lot_63 : decode cX21_lot 63 = .ok (.iconst 0, 1) := by decide +kernel
theorem dX21_lot_64 : decode cX21_lot 64 = .ok (.goto 4, 3) := by decide +kernel
theorem dX21_lot_68 : decode cX21_lot 68 = .ok (.invokevirtual 154, 3) := by decide +kernel
theorem dX21_lot_71 : decode cX21_lot 71 = .ok (.ifCond .eq 5, 3) := by decide +kernel
theorem dX21_lot_76 : decode cX21_lot 76 = .ok (.iconst 0, 1) := by decide +kernel
theorem dX21_lot_77 : decode cX21_lot 77 = .ok (.istore_n 2, 1) := by decide +kernel
theorem dX21_lot_78 : decode cX21_lot 78 = .ok (.iload_n 2, 1) := by decide +kernel
theorem dX21_lot_79 : decode cX21_lot 79 = .ok (.aload_n 0, 1) := by decide +kernel
theorem dX21_lot_80 : decode cX21_lot 80 = .ok (.getfield 151, 3) := by decide +kernel
theorem dX21_lot_83 : decode cX21_lot 83 = .ok (.if_icmp .ge 34, 3) := by decide +kernel
theorem dX21_lot_117 : decode cX21_lot 117 = .ok (.aload_n 0, 1) := by decide +kernel
theorem dX21_lot_118 : decode cX21_lot 118 = .ok (.iconst 0, 1) := by decide +kernel
theorem dX21_lot_119 : decode cX21_lot 119 = .ok (.putfield 151, 3) := by decide +kernel
theorem dX21_lot_122 : decode cX21_lot 122 = .ok (.aload_n 0, 1) := by decide +kernel
theorem dX21_lot_123 : decode cX21_lot 123 = .ok (.getfield 196, 3) := by decide +kernel
theorem dX21_lot_126 : decode cX21_lot 126 = .ok (.ireturn, 1) := by decide +kernel
theorem dX21_wipe_0 : decode cX21_wipe 0 = .ok (.aload_n 0, 1) := by decide +kernel
theorem dX21_wipe_1 : decode cX21_wipe 1 = .ok (.getfield 196, 3) := by decide +kernel
theorem dX21_wipe_4 : decode cX21_wipe 4 = .ok (.istore_n 1, 1) := by decide +kernel
theorem dX21_wipe_5 : decode cX21_wipe 5 = .ok (.aload_n 0, 1) := by decide +kernel
theorem dX21_wipe_6 : decode cX21_wipe 6 = .ok (.iconst 0, 1) := by decide +kernel
theorem dX21_wipe_7 : decode cX21_wipe 7 = .ok (.putfield 196, 3) := by decide +kernel
theorem dX21_wipe_10 : decode cX21_wipe 10 = .ok (.aload_n 0, 1) := by decide +kernel
theorem dX21_wipe_11 : decode cX21_wipe 11 = .ok (.iload_n 1, 1) := by decide +kernel
theorem dX21_wipe_12 : decode cX21_wipe 12 = .ok (.invokevirtual 157, 3) := by decide +kernel
theorem dX21_wipe_15 : decode cX21_wipe 15 = .ok (.ireturn, 1) := by decide +kernel
theorem dX21_length_0 : decode cX21_length 0 = .ok (.aload_n 0, 1) := by decide +kernel
theorem dX21_length_1 : decode cX21_length 1 = .ok (.aload_n 0, 1) := by decide +kernel
theorem dX21_length_2 : decode cX21_length 2 = .ok (.getfield 196, 3) := by decide +kernel
theorem dX21_length_5 : decode cX21_length 5 = .ok (.invokevirtual 157, 3) := by decide +kernel
theorem dX21_length_8 : decode cX21_length 8 = .ok (.ireturn, 1) := by decide +kernel
theorem dX21_unknown_0 : decode cX21_unknown 0 = .ok (.iload_n 1, 1) := by decide +kernel
theorem dX21_unknown_1 : decode cX21_unknown 1 = .ok (.iconst 0, 1) := by decide +kernel
theorem dX21_unknown_2 : decode cX21_unknown 2 = .ok (.iconst 3, 1) := by decide +kernel
theorem dX21_unknown_3 : decode cX21_unknown 3 = .ok (.invokestatic 160, 3) := by decide +kernel
theorem dX21_unknown_6 : decode cX21_unknown 6 = .ok (.ifCond .ne 7, 3) := by decide +kernel
theorem dX21_unknown_9 : decode cX21_unknown 9 = .ok (.iconst 1, 1) := by decide +kernel
theorem dX21_unknown_10 : decode cX21_unknown 10 = .ok (.goto 17, 3) := by decide +kernel
theorem dX21_unknown_13 : decode cX21_unknown 13 = .ok (.aload_n 0, 1) := by decide +kernel
theorem dX21_unknown_14 : decode cX21_unknown 14 = .ok (.getfield 90, 3) := by decide +kernel
theorem dX21_unknown_17 : decode cX21_unknown 17 = .ok (.iload_n 1, 1) := by decide +kernel
theorem dX21_unknown_18 : decode cX21_unknown 18 = .ok (.aaload, 1) := by decide +kernel
theorem dX21_unknown_19 : decode cX21_unknown 19 = .ok (.ifnonnull 7, 3) := by decide +kernel
theorem dX21_unknown_22 : decode cX21_unknown 22 = .ok (.iconst 2, 1) := by decide +kernel
theorem dX21_unknown_23 : decode cX21_unknown 23 = .ok (.goto 4, 3) := by decide +kernel
theorem dX21_unknown_27 : decode cX21_unknown 27 = .ok (.ireturn, 1) := by decide +kernel
theorem dX21_isPlain__0 : decode cX21_isPlain_ 0 = .ok (.aload_n 0, 1) := by decide +kernel
theorem dX21_isPlain__1 : decode cX21_isPlain_ 1 = .ok (.aload_n 0, 1) := by decide +kernel
theorem dX21_isPlain__2 : decode cX21_isPlain_ 2 = .ok (.iload_n 1, 1) := by decide +kernel
theorem dX21_isPlain__3 : decode cX21_isPlain_ 3 = .ok (.invokevirtual 199, 3) := by decide +kernel
theorem dX21_isPlain__6 : decode cX21_isPlain_ 6 = .ok (.invokevirtual 154, 3) := by decide +kernel
theorem dX21_isPlain__9 : decode cX21_isPlain_ 9 = .ok (.ifCond .ne 19, 3) := by decide +kernel
theorem dX21_isPlain__28 : decode cX21_isPlain_ 28 = .ok (.iconst 0, 1) := by decide +kernel
theorem dX21_isPlain__29 : decode cX21_isPlain_ 29 = .ok (.ireturn, 1) := by decide +kernel
theorem dX21_isRegular__0 : decode cX21_isRegular_ 0 = .ok (.aload_n 0, 1) := by decide +kernel
theorem dX21_isRegular__1 : decode cX21_isRegular_ 1 = .ok (.aload_n 0, 1) := by decide +kernel
theorem dX21_isRegular__2 : decode cX21_isRegular_ 2 = .ok (.iload_n 1, 1) := by decide +kernel
theorem dX21_isRegular__3 : decode cX21_isRegular_ 3 = .ok (.invokevirtual 199, 3) := by decide +kernel
theorem dX21_isRegular__6 : decode cX21_isRegular_ 6 = .ok (.invokevirtual 154, 3) := by decide +kernel
theorem dX21_isRegular__9 : decode cX21_isRegular_ 9 = .ok (.ifCond .ne 19, 3) := by decide +kernel
theorem dX21_isRegular__28 : decode cX21_isRegular_ 28 = .ok (.iconst 0, 1) := by decide +kernel
theorem dX21_isRegular__29 : decode cX21_isRegular_ 29 = .ok (.ireturn, 1) := by decide +kernel
theorem dX21_setBudget_0 : decode cX21_setBudget 0 = .ok (.aload_n 0, 1) := by decide +kernel
theorem dX21_setBudget_1 : decode cX21_setBudget 1 = .ok (.iload_n 1, 1) := by decide +kernel
theorem dX21_setBudget_2 : decode cX21_setBudget 2 = .ok (.iconst 1, 1) := by decide +kernel
theorem dX21_setBudget_3 : decode cX21_setBudget 3 = .ok (.sipush 250, 3) := by decide +kernel
theorem dX21_setBudget_6 : decode cX21_setBudget 6 = .ok (.invokestatic 160, 3) := by decide +kernel
theorem dX21_setBudget_9 : decode cX21_setBudget 9 = .ok (.ifCond .eq 7, 3) := by decide +kernel
theorem dX21_setBudget_12 : decode cX21_setBudget 12 = .ok (.iconst 0, 1) := by decide +kernel
theorem dX21_setBudget_13 : decode cX21_setBudget 13 = .ok (.goto 4, 3) := by decide +kernel
theorem dX21_setBudget_16 : decode cX21_setBudget 16 = .ok (.iconst 1, 1) := by decide +kernel
theorem dX21_setBudget_17 : decode cX21_setBudget 17 = .ok (.invokevirtual 154, 3) := by decide +kernel
theorem dX21_setBudget_20 : decode cX21_setBudget 20 = .ok (.ifCond .eq 5, 3) := by decide +kernel
theorem dX21_setBudget_23 : decode cX21_setBudget 23 = .ok (.iconst 0, 1) := by decide +kernel
theorem dX21_setBudget_24 : decode cX21_setBudget 24 = .ok (.ireturn, 1) := by decide +kernel
theorem dX21_setBudget_25 : decode cX21_setBudget 25 = .ok (.aload_n 0, 1) := by decide +kernel
theorem dX21_setBudget_26 : decode cX21_setBudget 26 = .ok (.getfield 94, 3) := by decide +kernel
theorem dX21_setBudget_29 : decode cX21_setBudget 29 = .ok (.istore_n 2, 1) := by decide +kernel
theorem dX21_setBudget_30 : decode cX21_setBudget 30 = .ok (.aload_n 0, 1) := by decide +kernel
theorem dX21_setBudget_31 : decode cX21_setBudget 31 = .ok (.iload_n 1, 1) := by decide +kernel
theorem dX21_setBudget_32 : decode cX21_setBudget 32 = .ok (.putfield 94, 3) := by decide +kernel
theorem dX21_setBudget_35 : decode cX21_setBudget 35 = .ok (.iload_n 2, 1) := by decide +kernel
theorem dX21_setBudget_36 : decode cX21_setBudget 36 = .ok (.ireturn, 1) := by decide +kernel
theorem dX21_unknownPlace_0 : decode cX21_unknownPlace 0 = .ok (.iload_n 1, 1) := by decide +kernel
theorem dX21_unknownPlace_1 : decode cX21_unknownPlace 1 = .ok (.iconst 0, 1) := by decide +kernel
theorem dX21_unknownPlace_2 : decode cX21_unknownPlace 2 = .ok (.iconst 3, 1) := by decide +kernel
theorem dX21_unknownPlace_3 : decode cX21_unknownPlace 3 = .ok (.invokestatic 160, 3) := by decide +kernel
theorem dX21_unknownPlace_6 : decode cX21_unknownPlace 6 = .ok (.ifCond .eq 19, 3) := by decide +kernel
theorem dX21_unknownPlace_9 : decode cX21_unknownPlace 9 = .ok (.iload_n 2, 1) := by decide +kernel
theorem dX21_unknownPlace_10 : decode cX21_unknownPlace 10 = .ok (.iconst 0, 1) := by decide +kernel
theorem dX21_unknownPlace_11 : decode cX21_unknownPlace 11 = .ok (.aload_n 0, 1) := by decide +kernel
theorem dX21_unknownPlace_12 : decode cX21_unknownPlace 12 = .ok (.getfield 196, 3) := by decide +kernel
theorem dX21_unknownPlace_15 : decode cX21_unknownPlace 15 = .ok (.invokestatic 160, 3) := by decide +kernel
theorem dX21_unknownPlace_18 : decode cX21_unknownPlace 18 = .ok (.ifCond .eq 7, 3) := by decide +kernel
theorem dX21_unknownPlace_21 : decode cX21_unknownPlace 21 = .ok (.iconst 1, 1) := by decide +kernel
theorem dX21_unknownPlace_22 : decode cX21_unknownPlace 22 = .ok (.goto 4, 3) := by decide +kernel
theorem dX21_unknownPlace_25 : decode cX21_unknownPlace 25 = .ok (.iconst 0, 1) := by decide +kernel
theorem dX21_unknownPlace_26 : decode cX21_unknownPlace 26 = .ok (.istore_n 3, 1) := by decide +kernel
theorem dX21_unknownPlace_27 : decode cX21_unknownPlace 27 = .ok (.iload_n 3, 1) := by decide +kernel
theorem dX21_unknownPlace_28 : decode cX21_unknownPlace 28 = .ok (.ifCond .ne 7, 3) := by decide +kernel
theorem dX21_unknownPlace_31 : decode cX21_unknownPlace 31 = .ok (.iconst 1, 1) := by decide +kernel
theorem dX21_unknownPlace_32 : decode cX21_unknownPlace 32 = .ok (.goto 17, 3) := by decide +kernel
theorem dX21_unknownPlace_35 : decode cX21_unknownPlace 35 = .ok (.aload_n 0, 1) := by decide +kernel
theorem dX21_unknownPlace_36 : decode cX21_unknownPlace 36 = .ok (.getfield 90, 3) := by decide +kernel
theorem dX21_unknownPlace_39 : decode cX21_unknownPlace 39 = .ok (.iload_n 1, 1) := by decide +kernel
theorem dX21_unknownPlace_40 : decode cX21_unknownPlace 40 = .ok (.aaload, 1) := by decide +kernel
theorem dX21_unknownPlace_41 : decode cX21_unknownPlace 41 = .ok (.ifnonnull 7, 3) := by decide +kernel
theorem dX21_unknownPlace_44 : decode cX21_unknownPlace 44 = .ok (.iconst 2, 1) := by decide +kernel
theorem dX21_unknownPlace_45 : decode cX21_unknownPlace 45 = .ok (.goto 4, 3) := by decide +kernel
theorem dX21_unknownPlace_49 : decode cX21_unknownPlace 49 = .ok (.ireturn, 1) := by decide +kernel
theorem dX21_match_0 : decode cX21_match 0 = .ok (.aload_n 0, 1) := by decide +kernel
theorem dX21_match_1 : decode cX21_match 1 = .ok (.aload_n 0, 1) := by decide +kernel
theorem dX21_match_2 : decode cX21_match 2 = .ok (.iload_n 1, 1) := by decide +kernel
theorem dX21_match_3 : decode cX21_match 3 = .ok (.iload_n 2, 1) := by decide +kernel
theorem dX21_match_4 : decode cX21_match 4 = .ok (.invokevirtual 416, 3) := by decide +kernel
theorem dX21_match_7 : decode cX21_match 7 = .ok (.invokevirtual 154, 3) := by decide +kernel
theorem dX21_match_10 : decode cX21_match 10 = .ok (.ifCond .eq 5, 3) := by decide +kernel
theorem dX21_match_13 : decode cX21_match 13 = .ok (.iconst 0, 1) := by decide +kernel
theorem dX21_match_14 : decode cX21_match 14 = .ok (.ireturn, 1) := by decide +kernel
theorem dX21_find_0 : decode cX21_find 0 = .ok (.aload_n 0, 1) := by decide +kernel
theorem dX21_find_1 : decode cX21_find 1 = .ok (.aload_n 0, 1) := by decide +kernel
theorem dX21_find_2 : decode cX21_find 2 = .ok (.iload_n 1, 1) := by decide +kernel
theorem dX21_find_3 : decode cX21_find 3 = .ok (.iload_n 2, 1) := by decide +kernel
theorem dX21_find_4 : decode cX21_find 4 = .ok (.invokevirtual 416, 3) := by decide +kernel
theorem dX21_find_7 : decode cX21_find 7 = .ok (.invokevirtual 154, 3) := by decide +kernel
theorem dX21_find_10 : decode cX21_find 10 = .ok (.ifCond .eq 5, 3) := by decide +kernel
theorem dX21_find_13 : decode cX21_find 13 = .ok (.iconst 0, 1) := by decide +kernel
theorem dX21_find_14 : decode cX21_find 14 = .ok (.ireturn, 1) := by decide +kernel
theorem dX21_group_0 : decode cX21_group 0 = .ok (.aload_n 0, 1) := by decide +kernel
theorem dX21_group_1 : decode cX21_group 1 = .ok (.iload_n 1, 1) := by decide +kernel
theorem dX21_group_2 : decode cX21_group 2 = .ok (.iconst 0, 1) := by decide +kernel
theorem dX21_group_3 : decode cX21_group 3 = .ok (.bipush 6, 2) := by decide +kernel
theorem dX21_group_5 : decode cX21_group 5 = .ok (.invokestatic 160, 3) := by decide +kernel
theorem dX21_group_8 : decode cX21_group 8 = .ok (.ifCond .eq 7, 3) := by decide +kernel
theorem dX21_group_11 : decode cX21_group 11 = .ok (.iconst 0, 1) := by decide +kernel
theorem dX21_group_12 : decode cX21_group 12 = .ok (.goto 4, 3) := by decide +kernel
theorem dX21_group_15 : decode cX21_group 15 = .ok (.iconst 1, 1) := by decide +kernel
theorem dX21_group_16 : decode cX21_group 16 = .ok (.invokevirtual 154, 3) := by decide +kernel
theorem dX21_group_19 : decode cX21_group 19 = .ok (.ifCond .eq 7, 3) := by decide +kernel
theorem dX21_group_22 : decode cX21_group 22 = .ok (.iconst 0, 1) := by decide +kernel
theorem dX21_group_23 : decode cX21_group 23 = .ok (.goto 21, 3) := by decide +kernel
theorem dX21_group_26 : decode cX21_group 26 = .ok (.aload_n 0, 1) := by decide +kernel
theorem dX21_group_27 : decode cX21_group 27 = .ok (.getfield 107, 3) := by decide +kernel
theorem dX21_group_30 : decode cX21_group 30 = .ok (.iconst 2, 1) := by decide +kernel
theorem dX21_group_31 : decode cX21_group 31 = .ok (.iload_n 1, 1) := by decide +kernel
theorem dX21_group_32 : decode cX21_group 32 = .ok (.imul, 1) := by decide +kernel
theorem dX21_group_33 : decode cX21_group 33 = .ok (.iload_n 2, 1) := by decide +kernel
theorem dX21_group_34 : decode cX21_group 34 = .ok (.ifCond .eq 7, 3) := by decide +kernel
theorem dX21_group_37 : decode cX21_group 37 = .ok (.iconst 1, 1) := by decide +kernel
theorem dX21_group_38 : decode cX21_group 38 = .ok (.goto 4, 3) := by decide +kernel
theorem dX21_group_41 : decode cX21_group 41 = .ok (.iconst 0, 1) := by decide +kernel
theorem dX21_group_42 : decode cX21_group 42 = .ok (.iadd, 1) := by decide +kernel
theorem dX21_group_43 : decode cX21_group 43 = .ok (.iaload, 1) := by decide +kernel
theorem dX21_group_44 : decode cX21_group 44 = .ok (.ireturn, 1) := by decide +kernel
theorem dX21_trials_0 : decode cX21_trials 0 = .ok (.aload_n 0, 1) := by decide +kernel
theorem dX21_trials_1 : decode cX21_trials 1 = .ok (.aload_n 0, 1) := by decide +kernel
theorem dX21_trials_2 : decode cX21_trials 2 = .ok (.getfield 423, 3) := by decide +kernel
theorem dX21_trials_5 : decode cX21_trials 5 = .ok (.invokevirtual 157, 3) := by decide +kernel
theorem dX21_trials_8 : decode cX21_trials 8 = .ok (.ireturn, 1) := by decide +kernel
theorem dX21_which_0 : decode cX21_which 0 = .ok (.aload_n 0, 1) := by decide +kernel
theorem dX21_which_1 : decode cX21_which 1 = .ok (.iload_n 1, 1) := by decide +kernel
theorem dX21_which_2 : decode cX21_which 2 = .ok (.iconst 0, 1) := by decide +kernel
theorem dX21_which_3 : decode cX21_which 3 = .ok (.aload_n 0, 1) := by decide +kernel
theorem dX21_which_4 : decode cX21_which 4 = .ok (.getfield 196, 3) := by decide +kernel
theorem dX21_which_7 : decode cX21_which 7 = .ok (.invokestatic 160, 3) := by decide +kernel
theorem dX21_which_10 : decode cX21_which 10 = .ok (.ifCond .eq 7, 3) := by decide +kernel
theorem dX21_which_13 : decode cX21_which 13 = .ok (.iconst 0, 1) := by decide +kernel
theorem dX21_which_14 : decode cX21_which 14 = .ok (.goto 4, 3) := by decide +kernel
theorem dX21_which_17 : decode cX21_which 17 = .ok (.iconst 1, 1) := by decide +kernel
theorem dX21_which_18 : decode cX21_which 18 = .ok (.invokevirtual 154, 3) := by decide +kernel
theorem dX21_which_21 : decode cX21_which 21 = .ok (.ifCond .eq 5, 3) := by decide +kernel
theorem dX21_which_24 : decode cX21_which 24 = .ok (.iconst 0, 1) := by decide +kernel
theorem dX21_which_25 : decode cX21_which 25 = .ok (.ireturn, 1) := by decide +kernel
theorem dX21_which_26 : decode cX21_which 26 = .ok (.iconst 0, 1) := by decide +kernel
theorem dX21_which_27 : decode cX21_which 27 = .ok (.istore_n 2, 1) := by decide +kernel
theorem dX21_which_28 : decode cX21_which 28 = .ok (.iconst 0, 1) := by decide +kernel
theorem dX21_which_29 : decode cX21_which 29 = .ok (.istore_n 3, 1) := by decide +kernel
theorem dX21_which_30 : decode cX21_which 30 = .ok (.iload_n 3, 1) := by decide +kernel
theorem dX21_which_31 : decode cX21_which 31 = .ok (.iconst 4, 1) := by decide +kernel
theorem dX21_which_32 : decode cX21_which 32 = .ok (.if_icmp .ge 57, 3) := by decide +kernel
theorem dX21_which_35 : decode cX21_which 35 = .ok (.aload_n 0, 1) := by decide +kernel
theorem dX21_which_36 : decode cX21_which 36 = .ok (.iconst 0, 1) := by decide +kernel
theorem dX21_which_37 : decode cX21_which 37 = .ok (.putfield 205, 3) := by decide +kernel
theorem dX21_which_40 : decode cX21_which 40 = .ok (.iload_n 2, 1) := by decide +kernel
theorem dX21_which_41 : decode cX21_which 41 = .ok (.aload_n 0, 1) := by decide +kernel
theorem dX21_which_42 : decode cX21_which 42 = .ok (.getfield 90, 3) := by decide +kernel
theorem dX21_which_45 : decode cX21_which 45 = .ok (.iload_n 3, 1) := by decide +kernel
theorem dX21_which_46 : decode cX21_which 46 = .ok (.aaload, 1) := by decide +kernel
theorem dX21_which_47 : decode cX21_which 47 = .ok (.ifnull 24, 3) := by decide +kernel
theorem dX21_which_71 : decode cX21_which 71 = .ok (.iconst 0, 1) := by decide +kernel
theorem dX21_which_72 : decode cX21_which 72 = .ok (.ior, 1) := by decide +kernel
theorem dX21_which_73 : decode cX21_which 73 = .ok (.istore_n 2, 1) := by decide +kernel
theorem dX21_which_74 : decode cX21_which 74 = .ok (.goto 9, 3) := by decide +kernel
theorem dX21_which_83 : decode cX21_which 83 = .ok (.iinc 3 1, 3) := by decide +kernel
theorem dX21_which_86 : decode cX21_which 86 = .ok (.goto (-56), 3) := by decide +kernel
theorem dX21_which_89 : decode cX21_which 89 = .ok (.iload_n 2, 1) := by decide +kernel
theorem dX21_which_90 : decode cX21_which 90 = .ok (.ireturn, 1) := by decide +kernel
theorem dX21_findAll_0 : decode cX21_findAll 0 = .ok (.aload_n 0, 1) := by decide +kernel
theorem dX21_findAll_1 : decode cX21_findAll 1 = .ok (.aload_n 0, 1) := by decide +kernel
theorem dX21_findAll_2 : decode cX21_findAll 2 = .ok (.iload_n 1, 1) := by decide +kernel
theorem dX21_findAll_3 : decode cX21_findAll 3 = .ok (.invokevirtual 199, 3) := by decide +kernel
theorem dX21_findAll_6 : decode cX21_findAll 6 = .ok (.invokevirtual 154, 3) := by decide +kernel
theorem dX21_findAll_9 : decode cX21_findAll 9 = .ok (.ifCond .eq 5, 3) := by decide +kernel
theorem dX21_findAll_12 : decode cX21_findAll 12 = .ok (.iconst 0, 1) := by decide +kernel
theorem dX21_findAll_13 : decode cX21_findAll 13 = .ok (.ireturn, 1) := by decide +kernel
theorem dX21_found_0 : decode cX21_found 0 = .ok (.aload_n 0, 1) := by decide +kernel
theorem dX21_found_1 : decode cX21_found 1 = .ok (.iload_n 1, 1) := by decide +kernel
theorem dX21_found_2 : decode cX21_found 2 = .ok (.iconst 0, 1) := by decide +kernel
theorem dX21_found_3 : decode cX21_found 3 = .ok (.aload_n 0, 1) := by decide +kernel
theorem dX21_found_4 : decode cX21_found 4 = .ok (.getfield 101, 3) := by decide +kernel
theorem dX21_found_7 : decode cX21_found 7 = .ok (.invokevirtual 218, 3) := by decide +kernel
theorem dX21_found_10 : decode cX21_found 10 = .ok (.iconst 1, 1) := by decide +kernel
theorem dX21_found_11 : decode cX21_found 11 = .ok (.isub, 1) := by decide +kernel
theorem dX21_found_12 : decode cX21_found 12 = .ok (.invokestatic 160, 3) := by decide +kernel
theorem dX21_found_15 : decode cX21_found 15 = .ok (.ifCond .eq 7, 3) := by decide +kernel
theorem dX21_found_22 : decode cX21_found 22 = .ok (.iconst 1, 1) := by decide +kernel
theorem dX21_found_23 : decode cX21_found 23 = .ok (.invokevirtual 154, 3) := by decide +kernel
theorem dX21_found_26 : decode cX21_found 26 = .ok (.ifCond .eq 5, 3) := by decide +kernel
theorem dX21_found_29 : decode cX21_found 29 = .ok (.iconst 0, 1) := by decide +kernel
theorem dX21_found_30 : decode cX21_found 30 = .ok (.ireturn, 1) := by decide +kernel
theorem dX21_replace_0 : decode cX21_replace 0 = .ok (.aload_n 0, 1) := by decide +kernel
theorem dX21_replace_1 : decode cX21_replace 1 = .ok (.iload_n 1, 1) := by decide +kernel
theorem dX21_replace_2 : decode cX21_replace 2 = .ok (.invokevirtual 199, 3) := by decide +kernel
theorem dX21_replace_5 : decode cX21_replace 5 = .ok (.istore_n 2, 1) := by decide +kernel
theorem dX21_replace_6 : decode cX21_replace 6 = .ok (.new 38, 3) := by decide +kernel
theorem dX21_replace_9 : decode cX21_replace 9 = .ok (.dup, 1) := by decide +kernel
theorem dX21_replace_10 : decode cX21_replace 10 = .ok (.invokespecial 100, 3) := by decide +kernel
theorem dX21_replace_13 : decode cX21_replace 13 = .ok (.astore_n 3, 1) := by decide +kernel
theorem dX21_replace_14 : decode cX21_replace 14 = .ok (.iload_n 2, 1) := by decide +kernel
theorem dX21_replace_15 : decode cX21_replace 15 = .ok (.ifCond .ne 192, 3) := by decide +kernel
theorem dX21_replace_207 : decode cX21_replace 207 = .ok (.aload_n 0, 1) := by decide +kernel
theorem dX21_replace_208 : decode cX21_replace 208 = .ok (.iload_n 2, 1) := by decide +kernel
theorem dX21_replace_209 : decode cX21_replace 209 = .ok (.invokevirtual 154, 3) := by decide +kernel
theorem dX21_replace_212 : decode cX21_replace 212 = .ok (.ifCond .eq 5, 3) := by decide +kernel
theorem dX21_replace_215 : decode cX21_replace 215 = .ok (.iconst 0, 1) := by decide +kernel
theorem dX21_replace_216 : decode cX21_replace 216 = .ok (.ireturn, 1) := by decide +kernel
theorem dX21_outSign_0 : decode cX21_outSign 0 = .ok (.aload_n 0, 1) := by decide +kernel
theorem dX21_outSign_1 : decode cX21_outSign 1 = .ok (.iload_n 1, 1) := by decide +kernel
theorem dX21_outSign_2 : decode cX21_outSign 2 = .ok (.iconst 0, 1) := by decide +kernel
theorem dX21_outSign_3 : decode cX21_outSign 3 = .ok (.aload_n 0, 1) := by decide +kernel
theorem dX21_outSign_4 : decode cX21_outSign 4 = .ok (.getfield 448, 3) := by decide +kernel
theorem dX21_outSign_7 : decode cX21_outSign 7 = .ok (.iconst 1, 1) := by decide +kernel
theorem dX21_outSign_8 : decode cX21_outSign 8 = .ok (.isub, 1) := by decide +kernel
theorem dX21_outSign_9 : decode cX21_outSign 9 = .ok (.invokestatic 160, 3) := by decide +kernel
theorem dX21_outSign_12 : decode cX21_outSign 12 = .ok (.ifCond .eq 7, 3) := by decide +kernel
theorem dX21_outSign_19 : decode cX21_outSign 19 = .ok (.iconst 1, 1) := by decide +kernel
theorem dX21_outSign_20 : decode cX21_outSign 20 = .ok (.invokevirtual 154, 3) := by decide +kernel
theorem dX21_outSign_23 : decode cX21_outSign 23 = .ok (.ifCond .eq 8, 3) := by decide +kernel
theorem dX21_outSign_26 : decode cX21_outSign 26 = .ok (.bipush 32, 2) := by decide +kernel
theorem dX21_outSign_28 : decode cX21_outSign 28 = .ok (.goto 10, 3) := by decide +kernel
theorem dX21_outSign_38 : decode cX21_outSign 38 = .ok (.ireturn, 1) := by decide +kernel
theorem dX21_matchBySets_0 : decode cX21_matchBySets 0 = .ok (.aload_n 0, 1) := by decide +kernel
theorem dX21_matchBySets_1 : decode cX21_matchBySets 1 = .ok (.iload_n 1, 1) := by decide +kernel
theorem dX21_matchBySets_2 : decode cX21_matchBySets 2 = .ok (.iload_n 2, 1) := by decide +kernel
theorem dX21_matchBySets_3 : decode cX21_matchBySets 3 = .ok (.invokevirtual 416, 3) := by decide +kernel
theorem dX21_matchBySets_6 : decode cX21_matchBySets 6 = .ok (.istore_n 3, 1) := by decide +kernel
theorem dX21_matchBySets_7 : decode cX21_matchBySets 7 = .ok (.aload_n 0, 1) := by decide +kernel
theorem dX21_matchBySets_8 : decode cX21_matchBySets 8 = .ok (.iload_n 3, 1) := by decide +kernel
theorem dX21_matchBySets_9 : decode cX21_matchBySets 9 = .ok (.ifCond .ne 19, 3) := by decide +kernel
theorem dX21_matchBySets_28 : decode cX21_matchBySets 28 = .ok (.iload_n 3, 1) := by decide +kernel
theorem dX21_matchBySets_29 : decode cX21_matchBySets 29 = .ok (.invokevirtual 154, 3) := by decide +kernel
theorem dX21_matchBySets_32 : decode cX21_matchBySets 32 = .ok (.ifCond .eq 5, 3) := by decide +kernel
theorem dX21_matchBySets_35 : decode cX21_matchBySets 35 = .ok (.iconst 0, 1) := by decide +kernel
theorem dX21_matchBySets_36 : decode cX21_matchBySets 36 = .ok (.ireturn, 1) := by decide +kernel
theorem dX21_notRegular_0 : decode cX21_notRegular 0 = .ok (.aload_n 0, 1) := by decide +kernel
theorem dX21_notRegular_1 : decode cX21_notRegular 1 = .ok (.iload_n 1, 1) := by decide +kernel
theorem dX21_notRegular_2 : decode cX21_notRegular 2 = .ok (.iload_n 2, 1) := by decide +kernel
theorem dX21_notRegular_3 : decode cX21_notRegular 3 = .ok (.invokevirtual 416, 3) := by decide +kernel
theorem dX21_notRegular_6 : decode cX21_notRegular 6 = .ok (.istore_n 3, 1) := by decide +kernel
theorem dX21_notRegular_7 : decode cX21_notRegular 7 = .ok (.iload_n 3, 1) := by decide +kernel
theorem dX21_notRegular_8 : decode cX21_notRegular 8 = .ok (.ifCond .ne 19, 3) := by decide +kernel
theorem dX21_notRegular_27 : decode cX21_notRegular 27 = .ok (.iload_n 3, 1) := by decide +kernel
theorem dX21_notRegular_28 : decode cX21_notRegular 28 = .ok (.ireturn, 1) := by decide +kernel
theorem dX21_longest_0 : decode cX21_longest 0 = .ok (.aload_n 0, 1) := by decide +kernel
theorem dX21_longest_1 : decode cX21_longest 1 = .ok (.aload_n 0, 1) := by decide +kernel
theorem dX21_longest_2 : decode cX21_longest 2 = .ok (.iload_n 1, 1) := by decide +kernel
theorem dX21_longest_3 : decode cX21_longest 3 = .ok (.iload_n 2, 1) := by decide +kernel
theorem dX21_longest_4 : decode cX21_longest 4 = .ok (.invokevirtual 550, 3) := by decide +kernel
theorem dX21_longest_7 : decode cX21_longest 7 = .ok (.invokevirtual 154, 3) := by decide +kernel
theorem dX21_longest_10 : decode cX21_longest 10 = .ok (.ifCond .eq 5, 3) := by decide +kernel
theorem dX21_longest_13 : decode cX21_longest 13 = .ok (.iconst 0, 1) := by decide +kernel
theorem dX21_longest_14 : decode cX21_longest 14 = .ok (.ireturn, 1) := by decide +kernel
theorem dX21_canStill_0 : decode cX21_canStill 0 = .ok (.aload_n 0, 1) := by decide +kernel
theorem dX21_canStill_1 : decode cX21_canStill 1 = .ok (.aload_n 0, 1) := by decide +kernel
theorem dX21_canStill_2 : decode cX21_canStill 2 = .ok (.iload_n 1, 1) := by decide +kernel
theorem dX21_canStill_3 : decode cX21_canStill 3 = .ok (.iload_n 2, 1) := by decide +kernel
theorem dX21_canStill_4 : decode cX21_canStill 4 = .ok (.invokevirtual 550, 3) := by decide +kernel
theorem dX21_canStill_7 : decode cX21_canStill 7 = .ok (.invokevirtual 154, 3) := by decide +kernel
theorem dX21_canStill_10 : decode cX21_canStill 10 = .ok (.ifCond .eq 5, 3) := by decide +kernel
theorem dX21_canStill_13 : decode cX21_canStill 13 = .ok (.iconst 0, 1) := by decide +kernel
theorem dX21_canStill_14 : decode cX21_canStill 14 = .ok (.ireturn, 1) := by decide +kernel
theorem dX21_ways_0 : decode cX21_ways 0 = .ok (.iload_n 1, 1) := by decide +kernel
theorem dX21_ways_1 : decode cX21_ways 1 = .ok (.iconst 0, 1) := by decide +kernel
theorem dX21_ways_2 : decode cX21_ways 2 = .ok (.iconst 3, 1) := by decide +kernel
theorem dX21_ways_3 : decode cX21_ways 3 = .ok (.invokestatic 160, 3) := by decide +kernel
theorem dX21_ways_6 : decode cX21_ways 6 = .ok (.ifCond .eq 31, 3) := by decide +kernel
theorem dX21_ways_9 : decode cX21_ways 9 = .ok (.iload_n 2, 1) := by decide +kernel
theorem dX21_ways_10 : decode cX21_ways 10 = .ok (.iconst 0, 1) := by decide +kernel
theorem dX21_ways_11 : decode cX21_ways 11 = .ok (.aload_n 0, 1) := by decide +kernel
theorem dX21_ways_12 : decode cX21_ways 12 = .ok (.getfield 196, 3) := by decide +kernel
theorem dX21_ways_15 : decode cX21_ways 15 = .ok (.invokestatic 160, 3) := by decide +kernel
theorem dX21_ways_18 : decode cX21_ways 18 = .ok (.ifCond .eq 19, 3) := by decide +kernel
theorem dX21_ways_21 : decode cX21_ways 21 = .ok (.iload_n 3, 1) := by decide +kernel
theorem dX21_ways_22 : decode cX21_ways 22 = .ok (.iconst 0, 1) := by decide +kernel
theorem dX21_ways_23 : decode cX21_ways 23 = .ok (.aload_n 0, 1) := by decide +kernel
theorem dX21_ways_24 : decode cX21_ways 24 = .ok (.getfield 196, 3) := by decide +kernel
theorem dX21_ways_27 : decode cX21_ways 27 = .ok (.invokestatic 160, 3) := by decide +kernel
theorem dX21_ways_30 : decode cX21_ways 30 = .ok (.ifCond .eq 7, 3) := by decide +kernel
theorem dX21_ways_33 : decode cX21_ways 33 = .ok (.iconst 1, 1) := by decide +kernel
theorem dX21_ways_34 : decode cX21_ways 34 = .ok (.goto 4, 3) := by decide +kernel
theorem dX21_ways_37 : decode cX21_ways 37 = .ok (.iconst 0, 1) := by decide +kernel
theorem dX21_ways_38 : decode cX21_ways 38 = .ok (.istore 4, 2) := by decide +kernel
theorem dX21_ways_40 : decode cX21_ways 40 = .ok (.iload 4, 2) := by decide +kernel
theorem dX21_ways_42 : decode cX21_ways 42 = .ok (.ifCond .ne 7, 3) := by decide +kernel
theorem dX21_ways_45 : decode cX21_ways 45 = .ok (.iconst 1, 1) := by decide +kernel
theorem dX21_ways_46 : decode cX21_ways 46 = .ok (.goto 29, 3) := by decide +kernel
theorem dX21_ways_49 : decode cX21_ways 49 = .ok (.aload_n 0, 1) := by decide +kernel
theorem dX21_ways_50 : decode cX21_ways 50 = .ok (.getfield 90, 3) := by decide +kernel
theorem dX21_ways_53 : decode cX21_ways 53 = .ok (.iload_n 1, 1) := by decide +kernel
theorem dX21_ways_54 : decode cX21_ways 54 = .ok (.aaload, 1) := by decide +kernel
theorem dX21_ways_55 : decode cX21_ways 55 = .ok (.ifnull 15, 3) := by decide +kernel
theorem dX21_ways_70 : decode cX21_ways 70 = .ok (.iconst 2, 1) := by decide +kernel
theorem dX21_ways_71 : decode cX21_ways 71 = .ok (.goto 4, 3) := by decide +kernel
theorem dX21_ways_75 : decode cX21_ways 75 = .ok (.istore 5, 2) := by decide +kernel
theorem dX21_ways_77 : decode cX21_ways 77 = .ok (.aload_n 0, 1) := by decide +kernel
theorem dX21_ways_78 : decode cX21_ways 78 = .ok (.iload 5, 2) := by decide +kernel
theorem dX21_ways_80 : decode cX21_ways 80 = .ok (.invokevirtual 154, 3) := by decide +kernel
theorem dX21_ways_83 : decode cX21_ways 83 = .ok (.ifCond .eq 5, 3) := by decide +kernel
theorem dX21_ways_86 : decode cX21_ways 86 = .ok (.iconst 0, 1) := by decide +kernel
theorem dX21_ways_87 : decode cX21_ways 87 = .ok (.ireturn, 1) := by decide +kernel
theorem dJ0_length_8abf5_0 : decode cJ0_length_8abf5 0 = .ok (.aload_n 0, 1) := by decide +kernel
theorem dJ0_length_8abf5_1 : decode cJ0_length_8abf5 1 = .ok (.getfield 9, 3) := by decide +kernel
theorem dJ0_length_8abf5_4 : decode cJ0_length_8abf5 4 = .ok (.arraylength, 1) := by decide +kernel
theorem dJ0_length_8abf5_5 : decode cJ0_length_8abf5 5 = .ok (.aload_n 0, 1) := by decide +kernel
theorem dJ0_length_8abf5_6 : decode cJ0_length_8abf5 6 = .ok (.invokevirtual 335, 3) := by decide +kernel
theorem dJ0_length_8abf5_9 : decode cJ0_length_8abf5 9 = .ok (.ishr, 1) := by decide +kernel
theorem dJ0_length_8abf5_10 : decode cJ0_length_8abf5 10 = .ok (.ireturn, 1) := by decide +kernel
theorem dJ0_indexOf_0f7a4_0 : decode cJ0_indexOf_0f7a4 0 = .ok (.aload_n 0, 1) := by decide +kernel
theorem dJ0_indexOf_0f7a4_1 : decode cJ0_indexOf_0f7a4 1 = .ok (.iload_n 1, 1) := by decide +kernel
theorem dJ0_indexOf_0f7a4_2 : decode cJ0_indexOf_0f7a4 2 = .ok (.iconst 0, 1) := by decide +kernel
theorem dJ0_indexOf_0f7a4_3 : decode cJ0_indexOf_0f7a4 3 = .ok (.invokevirtual 633, 3) := by decide +kernel
theorem dJ0_indexOf_0f7a4_6 : decode cJ0_indexOf_0f7a4 6 = .ok (.ireturn, 1) := by decide +kernel
theorem dJ0_indexOf_7cf53_0 : decode cJ0_indexOf_7cf53 0 = .ok (.aload_n 0, 1) := by decide +kernel
theorem dJ0_indexOf_7cf53_1 : decode cJ0_indexOf_7cf53 1 = .ok (.invokevirtual 492, 3) := by decide +kernel
theorem dJ0_indexOf_7cf53_4 : decode cJ0_indexOf_7cf53 4 = .ok (.ifCond .eq 19, 3) := by decide +kernel
theorem dJ0_indexOf_7cf53_7 : decode cJ0_indexOf_7cf53 7 = .ok (.aload_n 0, 1) := by decide +kernel
theorem dJ0_indexOf_7cf53_8 : decode cJ0_indexOf_7cf53 8 = .ok (.getfield 9, 3) := by decide +kernel
theorem dJ0_indexOf_7cf53_11 : decode cJ0_indexOf_7cf53 11 = .ok (.iload_n 1, 1) := by decide +kernel
theorem dJ0_indexOf_7cf53_12 : decode cJ0_indexOf_7cf53 12 = .ok (.iload_n 2, 1) := by decide +kernel
theorem dJ0_indexOf_7cf53_13 : decode cJ0_indexOf_7cf53 13 = .ok (.aload_n 0, 1) := by decide +kernel
theorem dJ0_indexOf_7cf53_14 : decode cJ0_indexOf_7cf53 14 = .ok (.invokevirtual 505, 3) := by decide +kernel
theorem dJ0_indexOf_7cf53_17 : decode cJ0_indexOf_7cf53 17 = .ok (.invokestatic 637, 3) := by decide +kernel
theorem dJ0_indexOf_7cf53_20 : decode cJ0_indexOf_7cf53 20 = .ok (.goto 16, 3) := by decide +kernel
theorem dJ0_indexOf_7cf53_36 : decode cJ0_indexOf_7cf53 36 = .ok (.ireturn, 1) := by decide +kernel
theorem dJ0_coder_7d493_0 : decode cJ0_coder_7d493 0 = .ok (.getstatic 38, 3) := by decide +kernel
theorem dJ0_coder_7d493_3 : decode cJ0_coder_7d493 3 = .ok (.ifCond .eq 10, 3) := by decide +kernel
theorem dJ0_coder_7d493_6 : decode cJ0_coder_7d493 6 = .ok (.aload_n 0, 1) := by decide +kernel
theorem dJ0_coder_7d493_7 : decode cJ0_coder_7d493 7 = .ok (.getfield 15, 3) := by decide +kernel
theorem dJ0_coder_7d493_10 : decode cJ0_coder_7d493 10 = .ok (.goto 4, 3) := by decide +kernel
theorem dJ0_coder_7d493_14 : decode cJ0_coder_7d493 14 = .ok (.ireturn, 1) := by decide +kernel
theorem dJ0_isLatin1_aae02_0 : decode cJ0_isLatin1_aae02 0 = .ok (.getstatic 38, 3) := by decide +kernel
theorem dJ0_isLatin1_aae02_3 : decode cJ0_isLatin1_aae02 3 = .ok (.ifCond .eq 14, 3) := by decide +kernel
theorem dJ0_isLatin1_aae02_6 : decode cJ0_isLatin1_aae02 6 = .ok (.aload_n 0, 1) := by decide +kernel
theorem dJ0_isLatin1_aae02_7 : decode cJ0_isLatin1_aae02 7 = .ok (.getfield 15, 3) := by decide +kernel
theorem dJ0_isLatin1_aae02_10 : decode cJ0_isLatin1_aae02 10 = .ok (.ifCond .ne 7, 3) := by decide +kernel
theorem dJ0_isLatin1_aae02_13 : decode cJ0_isLatin1_aae02 13 = .ok (.iconst 1, 1) := by decide +kernel
theorem dJ0_isLatin1_aae02_14 : decode cJ0_isLatin1_aae02 14 = .ok (.goto 4, 3) := by decide +kernel
theorem dJ0_isLatin1_aae02_18 : decode cJ0_isLatin1_aae02 18 = .ok (.ireturn, 1) := by decide +kernel
theorem dJ1_canEncode_9a6ad_0 : decode cJ1_canEncode_9a6ad 0 = .ok (.iload_n 0, 1) := by decide +kernel
theorem dJ1_canEncode_9a6ad_1 : decode cJ1_canEncode_9a6ad 1 = .ok (.ifCond .lt 14, 3) := by decide +kernel
theorem dJ1_canEncode_9a6ad_4 : decode cJ1_canEncode_9a6ad 4 = .ok (.iload_n 0, 1) := by decide +kernel
theorem dJ1_canEncode_9a6ad_5 : decode cJ1_canEncode_9a6ad 5 = .ok (.sipush 255, 3) := by decide +kernel
theorem dJ1_canEncode_9a6ad_8 : decode cJ1_canEncode_9a6ad 8 = .ok (.if_icmp .gt 7, 3) := by decide +kernel
theorem dJ1_canEncode_9a6ad_11 : decode cJ1_canEncode_9a6ad 11 = .ok (.iconst 1, 1) := by decide +kernel
theorem dJ1_canEncode_9a6ad_12 : decode cJ1_canEncode_9a6ad 12 = .ok (.goto 4, 3) := by decide +kernel
theorem dJ1_canEncode_9a6ad_15 : decode cJ1_canEncode_9a6ad 15 = .ok (.iconst 0, 1) := by decide +kernel
theorem dJ1_canEncode_9a6ad_16 : decode cJ1_canEncode_9a6ad 16 = .ok (.ireturn, 1) := by decide +kernel
theorem dJ1_indexOf_4cfef_0 : decode cJ1_indexOf_4cfef 0 = .ok (.iload_n 1, 1) := by decide +kernel
theorem dJ1_indexOf_4cfef_1 : decode cJ1_indexOf_4cfef 1 = .ok (.invokestatic 88, 3) := by decide +kernel
theorem dJ1_indexOf_4cfef_4 : decode cJ1_indexOf_4cfef 4 = .ok (.ifCond .ne 5, 3) := by decide +kernel
theorem dJ1_indexOf_4cfef_7 : decode cJ1_indexOf_4cfef 7 = .ok (.iconst (-1), 1) := by decide +kernel
theorem dJ1_indexOf_4cfef_8 : decode cJ1_indexOf_4cfef 8 = .ok (.ireturn, 1) := by decide +kernel
theorem dJ1_indexOf_4cfef_9 : decode cJ1_indexOf_4cfef 9 = .ok (.iload_n 2, 1) := by decide +kernel
theorem dJ1_indexOf_4cfef_10 : decode cJ1_indexOf_4cfef 10 = .ok (.iconst 0, 1) := by decide +kernel
theorem dJ1_indexOf_4cfef_11 : decode cJ1_indexOf_4cfef 11 = .ok (.invokestatic 92, 3) := by decide +kernel
theorem dJ1_indexOf_4cfef_14 : decode cJ1_indexOf_4cfef 14 = .ok (.istore_n 2, 1) := by decide +kernel
theorem dJ1_indexOf_4cfef_15 : decode cJ1_indexOf_4cfef 15 = .ok (.iload_n 3, 1) := by decide +kernel
theorem dJ1_indexOf_4cfef_16 : decode cJ1_indexOf_4cfef 16 = .ok (.aload_n 0, 1) := by decide +kernel
theorem dJ1_indexOf_4cfef_17 : decode cJ1_indexOf_4cfef 17 = .ok (.arraylength, 1) := by decide +kernel
theorem dJ1_indexOf_4cfef_18 : decode cJ1_indexOf_4cfef 18 = .ok (.invokestatic 38, 3) := by decide +kernel
theorem dJ1_indexOf_4cfef_21 : decode cJ1_indexOf_4cfef 21 = .ok (.istore_n 3, 1) := by decide +kernel
theorem dJ1_indexOf_4cfef_22 : decode cJ1_indexOf_4cfef 22 = .ok (.iload_n 2, 1) := by decide +kernel
theorem dJ1_indexOf_4cfef_23 : decode cJ1_indexOf_4cfef 23 = .ok (.iload_n 3, 1) := by decide +kernel
theorem dJ1_indexOf_4cfef_24 : decode cJ1_indexOf_4cfef 24 = .ok (.if_icmp .lt 5, 3) := by decide +kernel
theorem dJ1_indexOf_4cfef_29 : decode cJ1_indexOf_4cfef 29 = .ok (.aload_n 0, 1) := by decide +kernel
theorem dJ1_indexOf_4cfef_30 : decode cJ1_indexOf_4cfef 30 = .ok (.iload_n 1, 1) := by decide +kernel
theorem dJ1_indexOf_4cfef_31 : decode cJ1_indexOf_4cfef 31 = .ok (.iload_n 2, 1) := by decide +kernel
theorem dJ1_indexOf_4cfef_32 : decode cJ1_indexOf_4cfef 32 = .ok (.iload_n 3, 1) := by decide +kernel
theorem dJ1_indexOf_4cfef_33 : decode cJ1_indexOf_4cfef 33 = .ok (.invokestatic 95, 3) := by decide +kernel
theorem dJ1_indexOf_4cfef_36 : decode cJ1_indexOf_4cfef 36 = .ok (.ireturn, 1) := by decide +kernel
theorem dJ1_indexOfChar_4cfef_0 : decode cJ1_indexOfChar_4cfef 0 = .ok (.iload_n 1, 1) := by decide +kernel
theorem dJ1_indexOfChar_4cfef_1 : decode cJ1_indexOfChar_4cfef 1 = .ok (.i2b, 1) := by decide +kernel
theorem dJ1_indexOfChar_4cfef_2 : decode cJ1_indexOfChar_4cfef 2 = .ok (.istore 4, 2) := by decide +kernel
theorem dJ1_indexOfChar_4cfef_4 : decode cJ1_indexOfChar_4cfef 4 = .ok (.iload_n 2, 1) := by decide +kernel
theorem dJ1_indexOfChar_4cfef_5 : decode cJ1_indexOfChar_4cfef 5 = .ok (.istore 5, 2) := by decide +kernel
theorem dJ1_indexOfChar_4cfef_7 : decode cJ1_indexOfChar_4cfef 7 = .ok (.iload 5, 2) := by decide +kernel
theorem dJ1_indexOfChar_4cfef_9 : decode cJ1_indexOfChar_4cfef 9 = .ok (.iload_n 3, 1) := by decide +kernel
theorem dJ1_indexOfChar_4cfef_10 : decode cJ1_indexOfChar_4cfef 10 = .ok (.if_icmp .ge 21, 3) := by decide +kernel
theorem dJ1_indexOfChar_4cfef_13 : decode cJ1_indexOfChar_4cfef 13 = .ok (.aload_n 0, 1) := by decide +kernel
theorem dJ1_indexOfChar_4cfef_14 : decode cJ1_indexOfChar_4cfef 14 = .ok (.iload 5, 2) := by decide +kernel
theorem dJ1_indexOfChar_4cfef_16 : decode cJ1_indexOfChar_4cfef 16 = .ok (.baload, 1) := by decide +kernel
theorem dJ1_indexOfChar_4cfef_17 : decode cJ1_indexOfChar_4cfef 17 = .ok (.iload 4, 2) := by decide +kernel
theorem dJ1_indexOfChar_4cfef_19 : decode cJ1_indexOfChar_4cfef 19 = .ok (.if_icmp .ne 6, 3) := by decide +kernel
theorem dJ1_indexOfChar_4cfef_22 : decode cJ1_indexOfChar_4cfef 22 = .ok (.iload 5, 2) := by decide +kernel
theorem dJ1_indexOfChar_4cfef_24 : decode cJ1_indexOfChar_4cfef 24 = .ok (.ireturn, 1) := by decide +kernel
theorem dJ1_indexOfChar_4cfef_25 : decode cJ1_indexOfChar_4cfef 25 = .ok (.iinc 5 1, 3) := by decide +kernel
theorem dJ1_indexOfChar_4cfef_28 : decode cJ1_indexOfChar_4cfef 28 = .ok (.goto (-21), 3) := by decide +kernel
theorem dJ1_indexOfChar_4cfef_31 : decode cJ1_indexOfChar_4cfef 31 = .ok (.iconst (-1), 1) := by decide +kernel
theorem dJ1_indexOfChar_4cfef_32 : decode cJ1_indexOfChar_4cfef 32 = .ok (.ireturn, 1) := by decide +kernel
theorem dJxa1e45_init_da8c8_0 : decode cJxa1e45_init_da8c8 0 = .ok (.aload_n 0, 1) := by decide +kernel
theorem dJxa1e45_init_da8c8_1 : decode cJxa1e45_init_da8c8 1 = .ok (.invokespecial 1, 3) := by decide +kernel
theorem dJxa1e45_init_da8c8_4 : decode cJxa1e45_init_da8c8 4 = .ok (.return_, 1) := by decide +kernel
theorem dJxc12de_init_da8c8_0 : decode cJxc12de_init_da8c8 0 = .ok (.aload_n 0, 1) := by decide +kernel
theorem dJxc12de_init_da8c8_1 : decode cJxc12de_init_da8c8 1 = .ok (.invokespecial 1, 3) := by decide +kernel
theorem dJxc12de_init_da8c8_4 : decode cJxc12de_init_da8c8 4 = .ok (.aload_n 0, 1) := by decide +kernel
theorem dJxc12de_init_da8c8_5 : decode cJxc12de_init_da8c8 5 = .ok (.iconst 0, 1) := by decide +kernel
theorem dJxc12de_init_da8c8_6 : decode cJxc12de_init_da8c8 6 = .ok (.putfield 7, 3) := by decide +kernel
theorem dJxc12de_init_da8c8_9 : decode cJxc12de_init_da8c8 9 = .ok (.return_, 1) := by decide +kernel
theorem dJx35411_init_45d68_0 : decode cJx35411_init_45d68 0 = .ok (.aload_n 0, 1) := by decide +kernel
theorem dJx35411_init_45d68_1 : decode cJx35411_init_45d68 1 = .ok (.aload_n 1, 1) := by decide +kernel
theorem dJx35411_init_45d68_2 : decode cJx35411_init_45d68 2 = .ok (.putfield 1, 3) := by decide +kernel
theorem dJx35411_init_45d68_5 : decode cJx35411_init_45d68 5 = .ok (.aload_n 0, 1) := by decide +kernel
theorem dJx35411_init_45d68_6 : decode cJx35411_init_45d68 6 = .ok (.invokespecial 7, 3) := by decide +kernel
theorem dJx35411_init_45d68_9 : decode cJx35411_init_45d68 9 = .ok (.aload_n 0, 1) := by decide +kernel
theorem dJx35411_init_45d68_10 : decode cJx35411_init_45d68 10 = .ok (.iconst (-1), 1) := by decide +kernel
theorem dJx35411_init_45d68_11 : decode cJx35411_init_45d68 11 = .ok (.putfield 13, 3) := by decide +kernel
theorem dJx35411_init_45d68_14 : decode cJx35411_init_45d68 14 = .ok (.aload_n 0, 1) := by decide +kernel
theorem dJx35411_init_45d68_15 : decode cJx35411_init_45d68 15 = .ok (.aload_n 0, 1) := by decide +kernel
theorem dJx35411_init_45d68_16 : decode cJx35411_init_45d68 16 = .ok (.getfield 1, 3) := by decide +kernel
theorem dJx35411_init_45d68_19 : decode cJx35411_init_45d68 19 = .ok (.getfield 17, 3) := by decide +kernel
theorem dJx35411_init_45d68_22 : decode cJx35411_init_45d68 22 = .ok (.putfield 22, 3) := by decide +kernel
theorem dJx35411_init_45d68_25 : decode cJx35411_init_45d68 25 = .ok (.return_, 1) := by decide +kernel
theorem dJx35411_hasNext_aae02_0 : decode cJx35411_hasNext_aae02 0 = .ok (.aload_n 0, 1) := by decide +kernel
theorem dJx35411_hasNext_aae02_1 : decode cJx35411_hasNext_aae02 1 = .ok (.getfield 25, 3) := by decide +kernel
theorem dJx35411_hasNext_aae02_4 : decode cJx35411_hasNext_aae02 4 = .ok (.aload_n 0, 1) := by decide +kernel
theorem dJx35411_hasNext_aae02_5 : decode cJx35411_hasNext_aae02 5 = .ok (.getfield 1, 3) := by decide +kernel
theorem dJx35411_hasNext_aae02_8 : decode cJx35411_hasNext_aae02 8 = .ok (.getfield 28, 3) := by decide +kernel
theorem dJx35411_hasNext_aae02_11 : decode cJx35411_hasNext_aae02 11 = .ok (.if_icmp .eq 7, 3) := by decide +kernel
theorem dJx35411_hasNext_aae02_14 : decode cJx35411_hasNext_aae02 14 = .ok (.iconst 1, 1) := by decide +kernel
theorem dJx35411_hasNext_aae02_15 : decode cJx35411_hasNext_aae02 15 = .ok (.goto 4, 3) := by decide +kernel
theorem dJx35411_hasNext_aae02_18 : decode cJx35411_hasNext_aae02 18 = .ok (.iconst 0, 1) := by decide +kernel
theorem dJx35411_hasNext_aae02_19 : decode cJx35411_hasNext_aae02 19 = .ok (.ireturn, 1) := by decide +kernel
theorem dJx35411_next_0502b_0 : decode cJx35411_next_0502b 0 = .ok (.aload_n 0, 1) := by decide +kernel
theorem dJx35411_next_0502b_1 : decode cJx35411_next_0502b 1 = .ok (.invokevirtual 31, 3) := by decide +kernel
theorem dJx35411_next_0502b_4 : decode cJx35411_next_0502b 4 = .ok (.aload_n 0, 1) := by decide +kernel
theorem dJx35411_next_0502b_5 : decode cJx35411_next_0502b 5 = .ok (.getfield 25, 3) := by decide +kernel
theorem dJx35411_next_0502b_8 : decode cJx35411_next_0502b 8 = .ok (.istore_n 1, 1) := by decide +kernel
theorem dJx35411_next_0502b_9 : decode cJx35411_next_0502b 9 = .ok (.iload_n 1, 1) := by decide +kernel
theorem dJx35411_next_0502b_10 : decode cJx35411_next_0502b 10 = .ok (.aload_n 0, 1) := by decide +kernel
theorem dJx35411_next_0502b_11 : decode cJx35411_next_0502b 11 = .ok (.getfield 1, 3) := by decide +kernel
theorem dJx35411_next_0502b_14 : decode cJx35411_next_0502b 14 = .ok (.getfield 28, 3) := by decide +kernel
theorem dJx35411_next_0502b_17 : decode cJx35411_next_0502b 17 = .ok (.if_icmp .lt 11, 3) := by decide +kernel
theorem dJx35411_next_0502b_28 : decode cJx35411_next_0502b 28 = .ok (.aload_n 0, 1) := by decide +kernel
theorem dJx35411_next_0502b_29 : decode cJx35411_next_0502b 29 = .ok (.getfield 1, 3) := by decide +kernel
theorem dJx35411_next_0502b_32 : decode cJx35411_next_0502b 32 = .ok (.getfield 37, 3) := by decide +kernel
theorem dJx35411_next_0502b_35 : decode cJx35411_next_0502b 35 = .ok (.astore_n 2, 1) := by decide +kernel
theorem dJx35411_next_0502b_36 : decode cJx35411_next_0502b 36 = .ok (.iload_n 1, 1) := by decide +kernel
theorem dJx35411_next_0502b_37 : decode cJx35411_next_0502b 37 = .ok (.aload_n 2, 1) := by decide +kernel
theorem dJx35411_next_0502b_38 : decode cJx35411_next_0502b 38 = .ok (.arraylength, 1) := by decide +kernel
theorem dJx35411_next_0502b_39 : decode cJx35411_next_0502b 39 = .ok (.if_icmp .lt 11, 3) := by decide +kernel
theorem dJx35411_next_0502b_50 : decode cJx35411_next_0502b 50 = .ok (.aload_n 0, 1) := by decide +kernel
theorem dJx35411_next_0502b_51 : decode cJx35411_next_0502b 51 = .ok (.iload_n 1, 1) := by decide +kernel
theorem dJx35411_next_0502b_52 : decode cJx35411_next_0502b 52 = .ok (.iconst 1, 1) := by decide +kernel
theorem dJx35411_next_0502b_53 : decode cJx35411_next_0502b 53 = .ok (.iadd, 1) := by decide +kernel
theorem dJx35411_next_0502b_54 : decode cJx35411_next_0502b 54 = .ok (.putfield 25, 3) := by decide +kernel
theorem dJx35411_next_0502b_57 : decode cJx35411_next_0502b 57 = .ok (.aload_n 2, 1) := by decide +kernel
theorem dJx35411_next_0502b_58 : decode cJx35411_next_0502b 58 = .ok (.aload_n 0, 1) := by decide +kernel
theorem dJx35411_next_0502b_59 : decode cJx35411_next_0502b 59 = .ok (.iload_n 1, 1) := by decide +kernel
theorem dJx35411_next_0502b_60 : decode cJx35411_next_0502b 60 = .ok (.dup_x1, 1) := by decide +kernel
theorem dJx35411_next_0502b_61 : decode cJx35411_next_0502b 61 = .ok (.putfield 13, 3) := by decide +kernel
theorem dJx35411_next_0502b_64 : decode cJx35411_next_0502b 64 = .ok (.aaload, 1) := by decide +kernel
theorem dJx35411_next_0502b_65 : decode cJx35411_next_0502b 65 = .ok (.areturn, 1) := by decide +kernel
theorem dJx35411_checkForComodification_da8c8_0 : decode cJx35411_checkForComodification_da8c8 0 = .ok (.aload_n 0, 1) := by decide +kernel
theorem dJx35411_checkForComodification_da8c8_1 : decode cJx35411_checkForComodification_da8c8 1 = .ok (.getfield 1, 3) := by decide +kernel
theorem dJx35411_checkForComodification_da8c8_4 : decode cJx35411_checkForComodification_da8c8 4 = .ok (.getfield 17, 3) := by decide +kernel
theorem dJx35411_checkForComodification_da8c8_7 : decode cJx35411_checkForComodification_da8c8 7 = .ok (.aload_n 0, 1) := by decide +kernel
theorem dJx35411_checkForComodification_da8c8_8 : decode cJx35411_checkForComodification_da8c8 8 = .ok (.getfield 22, 3) := by decide +kernel
theorem dJx35411_checkForComodification_da8c8_11 : decode cJx35411_checkForComodification_da8c8 11 = .ok (.if_icmp .eq 11, 3) := by decide +kernel
theorem dJx35411_checkForComodification_da8c8_22 : decode cJx35411_checkForComodification_da8c8 22 = .ok (.return_, 1) := by decide +kernel
theorem dJx4a65c_init_da8c8_0 : decode cJx4a65c_init_da8c8 0 = .ok (.aload_n 0, 1) := by decide +kernel
theorem dJx4a65c_init_da8c8_1 : decode cJx4a65c_init_da8c8 1 = .ok (.invokespecial 1, 3) := by decide +kernel
theorem dJx4a65c_init_da8c8_4 : decode cJx4a65c_init_da8c8 4 = .ok (.aload_n 0, 1) := by decide +kernel
theorem dJx4a65c_init_da8c8_5 : decode cJx4a65c_init_da8c8 5 = .ok (.getstatic 39, 3) := by decide +kernel
theorem dJx4a65c_init_da8c8_8 : decode cJx4a65c_init_da8c8 8 = .ok (.putfield 9, 3) := by decide +kernel
theorem dJx4a65c_init_da8c8_11 : decode cJx4a65c_init_da8c8 11 = .ok (.return_, 1) := by decide +kernel
theorem dJx4a65c_grow_92f84_0 : decode cJx4a65c_grow_92f84 0 = .ok (.aload_n 0, 1) := by decide +kernel
theorem dJx4a65c_grow_92f84_1 : decode cJx4a65c_grow_92f84 1 = .ok (.getfield 9, 3) := by decide +kernel
theorem dJx4a65c_grow_92f84_4 : decode cJx4a65c_grow_92f84 4 = .ok (.arraylength, 1) := by decide +kernel
theorem dJx4a65c_grow_92f84_5 : decode cJx4a65c_grow_92f84 5 = .ok (.istore_n 2, 1) := by decide +kernel
theorem dJx4a65c_grow_92f84_6 : decode cJx4a65c_grow_92f84 6 = .ok (.iload_n 2, 1) := by decide +kernel
theorem dJx4a65c_grow_92f84_7 : decode cJx4a65c_grow_92f84 7 = .ok (.ifCond .gt 13, 3) := by decide +kernel
theorem dJx4a65c_grow_92f84_10 : decode cJx4a65c_grow_92f84 10 = .ok (.aload_n 0, 1) := by decide +kernel
theorem dJx4a65c_grow_92f84_11 : decode cJx4a65c_grow_92f84 11 = .ok (.getfield 9, 3) := by decide +kernel
theorem dJx4a65c_grow_92f84_14 : decode cJx4a65c_grow_92f84 14 = .ok (.getstatic 39, 3) := by decide +kernel
theorem dJx4a65c_grow_92f84_17 : decode cJx4a65c_grow_92f84 17 = .ok (.if_acmp .eq 28, 3) := by decide +kernel
theorem dJx4a65c_grow_92f84_45 : decode cJx4a65c_grow_92f84 45 = .ok (.aload_n 0, 1) := by decide +kernel
theorem dJx4a65c_grow_92f84_46 : decode cJx4a65c_grow_92f84 46 = .ok (.bipush 10, 2) := by decide +kernel
theorem dJx4a65c_grow_92f84_48 : decode cJx4a65c_grow_92f84 48 = .ok (.iload_n 1, 1) := by decide +kernel
theorem dJx4a65c_grow_92f84_49 : decode cJx4a65c_grow_92f84 49 = .ok (.invokestatic 79, 3) := by decide +kernel
theorem dJx4a65c_grow_92f84_52 : decode cJx4a65c_grow_92f84 52 = .ok (.anewarray 7, 3) := by decide +kernel
theorem dJx4a65c_grow_92f84_55 : decode cJx4a65c_grow_92f84 55 = .ok (.dup_x1, 1) := by decide +kernel
theorem dJx4a65c_grow_92f84_56 : decode cJx4a65c_grow_92f84 56 = .ok (.putfield 9, 3) := by decide +kernel
theorem dJx4a65c_grow_92f84_59 : decode cJx4a65c_grow_92f84 59 = .ok (.areturn, 1) := by decide +kernel
theorem dJx4a65c_grow_d5877_0 : decode cJx4a65c_grow_d5877 0 = .ok (.aload_n 0, 1) := by decide +kernel
theorem dJx4a65c_grow_d5877_1 : decode cJx4a65c_grow_d5877 1 = .ok (.aload_n 0, 1) := by decide +kernel
theorem dJx4a65c_grow_d5877_2 : decode cJx4a65c_grow_d5877 2 = .ok (.getfield 48, 3) := by decide +kernel
theorem dJx4a65c_grow_d5877_5 : decode cJx4a65c_grow_d5877 5 = .ok (.iconst 1, 1) := by decide +kernel
theorem dJx4a65c_grow_d5877_6 : decode cJx4a65c_grow_d5877 6 = .ok (.iadd, 1) := by decide +kernel
theorem dJx4a65c_grow_d5877_7 : decode cJx4a65c_grow_d5877 7 = .ok (.invokevirtual 69, 3) := by decide +kernel
theorem dJx4a65c_grow_d5877_10 : decode cJx4a65c_grow_d5877 10 = .ok (.areturn, 1) := by decide +kernel
theorem dJx4a65c_size_8abf5_0 : decode cJx4a65c_size_8abf5 0 = .ok (.aload_n 0, 1) := by decide +kernel
theorem dJx4a65c_size_8abf5_1 : decode cJx4a65c_size_8abf5 1 = .ok (.getfield 48, 3) := by decide +kernel
theorem dJx4a65c_size_8abf5_4 : decode cJx4a65c_size_8abf5 4 = .ok (.ireturn, 1) := by decide +kernel
theorem dJx4a65c_add_72be8_0 : decode cJx4a65c_add_72be8 0 = .ok (.iload_n 3, 1) := by decide +kernel
theorem dJx4a65c_add_72be8_1 : decode cJx4a65c_add_72be8 1 = .ok (.aload_n 2, 1) := by decide +kernel
theorem dJx4a65c_add_72be8_2 : decode cJx4a65c_add_72be8 2 = .ok (.arraylength, 1) := by decide +kernel
theorem dJx4a65c_add_72be8_3 : decode cJx4a65c_add_72be8 3 = .ok (.if_icmp .ne 8, 3) := by decide +kernel
theorem dJx4a65c_add_72be8_6 : decode cJx4a65c_add_72be8 6 = .ok (.aload_n 0, 1) := by decide +kernel
theorem dJx4a65c_add_72be8_7 : decode cJx4a65c_add_72be8 7 = .ok (.invokevirtual 129, 3) := by decide +kernel
theorem dJx4a65c_add_72be8_10 : decode cJx4a65c_add_72be8 10 = .ok (.astore_n 2, 1) := by decide +kernel
theorem dJx4a65c_add_72be8_11 : decode cJx4a65c_add_72be8 11 = .ok (.aload_n 2, 1) := by decide +kernel
theorem dJx4a65c_add_72be8_12 : decode cJx4a65c_add_72be8 12 = .ok (.iload_n 3, 1) := by decide +kernel
theorem dJx4a65c_add_72be8_13 : decode cJx4a65c_add_72be8 13 = .ok (.aload_n 1, 1) := by decide +kernel
theorem dJx4a65c_add_72be8_14 : decode cJx4a65c_add_72be8 14 = .ok (.aastore, 1) := by decide +kernel
theorem dJx4a65c_add_72be8_15 : decode cJx4a65c_add_72be8 15 = .ok (.aload_n 0, 1) := by decide +kernel
theorem dJx4a65c_add_72be8_16 : decode cJx4a65c_add_72be8 16 = .ok (.iload_n 3, 1) := by decide +kernel
theorem dJx4a65c_add_72be8_17 : decode cJx4a65c_add_72be8 17 = .ok (.iconst 1, 1) := by decide +kernel
theorem dJx4a65c_add_72be8_18 : decode cJx4a65c_add_72be8 18 = .ok (.iadd, 1) := by decide +kernel
theorem dJx4a65c_add_72be8_19 : decode cJx4a65c_add_72be8 19 = .ok (.putfield 48, 3) := by decide +kernel
theorem dJx4a65c_add_72be8_22 : decode cJx4a65c_add_72be8 22 = .ok (.return_, 1) := by decide +kernel
theorem dJx4a65c_add_9ea2d_0 : decode cJx4a65c_add_9ea2d 0 = .ok (.aload_n 0, 1) := by decide +kernel
theorem dJx4a65c_add_9ea2d_1 : decode cJx4a65c_add_9ea2d 1 = .ok (.dup, 1) := by decide +kernel
theorem dJx4a65c_add_9ea2d_2 : decode cJx4a65c_add_9ea2d 2 = .ok (.getfield 63, 3) := by decide +kernel
theorem dJx4a65c_add_9ea2d_5 : decode cJx4a65c_add_9ea2d 5 = .ok (.iconst 1, 1) := by decide +kernel
theorem dJx4a65c_add_9ea2d_6 : decode cJx4a65c_add_9ea2d 6 = .ok (.iadd, 1) := by decide +kernel
theorem dJx4a65c_add_9ea2d_7 : decode cJx4a65c_add_9ea2d 7 = .ok (.putfield 63, 3) := by decide +kernel
theorem dJx4a65c_add_9ea2d_10 : decode cJx4a65c_add_9ea2d 10 = .ok (.aload_n 0, 1) := by decide +kernel
theorem dJx4a65c_add_9ea2d_11 : decode cJx4a65c_add_9ea2d 11 = .ok (.aload_n 1, 1) := by decide +kernel
theorem dJx4a65c_add_9ea2d_12 : decode cJx4a65c_add_9ea2d 12 = .ok (.aload_n 0, 1) := by decide +kernel
theorem dJx4a65c_add_9ea2d_13 : decode cJx4a65c_add_9ea2d 13 = .ok (.getfield 9, 3) := by decide +kernel
theorem dJx4a65c_add_9ea2d_16 : decode cJx4a65c_add_9ea2d 16 = .ok (.aload_n 0, 1) := by decide +kernel
theorem dJx4a65c_add_9ea2d_17 : decode cJx4a65c_add_9ea2d 17 = .ok (.getfield 48, 3) := by decide +kernel
theorem dJx4a65c_add_9ea2d_20 : decode cJx4a65c_add_9ea2d 20 = .ok (.invokevirtual 131, 3) := by decide +kernel
theorem dJx4a65c_add_9ea2d_23 : decode cJx4a65c_add_9ea2d 23 = .ok (.iconst 1, 1) := by decide +kernel
theorem dJx4a65c_add_9ea2d_24 : decode cJx4a65c_add_9ea2d 24 = .ok (.ireturn, 1) := by decide +kernel
theorem dJx4a65c_iterator_32c93_0 : decode cJx4a65c_iterator_32c93 0 = .ok (.new 267, 3) := by decide +kernel
theorem dJx4a65c_iterator_32c93_3 : decode cJx4a65c_iterator_32c93 3 = .ok (.dup, 1) := by decide +kernel
theorem dJx4a65c_iterator_32c93_4 : decode cJx4a65c_iterator_32c93 4 = .ok (.aload_n 0, 1) := by decide +kernel
theorem dJx4a65c_iterator_32c93_5 : decode cJx4a65c_iterator_32c93 5 = .ok (.invokespecial 269, 3) := by decide +kernel
theorem dJx4a65c_iterator_32c93_8 : decode cJx4a65c_iterator_32c93 8 = .ok (.areturn, 1) := by decide +kernel
theorem dJ7_fill_53178_0 : decode cJ7_fill_53178 0 = .ok (.iconst 0, 1) := by decide +kernel
theorem dJ7_fill_53178_1 : decode cJ7_fill_53178 1 = .ok (.istore_n 2, 1) := by decide +kernel
theorem dJ7_fill_53178_2 : decode cJ7_fill_53178 2 = .ok (.aload_n 0, 1) := by decide +kernel
theorem dJ7_fill_53178_3 : decode cJ7_fill_53178 3 = .ok (.arraylength, 1) := by decide +kernel
theorem dJ7_fill_53178_4 : decode cJ7_fill_53178 4 = .ok (.istore_n 3, 1) := by decide +kernel
theorem dJ7_fill_53178_5 : decode cJ7_fill_53178 5 = .ok (.iload_n 2, 1) := by decide +kernel
theorem dJ7_fill_53178_6 : decode cJ7_fill_53178 6 = .ok (.iload_n 3, 1) := by decide +kernel
theorem dJ7_fill_53178_7 : decode cJ7_fill_53178 7 = .ok (.if_icmp .ge 13, 3) := by decide +kernel
theorem dJ7_fill_53178_10 : decode cJ7_fill_53178 10 = .ok (.aload_n 0, 1) := by decide +kernel
theorem dJ7_fill_53178_11 : decode cJ7_fill_53178 11 = .ok (.iload_n 2, 1) := by decide +kernel
theorem dJ7_fill_53178_12 : decode cJ7_fill_53178 12 = .ok (.iload_n 1, 1) := by decide +kernel
theorem dJ7_fill_53178_13 : decode cJ7_fill_53178 13 = .ok (.iastore, 1) := by decide +kernel
theorem dJ7_fill_53178_14 : decode cJ7_fill_53178 14 = .ok (.iinc 2 1, 3) := by decide +kernel
theorem dJ7_fill_53178_17 : decode cJ7_fill_53178 17 = .ok (.goto (-12), 3) := by decide +kernel
theorem dJ7_fill_53178_20 : decode cJ7_fill_53178 20 = .ok (.return_, 1) := by decide +kernel
theorem dL_sign_0 : decode cL_sign 0 = .ok (.aload_n 2, 1) := by decide +kernel
theorem dL_sign_1 : decode cL_sign 1 = .ok (.iconst 0, 1) := by decide +kernel
theorem dL_sign_2 : decode cL_sign 2 = .ok (.aload_n 0, 1) := by decide +kernel
theorem dL_sign_3 : decode cL_sign 3 = .ok (.iload_n 1, 1) := by decide +kernel
theorem dL_sign_4 : decode cL_sign 4 = .ok (.invokevirtual 7, 3) := by decide +kernel
theorem dL_sign_7 : decode cL_sign 7 = .ok (.i2l, 1) := by decide +kernel
theorem dL_sign_8 : decode cL_sign 8 = .ok (.lastore, 1) := by decide +kernel
theorem dL_sign_9 : decode cL_sign 9 = .ok (.goto 9, 3) := by decide +kernel
theorem dL_sign_12 : decode cL_sign 12 = .ok (.astore_n 3, 1) := by decide +kernel
theorem dL_sign_13 : decode cL_sign 13 = .ok (.iconst 1, 1) := by decide +kernel
theorem dL_sign_14 : decode cL_sign 14 = .ok (.ireturn, 1) := by decide +kernel
theorem dL_sign_18 : decode cL_sign 18 = .ok (.iconst 0, 1) := by decide +kernel
theorem dL_sign_19 : decode cL_sign 19 = .ok (.ireturn, 1) := by decide +kernel
theorem dL_tell_0 : decode cL_tell 0 = .ok (.aload_n 2, 1) := by decide +kernel
theorem dL_tell_1 : decode cL_tell 1 = .ok (.iconst 0, 1) := by decide +kernel
theorem dL_tell_2 : decode cL_tell 2 = .ok (.aload_n 0, 1) := by decide +kernel
theorem dL_tell_3 : decode cL_tell 3 = .ok (.iload_n 1, 1) := by decide +kernel
theorem dL_tell_4 : decode cL_tell 4 = .ok (.invokevirtual 17, 3) := by decide +kernel
theorem dL_tell_7 : decode cL_tell 7 = .ok (.i2l, 1) := by decide +kernel
theorem dL_tell_8 : decode cL_tell 8 = .ok (.lastore, 1) := by decide +kernel
theorem dL_tell_9 : decode cL_tell 9 = .ok (.goto 9, 3) := by decide +kernel
theorem dL_tell_12 : decode cL_tell 12 = .ok (.astore_n 3, 1) := by decide +kernel
theorem dL_tell_13 : decode cL_tell 13 = .ok (.iconst 1, 1) := by decide +kernel
theorem dL_tell_14 : decode cL_tell 14 = .ok (.ireturn, 1) := by decide +kernel
theorem dL_tell_18 : decode cL_tell 18 = .ok (.iconst 0, 1) := by decide +kernel
theorem dL_tell_19 : decode cL_tell 19 = .ok (.ireturn, 1) := by decide +kernel
theorem dL_lot_0 : decode cL_lot 0 = .ok (.aload_n 1, 1) := by decide +kernel
theorem dL_lot_1 : decode cL_lot 1 = .ok (.iconst 0, 1) := by decide +kernel
theorem dL_lot_2 : decode cL_lot 2 = .ok (.aload_n 0, 1) := by decide +kernel
theorem dL_lot_3 : decode cL_lot 3 = .ok (.invokevirtual 23, 3) := by decide +kernel
theorem dL_lot_6 : decode cL_lot 6 = .ok (.i2l, 1) := by decide +kernel
theorem dL_lot_7 : decode cL_lot 7 = .ok (.lastore, 1) := by decide +kernel
theorem dL_lot_8 : decode cL_lot 8 = .ok (.goto 6, 3) := by decide +kernel
theorem dL_lot_14 : decode cL_lot 14 = .ok (.iconst 0, 1) := by decide +kernel
theorem dL_lot_15 : decode cL_lot 15 = .ok (.ireturn, 1) := by decide +kernel
theorem dL_isPlain_0 : decode cL_isPlain 0 = .ok (.aload_n 2, 1) := by decide +kernel
theorem dL_isPlain_1 : decode cL_isPlain 1 = .ok (.iconst 0, 1) := by decide +kernel
theorem dL_isPlain_2 : decode cL_isPlain 2 = .ok (.aload_n 0, 1) := by decide +kernel
theorem dL_isPlain_3 : decode cL_isPlain 3 = .ok (.iload_n 1, 1) := by decide +kernel
theorem dL_isPlain_4 : decode cL_isPlain 4 = .ok (.invokevirtual 27, 3) := by decide +kernel
theorem dL_isPlain_19 : decode cL_isPlain 19 = .ok (.astore_n 3, 1) := by decide +kernel
theorem dL_isPlain_20 : decode cL_isPlain 20 = .ok (.iconst 1, 1) := by decide +kernel
theorem dL_isPlain_21 : decode cL_isPlain 21 = .ok (.ireturn, 1) := by decide +kernel
theorem dL_isPlain_22 : decode cL_isPlain 22 = .ok (.astore_n 3, 1) := by decide +kernel
theorem dL_isPlain_23 : decode cL_isPlain 23 = .ok (.iconst 2, 1) := by decide +kernel
theorem dL_isPlain_24 : decode cL_isPlain 24 = .ok (.ireturn, 1) := by decide +kernel
theorem dL_isRegular_0 : decode cL_isRegular 0 = .ok (.aload_n 2, 1) := by decide +kernel
theorem dL_isRegular_1 : decode cL_isRegular 1 = .ok (.iconst 0, 1) := by decide +kernel
theorem dL_isRegular_2 : decode cL_isRegular 2 = .ok (.aload_n 0, 1) := by decide +kernel
theorem dL_isRegular_3 : decode cL_isRegular 3 = .ok (.iload_n 1, 1) := by decide +kernel
theorem dL_isRegular_4 : decode cL_isRegular 4 = .ok (.invokevirtual 31, 3) := by decide +kernel
theorem dL_isRegular_19 : decode cL_isRegular 19 = .ok (.astore_n 3, 1) := by decide +kernel
theorem dL_isRegular_20 : decode cL_isRegular 20 = .ok (.iconst 1, 1) := by decide +kernel
theorem dL_isRegular_21 : decode cL_isRegular 21 = .ok (.ireturn, 1) := by decide +kernel
theorem dL_isRegular_22 : decode cL_isRegular 22 = .ok (.astore_n 3, 1) := by decide +kernel
theorem dL_isRegular_23 : decode cL_isRegular 23 = .ok (.iconst 2, 1) := by decide +kernel
theorem dL_isRegular_24 : decode cL_isRegular 24 = .ok (.ireturn, 1) := by decide +kernel
theorem dL_setBudget_0 : decode cL_setBudget 0 = .ok (.aload_n 2, 1) := by decide +kernel
theorem dL_setBudget_1 : decode cL_setBudget 1 = .ok (.iconst 0, 1) := by decide +kernel
theorem dL_setBudget_2 : decode cL_setBudget 2 = .ok (.aload_n 0, 1) := by decide +kernel
theorem dL_setBudget_3 : decode cL_setBudget 3 = .ok (.iload_n 1, 1) := by decide +kernel
theorem dL_setBudget_4 : decode cL_setBudget 4 = .ok (.invokevirtual 34, 3) := by decide +kernel
theorem dL_setBudget_7 : decode cL_setBudget 7 = .ok (.i2l, 1) := by decide +kernel
theorem dL_setBudget_8 : decode cL_setBudget 8 = .ok (.lastore, 1) := by decide +kernel
theorem dL_setBudget_9 : decode cL_setBudget 9 = .ok (.goto 6, 3) := by decide +kernel
theorem dL_setBudget_12 : decode cL_setBudget 12 = .ok (.astore_n 3, 1) := by decide +kernel
theorem dL_setBudget_13 : decode cL_setBudget 13 = .ok (.iconst 1, 1) := by decide +kernel
theorem dL_setBudget_14 : decode cL_setBudget 14 = .ok (.ireturn, 1) := by decide +kernel
theorem dL_setBudget_15 : decode cL_setBudget 15 = .ok (.iconst 0, 1) := by decide +kernel
theorem dL_setBudget_16 : decode cL_setBudget 16 = .ok (.ireturn, 1) := by decide +kernel
theorem dL_match_0 : decode cL_match 0 = .ok (.aload_n 3, 1) := by decide +kernel
theorem dL_match_1 : decode cL_match 1 = .ok (.iconst 0, 1) := by decide +kernel
theorem dL_match_2 : decode cL_match 2 = .ok (.aload_n 0, 1) := by decide +kernel
theorem dL_match_3 : decode cL_match 3 = .ok (.iload_n 1, 1) := by decide +kernel
theorem dL_match_4 : decode cL_match 4 = .ok (.iload_n 2, 1) := by decide +kernel
theorem dL_match_5 : decode cL_match 5 = .ok (.invokevirtual 37, 3) := by decide +kernel
theorem dL_match_13 : decode cL_match 13 = .ok (.astore 4, 2) := by decide +kernel
theorem dL_match_15 : decode cL_match 15 = .ok (.iconst 1, 1) := by decide +kernel
theorem dL_match_16 : decode cL_match 16 = .ok (.ireturn, 1) := by decide +kernel
theorem dL_match_17 : decode cL_match 17 = .ok (.astore 4, 2) := by decide +kernel
theorem dL_match_19 : decode cL_match 19 = .ok (.iconst 2, 1) := by decide +kernel
theorem dL_match_20 : decode cL_match 20 = .ok (.ireturn, 1) := by decide +kernel
theorem dL_find_0 : decode cL_find 0 = .ok (.aload_n 3, 1) := by decide +kernel
theorem dL_find_1 : decode cL_find 1 = .ok (.iconst 0, 1) := by decide +kernel
theorem dL_find_2 : decode cL_find 2 = .ok (.aload_n 0, 1) := by decide +kernel
theorem dL_find_3 : decode cL_find 3 = .ok (.iload_n 1, 1) := by decide +kernel
theorem dL_find_4 : decode cL_find 4 = .ok (.iload_n 2, 1) := by decide +kernel
theorem dL_find_5 : decode cL_find 5 = .ok (.invokevirtual 41, 3) := by decide +kernel
theorem dL_find_13 : decode cL_find 13 = .ok (.astore 4, 2) := by decide +kernel
theorem dL_find_15 : decode cL_find 15 = .ok (.iconst 1, 1) := by decide +kernel
theorem dL_find_16 : decode cL_find 16 = .ok (.ireturn, 1) := by decide +kernel
theorem dL_find_17 : decode cL_find 17 = .ok (.astore 4, 2) := by decide +kernel
theorem dL_find_19 : decode cL_find 19 = .ok (.iconst 2, 1) := by decide +kernel
theorem dL_find_20 : decode cL_find 20 = .ok (.ireturn, 1) := by decide +kernel
theorem dL_matchBySets_0 : decode cL_matchBySets 0 = .ok (.aload_n 3, 1) := by decide +kernel
theorem dL_matchBySets_1 : decode cL_matchBySets 1 = .ok (.iconst 0, 1) := by decide +kernel
theorem dL_matchBySets_2 : decode cL_matchBySets 2 = .ok (.aload_n 0, 1) := by decide +kernel
theorem dL_matchBySets_3 : decode cL_matchBySets 3 = .ok (.iload_n 1, 1) := by decide +kernel
theorem dL_matchBySets_4 : decode cL_matchBySets 4 = .ok (.iload_n 2, 1) := by decide +kernel
theorem dL_matchBySets_5 : decode cL_matchBySets 5 = .ok (.invokevirtual 44, 3) := by decide +kernel
theorem dL_matchBySets_13 : decode cL_matchBySets 13 = .ok (.astore 4, 2) := by decide +kernel
theorem dL_matchBySets_15 : decode cL_matchBySets 15 = .ok (.iconst 1, 1) := by decide +kernel
theorem dL_matchBySets_16 : decode cL_matchBySets 16 = .ok (.ireturn, 1) := by decide +kernel
theorem dL_matchBySets_17 : decode cL_matchBySets 17 = .ok (.astore 4, 2) := by decide +kernel
theorem dL_matchBySets_19 : decode cL_matchBySets 19 = .ok (.iconst 2, 1) := by decide +kernel
theorem dL_matchBySets_20 : decode cL_matchBySets 20 = .ok (.ireturn, 1) := by decide +kernel
theorem dL_group_0 : decode cL_group 0 = .ok (.aload_n 3, 1) := by decide +kernel
theorem dL_group_1 : decode cL_group 1 = .ok (.iconst 0, 1) := by decide +kernel
theorem dL_group_2 : decode cL_group 2 = .ok (.aload_n 0, 1) := by decide +kernel
theorem dL_group_3 : decode cL_group 3 = .ok (.iload_n 1, 1) := by decide +kernel
theorem dL_group_4 : decode cL_group 4 = .ok (.iload_n 2, 1) := by decide +kernel
theorem dL_group_5 : decode cL_group 5 = .ok (.invokevirtual 47, 3) := by decide +kernel
theorem dL_group_8 : decode cL_group 8 = .ok (.i2l, 1) := by decide +kernel
theorem dL_group_9 : decode cL_group 9 = .ok (.lastore, 1) := by decide +kernel
theorem dL_group_10 : decode cL_group 10 = .ok (.goto 7, 3) := by decide +kernel
theorem dL_group_13 : decode cL_group 13 = .ok (.astore 4, 2) := by decide +kernel
theorem dL_group_15 : decode cL_group 15 = .ok (.iconst 1, 1) := by decide +kernel
theorem dL_group_16 : decode cL_group 16 = .ok (.ireturn, 1) := by decide +kernel
theorem dL_group_17 : decode cL_group 17 = .ok (.iconst 0, 1) := by decide +kernel
theorem dL_group_18 : decode cL_group 18 = .ok (.ireturn, 1) := by decide +kernel
theorem dL_longest_0 : decode cL_longest 0 = .ok (.aload_n 3, 1) := by decide +kernel
theorem dL_longest_1 : decode cL_longest 1 = .ok (.iconst 0, 1) := by decide +kernel
theorem dL_longest_2 : decode cL_longest 2 = .ok (.aload_n 0, 1) := by decide +kernel
theorem dL_longest_3 : decode cL_longest 3 = .ok (.iload_n 1, 1) := by decide +kernel
theorem dL_longest_4 : decode cL_longest 4 = .ok (.iload_n 2, 1) := by decide +kernel
theorem dL_longest_5 : decode cL_longest 5 = .ok (.invokevirtual 51, 3) := by decide +kernel
theorem dL_longest_13 : decode cL_longest 13 = .ok (.astore 4, 2) := by decide +kernel
theorem dL_longest_15 : decode cL_longest 15 = .ok (.iconst 1, 1) := by decide +kernel
theorem dL_longest_16 : decode cL_longest 16 = .ok (.ireturn, 1) := by decide +kernel
theorem dL_longest_17 : decode cL_longest 17 = .ok (.astore 4, 2) := by decide +kernel
theorem dL_longest_19 : decode cL_longest 19 = .ok (.iconst 2, 1) := by decide +kernel
theorem dL_longest_20 : decode cL_longest 20 = .ok (.ireturn, 1) := by decide +kernel
theorem dL_canStill_0 : decode cL_canStill 0 = .ok (.aload_n 3, 1) := by decide +kernel
theorem dL_canStill_1 : decode cL_canStill 1 = .ok (.iconst 0, 1) := by decide +kernel
theorem dL_canStill_2 : decode cL_canStill 2 = .ok (.aload_n 0, 1) := by decide +kernel
theorem dL_canStill_3 : decode cL_canStill 3 = .ok (.iload_n 1, 1) := by decide +kernel
theorem dL_canStill_4 : decode cL_canStill 4 = .ok (.iload_n 2, 1) := by decide +kernel
theorem dL_canStill_5 : decode cL_canStill 5 = .ok (.invokevirtual 54, 3) := by decide +kernel
theorem dL_canStill_20 : decode cL_canStill 20 = .ok (.astore 4, 2) := by decide +kernel
theorem dL_canStill_22 : decode cL_canStill 22 = .ok (.iconst 1, 1) := by decide +kernel
theorem dL_canStill_23 : decode cL_canStill 23 = .ok (.ireturn, 1) := by decide +kernel
theorem dL_canStill_24 : decode cL_canStill 24 = .ok (.astore 4, 2) := by decide +kernel
theorem dL_canStill_26 : decode cL_canStill 26 = .ok (.iconst 2, 1) := by decide +kernel
theorem dL_canStill_27 : decode cL_canStill 27 = .ok (.ireturn, 1) := by decide +kernel
theorem dL_which_0 : decode cL_which 0 = .ok (.aload_n 2, 1) := by decide +kernel
theorem dL_which_1 : decode cL_which 1 = .ok (.iconst 0, 1) := by decide +kernel
theorem dL_which_2 : decode cL_which 2 = .ok (.aload_n 0, 1) := by decide +kernel
theorem dL_which_3 : decode cL_which 3 = .ok (.iload_n 1, 1) := by decide +kernel
theorem dL_which_4 : decode cL_which 4 = .ok (.invokevirtual 58, 3) := by decide +kernel
theorem dL_which_7 : decode cL_which 7 = .ok (.i2l, 1) := by decide +kernel
theorem dL_which_8 : decode cL_which 8 = .ok (.lastore, 1) := by decide +kernel
theorem dL_which_9 : decode cL_which 9 = .ok (.goto 6, 3) := by decide +kernel
theorem dL_which_12 : decode cL_which 12 = .ok (.astore_n 3, 1) := by decide +kernel
theorem dL_which_13 : decode cL_which 13 = .ok (.iconst 1, 1) := by decide +kernel
theorem dL_which_14 : decode cL_which 14 = .ok (.ireturn, 1) := by decide +kernel
theorem dL_which_15 : decode cL_which 15 = .ok (.iconst 0, 1) := by decide +kernel
theorem dL_which_16 : decode cL_which 16 = .ok (.ireturn, 1) := by decide +kernel
theorem dL_ways_0 : decode cL_ways 0 = .ok (.aload 4, 2) := by decide +kernel
theorem dL_ways_2 : decode cL_ways 2 = .ok (.iconst 0, 1) := by decide +kernel
theorem dL_ways_3 : decode cL_ways 3 = .ok (.aload_n 0, 1) := by decide +kernel
theorem dL_ways_4 : decode cL_ways 4 = .ok (.iload_n 1, 1) := by decide +kernel
theorem dL_ways_5 : decode cL_ways 5 = .ok (.iload_n 2, 1) := by decide +kernel
theorem dL_ways_6 : decode cL_ways 6 = .ok (.iload_n 3, 1) := by decide +kernel
theorem dL_ways_7 : decode cL_ways 7 = .ok (.invokevirtual 61, 3) := by decide +kernel
theorem dL_ways_15 : decode cL_ways 15 = .ok (.astore 5, 2) := by decide +kernel
theorem dL_ways_17 : decode cL_ways 17 = .ok (.iconst 1, 1) := by decide +kernel
theorem dL_ways_18 : decode cL_ways 18 = .ok (.ireturn, 1) := by decide +kernel
theorem dL_ways_19 : decode cL_ways 19 = .ok (.astore 5, 2) := by decide +kernel
theorem dL_ways_21 : decode cL_ways 21 = .ok (.iconst 2, 1) := by decide +kernel
theorem dL_ways_22 : decode cL_ways 22 = .ok (.ireturn, 1) := by decide +kernel
theorem dL_findAll_0 : decode cL_findAll 0 = .ok (.aload_n 2, 1) := by decide +kernel
theorem dL_findAll_1 : decode cL_findAll 1 = .ok (.iconst 0, 1) := by decide +kernel
theorem dL_findAll_2 : decode cL_findAll 2 = .ok (.aload_n 0, 1) := by decide +kernel
theorem dL_findAll_3 : decode cL_findAll 3 = .ok (.iload_n 1, 1) := by decide +kernel
theorem dL_findAll_4 : decode cL_findAll 4 = .ok (.invokevirtual 65, 3) := by decide +kernel
theorem dL_findAll_12 : decode cL_findAll 12 = .ok (.astore_n 3, 1) := by decide +kernel
theorem dL_findAll_13 : decode cL_findAll 13 = .ok (.iconst 1, 1) := by decide +kernel
theorem dL_findAll_14 : decode cL_findAll 14 = .ok (.ireturn, 1) := by decide +kernel
theorem dL_findAll_15 : decode cL_findAll 15 = .ok (.astore_n 3, 1) := by decide +kernel
theorem dL_findAll_16 : decode cL_findAll 16 = .ok (.iconst 2, 1) := by decide +kernel
theorem dL_findAll_17 : decode cL_findAll 17 = .ok (.ireturn, 1) := by decide +kernel
theorem dL_found_0 : decode cL_found 0 = .ok (.aload_n 3, 1) := by decide +kernel
theorem dL_found_1 : decode cL_found 1 = .ok (.iconst 0, 1) := by decide +kernel
theorem dL_found_2 : decode cL_found 2 = .ok (.aload_n 0, 1) := by decide +kernel
theorem dL_found_3 : decode cL_found 3 = .ok (.iload_n 1, 1) := by decide +kernel
theorem dL_found_4 : decode cL_found 4 = .ok (.iload_n 2, 1) := by decide +kernel
theorem dL_found_5 : decode cL_found 5 = .ok (.invokevirtual 68, 3) := by decide +kernel
theorem dL_found_13 : decode cL_found 13 = .ok (.astore 4, 2) := by decide +kernel
theorem dL_found_15 : decode cL_found 15 = .ok (.iconst 1, 1) := by decide +kernel
theorem dL_found_16 : decode cL_found 16 = .ok (.ireturn, 1) := by decide +kernel
theorem dL_replace_0 : decode cL_replace 0 = .ok (.aload_n 2, 1) := by decide +kernel
theorem dL_replace_1 : decode cL_replace 1 = .ok (.iconst 0, 1) := by decide +kernel
theorem dL_replace_2 : decode cL_replace 2 = .ok (.aload_n 0, 1) := by decide +kernel
theorem dL_replace_3 : decode cL_replace 3 = .ok (.iload_n 1, 1) := by decide +kernel
theorem dL_replace_4 : decode cL_replace 4 = .ok (.invokevirtual 71, 3) := by decide +kernel
theorem dL_replace_12 : decode cL_replace 12 = .ok (.astore_n 3, 1) := by decide +kernel
theorem dL_replace_13 : decode cL_replace 13 = .ok (.iconst 1, 1) := by decide +kernel
theorem dL_replace_14 : decode cL_replace 14 = .ok (.ireturn, 1) := by decide +kernel
theorem dL_replace_15 : decode cL_replace 15 = .ok (.astore_n 3, 1) := by decide +kernel
theorem dL_replace_16 : decode cL_replace 16 = .ok (.iconst 2, 1) := by decide +kernel
theorem dL_replace_17 : decode cL_replace 17 = .ok (.ireturn, 1) := by decide +kernel
theorem dL_outSign_0 : decode cL_outSign 0 = .ok (.aload_n 2, 1) := by decide +kernel
theorem dL_outSign_1 : decode cL_outSign 1 = .ok (.iconst 0, 1) := by decide +kernel
theorem dL_outSign_2 : decode cL_outSign 2 = .ok (.aload_n 0, 1) := by decide +kernel
theorem dL_outSign_3 : decode cL_outSign 3 = .ok (.iload_n 1, 1) := by decide +kernel
theorem dL_outSign_4 : decode cL_outSign 4 = .ok (.invokevirtual 74, 3) := by decide +kernel
theorem dL_outSign_12 : decode cL_outSign 12 = .ok (.astore_n 3, 1) := by decide +kernel
theorem dL_outSign_13 : decode cL_outSign 13 = .ok (.iconst 1, 1) := by decide +kernel
theorem dL_outSign_14 : decode cL_outSign 14 = .ok (.ireturn, 1) := by decide +kernel
theorem dL_law_0 : decode cL_law 0 = .ok (.new 8, 3) := by decide +kernel
theorem dL_law_3 : decode cL_law 3 = .ok (.dup, 1) := by decide +kernel
theorem dL_law_4 : decode cL_law 4 = .ok (.invokespecial 78, 3) := by decide +kernel
theorem dL_law_7 : decode cL_law 7 = .ok (.astore_n 1, 1) := by decide +kernel
theorem dL_law_8 : decode cL_law 8 = .ok (.new 79, 3) := by decide +kernel
theorem dL_law_11 : decode cL_law 11 = .ok (.dup, 1) := by decide +kernel
theorem dL_law_12 : decode cL_law 12 = .ok (.invokespecial 81, 3) := by decide +kernel
theorem dL_law_15 : decode cL_law 15 = .ok (.astore_n 2, 1) := by decide +kernel
theorem dL_law_16 : decode cL_law 16 = .ok (.iconst 1, 1) := by decide +kernel
theorem dL_law_17 : decode cL_law 17 = .ok (.newarray .long, 2) := by decide +kernel
theorem dL_law_19 : decode cL_law 19 = .ok (.astore_n 3, 1) := by decide +kernel
theorem dL_law_20 : decode cL_law 20 = .ok (.iconst 0, 1) := by decide +kernel
theorem dL_law_21 : decode cL_law 21 = .ok (.istore 4, 2) := by decide +kernel
theorem dL_law_23 : decode cL_law 23 = .ok (.iload 4, 2) := by decide +kernel
theorem dL_law_25 : decode cL_law 25 = .ok (.aload_n 0, 1) := by decide +kernel
theorem dL_law_26 : decode cL_law 26 = .ok (.arraylength, 1) := by decide +kernel
theorem dL_law_27 : decode cL_law 27 = .ok (.iconst 4, 1) := by decide +kernel
theorem dL_law_28 : decode cL_law 28 = .ok (.isub, 1) := by decide +kernel
theorem dL_law_29 : decode cL_law 29 = .ok (.if_icmp .gt 1345, 3) := by decide +kernel
theorem dL_law_32 : decode cL_law 32 = .ok (.aload_n 0, 1) := by decide +kernel
theorem dL_law_33 : decode cL_law 33 = .ok (.iload 4, 2) := by decide +kernel
theorem dL_law_35 : decode cL_law 35 = .ok (.iaload, 1) := by decide +kernel
theorem dL_law_36 : decode cL_law 36 = .ok (.bipush 31, 2) := by decide +kernel
theorem dL_law_38 : decode cL_law 38 = .ok (.iand, 1) := by decide +kernel
theorem dL_law_39 : decode cL_law 39 = .ok (.tableswitch 1329 0 22 #[105, 163, 176, 232, 245, 289, 302, 315, 378, 441, 497, 565, 633, 701, 785, 798, 866, 941, 997, 1077, 1133, 1217, 1273], 105) := by decide +kernel
theorem dL_law_144 : decode cL_law 144 = .ok (.aload_n 1, 1) := by decide +kernel
theorem dL_law_145 : decode cL_law 145 = .ok (.aload_n 0, 1) := by decide +kernel
theorem dL_law_146 : decode cL_law 146 = .ok (.iload 4, 2) := by decide +kernel
theorem dL_law_148 : decode cL_law 148 = .ok (.iconst 1, 1) := by decide +kernel
theorem dL_law_149 : decode cL_law 149 = .ok (.iadd, 1) := by decide +kernel
theorem dL_law_150 : decode cL_law 150 = .ok (.iaload, 1) := by decide +kernel
theorem dL_law_151 : decode cL_law 151 = .ok (.i2c, 1) := by decide +kernel
theorem dL_law_152 : decode cL_law 152 = .ok (.aload_n 3, 1) := by decide +kernel
theorem dL_law_153 : decode cL_law 153 = .ok (.invokestatic 82, 3) := by decide +kernel
theorem dL_law_156 : decode cL_law 156 = .ok (.istore 5, 2) := by decide +kernel
theorem dL_law_158 : decode cL_law 158 = .ok (.aload_n 2, 1) := by decide +kernel
theorem dL_law_159 : decode cL_law 159 = .ok (.aload_n 0, 1) := by decide +kernel
theorem dL_law_160 : decode cL_law 160 = .ok (.iload 4, 2) := by decide +kernel
theorem dL_law_162 : decode cL_law 162 = .ok (.iconst 1, 1) := by decide +kernel
theorem dL_law_163 : decode cL_law 163 = .ok (.iadd, 1) := by decide +kernel
theorem dL_law_164 : decode cL_law 164 = .ok (.iaload, 1) := by decide +kernel
theorem dL_law_165 : decode cL_law 165 = .ok (.i2c, 1) := by decide +kernel
theorem dL_law_166 : decode cL_law 166 = .ok (.invokevirtual 87, 3) := by decide +kernel
theorem dL_law_169 : decode cL_law 169 = .ok (.istore 6, 2) := by decide +kernel
theorem dL_law_171 : decode cL_law 171 = .ok (.aload_n 2, 1) := by decide +kernel
theorem dL_law_172 : decode cL_law 172 = .ok (.invokevirtual 88, 3) := by decide +kernel
theorem dL_law_175 : decode cL_law 175 = .ok (.iload 5, 2) := by decide +kernel
theorem dL_law_177 : decode cL_law 177 = .ok (.if_icmp .eq 5, 3) := by decide +kernel
theorem dL_law_182 : decode cL_law 182 = .ok (.iload 5, 2) := by decide +kernel
theorem dL_law_184 : decode cL_law 184 = .ok (.ifCond .ne 15, 3) := by decide +kernel
theorem dL_law_187 : decode cL_law 187 = .ok (.aload_n 3, 1) := by decide +kernel
theorem dL_law_188 : decode cL_law 188 = .ok (.iconst 0, 1) := by decide +kernel
theorem dL_law_189 : decode cL_law 189 = .ok (.laload, 1) := by decide +kernel
theorem dL_law_190 : decode cL_law 190 = .ok (.iload 6, 2) := by decide +kernel
theorem dL_law_192 : decode cL_law 192 = .ok (.i2l, 1) := by decide +kernel
theorem dL_law_193 : decode cL_law 193 = .ok (.lcmp, 1) := by decide +kernel
theorem dL_law_194 : decode cL_law 194 = .ok (.ifCond .eq 5, 3) := by decide +kernel
theorem dL_law_199 : decode cL_law 199 = .ok (.goto 1169, 3) := by decide +kernel
theorem dL_law_202 : decode cL_law 202 = .ok (.aload_n 1, 1) := by decide +kernel
theorem dL_law_203 : decode cL_law 203 = .ok (.invokevirtual 91, 3) := by decide +kernel
theorem dL_law_206 : decode cL_law 206 = .ok (.aload_n 2, 1) := by decide +kernel
theorem dL_law_207 : decode cL_law 207 = .ok (.invokevirtual 94, 3) := by decide +kernel
theorem dL_law_210 : decode cL_law 210 = .ok (.if_icmp .eq 1158, 3) := by decide +kernel
theorem dL_law_215 : decode cL_law 215 = .ok (.aload_n 1, 1) := by decide +kernel
theorem dL_law_216 : decode cL_law 216 = .ok (.aload_n 0, 1) := by decide +kernel
theorem dL_law_217 : decode cL_law 217 = .ok (.iload 4, 2) := by decide +kernel
theorem dL_law_219 : decode cL_law 219 = .ok (.iconst 1, 1) := by decide +kernel
theorem dL_law_220 : decode cL_law 220 = .ok (.iadd, 1) := by decide +kernel
theorem dL_law_221 : decode cL_law 221 = .ok (.iaload, 1) := by decide +kernel
theorem dL_law_222 : decode cL_law 222 = .ok (.aload_n 3, 1) := by decide +kernel
theorem dL_law_223 : decode cL_law 223 = .ok (.invokestatic 95, 3) := by decide +kernel
theorem dL_law_226 : decode cL_law 226 = .ok (.istore 5, 2) := by decide +kernel
theorem dL_law_228 : decode cL_law 228 = .ok (.aload_n 2, 1) := by decide +kernel
theorem dL_law_229 : decode cL_law 229 = .ok (.aload_n 0, 1) := by decide +kernel
theorem dL_law_230 : decode cL_law 230 = .ok (.iload 4, 2) := by decide +kernel
theorem dL_law_232 : decode cL_law 232 = .ok (.iconst 1, 1) := by decide +kernel
theorem dL_law_233 : decode cL_law 233 = .ok (.iadd, 1) := by decide +kernel
theorem dL_law_234 : decode cL_law 234 = .ok (.iaload, 1) := by decide +kernel
theorem dL_law_235 : decode cL_law 235 = .ok (.invokevirtual 98, 3) := by decide +kernel
theorem dL_law_238 : decode cL_law 238 = .ok (.istore 6, 2) := by decide +kernel
theorem dL_law_240 : decode cL_law 240 = .ok (.aload_n 2, 1) := by decide +kernel
theorem dL_law_241 : decode cL_law 241 = .ok (.invokevirtual 88, 3) := by decide +kernel
theorem dL_law_244 : decode cL_law 244 = .ok (.iload 5, 2) := by decide +kernel
theorem dL_law_246 : decode cL_law 246 = .ok (.if_icmp .eq 5, 3) := by decide +kernel
theorem dL_law_251 : decode cL_law 251 = .ok (.iload 5, 2) := by decide +kernel
theorem dL_law_253 : decode cL_law 253 = .ok (.ifCond .ne 15, 3) := by decide +kernel
theorem dL_law_256 : decode cL_law 256 = .ok (.aload_n 3, 1) := by decide +kernel
theorem dL_law_257 : decode cL_law 257 = .ok (.iconst 0, 1) := by decide +kernel
theorem dL_law_258 : decode cL_law 258 = .ok (.laload, 1) := by decide +kernel
theorem dL_law_259 : decode cL_law 259 = .ok (.iload 6, 2) := by decide +kernel
theorem dL_law_261 : decode cL_law 261 = .ok (.i2l, 1) := by decide +kernel
theorem dL_law_262 : decode cL_law 262 = .ok (.lcmp, 1) := by decide +kernel
theorem dL_law_263 : decode cL_law 263 = .ok (.ifCond .eq 5, 3) := by decide +kernel
theorem dL_law_268 : decode cL_law 268 = .ok (.goto 1100, 3) := by decide +kernel
theorem dL_law_271 : decode cL_law 271 = .ok (.aload_n 1, 1) := by decide +kernel
theorem dL_law_272 : decode cL_law 272 = .ok (.invokevirtual 99, 3) := by decide +kernel
theorem dL_law_275 : decode cL_law 275 = .ok (.aload_n 2, 1) := by decide +kernel
theorem dL_law_276 : decode cL_law 276 = .ok (.invokevirtual 102, 3) := by decide +kernel
theorem dL_law_279 : decode cL_law 279 = .ok (.if_icmp .eq 1089, 3) := by decide +kernel
theorem dL_law_284 : decode cL_law 284 = .ok (.aload_n 1, 1) := by decide +kernel
theorem dL_law_285 : decode cL_law 285 = .ok (.aload_n 3, 1) := by decide +kernel
theorem dL_law_286 : decode cL_law 286 = .ok (.invokestatic 103, 3) := by decide +kernel
theorem dL_law_289 : decode cL_law 289 = .ok (.istore 5, 2) := by decide +kernel
theorem dL_law_291 : decode cL_law 291 = .ok (.aload_n 2, 1) := by decide +kernel
theorem dL_law_292 : decode cL_law 292 = .ok (.invokevirtual 106, 3) := by decide +kernel
theorem dL_law_295 : decode cL_law 295 = .ok (.istore 6, 2) := by decide +kernel
theorem dL_law_297 : decode cL_law 297 = .ok (.aload_n 2, 1) := by decide +kernel
theorem dL_law_298 : decode cL_law 298 = .ok (.invokevirtual 88, 3) := by decide +kernel
theorem dL_law_301 : decode cL_law 301 = .ok (.iload 5, 2) := by decide +kernel
theorem dL_law_303 : decode cL_law 303 = .ok (.if_icmp .eq 5, 3) := by decide +kernel
theorem dL_law_308 : decode cL_law 308 = .ok (.iload 5, 2) := by decide +kernel
theorem dL_law_310 : decode cL_law 310 = .ok (.ifCond .ne 15, 3) := by decide +kernel
theorem dL_law_313 : decode cL_law 313 = .ok (.aload_n 3, 1) := by decide +kernel
theorem dL_law_314 : decode cL_law 314 = .ok (.iconst 0, 1) := by decide +kernel
theorem dL_law_315 : decode cL_law 315 = .ok (.laload, 1) := by decide +kernel
theorem dL_law_316 : decode cL_law 316 = .ok (.iload 6, 2) := by decide +kernel
theorem dL_law_318 : decode cL_law 318 = .ok (.i2l, 1) := by decide +kernel
theorem dL_law_319 : decode cL_law 319 = .ok (.lcmp, 1) := by decide +kernel
theorem dL_law_320 : decode cL_law 320 = .ok (.ifCond .eq 5, 3) := by decide +kernel
theorem dL_law_325 : decode cL_law 325 = .ok (.goto 1043, 3) := by decide +kernel
theorem dL_law_328 : decode cL_law 328 = .ok (.aload_n 1, 1) := by decide +kernel
theorem dL_law_329 : decode cL_law 329 = .ok (.invokevirtual 107, 3) := by decide +kernel
theorem dL_law_332 : decode cL_law 332 = .ok (.aload_n 2, 1) := by decide +kernel
theorem dL_law_333 : decode cL_law 333 = .ok (.invokevirtual 110, 3) := by decide +kernel
theorem dL_law_336 : decode cL_law 336 = .ok (.if_icmp .eq 1032, 3) := by decide +kernel
theorem dL_law_341 : decode cL_law 341 = .ok (.aload_n 1, 1) := by decide +kernel
theorem dL_law_342 : decode cL_law 342 = .ok (.invokevirtual 111, 3) := by decide +kernel
theorem dL_law_345 : decode cL_law 345 = .ok (.aload_n 2, 1) := by decide +kernel
theorem dL_law_346 : decode cL_law 346 = .ok (.invokevirtual 114, 3) := by decide +kernel
theorem dL_law_349 : decode cL_law 349 = .ok (.if_icmp .eq 1019, 3) := by decide +kernel
theorem dL_law_354 : decode cL_law 354 = .ok (.aload_n 1, 1) := by decide +kernel
theorem dL_law_355 : decode cL_law 355 = .ok (.aload_n 0, 1) := by decide +kernel
theorem dL_law_356 : decode cL_law 356 = .ok (.iload 4, 2) := by decide +kernel
theorem dL_law_358 : decode cL_law 358 = .ok (.iconst 1, 1) := by decide +kernel
theorem dL_law_359 : decode cL_law 359 = .ok (.iadd, 1) := by decide +kernel
theorem dL_law_360 : decode cL_law 360 = .ok (.iaload, 1) := by decide +kernel
theorem dL_law_361 : decode cL_law 361 = .ok (.aload_n 3, 1) := by decide +kernel
theorem dL_law_362 : decode cL_law 362 = .ok (.invokestatic 115, 3) := by decide +kernel
theorem dL_law_365 : decode cL_law 365 = .ok (.istore 5, 2) := by decide +kernel
theorem dL_law_367 : decode cL_law 367 = .ok (.aload_n 2, 1) := by decide +kernel
theorem dL_law_368 : decode cL_law 368 = .ok (.aload_n 0, 1) := by decide +kernel
theorem dL_law_369 : decode cL_law 369 = .ok (.iload 4, 2) := by decide +kernel
theorem dL_law_371 : decode cL_law 371 = .ok (.iconst 1, 1) := by decide +kernel
theorem dL_law_372 : decode cL_law 372 = .ok (.iadd, 1) := by decide +kernel
theorem dL_law_373 : decode cL_law 373 = .ok (.iaload, 1) := by decide +kernel
theorem dL_law_374 : decode cL_law 374 = .ok (.invokevirtual 117, 3) := by decide +kernel
theorem dL_law_377 : decode cL_law 377 = .ok (.istore 6, 2) := by decide +kernel
theorem dL_law_379 : decode cL_law 379 = .ok (.aload_n 2, 1) := by decide +kernel
theorem dL_law_380 : decode cL_law 380 = .ok (.invokevirtual 88, 3) := by decide +kernel
theorem dL_law_383 : decode cL_law 383 = .ok (.iload 5, 2) := by decide +kernel
theorem dL_law_385 : decode cL_law 385 = .ok (.if_icmp .eq 5, 3) := by decide +kernel
theorem dL_law_390 : decode cL_law 390 = .ok (.iload 5, 2) := by decide +kernel
theorem dL_law_392 : decode cL_law 392 = .ok (.ifCond .ne 22, 3) := by decide +kernel
theorem dL_law_414 : decode cL_law 414 = .ok (.goto 954, 3) := by decide +kernel
theorem dL_law_417 : decode cL_law 417 = .ok (.aload_n 1, 1) := by decide +kernel
theorem dL_law_418 : decode cL_law 418 = .ok (.aload_n 0, 1) := by decide +kernel
theorem dL_law_419 : decode cL_law 419 = .ok (.iload 4, 2) := by decide +kernel
theorem dL_law_421 : decode cL_law 421 = .ok (.iconst 1, 1) := by decide +kernel
theorem dL_law_422 : decode cL_law 422 = .ok (.iadd, 1) := by decide +kernel
theorem dL_law_423 : decode cL_law 423 = .ok (.iaload, 1) := by decide +kernel
theorem dL_law_424 : decode cL_law 424 = .ok (.aload_n 3, 1) := by decide +kernel
theorem dL_law_425 : decode cL_law 425 = .ok (.invokestatic 118, 3) := by decide +kernel
theorem dL_law_428 : decode cL_law 428 = .ok (.istore 5, 2) := by decide +kernel
theorem dL_law_430 : decode cL_law 430 = .ok (.aload_n 2, 1) := by decide +kernel
theorem dL_law_431 : decode cL_law 431 = .ok (.aload_n 0, 1) := by decide +kernel
theorem dL_law_432 : decode cL_law 432 = .ok (.iload 4, 2) := by decide +kernel
theorem dL_law_434 : decode cL_law 434 = .ok (.iconst 1, 1) := by decide +kernel
theorem dL_law_435 : decode cL_law 435 = .ok (.iadd, 1) := by decide +kernel
theorem dL_law_436 : decode cL_law 436 = .ok (.iaload, 1) := by decide +kernel
theorem dL_law_437 : decode cL_law 437 = .ok (.invokevirtual 120, 3) := by decide +kernel
theorem dL_law_440 : decode cL_law 440 = .ok (.istore 6, 2) := by decide +kernel
theorem dL_law_442 : decode cL_law 442 = .ok (.aload_n 2, 1) := by decide +kernel
theorem dL_law_443 : decode cL_law 443 = .ok (.invokevirtual 88, 3) := by decide +kernel
theorem dL_law_446 : decode cL_law 446 = .ok (.iload 5, 2) := by decide +kernel
theorem dL_law_448 : decode cL_law 448 = .ok (.if_icmp .eq 5, 3) := by decide +kernel
theorem dL_law_453 : decode cL_law 453 = .ok (.iload 5, 2) := by decide +kernel
theorem dL_law_455 : decode cL_law 455 = .ok (.ifCond .ne 22, 3) := by decide +kernel
theorem dL_law_477 : decode cL_law 477 = .ok (.goto 891, 3) := by decide +kernel
theorem dL_law_480 : decode cL_law 480 = .ok (.aload_n 1, 1) := by decide +kernel
theorem dL_law_481 : decode cL_law 481 = .ok (.aload_n 0, 1) := by decide +kernel
theorem dL_law_482 : decode cL_law 482 = .ok (.iload 4, 2) := by decide +kernel
theorem dL_law_484 : decode cL_law 484 = .ok (.iconst 1, 1) := by decide +kernel
theorem dL_law_485 : decode cL_law 485 = .ok (.iadd, 1) := by decide +kernel
theorem dL_law_486 : decode cL_law 486 = .ok (.iaload, 1) := by decide +kernel
theorem dL_law_487 : decode cL_law 487 = .ok (.aload_n 3, 1) := by decide +kernel
theorem dL_law_488 : decode cL_law 488 = .ok (.invokestatic 121, 3) := by decide +kernel
theorem dL_law_491 : decode cL_law 491 = .ok (.istore 5, 2) := by decide +kernel
theorem dL_law_493 : decode cL_law 493 = .ok (.aload_n 2, 1) := by decide +kernel
theorem dL_law_494 : decode cL_law 494 = .ok (.aload_n 0, 1) := by decide +kernel
theorem dL_law_495 : decode cL_law 495 = .ok (.iload 4, 2) := by decide +kernel
theorem dL_law_497 : decode cL_law 497 = .ok (.iconst 1, 1) := by decide +kernel
theorem dL_law_498 : decode cL_law 498 = .ok (.iadd, 1) := by decide +kernel
theorem dL_law_499 : decode cL_law 499 = .ok (.iaload, 1) := by decide +kernel
theorem dL_law_500 : decode cL_law 500 = .ok (.invokevirtual 123, 3) := by decide +kernel
theorem dL_law_503 : decode cL_law 503 = .ok (.istore 6, 2) := by decide +kernel
theorem dL_law_505 : decode cL_law 505 = .ok (.aload_n 2, 1) := by decide +kernel
theorem dL_law_506 : decode cL_law 506 = .ok (.invokevirtual 88, 3) := by decide +kernel
theorem dL_law_509 : decode cL_law 509 = .ok (.iload 5, 2) := by decide +kernel
theorem dL_law_511 : decode cL_law 511 = .ok (.if_icmp .eq 5, 3) := by decide +kernel
theorem dL_law_516 : decode cL_law 516 = .ok (.iload 5, 2) := by decide +kernel
theorem dL_law_518 : decode cL_law 518 = .ok (.ifCond .ne 15, 3) := by decide +kernel
theorem dL_law_521 : decode cL_law 521 = .ok (.aload_n 3, 1) := by decide +kernel
theorem dL_law_522 : decode cL_law 522 = .ok (.iconst 0, 1) := by decide +kernel
theorem dL_law_523 : decode cL_law 523 = .ok (.laload, 1) := by decide +kernel
theorem dL_law_524 : decode cL_law 524 = .ok (.iload 6, 2) := by decide +kernel
theorem dL_law_526 : decode cL_law 526 = .ok (.i2l, 1) := by decide +kernel
theorem dL_law_527 : decode cL_law 527 = .ok (.lcmp, 1) := by decide +kernel
theorem dL_law_528 : decode cL_law 528 = .ok (.ifCond .eq 5, 3) := by decide +kernel
theorem dL_law_533 : decode cL_law 533 = .ok (.goto 835, 3) := by decide +kernel
theorem dL_law_536 : decode cL_law 536 = .ok (.aload_n 1, 1) := by decide +kernel
theorem dL_law_537 : decode cL_law 537 = .ok (.aload_n 0, 1) := by decide +kernel
theorem dL_law_538 : decode cL_law 538 = .ok (.iload 4, 2) := by decide +kernel
theorem dL_law_540 : decode cL_law 540 = .ok (.iconst 1, 1) := by decide +kernel
theorem dL_law_541 : decode cL_law 541 = .ok (.iadd, 1) := by decide +kernel
theorem dL_law_542 : decode cL_law 542 = .ok (.iaload, 1) := by decide +kernel
theorem dL_law_543 : decode cL_law 543 = .ok (.aload_n 0, 1) := by decide +kernel
theorem dL_law_544 : decode cL_law 544 = .ok (.iload 4, 2) := by decide +kernel
theorem dL_law_546 : decode cL_law 546 = .ok (.iconst 2, 1) := by decide +kernel
theorem dL_law_547 : decode cL_law 547 = .ok (.iadd, 1) := by decide +kernel
theorem dL_law_548 : decode cL_law 548 = .ok (.iaload, 1) := by decide +kernel
theorem dL_law_549 : decode cL_law 549 = .ok (.aload_n 3, 1) := by decide +kernel
theorem dL_law_550 : decode cL_law 550 = .ok (.invokestatic 124, 3) := by decide +kernel
theorem dL_law_553 : decode cL_law 553 = .ok (.istore 5, 2) := by decide +kernel
theorem dL_law_555 : decode cL_law 555 = .ok (.aload_n 2, 1) := by decide +kernel
theorem dL_law_556 : decode cL_law 556 = .ok (.aload_n 0, 1) := by decide +kernel
theorem dL_law_557 : decode cL_law 557 = .ok (.iload 4, 2) := by decide +kernel
theorem dL_law_559 : decode cL_law 559 = .ok (.iconst 1, 1) := by decide +kernel
theorem dL_law_560 : decode cL_law 560 = .ok (.iadd, 1) := by decide +kernel
theorem dL_law_561 : decode cL_law 561 = .ok (.iaload, 1) := by decide +kernel
theorem dL_law_562 : decode cL_law 562 = .ok (.aload_n 0, 1) := by decide +kernel
theorem dL_law_563 : decode cL_law 563 = .ok (.iload 4, 2) := by decide +kernel
theorem dL_law_565 : decode cL_law 565 = .ok (.iconst 2, 1) := by decide +kernel
theorem dL_law_566 : decode cL_law 566 = .ok (.iadd, 1) := by decide +kernel
theorem dL_law_567 : decode cL_law 567 = .ok (.iaload, 1) := by decide +kernel
theorem dL_law_568 : decode cL_law 568 = .ok (.invokevirtual 127, 3) := by decide +kernel
theorem dL_law_571 : decode cL_law 571 = .ok (.istore 6, 2) := by decide +kernel
theorem dL_law_573 : decode cL_law 573 = .ok (.aload_n 2, 1) := by decide +kernel
theorem dL_law_574 : decode cL_law 574 = .ok (.invokevirtual 88, 3) := by decide +kernel
theorem dL_law_577 : decode cL_law 577 = .ok (.iload 5, 2) := by decide +kernel
theorem dL_law_579 : decode cL_law 579 = .ok (.if_icmp .eq 5, 3) := by decide +kernel
theorem dL_law_584 : decode cL_law 584 = .ok (.iload 5, 2) := by decide +kernel
theorem dL_law_586 : decode cL_law 586 = .ok (.ifCond .ne 15, 3) := by decide +kernel
theorem dL_law_601 : decode cL_law 601 = .ok (.goto 767, 3) := by decide +kernel
theorem dL_law_604 : decode cL_law 604 = .ok (.aload_n 1, 1) := by decide +kernel
theorem dL_law_605 : decode cL_law 605 = .ok (.aload_n 0, 1) := by decide +kernel
theorem dL_law_606 : decode cL_law 606 = .ok (.iload 4, 2) := by decide +kernel
theorem dL_law_608 : decode cL_law 608 = .ok (.iconst 1, 1) := by decide +kernel
theorem dL_law_609 : decode cL_law 609 = .ok (.iadd, 1) := by decide +kernel
theorem dL_law_610 : decode cL_law 610 = .ok (.iaload, 1) := by decide +kernel
theorem dL_law_611 : decode cL_law 611 = .ok (.aload_n 0, 1) := by decide +kernel
theorem dL_law_612 : decode cL_law 612 = .ok (.iload 4, 2) := by decide +kernel
theorem dL_law_614 : decode cL_law 614 = .ok (.iconst 2, 1) := by decide +kernel
theorem dL_law_615 : decode cL_law 615 = .ok (.iadd, 1) := by decide +kernel
theorem dL_law_616 : decode cL_law 616 = .ok (.iaload, 1) := by decide +kernel
theorem dL_law_617 : decode cL_law 617 = .ok (.aload_n 3, 1) := by decide +kernel
theorem dL_law_618 : decode cL_law 618 = .ok (.invokestatic 128, 3) := by decide +kernel
theorem dL_law_621 : decode cL_law 621 = .ok (.istore 5, 2) := by decide +kernel
theorem dL_law_623 : decode cL_law 623 = .ok (.aload_n 2, 1) := by decide +kernel
theorem dL_law_624 : decode cL_law 624 = .ok (.aload_n 0, 1) := by decide +kernel
theorem dL_law_625 : decode cL_law 625 = .ok (.iload 4, 2) := by decide +kernel
theorem dL_law_627 : decode cL_law 627 = .ok (.iconst 1, 1) := by decide +kernel
theorem dL_law_628 : decode cL_law 628 = .ok (.iadd, 1) := by decide +kernel
theorem dL_law_629 : decode cL_law 629 = .ok (.iaload, 1) := by decide +kernel
theorem dL_law_630 : decode cL_law 630 = .ok (.aload_n 0, 1) := by decide +kernel
theorem dL_law_631 : decode cL_law 631 = .ok (.iload 4, 2) := by decide +kernel
theorem dL_law_633 : decode cL_law 633 = .ok (.iconst 2, 1) := by decide +kernel
theorem dL_law_634 : decode cL_law 634 = .ok (.iadd, 1) := by decide +kernel
theorem dL_law_635 : decode cL_law 635 = .ok (.iaload, 1) := by decide +kernel
theorem dL_law_636 : decode cL_law 636 = .ok (.invokevirtual 130, 3) := by decide +kernel
theorem dL_law_639 : decode cL_law 639 = .ok (.istore 6, 2) := by decide +kernel
theorem dL_law_641 : decode cL_law 641 = .ok (.aload_n 2, 1) := by decide +kernel
theorem dL_law_642 : decode cL_law 642 = .ok (.invokevirtual 88, 3) := by decide +kernel
theorem dL_law_645 : decode cL_law 645 = .ok (.iload 5, 2) := by decide +kernel
theorem dL_law_647 : decode cL_law 647 = .ok (.if_icmp .eq 5, 3) := by decide +kernel
theorem dL_law_652 : decode cL_law 652 = .ok (.iload 5, 2) := by decide +kernel
theorem dL_law_654 : decode cL_law 654 = .ok (.ifCond .ne 15, 3) := by decide +kernel
theorem dL_law_669 : decode cL_law 669 = .ok (.goto 699, 3) := by decide +kernel
theorem dL_law_672 : decode cL_law 672 = .ok (.aload_n 1, 1) := by decide +kernel
theorem dL_law_673 : decode cL_law 673 = .ok (.aload_n 0, 1) := by decide +kernel
theorem dL_law_674 : decode cL_law 674 = .ok (.iload 4, 2) := by decide +kernel
theorem dL_law_676 : decode cL_law 676 = .ok (.iconst 1, 1) := by decide +kernel
theorem dL_law_677 : decode cL_law 677 = .ok (.iadd, 1) := by decide +kernel
theorem dL_law_678 : decode cL_law 678 = .ok (.iaload, 1) := by decide +kernel
theorem dL_law_679 : decode cL_law 679 = .ok (.aload_n 0, 1) := by decide +kernel
theorem dL_law_680 : decode cL_law 680 = .ok (.iload 4, 2) := by decide +kernel
theorem dL_law_682 : decode cL_law 682 = .ok (.iconst 2, 1) := by decide +kernel
theorem dL_law_683 : decode cL_law 683 = .ok (.iadd, 1) := by decide +kernel
theorem dL_law_684 : decode cL_law 684 = .ok (.iaload, 1) := by decide +kernel
theorem dL_law_685 : decode cL_law 685 = .ok (.aload_n 3, 1) := by decide +kernel
theorem dL_law_686 : decode cL_law 686 = .ok (.invokestatic 131, 3) := by decide +kernel
theorem dL_law_689 : decode cL_law 689 = .ok (.istore 5, 2) := by decide +kernel
theorem dL_law_691 : decode cL_law 691 = .ok (.aload_n 2, 1) := by decide +kernel
theorem dL_law_692 : decode cL_law 692 = .ok (.aload_n 0, 1) := by decide +kernel
theorem dL_law_693 : decode cL_law 693 = .ok (.iload 4, 2) := by decide +kernel
theorem dL_law_695 : decode cL_law 695 = .ok (.iconst 1, 1) := by decide +kernel
theorem dL_law_696 : decode cL_law 696 = .ok (.iadd, 1) := by decide +kernel
theorem dL_law_697 : decode cL_law 697 = .ok (.iaload, 1) := by decide +kernel
theorem dL_law_698 : decode cL_law 698 = .ok (.aload_n 0, 1) := by decide +kernel
theorem dL_law_699 : decode cL_law 699 = .ok (.iload 4, 2) := by decide +kernel
theorem dL_law_701 : decode cL_law 701 = .ok (.iconst 2, 1) := by decide +kernel
theorem dL_law_702 : decode cL_law 702 = .ok (.iadd, 1) := by decide +kernel
theorem dL_law_703 : decode cL_law 703 = .ok (.iaload, 1) := by decide +kernel
theorem dL_law_704 : decode cL_law 704 = .ok (.invokevirtual 133, 3) := by decide +kernel
theorem dL_law_707 : decode cL_law 707 = .ok (.istore 6, 2) := by decide +kernel
theorem dL_law_709 : decode cL_law 709 = .ok (.aload_n 2, 1) := by decide +kernel
theorem dL_law_710 : decode cL_law 710 = .ok (.invokevirtual 88, 3) := by decide +kernel
theorem dL_law_713 : decode cL_law 713 = .ok (.iload 5, 2) := by decide +kernel
theorem dL_law_715 : decode cL_law 715 = .ok (.if_icmp .eq 5, 3) := by decide +kernel
theorem dL_law_720 : decode cL_law 720 = .ok (.iload 5, 2) := by decide +kernel
theorem dL_law_722 : decode cL_law 722 = .ok (.ifCond .ne 15, 3) := by decide +kernel
theorem dL_law_737 : decode cL_law 737 = .ok (.goto 631, 3) := by decide +kernel
theorem dL_law_740 : decode cL_law 740 = .ok (.aload_n 1, 1) := by decide +kernel
theorem dL_law_741 : decode cL_law 741 = .ok (.aload_n 0, 1) := by decide +kernel
theorem dL_law_742 : decode cL_law 742 = .ok (.iload 4, 2) := by decide +kernel
theorem dL_law_744 : decode cL_law 744 = .ok (.iconst 1, 1) := by decide +kernel
theorem dL_law_745 : decode cL_law 745 = .ok (.iadd, 1) := by decide +kernel
theorem dL_law_746 : decode cL_law 746 = .ok (.iaload, 1) := by decide +kernel
theorem dL_law_747 : decode cL_law 747 = .ok (.aload_n 0, 1) := by decide +kernel
theorem dL_law_748 : decode cL_law 748 = .ok (.iload 4, 2) := by decide +kernel
theorem dL_law_750 : decode cL_law 750 = .ok (.iconst 2, 1) := by decide +kernel
theorem dL_law_751 : decode cL_law 751 = .ok (.iadd, 1) := by decide +kernel
theorem dL_law_752 : decode cL_law 752 = .ok (.iaload, 1) := by decide +kernel
theorem dL_law_753 : decode cL_law 753 = .ok (.ifCond .eq 7, 3) := by decide +kernel
theorem dL_law_756 : decode cL_law 756 = .ok (.iconst 1, 1) := by decide +kernel
theorem dL_law_757 : decode cL_law 757 = .ok (.goto 4, 3) := by decide +kernel
theorem dL_law_760 : decode cL_law 760 = .ok (.iconst 0, 1) := by decide +kernel
theorem dL_law_761 : decode cL_law 761 = .ok (.aload_n 3, 1) := by decide +kernel
theorem dL_law_762 : decode cL_law 762 = .ok (.invokestatic 134, 3) := by decide +kernel
theorem dL_law_765 : decode cL_law 765 = .ok (.istore 5, 2) := by decide +kernel
theorem dL_law_767 : decode cL_law 767 = .ok (.aload_n 2, 1) := by decide +kernel
theorem dL_law_768 : decode cL_law 768 = .ok (.aload_n 0, 1) := by decide +kernel
theorem dL_law_769 : decode cL_law 769 = .ok (.iload 4, 2) := by decide +kernel
theorem dL_law_771 : decode cL_law 771 = .ok (.iconst 1, 1) := by decide +kernel
theorem dL_law_772 : decode cL_law 772 = .ok (.iadd, 1) := by decide +kernel
theorem dL_law_773 : decode cL_law 773 = .ok (.iaload, 1) := by decide +kernel
theorem dL_law_774 : decode cL_law 774 = .ok (.aload_n 0, 1) := by decide +kernel
theorem dL_law_775 : decode cL_law 775 = .ok (.iload 4, 2) := by decide +kernel
theorem dL_law_777 : decode cL_law 777 = .ok (.iconst 2, 1) := by decide +kernel
theorem dL_law_778 : decode cL_law 778 = .ok (.iadd, 1) := by decide +kernel
theorem dL_law_779 : decode cL_law 779 = .ok (.iaload, 1) := by decide +kernel
theorem dL_law_780 : decode cL_law 780 = .ok (.ifCond .eq 7, 3) := by decide +kernel
theorem dL_law_783 : decode cL_law 783 = .ok (.iconst 1, 1) := by decide +kernel
theorem dL_law_784 : decode cL_law 784 = .ok (.goto 4, 3) := by decide +kernel
theorem dL_law_787 : decode cL_law 787 = .ok (.iconst 0, 1) := by decide +kernel
theorem dL_law_788 : decode cL_law 788 = .ok (.invokevirtual 137, 3) := by decide +kernel
theorem dL_law_791 : decode cL_law 791 = .ok (.istore 6, 2) := by decide +kernel
theorem dL_law_793 : decode cL_law 793 = .ok (.aload_n 2, 1) := by decide +kernel
theorem dL_law_794 : decode cL_law 794 = .ok (.invokevirtual 88, 3) := by decide +kernel
theorem dL_law_797 : decode cL_law 797 = .ok (.iload 5, 2) := by decide +kernel
theorem dL_law_799 : decode cL_law 799 = .ok (.if_icmp .eq 5, 3) := by decide +kernel
theorem dL_law_804 : decode cL_law 804 = .ok (.iload 5, 2) := by decide +kernel
theorem dL_law_806 : decode cL_law 806 = .ok (.ifCond .ne 15, 3) := by decide +kernel
theorem dL_law_809 : decode cL_law 809 = .ok (.aload_n 3, 1) := by decide +kernel
theorem dL_law_810 : decode cL_law 810 = .ok (.iconst 0, 1) := by decide +kernel
theorem dL_law_811 : decode cL_law 811 = .ok (.laload, 1) := by decide +kernel
theorem dL_law_812 : decode cL_law 812 = .ok (.iload 6, 2) := by decide +kernel
theorem dL_law_814 : decode cL_law 814 = .ok (.i2l, 1) := by decide +kernel
theorem dL_law_815 : decode cL_law 815 = .ok (.lcmp, 1) := by decide +kernel
theorem dL_law_816 : decode cL_law 816 = .ok (.ifCond .eq 5, 3) := by decide +kernel
theorem dL_law_821 : decode cL_law 821 = .ok (.goto 547, 3) := by decide +kernel
theorem dL_law_824 : decode cL_law 824 = .ok (.aload_n 1, 1) := by decide +kernel
theorem dL_law_825 : decode cL_law 825 = .ok (.invokevirtual 138, 3) := by decide +kernel
theorem dL_law_828 : decode cL_law 828 = .ok (.aload_n 2, 1) := by decide +kernel
theorem dL_law_829 : decode cL_law 829 = .ok (.invokevirtual 141, 3) := by decide +kernel
theorem dL_law_832 : decode cL_law 832 = .ok (.if_icmp .eq 536, 3) := by decide +kernel
theorem dL_law_837 : decode cL_law 837 = .ok (.aload_n 1, 1) := by decide +kernel
theorem dL_law_838 : decode cL_law 838 = .ok (.aload_n 0, 1) := by decide +kernel
theorem dL_law_839 : decode cL_law 839 = .ok (.iload 4, 2) := by decide +kernel
theorem dL_law_841 : decode cL_law 841 = .ok (.iconst 1, 1) := by decide +kernel
theorem dL_law_842 : decode cL_law 842 = .ok (.iadd, 1) := by decide +kernel
theorem dL_law_843 : decode cL_law 843 = .ok (.iaload, 1) := by decide +kernel
theorem dL_law_844 : decode cL_law 844 = .ok (.aload_n 0, 1) := by decide +kernel
theorem dL_law_845 : decode cL_law 845 = .ok (.iload 4, 2) := by decide +kernel
theorem dL_law_847 : decode cL_law 847 = .ok (.iconst 2, 1) := by decide +kernel
theorem dL_law_848 : decode cL_law 848 = .ok (.iadd, 1) := by decide +kernel
theorem dL_law_849 : decode cL_law 849 = .ok (.iaload, 1) := by decide +kernel
theorem dL_law_850 : decode cL_law 850 = .ok (.aload_n 3, 1) := by decide +kernel
theorem dL_law_851 : decode cL_law 851 = .ok (.invokestatic 142, 3) := by decide +kernel
theorem dL_law_854 : decode cL_law 854 = .ok (.istore 5, 2) := by decide +kernel
theorem dL_law_856 : decode cL_law 856 = .ok (.aload_n 2, 1) := by decide +kernel
theorem dL_law_857 : decode cL_law 857 = .ok (.aload_n 0, 1) := by decide +kernel
theorem dL_law_858 : decode cL_law 858 = .ok (.iload 4, 2) := by decide +kernel
theorem dL_law_860 : decode cL_law 860 = .ok (.iconst 1, 1) := by decide +kernel
theorem dL_law_861 : decode cL_law 861 = .ok (.iadd, 1) := by decide +kernel
theorem dL_law_862 : decode cL_law 862 = .ok (.iaload, 1) := by decide +kernel
theorem dL_law_863 : decode cL_law 863 = .ok (.aload_n 0, 1) := by decide +kernel
theorem dL_law_864 : decode cL_law 864 = .ok (.iload 4, 2) := by decide +kernel
theorem dL_law_866 : decode cL_law 866 = .ok (.iconst 2, 1) := by decide +kernel
theorem dL_law_867 : decode cL_law 867 = .ok (.iadd, 1) := by decide +kernel
theorem dL_law_868 : decode cL_law 868 = .ok (.iaload, 1) := by decide +kernel
theorem dL_law_869 : decode cL_law 869 = .ok (.invokevirtual 144, 3) := by decide +kernel
theorem dL_law_872 : decode cL_law 872 = .ok (.istore 6, 2) := by decide +kernel
theorem dL_law_874 : decode cL_law 874 = .ok (.aload_n 2, 1) := by decide +kernel
theorem dL_law_875 : decode cL_law 875 = .ok (.invokevirtual 88, 3) := by decide +kernel
theorem dL_law_878 : decode cL_law 878 = .ok (.iload 5, 2) := by decide +kernel
theorem dL_law_880 : decode cL_law 880 = .ok (.if_icmp .eq 5, 3) := by decide +kernel
theorem dL_law_885 : decode cL_law 885 = .ok (.iload 5, 2) := by decide +kernel
theorem dL_law_887 : decode cL_law 887 = .ok (.ifCond .ne 15, 3) := by decide +kernel
theorem dL_law_902 : decode cL_law 902 = .ok (.goto 466, 3) := by decide +kernel
theorem dL_law_905 : decode cL_law 905 = .ok (.aload_n 1, 1) := by decide +kernel
theorem dL_law_906 : decode cL_law 906 = .ok (.aload_n 0, 1) := by decide +kernel
theorem dL_law_907 : decode cL_law 907 = .ok (.iload 4, 2) := by decide +kernel
theorem dL_law_909 : decode cL_law 909 = .ok (.iconst 1, 1) := by decide +kernel
theorem dL_law_910 : decode cL_law 910 = .ok (.iadd, 1) := by decide +kernel
theorem dL_law_911 : decode cL_law 911 = .ok (.iaload, 1) := by decide +kernel
theorem dL_law_912 : decode cL_law 912 = .ok (.aload_n 0, 1) := by decide +kernel
theorem dL_law_913 : decode cL_law 913 = .ok (.iload 4, 2) := by decide +kernel
theorem dL_law_915 : decode cL_law 915 = .ok (.iconst 2, 1) := by decide +kernel
theorem dL_law_916 : decode cL_law 916 = .ok (.iadd, 1) := by decide +kernel
theorem dL_law_917 : decode cL_law 917 = .ok (.iaload, 1) := by decide +kernel
theorem dL_law_918 : decode cL_law 918 = .ok (.aload_n 3, 1) := by decide +kernel
theorem dL_law_919 : decode cL_law 919 = .ok (.invokestatic 145, 3) := by decide +kernel
theorem dL_law_922 : decode cL_law 922 = .ok (.istore 5, 2) := by decide +kernel
theorem dL_law_924 : decode cL_law 924 = .ok (.aload_n 2, 1) := by decide +kernel
theorem dL_law_925 : decode cL_law 925 = .ok (.aload_n 0, 1) := by decide +kernel
theorem dL_law_926 : decode cL_law 926 = .ok (.iload 4, 2) := by decide +kernel
theorem dL_law_928 : decode cL_law 928 = .ok (.iconst 1, 1) := by decide +kernel
theorem dL_law_929 : decode cL_law 929 = .ok (.iadd, 1) := by decide +kernel
theorem dL_law_930 : decode cL_law 930 = .ok (.iaload, 1) := by decide +kernel
theorem dL_law_931 : decode cL_law 931 = .ok (.aload_n 0, 1) := by decide +kernel
theorem dL_law_932 : decode cL_law 932 = .ok (.iload 4, 2) := by decide +kernel
theorem dL_law_934 : decode cL_law 934 = .ok (.iconst 2, 1) := by decide +kernel
theorem dL_law_935 : decode cL_law 935 = .ok (.iadd, 1) := by decide +kernel
theorem dL_law_936 : decode cL_law 936 = .ok (.iaload, 1) := by decide +kernel
theorem dL_law_937 : decode cL_law 937 = .ok (.invokevirtual 147, 3) := by decide +kernel
theorem dL_law_940 : decode cL_law 940 = .ok (.istore 6, 2) := by decide +kernel
theorem dL_law_942 : decode cL_law 942 = .ok (.aload_n 2, 1) := by decide +kernel
theorem dL_law_943 : decode cL_law 943 = .ok (.invokevirtual 88, 3) := by decide +kernel
theorem dL_law_946 : decode cL_law 946 = .ok (.iload 5, 2) := by decide +kernel
theorem dL_law_948 : decode cL_law 948 = .ok (.if_icmp .eq 5, 3) := by decide +kernel
theorem dL_law_953 : decode cL_law 953 = .ok (.iload 5, 2) := by decide +kernel
theorem dL_law_955 : decode cL_law 955 = .ok (.ifCond .ne 22, 3) := by decide +kernel
theorem dL_law_977 : decode cL_law 977 = .ok (.goto 391, 3) := by decide +kernel
theorem dL_law_980 : decode cL_law 980 = .ok (.aload_n 1, 1) := by decide +kernel
theorem dL_law_981 : decode cL_law 981 = .ok (.aload_n 0, 1) := by decide +kernel
theorem dL_law_982 : decode cL_law 982 = .ok (.iload 4, 2) := by decide +kernel
theorem dL_law_984 : decode cL_law 984 = .ok (.iconst 1, 1) := by decide +kernel
theorem dL_law_985 : decode cL_law 985 = .ok (.iadd, 1) := by decide +kernel
theorem dL_law_986 : decode cL_law 986 = .ok (.iaload, 1) := by decide +kernel
theorem dL_law_987 : decode cL_law 987 = .ok (.aload_n 3, 1) := by decide +kernel
theorem dL_law_988 : decode cL_law 988 = .ok (.invokestatic 148, 3) := by decide +kernel
theorem dL_law_991 : decode cL_law 991 = .ok (.istore 5, 2) := by decide +kernel
theorem dL_law_993 : decode cL_law 993 = .ok (.aload_n 2, 1) := by decide +kernel
theorem dL_law_994 : decode cL_law 994 = .ok (.aload_n 0, 1) := by decide +kernel
theorem dL_law_995 : decode cL_law 995 = .ok (.iload 4, 2) := by decide +kernel
theorem dL_law_997 : decode cL_law 997 = .ok (.iconst 1, 1) := by decide +kernel
theorem dL_law_998 : decode cL_law 998 = .ok (.iadd, 1) := by decide +kernel
theorem dL_law_999 : decode cL_law 999 = .ok (.iaload, 1) := by decide +kernel
theorem dL_law_1000 : decode cL_law 1000 = .ok (.invokevirtual 150, 3) := by decide +kernel
theorem dL_law_1003 : decode cL_law 1003 = .ok (.istore 6, 2) := by decide +kernel
theorem dL_law_1005 : decode cL_law 1005 = .ok (.aload_n 2, 1) := by decide +kernel
theorem dL_law_1006 : decode cL_law 1006 = .ok (.invokevirtual 88, 3) := by decide +kernel
theorem dL_law_1009 : decode cL_law 1009 = .ok (.iload 5, 2) := by decide +kernel
theorem dL_law_1011 : decode cL_law 1011 = .ok (.if_icmp .eq 5, 3) := by decide +kernel
theorem dL_law_1016 : decode cL_law 1016 = .ok (.iload 5, 2) := by decide +kernel
theorem dL_law_1018 : decode cL_law 1018 = .ok (.ifCond .ne 15, 3) := by decide +kernel
theorem dL_law_1021 : decode cL_law 1021 = .ok (.aload_n 3, 1) := by decide +kernel
theorem dL_law_1022 : decode cL_law 1022 = .ok (.iconst 0, 1) := by decide +kernel
theorem dL_law_1023 : decode cL_law 1023 = .ok (.laload, 1) := by decide +kernel
theorem dL_law_1024 : decode cL_law 1024 = .ok (.iload 6, 2) := by decide +kernel
theorem dL_law_1026 : decode cL_law 1026 = .ok (.i2l, 1) := by decide +kernel
theorem dL_law_1027 : decode cL_law 1027 = .ok (.lcmp, 1) := by decide +kernel
theorem dL_law_1028 : decode cL_law 1028 = .ok (.ifCond .eq 5, 3) := by decide +kernel
theorem dL_law_1033 : decode cL_law 1033 = .ok (.goto 335, 3) := by decide +kernel
theorem dL_law_1036 : decode cL_law 1036 = .ok (.aload_n 1, 1) := by decide +kernel
theorem dL_law_1037 : decode cL_law 1037 = .ok (.aload_n 0, 1) := by decide +kernel
theorem dL_law_1038 : decode cL_law 1038 = .ok (.iload 4, 2) := by decide +kernel
theorem dL_law_1040 : decode cL_law 1040 = .ok (.iconst 1, 1) := by decide +kernel
theorem dL_law_1041 : decode cL_law 1041 = .ok (.iadd, 1) := by decide +kernel
theorem dL_law_1042 : decode cL_law 1042 = .ok (.iaload, 1) := by decide +kernel
theorem dL_law_1043 : decode cL_law 1043 = .ok (.aload_n 0, 1) := by decide +kernel
theorem dL_law_1044 : decode cL_law 1044 = .ok (.iload 4, 2) := by decide +kernel
theorem dL_law_1046 : decode cL_law 1046 = .ok (.iconst 2, 1) := by decide +kernel
theorem dL_law_1047 : decode cL_law 1047 = .ok (.iadd, 1) := by decide +kernel
theorem dL_law_1048 : decode cL_law 1048 = .ok (.iaload, 1) := by decide +kernel
theorem dL_law_1049 : decode cL_law 1049 = .ok (.aload_n 0, 1) := by decide +kernel
theorem dL_law_1050 : decode cL_law 1050 = .ok (.iload 4, 2) := by decide +kernel
theorem dL_law_1052 : decode cL_law 1052 = .ok (.iconst 3, 1) := by decide +kernel
theorem dL_law_1053 : decode cL_law 1053 = .ok (.iadd, 1) := by decide +kernel
theorem dL_law_1054 : decode cL_law 1054 = .ok (.iaload, 1) := by decide +kernel
theorem dL_law_1055 : decode cL_law 1055 = .ok (.aload_n 3, 1) := by decide +kernel
theorem dL_law_1056 : decode cL_law 1056 = .ok (.invokestatic 151, 3) := by decide +kernel
theorem dL_law_1059 : decode cL_law 1059 = .ok (.istore 5, 2) := by decide +kernel
theorem dL_law_1061 : decode cL_law 1061 = .ok (.aload_n 2, 1) := by decide +kernel
theorem dL_law_1062 : decode cL_law 1062 = .ok (.aload_n 0, 1) := by decide +kernel
theorem dL_law_1063 : decode cL_law 1063 = .ok (.iload 4, 2) := by decide +kernel
theorem dL_law_1065 : decode cL_law 1065 = .ok (.iconst 1, 1) := by decide +kernel
theorem dL_law_1066 : decode cL_law 1066 = .ok (.iadd, 1) := by decide +kernel
theorem dL_law_1067 : decode cL_law 1067 = .ok (.iaload, 1) := by decide +kernel
theorem dL_law_1068 : decode cL_law 1068 = .ok (.aload_n 0, 1) := by decide +kernel
theorem dL_law_1069 : decode cL_law 1069 = .ok (.iload 4, 2) := by decide +kernel
theorem dL_law_1071 : decode cL_law 1071 = .ok (.iconst 2, 1) := by decide +kernel
theorem dL_law_1072 : decode cL_law 1072 = .ok (.iadd, 1) := by decide +kernel
theorem dL_law_1073 : decode cL_law 1073 = .ok (.iaload, 1) := by decide +kernel
theorem dL_law_1074 : decode cL_law 1074 = .ok (.aload_n 0, 1) := by decide +kernel
theorem dL_law_1075 : decode cL_law 1075 = .ok (.iload 4, 2) := by decide +kernel
theorem dL_law_1077 : decode cL_law 1077 = .ok (.iconst 3, 1) := by decide +kernel
theorem dL_law_1078 : decode cL_law 1078 = .ok (.iadd, 1) := by decide +kernel
theorem dL_law_1079 : decode cL_law 1079 = .ok (.iaload, 1) := by decide +kernel
theorem dL_law_1080 : decode cL_law 1080 = .ok (.invokevirtual 154, 3) := by decide +kernel
theorem dL_law_1083 : decode cL_law 1083 = .ok (.istore 6, 2) := by decide +kernel
theorem dL_law_1085 : decode cL_law 1085 = .ok (.aload_n 2, 1) := by decide +kernel
theorem dL_law_1086 : decode cL_law 1086 = .ok (.invokevirtual 88, 3) := by decide +kernel
theorem dL_law_1089 : decode cL_law 1089 = .ok (.iload 5, 2) := by decide +kernel
theorem dL_law_1091 : decode cL_law 1091 = .ok (.if_icmp .eq 5, 3) := by decide +kernel
theorem dL_law_1096 : decode cL_law 1096 = .ok (.iload 5, 2) := by decide +kernel
theorem dL_law_1098 : decode cL_law 1098 = .ok (.ifCond .ne 15, 3) := by decide +kernel
theorem dL_law_1113 : decode cL_law 1113 = .ok (.goto 255, 3) := by decide +kernel
theorem dL_law_1116 : decode cL_law 1116 = .ok (.aload_n 1, 1) := by decide +kernel
theorem dL_law_1117 : decode cL_law 1117 = .ok (.aload_n 0, 1) := by decide +kernel
theorem dL_law_1118 : decode cL_law 1118 = .ok (.iload 4, 2) := by decide +kernel
theorem dL_law_1120 : decode cL_law 1120 = .ok (.iconst 1, 1) := by decide +kernel
theorem dL_law_1121 : decode cL_law 1121 = .ok (.iadd, 1) := by decide +kernel
theorem dL_law_1122 : decode cL_law 1122 = .ok (.iaload, 1) := by decide +kernel
theorem dL_law_1123 : decode cL_law 1123 = .ok (.aload_n 3, 1) := by decide +kernel
theorem dL_law_1124 : decode cL_law 1124 = .ok (.invokestatic 155, 3) := by decide +kernel
theorem dL_law_1127 : decode cL_law 1127 = .ok (.istore 5, 2) := by decide +kernel
theorem dL_law_1129 : decode cL_law 1129 = .ok (.aload_n 2, 1) := by decide +kernel
theorem dL_law_1130 : decode cL_law 1130 = .ok (.aload_n 0, 1) := by decide +kernel
theorem dL_law_1131 : decode cL_law 1131 = .ok (.iload 4, 2) := by decide +kernel
theorem dL_law_1133 : decode cL_law 1133 = .ok (.iconst 1, 1) := by decide +kernel
theorem dL_law_1134 : decode cL_law 1134 = .ok (.iadd, 1) := by decide +kernel
theorem dL_law_1135 : decode cL_law 1135 = .ok (.iaload, 1) := by decide +kernel
theorem dL_law_1136 : decode cL_law 1136 = .ok (.invokevirtual 157, 3) := by decide +kernel
theorem dL_law_1139 : decode cL_law 1139 = .ok (.istore 6, 2) := by decide +kernel
theorem dL_law_1141 : decode cL_law 1141 = .ok (.aload_n 2, 1) := by decide +kernel
theorem dL_law_1142 : decode cL_law 1142 = .ok (.invokevirtual 88, 3) := by decide +kernel
theorem dL_law_1145 : decode cL_law 1145 = .ok (.iload 5, 2) := by decide +kernel
theorem dL_law_1147 : decode cL_law 1147 = .ok (.if_icmp .eq 5, 3) := by decide +kernel
theorem dL_law_1152 : decode cL_law 1152 = .ok (.iload 5, 2) := by decide +kernel
theorem dL_law_1154 : decode cL_law 1154 = .ok (.ifCond .ne 15, 3) := by decide +kernel
theorem dL_law_1169 : decode cL_law 1169 = .ok (.goto 199, 3) := by decide +kernel
theorem dL_law_1172 : decode cL_law 1172 = .ok (.aload_n 1, 1) := by decide +kernel
theorem dL_law_1173 : decode cL_law 1173 = .ok (.aload_n 0, 1) := by decide +kernel
theorem dL_law_1174 : decode cL_law 1174 = .ok (.iload 4, 2) := by decide +kernel
theorem dL_law_1176 : decode cL_law 1176 = .ok (.iconst 1, 1) := by decide +kernel
theorem dL_law_1177 : decode cL_law 1177 = .ok (.iadd, 1) := by decide +kernel
theorem dL_law_1178 : decode cL_law 1178 = .ok (.iaload, 1) := by decide +kernel
theorem dL_law_1179 : decode cL_law 1179 = .ok (.aload_n 0, 1) := by decide +kernel
theorem dL_law_1180 : decode cL_law 1180 = .ok (.iload 4, 2) := by decide +kernel
theorem dL_law_1182 : decode cL_law 1182 = .ok (.iconst 2, 1) := by decide +kernel
theorem dL_law_1183 : decode cL_law 1183 = .ok (.iadd, 1) := by decide +kernel
theorem dL_law_1184 : decode cL_law 1184 = .ok (.iaload, 1) := by decide +kernel
theorem dL_law_1185 : decode cL_law 1185 = .ok (.ifCond .eq 7, 3) := by decide +kernel
theorem dL_law_1188 : decode cL_law 1188 = .ok (.iconst 1, 1) := by decide +kernel
theorem dL_law_1189 : decode cL_law 1189 = .ok (.goto 4, 3) := by decide +kernel
theorem dL_law_1192 : decode cL_law 1192 = .ok (.iconst 0, 1) := by decide +kernel
theorem dL_law_1193 : decode cL_law 1193 = .ok (.aload_n 3, 1) := by decide +kernel
theorem dL_law_1194 : decode cL_law 1194 = .ok (.invokestatic 158, 3) := by decide +kernel
theorem dL_law_1197 : decode cL_law 1197 = .ok (.istore 5, 2) := by decide +kernel
theorem dL_law_1199 : decode cL_law 1199 = .ok (.aload_n 2, 1) := by decide +kernel
theorem dL_law_1200 : decode cL_law 1200 = .ok (.aload_n 0, 1) := by decide +kernel
theorem dL_law_1201 : decode cL_law 1201 = .ok (.iload 4, 2) := by decide +kernel
theorem dL_law_1203 : decode cL_law 1203 = .ok (.iconst 1, 1) := by decide +kernel
theorem dL_law_1204 : decode cL_law 1204 = .ok (.iadd, 1) := by decide +kernel
theorem dL_law_1205 : decode cL_law 1205 = .ok (.iaload, 1) := by decide +kernel
theorem dL_law_1206 : decode cL_law 1206 = .ok (.aload_n 0, 1) := by decide +kernel
theorem dL_law_1207 : decode cL_law 1207 = .ok (.iload 4, 2) := by decide +kernel
theorem dL_law_1209 : decode cL_law 1209 = .ok (.iconst 2, 1) := by decide +kernel
theorem dL_law_1210 : decode cL_law 1210 = .ok (.iadd, 1) := by decide +kernel
theorem dL_law_1211 : decode cL_law 1211 = .ok (.iaload, 1) := by decide +kernel
theorem dL_law_1212 : decode cL_law 1212 = .ok (.ifCond .eq 7, 3) := by decide +kernel
theorem dL_law_1215 : decode cL_law 1215 = .ok (.iconst 1, 1) := by decide +kernel
theorem dL_law_1216 : decode cL_law 1216 = .ok (.goto 4, 3) := by decide +kernel
theorem dL_law_1219 : decode cL_law 1219 = .ok (.iconst 0, 1) := by decide +kernel
theorem dL_law_1220 : decode cL_law 1220 = .ok (.invokevirtual 160, 3) := by decide +kernel
theorem dL_law_1223 : decode cL_law 1223 = .ok (.istore 6, 2) := by decide +kernel
theorem dL_law_1225 : decode cL_law 1225 = .ok (.aload_n 2, 1) := by decide +kernel
theorem dL_law_1226 : decode cL_law 1226 = .ok (.invokevirtual 88, 3) := by decide +kernel
theorem dL_law_1229 : decode cL_law 1229 = .ok (.iload 5, 2) := by decide +kernel
theorem dL_law_1231 : decode cL_law 1231 = .ok (.if_icmp .eq 5, 3) := by decide +kernel
theorem dL_law_1236 : decode cL_law 1236 = .ok (.iload 5, 2) := by decide +kernel
theorem dL_law_1238 : decode cL_law 1238 = .ok (.ifCond .ne 15, 3) := by decide +kernel
theorem dL_law_1253 : decode cL_law 1253 = .ok (.goto 115, 3) := by decide +kernel
theorem dL_law_1256 : decode cL_law 1256 = .ok (.aload_n 1, 1) := by decide +kernel
theorem dL_law_1257 : decode cL_law 1257 = .ok (.aload_n 0, 1) := by decide +kernel
theorem dL_law_1258 : decode cL_law 1258 = .ok (.iload 4, 2) := by decide +kernel
theorem dL_law_1260 : decode cL_law 1260 = .ok (.iconst 1, 1) := by decide +kernel
theorem dL_law_1261 : decode cL_law 1261 = .ok (.iadd, 1) := by decide +kernel
theorem dL_law_1262 : decode cL_law 1262 = .ok (.iaload, 1) := by decide +kernel
theorem dL_law_1263 : decode cL_law 1263 = .ok (.aload_n 3, 1) := by decide +kernel
theorem dL_law_1264 : decode cL_law 1264 = .ok (.invokestatic 161, 3) := by decide +kernel
theorem dL_law_1267 : decode cL_law 1267 = .ok (.istore 5, 2) := by decide +kernel
theorem dL_law_1269 : decode cL_law 1269 = .ok (.aload_n 2, 1) := by decide +kernel
theorem dL_law_1270 : decode cL_law 1270 = .ok (.aload_n 0, 1) := by decide +kernel
theorem dL_law_1271 : decode cL_law 1271 = .ok (.iload 4, 2) := by decide +kernel
theorem dL_law_1273 : decode cL_law 1273 = .ok (.iconst 1, 1) := by decide +kernel
theorem dL_law_1274 : decode cL_law 1274 = .ok (.iadd, 1) := by decide +kernel
theorem dL_law_1275 : decode cL_law 1275 = .ok (.iaload, 1) := by decide +kernel
theorem dL_law_1276 : decode cL_law 1276 = .ok (.invokevirtual 163, 3) := by decide +kernel
theorem dL_law_1279 : decode cL_law 1279 = .ok (.istore 6, 2) := by decide +kernel
theorem dL_law_1281 : decode cL_law 1281 = .ok (.aload_n 2, 1) := by decide +kernel
theorem dL_law_1282 : decode cL_law 1282 = .ok (.invokevirtual 88, 3) := by decide +kernel
theorem dL_law_1285 : decode cL_law 1285 = .ok (.iload 5, 2) := by decide +kernel
theorem dL_law_1287 : decode cL_law 1287 = .ok (.if_icmp .eq 5, 3) := by decide +kernel
theorem dL_law_1292 : decode cL_law 1292 = .ok (.iload 5, 2) := by decide +kernel
theorem dL_law_1294 : decode cL_law 1294 = .ok (.ifCond .ne 15, 3) := by decide +kernel
theorem dL_law_1309 : decode cL_law 1309 = .ok (.goto 59, 3) := by decide +kernel
theorem dL_law_1312 : decode cL_law 1312 = .ok (.aload_n 1, 1) := by decide +kernel
theorem dL_law_1313 : decode cL_law 1313 = .ok (.aload_n 0, 1) := by decide +kernel
theorem dL_law_1314 : decode cL_law 1314 = .ok (.iload 4, 2) := by decide +kernel
theorem dL_law_1316 : decode cL_law 1316 = .ok (.iconst 1, 1) := by decide +kernel
theorem dL_law_1317 : decode cL_law 1317 = .ok (.iadd, 1) := by decide +kernel
theorem dL_law_1318 : decode cL_law 1318 = .ok (.iaload, 1) := by decide +kernel
theorem dL_law_1319 : decode cL_law 1319 = .ok (.aload_n 3, 1) := by decide +kernel
theorem dL_law_1320 : decode cL_law 1320 = .ok (.invokestatic 164, 3) := by decide +kernel
theorem dL_law_1323 : decode cL_law 1323 = .ok (.istore 5, 2) := by decide +kernel
theorem dL_law_1325 : decode cL_law 1325 = .ok (.aload_n 2, 1) := by decide +kernel
theorem dL_law_1326 : decode cL_law 1326 = .ok (.aload_n 0, 1) := by decide +kernel
theorem dL_law_1327 : decode cL_law 1327 = .ok (.iload 4, 2) := by decide +kernel
theorem dL_law_1329 : decode cL_law 1329 = .ok (.iconst 1, 1) := by decide +kernel
theorem dL_law_1330 : decode cL_law 1330 = .ok (.iadd, 1) := by decide +kernel
theorem dL_law_1331 : decode cL_law 1331 = .ok (.iaload, 1) := by decide +kernel
theorem dL_law_1332 : decode cL_law 1332 = .ok (.invokevirtual 166, 3) := by decide +kernel
theorem dL_law_1335 : decode cL_law 1335 = .ok (.istore 6, 2) := by decide +kernel
theorem dL_law_1337 : decode cL_law 1337 = .ok (.aload_n 2, 1) := by decide +kernel
theorem dL_law_1338 : decode cL_law 1338 = .ok (.invokevirtual 88, 3) := by decide +kernel
theorem dL_law_1341 : decode cL_law 1341 = .ok (.iload 5, 2) := by decide +kernel
theorem dL_law_1343 : decode cL_law 1343 = .ok (.if_icmp .eq 5, 3) := by decide +kernel
theorem dL_law_1348 : decode cL_law 1348 = .ok (.iload 5, 2) := by decide +kernel
theorem dL_law_1350 : decode cL_law 1350 = .ok (.ifCond .ne 15, 3) := by decide +kernel
theorem dL_law_1365 : decode cL_law 1365 = .ok (.goto 3, 3) := by decide +kernel
theorem dL_law_1368 : decode cL_law 1368 = .ok (.iinc 4 4, 3) := by decide +kernel
theorem dL_law_1371 : decode cL_law 1371 = .ok (.goto (-1348), 3) := by decide +kernel
theorem dL_law_1374 : decode cL_law 1374 = .ok (.iconst 1, 1) := by decide +kernel
theorem dL_law_1375 : decode cL_law 1375 = .ok (.ireturn, 1) := by decide +kernel
abbrev vwCl : List vw_C := [(RJ6, TJ6, 1), (RJx35411, TJx35411, 4), (RJx4a65c, TJx4a65c, 3), (RX0, TX0, 17), (RX1, TX1, 9), (RX2, TX2, 2), (RX3, TX3, 8), (RX4, TX4, 4), (RX5, TX5, 7), (RX6, TX6, 14), (RX9, TX9, 4), (RX10, TX10, 1), (RX11, TX11, 17), (RX12, TX12, 7), (RX13, TX13, 7), (RX14, TX14, 9), (RX15, TX15, 6), (RX16, TX16, 8), (RX17, TX17, 4), (RX18, TX18, 4), (RX19, TX19, 10), (RX20, TX20, 6), (RX21, TX21, 32)]
