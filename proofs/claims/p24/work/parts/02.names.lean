def RX0 : String := "StateVault$Kept"
def TX0 : u_T := fun k => match k with
  | 0 => ("StateVault$Kept", "number", "I", false)
  | 1 => ("StateVault$Kept", "form", "I", false)
  | 2 => ("StateVault$Kept", "sum", "I", false)
  | 3 => ("StateVault$Kept", "base", "I", false)
  | 4 => ("StateVault$Kept", "size", "I", false)
  | 5 => ("StateVault$Kept", "indexes", "[I", true)
  | _ => ("StateVault$Kept", "values", "[I", true)
def tyX0 : Nat → FieldType := fun k => match k with
  | 0 => .int
  | 1 => .int
  | 2 => .int
  | 3 => .int
  | 4 => .int
  | 5 => .array .int
  | _ => .array .int
abbrev wsX00 : List Cond := u_ws RX0 TX0 7
theorem nmX0 : ∀ a, a < 7 → ∀ b, b < 7 → a ≠ b → (TX0 a).2.1 ≠ (TX0 b).2.1 := by decide +kernel
theorem tyX0_ok : ∀ k, k < 7 → parseFieldDescriptor (TX0 k).2.2.1 = some (tyX0 k) := by decide +kernel
abbrev cX0_init : ByteArray := prog_2_method_1_code
def yX0_init : MethodName := ⟨RX0, "<init>", "()V"⟩
abbrev cX0_copyKept : ByteArray := prog_2_method_2_code
def yX0_copyKept : MethodName := ⟨RX0, "copyKept", "(LStateVault$Kept;)V"⟩
abbrev cX0_makeWhole : ByteArray := prog_2_method_3_code
def yX0_makeWhole : MethodName := ⟨RX0, "makeWhole", "([I)V"⟩
abbrev cX0_makeDifference : ByteArray := prog_2_method_4_code
def yX0_makeDifference : MethodName := ⟨RX0, "makeDifference", "(I[I[I)V"⟩
abbrev cX0_weight : ByteArray := prog_2_method_5_code
def yX0_weight : MethodName := ⟨RX0, "weight", "()I"⟩
def RX1 : String := "StateVault$Moment"
def TX1 : u_T := fun k => match k with
  | 0 => ("StateVault$Moment", "form", "I", false)
  | 1 => ("StateVault$Moment", "origin", "I", false)
  | 2 => ("StateVault$Moment", "came", "I", false)
  | 3 => ("StateVault$Moment", "size", "I", false)
  | 4 => ("StateVault$Moment", "values", "[I", true)
  | 5 => ("StateVault$Moment", "settings", "[I", true)
  | _ => ("StateVault$Moment", "places", "[LStateVault$Kept;", true)
def tyX1 : Nat → FieldType := fun k => match k with
  | 0 => .int
  | 1 => .int
  | 2 => .int
  | 3 => .int
  | 4 => .array .int
  | 5 => .array .int
  | _ => .array (.object "StateVault$Kept")
abbrev wsX10 : List Cond := u_ws RX1 TX1 7
theorem nmX1 : ∀ a, a < 7 → ∀ b, b < 7 → a ≠ b → (TX1 a).2.1 ≠ (TX1 b).2.1 := by decide +kernel
theorem tyX1_ok : ∀ k, k < 7 → parseFieldDescriptor (TX1 k).2.2.1 = some (tyX1 k) := by decide +kernel
abbrev cX1_init : ByteArray := prog_3_method_1_code
def yX1_init : MethodName := ⟨RX1, "<init>", "()V"⟩
abbrev cX1_copyFrom : ByteArray := prog_3_method_2_code
def yX1_copyFrom : MethodName := ⟨RX1, "copyFrom", "(LStateVault$Moment;)V"⟩
abbrev cX1_placeOf : ByteArray := prog_3_method_3_code
def yX1_placeOf : MethodName := ⟨RX1, "placeOf", "(I)I"⟩
abbrev cX1_baseOf : ByteArray := prog_3_method_4_code
def yX1_baseOf : MethodName := ⟨RX1, "baseOf", "(I)I"⟩
abbrev cX1_linksOf : ByteArray := prog_3_method_5_code
def yX1_linksOf : MethodName := ⟨RX1, "linksOf", "(I)I"⟩
abbrev cX1_longestChain : ByteArray := prog_3_method_6_code
def yX1_longestChain : MethodName := ⟨RX1, "longestChain", "()I"⟩
abbrev cX1_followersOf : ByteArray := prog_3_method_7_code
def yX1_followersOf : MethodName := ⟨RX1, "followersOf", "(I)I"⟩
abbrev cX1_wholeOnes : ByteArray := prog_3_method_8_code
def yX1_wholeOnes : MethodName := ⟨RX1, "wholeOnes", "()I"⟩
abbrev cX1_weight : ByteArray := prog_3_method_9_code
def yX1_weight : MethodName := ⟨RX1, "weight", "()I"⟩
abbrev cX1_removePlace : ByteArray := prog_3_method_10_code
def yX1_removePlace : MethodName := ⟨RX1, "removePlace", "(I)V"⟩
def RX2 : String := "StateVault$Reading"
def TX2 : u_T := fun k => match k with
  | 0 => ("StateVault$Reading", "found", "[[I", true)
  | _ => ("StateVault$Reading", "reasons", "[I", true)
def tyX2 : Nat → FieldType := fun k => match k with
  | 0 => .array (.array .int)
  | _ => .array .int
abbrev wsX20 : List Cond := u_ws RX2 TX2 2
theorem nmX2 : ∀ a, a < 2 → ∀ b, b < 2 → a ≠ b → (TX2 a).2.1 ≠ (TX2 b).2.1 := by decide +kernel
theorem tyX2_ok : ∀ k, k < 2 → parseFieldDescriptor (TX2 k).2.2.1 = some (tyX2 k) := by decide +kernel
abbrev cX2_init : ByteArray := prog_4_method_1_code
def yX2_init : MethodName := ⟨RX2, "<init>", "()V"⟩
abbrev cX2_readAll : ByteArray := prog_4_method_2_code
def yX2_readAll : MethodName := ⟨RX2, "readAll", "(LStateVault$Moment;)V"⟩
abbrev cX2_readPlace : ByteArray := prog_4_method_3_code
def yX2_readPlace : MethodName := ⟨RX2, "readPlace", "(LStateVault$Moment;I)I"⟩
def RX3 : String := "StateVault$Script"
def TX3 : u_T := fun k => match k with
  | 0 => ("StateVault$Script", "text", "[I", true)
  | 1 => ("StateVault$Script", "length", "I", false)
  | 2 => ("StateVault$Script", "values", "[I", true)
  | 3 => ("StateVault$Script", "size", "I", false)
  | 4 => ("StateVault$Script", "at", "I", false)
  | _ => ("StateVault$Script", "fault", "I", false)
def tyX3 : Nat → FieldType := fun k => match k with
  | 0 => .array .int
  | 1 => .int
  | 2 => .array .int
  | 3 => .int
  | 4 => .int
  | _ => .int
abbrev wsX30 : List Cond := u_ws RX3 TX3 6
theorem nmX3 : ∀ a, a < 6 → ∀ b, b < 6 → a ≠ b → (TX3 a).2.1 ≠ (TX3 b).2.1 := by decide +kernel
theorem tyX3_ok : ∀ k, k < 6 → parseFieldDescriptor (TX3 k).2.2.1 = some (tyX3 k) := by decide +kernel
abbrev cX3_init : ByteArray := prog_5_method_1_code
def yX3_init : MethodName := ⟨RX3, "<init>", "()V"⟩
abbrev cX3_run : ByteArray := prog_5_method_2_code
def yX3_run : MethodName := ⟨RX3, "run", "([II)I"⟩
abbrev cX3_runCommand : ByteArray := prog_5_method_3_code
def yX3_runCommand : MethodName := ⟨RX3, "runCommand", "(I)V"⟩
abbrev cX3_runSet : ByteArray := prog_5_method_4_code
def yX3_runSet : MethodName := ⟨RX3, "runSet", "()V"⟩
abbrev cX3_runAdd : ByteArray := prog_5_method_5_code
def yX3_runAdd : MethodName := ⟨RX3, "runAdd", "()V"⟩
abbrev cX3_runSwap : ByteArray := prog_5_method_6_code
def yX3_runSwap : MethodName := ⟨RX3, "runSwap", "()V"⟩
abbrev cX3_runFill : ByteArray := prog_5_method_7_code
def yX3_runFill : MethodName := ⟨RX3, "runFill", "()V"⟩
abbrev cX3_runTurn : ByteArray := prog_5_method_8_code
def yX3_runTurn : MethodName := ⟨RX3, "runTurn", "()V"⟩
abbrev cX3_failAt : ByteArray := prog_5_method_9_code
def yX3_failAt : MethodName := ⟨RX3, "failAt", "(I)V"⟩
abbrev cX3_isDigitNext : ByteArray := prog_5_method_10_code
def yX3_isDigitNext : MethodName := ⟨RX3, "isDigitNext", "()Z"⟩
abbrev cX3_isLetterNext : ByteArray := prog_5_method_11_code
def yX3_isLetterNext : MethodName := ⟨RX3, "isLetterNext", "()Z"⟩
abbrev cX3_isNext : ByteArray := prog_5_method_12_code
def yX3_isNext : MethodName := ⟨RX3, "isNext", "(I)Z"⟩
abbrev cX3_skipBlanks : ByteArray := prog_5_method_13_code
def yX3_skipBlanks : MethodName := ⟨RX3, "skipBlanks", "()V"⟩
abbrev cX3_takeWord : ByteArray := prog_5_method_14_code
def yX3_takeWord : MethodName := ⟨RX3, "takeWord", "()I"⟩
abbrev cX3_wordAt : ByteArray := prog_5_method_15_code
def yX3_wordAt : MethodName := ⟨RX3, "wordAt", "(I)I"⟩
abbrev cX3_isSpelled : ByteArray := prog_5_method_16_code
def yX3_isSpelled : MethodName := ⟨RX3, "isSpelled", "(Ljava/lang/String;I)Z"⟩
abbrev cX3_takeIndex : ByteArray := prog_5_method_17_code
def yX3_takeIndex : MethodName := ⟨RX3, "takeIndex", "(I)I"⟩
abbrev cX3_takeNumber : ByteArray := prog_5_method_18_code
def yX3_takeNumber : MethodName := ⟨RX3, "takeNumber", "()I"⟩
abbrev cX3_takeAmount : ByteArray := prog_5_method_19_code
def yX3_takeAmount : MethodName := ⟨RX3, "takeAmount", "()I"⟩
abbrev cX3_takeDigits : ByteArray := prog_5_method_20_code
def yX3_takeDigits : MethodName := ⟨RX3, "takeDigits", "()I"⟩
abbrev cX3_takeSemicolon : ByteArray := prog_5_method_21_code
def yX3_takeSemicolon : MethodName := ⟨RX3, "takeSemicolon", "()V"⟩
def RX4 : String := "StateVault"
def TX4 : u_T := fun k => match k with
  | 0 => ("StateVault", "now", "LStateVault$Moment;", true)
  | 1 => ("StateVault", "past", "[LStateVault$Moment;", true)
  | 2 => ("StateVault", "pastSize", "I", false)
  | 3 => ("StateVault", "script", "LStateVault$Script;", true)
  | 4 => ("StateVault", "reading", "LStateVault$Reading;", true)
  | 5 => ("StateVault", "first", "[I", true)
  | _ => ("StateVault", "second", "[I", true)
def tyX4 : Nat → FieldType := fun k => match k with
  | 0 => .object "StateVault$Moment"
  | 1 => .array (.object "StateVault$Moment")
  | 2 => .int
  | 3 => .object "StateVault$Script"
  | 4 => .object "StateVault$Reading"
  | 5 => .array .int
  | _ => .array .int
abbrev wsX40 : List Cond := u_ws RX4 TX4 7
theorem nmX4 : ∀ a, a < 7 → ∀ b, b < 7 → a ≠ b → (TX4 a).2.1 ≠ (TX4 b).2.1 := by decide +kernel
theorem tyX4_ok : ∀ k, k < 7 → parseFieldDescriptor (TX4 k).2.2.1 = some (tyX4 k) := by decide +kernel
abbrev cX4_init : ByteArray := prog_1_method_1_code
def yX4_init : MethodName := ⟨RX4, "<init>", "()V"⟩
abbrev cX4_type : ByteArray := prog_1_method_2_code
def yX4_type : MethodName := ⟨RX4, "type", "(I)I"⟩
abbrev cX4_clear : ByteArray := prog_1_method_3_code
def yX4_clear : MethodName := ⟨RX4, "clear", "()I"⟩
abbrev cX4_play : ByteArray := prog_1_method_4_code
def yX4_play : MethodName := ⟨RX4, "play", "()I"⟩
abbrev cX4_raise : ByteArray := prog_1_method_5_code
def yX4_raise : MethodName := ⟨RX4, "raise", "()I"⟩
abbrev cX4_keep : ByteArray := prog_1_method_6_code
def yX4_keep : MethodName := ⟨RX4, "keep", "()I"⟩
abbrev cX4_load : ByteArray := prog_1_method_7_code
def yX4_load : MethodName := ⟨RX4, "load", "(I)I"⟩
abbrev cX4_drop : ByteArray := prog_1_method_8_code
def yX4_drop : MethodName := ⟨RX4, "drop", "(IZ)I"⟩
abbrev cX4_alter : ByteArray := prog_1_method_9_code
def yX4_alter : MethodName := ⟨RX4, "alter", "(III)I"⟩
abbrev cX4_pack : ByteArray := prog_1_method_10_code
def yX4_pack : MethodName := ⟨RX4, "pack", "()I"⟩
abbrev cX4_set : ByteArray := prog_1_method_11_code
def yX4_set : MethodName := ⟨RX4, "set", "(II)I"⟩
abbrev cX4_undo : ByteArray := prog_1_method_12_code
def yX4_undo : MethodName := ⟨RX4, "undo", "()I"⟩
abbrev cX4_value : ByteArray := prog_1_method_13_code
def yX4_value : MethodName := ⟨RX4, "value", "(I)I"⟩
abbrev cX4_kept : ByteArray := prog_1_method_14_code
def yX4_kept : MethodName := ⟨RX4, "kept", "(II)I"⟩
abbrev cX4_entry : ByteArray := prog_1_method_15_code
def yX4_entry : MethodName := ⟨RX4, "entry", "(III)I"⟩
abbrev cX4_read : ByteArray := prog_1_method_16_code
def yX4_read : MethodName := ⟨RX4, "read", "(III)I"⟩
abbrev cX4_cause : ByteArray := prog_1_method_17_code
def yX4_cause : MethodName := ⟨RX4, "cause", "(III)I"⟩
abbrev cX4_nearest : ByteArray := prog_1_method_20_code
def yX4_nearest : MethodName := ⟨RX4, "nearest", "()I"⟩
abbrev cX4_count : ByteArray := prog_1_method_21_code
def yX4_count : MethodName := ⟨RX4, "count", "(I)I"⟩
abbrev cX4_remember : ByteArray := prog_1_method_23_code
def yX4_remember : MethodName := ⟨RX4, "remember", "()V"⟩
abbrev cX4_baseForGame : ByteArray := prog_1_method_24_code
def yX4_baseForGame : MethodName := ⟨RX4, "baseForGame", "()I"⟩
abbrev cX4_canBeBase : ByteArray := prog_1_method_25_code
def yX4_canBeBase : MethodName := ⟨RX4, "canBeBase", "(II)Z"⟩
abbrev cX4_mendFollowers : ByteArray := prog_1_method_26_code
def yX4_mendFollowers : MethodName := ⟨RX4, "mendFollowers", "(I)V"⟩
abbrev cX4_packPlace : ByteArray := prog_1_method_27_code
def yX4_packPlace : MethodName := ⟨RX4, "packPlace", "(I)V"⟩
abbrev cX4_propertyOf : ByteArray := prog_1_method_28_code
def yX4_propertyOf : MethodName := ⟨RX4, "propertyOf", "(II)I"⟩
abbrev cX4_tally : ByteArray := prog_1_method_29_code
def yX4_tally : MethodName := ⟨RX4, "tally", "(I)I"⟩
abbrev cX4_unreadable : ByteArray := prog_1_method_30_code
def yX4_unreadable : MethodName := ⟨RX4, "unreadable", "()I"⟩
abbrev cX4_reasonOf : ByteArray := prog_1_method_31_code
def yX4_reasonOf : MethodName := ⟨RX4, "reasonOf", "(I)I"⟩
abbrev cX4_causeOf : ByteArray := prog_1_method_32_code
def yX4_causeOf : MethodName := ⟨RX4, "causeOf", "(III)I"⟩
abbrev cX4_nearestToGame : ByteArray := prog_1_method_33_code
def yX4_nearestToGame : MethodName := ⟨RX4, "nearestToGame", "()I"⟩
abbrev cX4_distance : ByteArray := prog_1_method_35_code
def yX4_distance : MethodName := ⟨RX4, "distance", "(II[I)I"⟩
abbrev cX4_raiseRead : ByteArray := prog_1_method_36_code
def yX4_raiseRead : MethodName := ⟨RX4, "raiseRead", "(II[I)V"⟩
abbrev cX4_sizeOf : ByteArray := prog_1_method_37_code
def yX4_sizeOf : MethodName := ⟨RX4, "sizeOf", "(I)I"⟩
abbrev cX4_sumOf : ByteArray := prog_1_method_38_code
def yX4_sumOf : MethodName := ⟨RX4, "sumOf", "([II)I"⟩
abbrev cX4_raiseValues : ByteArray := prog_1_method_39_code
def yX4_raiseValues : MethodName := ⟨RX4, "raiseValues", "([III)V"⟩
def RX5 : String := "StateVaultModel"
def TX5 : u_T := fun k => match k with
  | _ => ("", "", "", false)
def tyX5 : Nat → FieldType := fun k => match k with
  | _ => .int
abbrev wsX50 : List Cond := u_ws RX5 TX5 0
theorem nmX5 : ∀ a, a < 0 → ∀ b, b < 0 → a ≠ b → (TX5 a).2.1 ≠ (TX5 b).2.1 := by decide +kernel
theorem tyX5_ok : ∀ k, k < 0 → parseFieldDescriptor (TX5 k).2.2.1 = some (tyX5 k) := by decide +kernel
def RJ9 : String := "java/lang/Math"
def TJ9 : u_T := fun k => match k with
  | _ => ("", "", "", false)
def tyJ9 : Nat → FieldType := fun k => match k with
  | _ => .int
abbrev wsJ90 : List Cond := u_ws RJ9 TJ9 0
theorem nmJ9 : ∀ a, a < 0 → ∀ b, b < 0 → a ≠ b → (TJ9 a).2.1 ≠ (TJ9 b).2.1 := by decide +kernel
theorem tyJ9_ok : ∀ k, k < 0 → parseFieldDescriptor (TJ9 k).2.2.1 = some (tyJ9 k) := by decide +kernel
abbrev cJ9_max_7cf53 : ByteArray := prog_8_method_65_code
def yJ9_max_7cf53 : MethodName := ⟨RJ9, "max", "(II)I"⟩
abbrev cJ9_min_7cf53 : ByteArray := prog_8_method_69_code
def yJ9_min_7cf53 : MethodName := ⟨RJ9, "min", "(II)I"⟩
def RJ0 : String := "java/lang/String"
def TJ0 : u_T := fun k => match k with
  | _ => ("", "", "", false)
def tyJ0 : Nat → FieldType := fun k => match k with
  | _ => .int
abbrev wsJ00 : List Cond := u_ws RJ0 TJ0 0
theorem nmJ0 : ∀ a, a < 0 → ∀ b, b < 0 → a ≠ b → (TJ0 a).2.1 ≠ (TJ0 b).2.1 := by decide +kernel
theorem tyJ0_ok : ∀ k, k < 0 → parseFieldDescriptor (TJ0 k).2.2.1 = some (tyJ0 k) := by decide +kernel
abbrev cJ0_length_8abf5 : ByteArray := prog_9_method_54_code
def yJ0_length_8abf5 : MethodName := ⟨RJ0, "length", "()I"⟩
abbrev cJ0_charAt_5068e : ByteArray := prog_9_method_56_code
def yJ0_charAt_5068e : MethodName := ⟨RJ0, "charAt", "(I)C"⟩
abbrev cJ0_coder_7d493 : ByteArray := prog_9_method_152_code
def yJ0_coder_7d493 : MethodName := ⟨RJ0, "coder", "()B"⟩
abbrev cJ0_isLatin1_aae02 : ByteArray := prog_9_method_154_code
def yJ0_isLatin1_aae02 : MethodName := ⟨RJ0, "isLatin1", "()Z"⟩
abbrev cJ0_checkIndex_df160 : ByteArray := prog_9_method_155_code
def yJ0_checkIndex_df160 : MethodName := ⟨RJ0, "checkIndex", "(II)V"⟩
def RJ1 : String := "java/lang/StringLatin1"
def TJ1 : u_T := fun k => match k with
  | _ => ("", "", "", false)
def tyJ1 : Nat → FieldType := fun k => match k with
  | _ => .int
abbrev wsJ10 : List Cond := u_ws RJ1 TJ1 0
theorem nmJ1 : ∀ a, a < 0 → ∀ b, b < 0 → a ≠ b → (TJ1 a).2.1 ≠ (TJ1 b).2.1 := by decide +kernel
theorem tyJ1_ok : ∀ k, k < 0 → parseFieldDescriptor (TJ1 k).2.2.1 = some (tyJ1 k) := by decide +kernel
abbrev cJ1_charAt_3b067 : ByteArray := prog_10_method_2_code
def yJ1_charAt_3b067 : MethodName := ⟨RJ1, "charAt", "([BI)C"⟩
def RJ2 : String := "java/lang/StringUTF16"
def TJ2 : u_T := fun k => match k with
  | _ => ("", "", "", false)
def tyJ2 : Nat → FieldType := fun k => match k with
  | _ => .int
abbrev wsJ20 : List Cond := u_ws RJ2 TJ2 0
theorem nmJ2 : ∀ a, a < 0 → ∀ b, b < 0 → a ≠ b → (TJ2 a).2.1 ≠ (TJ2 b).2.1 := by decide +kernel
theorem tyJ2_ok : ∀ k, k < 0 → parseFieldDescriptor (TJ2 k).2.2.1 = some (tyJ2 k) := by decide +kernel
abbrev cJ2_getChar_3b067 : ByteArray := prog_11_method_5_code
def yJ2_getChar_3b067 : MethodName := ⟨RJ2, "getChar", "([BI)C"⟩
abbrev cJ2_length_9d52b : ByteArray := prog_11_method_6_code
def yJ2_length_9d52b : MethodName := ⟨RJ2, "length", "([B)I"⟩
abbrev cJ2_charAt_3b067 : ByteArray := prog_11_method_83_code
def yJ2_charAt_3b067 : MethodName := ⟨RJ2, "charAt", "([BI)C"⟩
abbrev cJ2_checkIndex_2214a : ByteArray := prog_11_method_91_code
def yJ2_checkIndex_2214a : MethodName := ⟨RJ2, "checkIndex", "(I[B)V"⟩
def RJ10 : String := "java/lang/System"
def TJ10 : u_T := fun k => match k with
  | _ => ("", "", "", false)
def tyJ10 : Nat → FieldType := fun k => match k with
  | _ => .int
abbrev wsJ100 : List Cond := u_ws RJ10 TJ10 0
theorem nmJ10 : ∀ a, a < 0 → ∀ b, b < 0 → a ≠ b → (TJ10 a).2.1 ≠ (TJ10 b).2.1 := by decide +kernel
theorem tyJ10_ok : ∀ k, k < 0 → parseFieldDescriptor (TJ10 k).2.2.1 = some (tyJ10 k) := by decide +kernel
def RJ3 : String := "jdk/internal/util/Preconditions"
def TJ3 : u_T := fun k => match k with
  | _ => ("", "", "", false)
def tyJ3 : Nat → FieldType := fun k => match k with
  | _ => .int
abbrev wsJ30 : List Cond := u_ws RJ3 TJ3 0
theorem nmJ3 : ∀ a, a < 0 → ∀ b, b < 0 → a ≠ b → (TJ3 a).2.1 ≠ (TJ3 b).2.1 := by decide +kernel
theorem tyJ3_ok : ∀ k, k < 0 → parseFieldDescriptor (TJ3 k).2.2.1 = some (tyJ3 k) := by decide +kernel
abbrev cJ3_checkIndex_8e157 : ByteArray := prog_13_method_11_code
def yJ3_checkIndex_8e157 : MethodName := ⟨RJ3, "checkIndex", "(IILjava/util/function/BiFunction;)I"⟩
def RL : String := "StateVaultLaw"
abbrev cL_cell : ByteArray := method_2_code
def yL_cell : MethodName := ⟨RL, "cell", "([II)I"⟩
abbrev cL_low : ByteArray := method_3_code
def yL_low : MethodName := ⟨RL, "low", "(II)I"⟩
abbrev cL_begins : ByteArray := method_4_code
def yL_begins : MethodName := ⟨RL, "begins", "([I)V"⟩
abbrev cL_many : ByteArray := method_5_code
def yL_many : MethodName := ⟨RL, "many", "(I)I"⟩
abbrev cL_raises : ByteArray := method_6_code
def yL_raises : MethodName := ⟨RL, "raises", "([I)V"⟩
abbrev cL_sum : ByteArray := method_7_code
def yL_sum : MethodName := ⟨RL, "sum", "([I)I"⟩
abbrev cL_packed : ByteArray := method_8_code
def yL_packed : MethodName := ⟨RL, "packed", "([III)I"⟩
abbrev cL_packs : ByteArray := method_9_code
def yL_packs : MethodName := ⟨RL, "packs", "([IIII)V"⟩
abbrev cL_links : ByteArray := method_10_code
def yL_links : MethodName := ⟨RL, "links", "([II)I"⟩
abbrev cL_up : ByteArray := method_11_code
def yL_up : MethodName := ⟨RL, "up", "([III)I"⟩
abbrev cL_reads : ByteArray := method_12_code
def yL_reads : MethodName := ⟨RL, "reads", "([II[I[I)I"⟩
abbrev cL_apart : ByteArray := method_13_code
def yL_apart : MethodName := ⟨RL, "apart", "([I[I)I"⟩
abbrev cL_keeps : ByteArray := method_14_code
def yL_keeps : MethodName := ⟨RL, "keeps", "(LStateVault;[I[I)Z"⟩
abbrev cL_loads : ByteArray := method_15_code
def yL_loads : MethodName := ⟨RL, "loads", "(LStateVault;[I[II)Z"⟩
abbrev cL_typesNumber : ByteArray := method_16_code
def yL_typesNumber : MethodName := ⟨RL, "typesNumber", "(LStateVault;I)Z"⟩
abbrev cL_spells : ByteArray := method_17_code
def yL_spells : MethodName := ⟨RL, "spells", "(LStateVault;J)Z"⟩
abbrev cL_types : ByteArray := method_18_code
def yL_types : MethodName := ⟨RL, "types", "(LStateVault;[II)Z"⟩
abbrev cL_plays : ByteArray := method_19_code
def yL_plays : MethodName := ⟨RL, "plays", "(LStateVault;[III)Z"⟩
abbrev cL_raisesGame : ByteArray := method_20_code
def yL_raisesGame : MethodName := ⟨RL, "raisesGame", "(LStateVault;[I)Z"⟩
abbrev cL_isGame : ByteArray := method_21_code
def yL_isGame : MethodName := ⟨RL, "isGame", "(LStateVault;[I)Z"⟩
abbrev cL_areKept : ByteArray := method_22_code
def yL_areKept : MethodName := ⟨RL, "areKept", "(LStateVault;[I[I)Z"⟩
abbrev cL_law : ByteArray := code
def yL_law : MethodName := ⟨RL, "law", "([I)Z"⟩
abbrev vwCl : List vw_C := [(RX0, TX0, 7), (RX1, TX1, 7), (RX2, TX2, 2), (RX3, TX3, 6), (RX4, TX4, 7)]

set_option maxRecDepth 20000 in
theorem inX0 : ∀ w ∈ wsX00, w ∈ lw_tbl := by decide +kernel
set_option maxRecDepth 20000 in
theorem inX1 : ∀ w ∈ wsX10, w ∈ lw_tbl := by decide +kernel
set_option maxRecDepth 20000 in
theorem inX2 : ∀ w ∈ wsX20, w ∈ lw_tbl := by decide +kernel
set_option maxRecDepth 20000 in
theorem inX3 : ∀ w ∈ wsX30, w ∈ lw_tbl := by decide +kernel
set_option maxRecDepth 20000 in
theorem inX4 : ∀ w ∈ wsX40, w ∈ lw_tbl := by decide +kernel
