theorem nmX5 : ∀ a, a < 10 → ∀ b, b < 10 → a ≠ b → (TX5 a).2.1 ≠ (TX5 b).2.1 := by decide +kernel
theorem tyX5_ok : ∀ k, k < 10 → parseFieldDescriptor (TX5 k).2.2.1 = some (tyX5 k) := by decide +kernel
abbrev cX5_read : ByteArray := prog_7_method_2_code
def yX5_read : MethodName := ⟨RX5, "read", "([BII)V"⟩
abbrev cX5_readLine : ByteArray := prog_7_method_3_code
def yX5_readLine : MethodName := ⟨RX5, "readLine", "([BII)Z"⟩
abbrev cX5_refuse : ByteArray := prog_7_method_4_code
def yX5_refuse : MethodName := ⟨RX5, "refuse", "()Z"⟩
abbrev cX5_note : ByteArray := prog_7_method_5_code
def yX5_note : MethodName := ⟨RX5, "note", "(I)V"⟩
abbrev cX5_step : ByteArray := prog_7_method_6_code
def yX5_step : MethodName := ⟨RX5, "step", "([BI)V"⟩
abbrev cX5_isLetter : ByteArray := prog_7_method_7_code
def yX5_isLetter : MethodName := ⟨RX5, "isLetter", "(B)Z"⟩
abbrev cX5_isDigit : ByteArray := prog_7_method_8_code
def yX5_isDigit : MethodName := ⟨RX5, "isDigit", "(B)Z"⟩
abbrev cX5_kindOf : ByteArray := prog_7_method_9_code
def yX5_kindOf : MethodName := ⟨RX5, "kindOf", "([BI)I"⟩
abbrev cX5_spells : ByteArray := prog_7_method_10_code
def yX5_spells : MethodName := ⟨RX5, "spells", "([BLjava/lang/String;)Z"⟩
abbrev cX5_wordOf : ByteArray := prog_7_method_11_code
def yX5_wordOf : MethodName := ⟨RX5, "wordOf", "(I)Ljava/lang/String;"⟩
abbrev cX5_isFull : ByteArray := prog_7_method_12_code
def yX5_isFull : MethodName := ⟨RX5, "isFull", "(I)Z"⟩
abbrev cX5_cannotBe : ByteArray := prog_7_method_13_code
def yX5_cannotBe : MethodName := ⟨RX5, "cannotBe", "(II)Z"⟩
abbrev cX5_keepLine : ByteArray := prog_7_method_14_code
def yX5_keepLine : MethodName := ⟨RX5, "keepLine", "(I)V"⟩
abbrev cX9_text : ByteArray := prog_1_method_4_code
def yX9_text : MethodName := ⟨RX9, "text", "(II)I"⟩
def RJ0 : String := "java/lang/String"
abbrev cJ0_length_8abf5 : ByteArray := prog_15_method_54_code
def yJ0_length_8abf5 : MethodName := ⟨RJ0, "length", "()I"⟩
abbrev cJ0_charAt_5068e : ByteArray := prog_15_method_56_code
def yJ0_charAt_5068e : MethodName := ⟨RJ0, "charAt", "(I)C"⟩
abbrev cJ0_coder_7d493 : ByteArray := prog_15_method_152_code
def yJ0_coder_7d493 : MethodName := ⟨RJ0, "coder", "()B"⟩
abbrev cJ0_isLatin1_aae02 : ByteArray := prog_15_method_154_code
def yJ0_isLatin1_aae02 : MethodName := ⟨RJ0, "isLatin1", "()Z"⟩
abbrev cJ0_checkIndex_df160 : ByteArray := prog_15_method_155_code
def yJ0_checkIndex_df160 : MethodName := ⟨RJ0, "checkIndex", "(II)V"⟩
def RJ1 : String := "java/lang/StringLatin1"
abbrev cJ1_charAt_3b067 : ByteArray := prog_16_method_2_code
def yJ1_charAt_3b067 : MethodName := ⟨RJ1, "charAt", "([BI)C"⟩
def RJ2 : String := "java/lang/StringUTF16"
abbrev cJ2_getChar_3b067 : ByteArray := prog_17_method_5_code
def yJ2_getChar_3b067 : MethodName := ⟨RJ2, "getChar", "([BI)C"⟩
abbrev cJ2_length_9d52b : ByteArray := prog_17_method_6_code
def yJ2_length_9d52b : MethodName := ⟨RJ2, "length", "([B)I"⟩
abbrev cJ2_charAt_3b067 : ByteArray := prog_17_method_83_code
def yJ2_charAt_3b067 : MethodName := ⟨RJ2, "charAt", "([BI)C"⟩
abbrev cJ2_checkIndex_2214a : ByteArray := prog_17_method_91_code
def yJ2_checkIndex_2214a : MethodName := ⟨RJ2, "checkIndex", "(I[B)V"⟩
def RJ3 : String := "jdk/internal/util/Preconditions"
abbrev cJ3_checkIndex_8e157 : ByteArray := prog_20_method_11_code
def yJ3_checkIndex_8e157 : MethodName := ⟨RJ3, "checkIndex", "(IILjava/util/function/BiFunction;)I"⟩
def wsX5_isLetter : List Cond := .code yX5_isLetter cX5_isLetter 1 (some .boolean) :: ([])
def wsX5_isDigit : List Cond := .code yX5_isDigit cX5_isDigit 1 (some .boolean) :: ([])
def wsX5_step : List Cond := .code yX5_step cX5_step 4 none :: ([.fieldLink RX5 52 "ClapBank$Reader" "to" "I", .fieldLink RX5 101 "ClapBank$Reader" "from" "I", .fieldLink RX5 59 "ClapBank$Reader" "token" "I", .fieldLink RX5 91 "ClapBank$Reader" "value" "I", .methodLink RX5 111 Lib.Math.min.name, .static Lib.Math.min.name, .initialized "java/lang/Math", .code Lib.Math.min.name Lib.Math.min.code 2 (some .int), .methodLink RX5 104 yX5_isLetter, .static yX5_isLetter, .initialized RX5, .code yX5_isLetter cX5_isLetter 1 (some .boolean), .methodLink RX5 108 yX5_isDigit, .static yX5_isDigit, .code yX5_isDigit cX5_isDigit 1 (some .boolean)] ++ wsX50)
def wsX5_wordOf : List Cond := .code yX5_wordOf cX5_wordOf 1 (some (.object "java/lang/String")) :: ([])
def wsJ0_coder_7d493 : List Cond := .code yJ0_coder_7d493 cJ0_coder_7d493 1 (some .byte) :: ([.fieldLink RJ0 38 "java/lang/String" "COMPACT_STRINGS" "Z", .fieldLink RJ0 15 "java/lang/String" "coder" "B"])
def wsJ0_length_8abf5 : List Cond := .code yJ0_length_8abf5 cJ0_length_8abf5 1 (some .int) :: ([.fieldLink RJ0 9 "java/lang/String" "value" "[B", .methodLink RJ0 335 yJ0_coder_7d493, .instanceMethod yJ0_coder_7d493, .selects RJ0 yJ0_coder_7d493 yJ0_coder_7d493, .initialized RJ0, .code yJ0_coder_7d493 cJ0_coder_7d493 1 (some .byte), .fieldLink RJ0 38 "java/lang/String" "COMPACT_STRINGS" "Z", .fieldLink RJ0 15 "java/lang/String" "coder" "B"])
def wsJ0_isLatin1_aae02 : List Cond := .code yJ0_isLatin1_aae02 cJ0_isLatin1_aae02 1 (some .boolean) :: ([.fieldLink RJ0 38 "java/lang/String" "COMPACT_STRINGS" "Z", .fieldLink RJ0 15 "java/lang/String" "coder" "B"])
def wsJ3_checkIndex_8e157 : List Cond := .code yJ3_checkIndex_8e157 cJ3_checkIndex_8e157 3 (some .int) :: ([])
def wsJ0_checkIndex_df160 : List Cond := .code yJ0_checkIndex_df160 cJ0_checkIndex_df160 2 none :: ([.fieldLink RJ0 1053 "jdk/internal/util/Preconditions" "SIOOBE_FORMATTER" "Ljava/util/function/BiFunction;", .methodLink RJ0 1059 yJ3_checkIndex_8e157, .static yJ3_checkIndex_8e157, .initialized RJ3, .code yJ3_checkIndex_8e157 cJ3_checkIndex_8e157 3 (some .int)])
def wsJ1_charAt_3b067 : List Cond := .code yJ1_charAt_3b067 cJ1_charAt_3b067 2 (some .char) :: ([.methodLink RJ1 9 yJ0_checkIndex_df160, .static yJ0_checkIndex_df160, .initialized RJ0, .code yJ0_checkIndex_df160 cJ0_checkIndex_df160 2 none, .fieldLink RJ0 1053 "jdk/internal/util/Preconditions" "SIOOBE_FORMATTER" "Ljava/util/function/BiFunction;", .methodLink RJ0 1059 yJ3_checkIndex_8e157, .static yJ3_checkIndex_8e157, .initialized RJ3, .code yJ3_checkIndex_8e157 cJ3_checkIndex_8e157 3 (some .int)])
def wsJ0_charAt_5068e_r1 : List Cond := [Cond.fieldLink RJ0 9 "java/lang/String" "value" "[B", Cond.methodLink RJ0 492 yJ0_isLatin1_aae02, Cond.instanceMethod yJ0_isLatin1_aae02, Cond.selects RJ0 yJ0_isLatin1_aae02 yJ0_isLatin1_aae02, Cond.initialized RJ0, Cond.code yJ0_isLatin1_aae02 cJ0_isLatin1_aae02 1 (some .boolean), Cond.fieldLink RJ0 38 "java/lang/String" "COMPACT_STRINGS" "Z", Cond.fieldLink RJ0 15 "java/lang/String" "coder" "B", Cond.methodLink RJ0 495 yJ1_charAt_3b067, Cond.static yJ1_charAt_3b067, Cond.initialized RJ1, Cond.code yJ1_charAt_3b067 cJ1_charAt_3b067 2 (some .char), Cond.methodLink RJ1 9 yJ0_checkIndex_df160, Cond.static yJ0_checkIndex_df160, Cond.code yJ0_checkIndex_df160 cJ0_checkIndex_df160 2 none, Cond.fieldLink RJ0 1053 "jdk/internal/util/Preconditions" "SIOOBE_FORMATTER" "Ljava/util/function/BiFunction;", Cond.methodLink RJ0 1059 yJ3_checkIndex_8e157, Cond.static yJ3_checkIndex_8e157, Cond.initialized RJ3, Cond.code yJ3_checkIndex_8e157 cJ3_checkIndex_8e157 3 (some .int), Cond.methodLink RJ0 498 yJ2_charAt_3b067, Cond.static yJ2_charAt_3b067, Cond.initialized RJ2, Cond.code yJ2_charAt_3b067 cJ2_charAt_3b067 2 (some .char)]
def wsJ0_charAt_5068e_r2 : List Cond := [Cond.methodLink RJ2 67 yJ2_checkIndex_2214a, Cond.static yJ2_checkIndex_2214a, Cond.code yJ2_checkIndex_2214a cJ2_checkIndex_2214a 2 none, Cond.methodLink RJ2 48 yJ2_length_9d52b, Cond.static yJ2_length_9d52b, Cond.code yJ2_length_9d52b cJ2_length_9d52b 1 (some .int), Cond.methodLink RJ2 414 yJ0_checkIndex_df160, Cond.methodLink RJ2 71 yJ2_getChar_3b067, Cond.static yJ2_getChar_3b067, Cond.code yJ2_getChar_3b067 cJ2_getChar_3b067 2 (some .char), Cond.fieldLink RJ2 44 "java/lang/StringUTF16" "$assertionsDisabled" "Z", Cond.fieldLink RJ2 59 "java/lang/StringUTF16" "HI_BYTE_SHIFT" "I", Cond.fieldLink RJ2 63 "java/lang/StringUTF16" "LO_BYTE_SHIFT" "I"]
def wsJ0_charAt_5068e : List Cond := .code yJ0_charAt_5068e cJ0_charAt_5068e 2 (some .char) :: ((wsJ0_charAt_5068e_r1 ++ wsJ0_charAt_5068e_r2))
def wsX5_spells_r1 : List Cond := [Cond.fieldLink RX5 52 "ClapBank$Reader" "to" "I", Cond.fieldLink RX5 101 "ClapBank$Reader" "from" "I", Cond.methodLink RX5 128 yJ0_length_8abf5, Cond.instanceMethod yJ0_length_8abf5, Cond.selects RJ0 yJ0_length_8abf5 yJ0_length_8abf5, Cond.initialized RJ0, Cond.code yJ0_length_8abf5 cJ0_length_8abf5 1 (some .int), Cond.fieldLink RJ0 9 "java/lang/String" "value" "[B", Cond.methodLink RJ0 335 yJ0_coder_7d493, Cond.instanceMethod yJ0_coder_7d493, Cond.selects RJ0 yJ0_coder_7d493 yJ0_coder_7d493, Cond.code yJ0_coder_7d493 cJ0_coder_7d493 1 (some .byte), Cond.fieldLink RJ0 38 "java/lang/String" "COMPACT_STRINGS" "Z", Cond.fieldLink RJ0 15 "java/lang/String" "coder" "B", Cond.methodLink RX5 134 yJ0_charAt_5068e, Cond.instanceMethod yJ0_charAt_5068e, Cond.selects RJ0 yJ0_charAt_5068e yJ0_charAt_5068e, Cond.code yJ0_charAt_5068e cJ0_charAt_5068e 2 (some .char), Cond.methodLink RJ0 492 yJ0_isLatin1_aae02, Cond.instanceMethod yJ0_isLatin1_aae02, Cond.selects RJ0 yJ0_isLatin1_aae02 yJ0_isLatin1_aae02, Cond.code yJ0_isLatin1_aae02 cJ0_isLatin1_aae02 1 (some .boolean), Cond.methodLink RJ0 495 yJ1_charAt_3b067, Cond.static yJ1_charAt_3b067]
def wsX5_spells_r2 : List Cond := [Cond.initialized RJ1, Cond.code yJ1_charAt_3b067 cJ1_charAt_3b067 2 (some .char), Cond.methodLink RJ1 9 yJ0_checkIndex_df160, Cond.static yJ0_checkIndex_df160, Cond.code yJ0_checkIndex_df160 cJ0_checkIndex_df160 2 none, Cond.fieldLink RJ0 1053 "jdk/internal/util/Preconditions" "SIOOBE_FORMATTER" "Ljava/util/function/BiFunction;", Cond.methodLink RJ0 1059 yJ3_checkIndex_8e157, Cond.static yJ3_checkIndex_8e157, Cond.initialized RJ3, Cond.code yJ3_checkIndex_8e157 cJ3_checkIndex_8e157 3 (some .int), Cond.methodLink RJ0 498 yJ2_charAt_3b067, Cond.static yJ2_charAt_3b067, Cond.initialized RJ2, Cond.code yJ2_charAt_3b067 cJ2_charAt_3b067 2 (some .char), Cond.methodLink RJ2 67 yJ2_checkIndex_2214a, Cond.static yJ2_checkIndex_2214a, Cond.code yJ2_checkIndex_2214a cJ2_checkIndex_2214a 2 none, Cond.methodLink RJ2 48 yJ2_length_9d52b, Cond.static yJ2_length_9d52b, Cond.code yJ2_length_9d52b cJ2_length_9d52b 1 (some .int), Cond.methodLink RJ2 414 yJ0_checkIndex_df160, Cond.methodLink RJ2 71 yJ2_getChar_3b067, Cond.static yJ2_getChar_3b067, Cond.code yJ2_getChar_3b067 cJ2_getChar_3b067 2 (some .char)]
def wsX5_spells_r3 : List Cond := [Cond.fieldLink RJ2 44 "java/lang/StringUTF16" "$assertionsDisabled" "Z", Cond.fieldLink RJ2 59 "java/lang/StringUTF16" "HI_BYTE_SHIFT" "I", Cond.fieldLink RJ2 63 "java/lang/StringUTF16" "LO_BYTE_SHIFT" "I"]
def wsX5_spells : List Cond := .code yX5_spells cX5_spells 4 (some .boolean) :: ((wsX5_spells_r1 ++ (wsX5_spells_r2 ++ wsX5_spells_r3)) ++ wsX50)
def wsX5_kindOf_r1 : List Cond := [Cond.fieldLink RX5 117 "ClapBank$Reader" "FIRST_LINE" "[I", Cond.methodLink RX5 120 yX5_wordOf, Cond.static yX5_wordOf, Cond.initialized RX5, Cond.code yX5_wordOf cX5_wordOf 1 (some (.object "java/lang/String")), Cond.methodLink RX5 124 yX5_spells, Cond.instanceMethod yX5_spells, Cond.selects RX5 yX5_spells yX5_spells, Cond.code yX5_spells cX5_spells 4 (some .boolean), Cond.fieldLink RX5 52 "ClapBank$Reader" "to" "I", Cond.fieldLink RX5 101 "ClapBank$Reader" "from" "I", Cond.methodLink RX5 128 yJ0_length_8abf5, Cond.instanceMethod yJ0_length_8abf5, Cond.selects RJ0 yJ0_length_8abf5 yJ0_length_8abf5, Cond.initialized RJ0, Cond.code yJ0_length_8abf5 cJ0_length_8abf5 1 (some .int), Cond.fieldLink RJ0 9 "java/lang/String" "value" "[B", Cond.methodLink RJ0 335 yJ0_coder_7d493, Cond.instanceMethod yJ0_coder_7d493, Cond.selects RJ0 yJ0_coder_7d493 yJ0_coder_7d493, Cond.code yJ0_coder_7d493 cJ0_coder_7d493 1 (some .byte), Cond.fieldLink RJ0 38 "java/lang/String" "COMPACT_STRINGS" "Z", Cond.fieldLink RJ0 15 "java/lang/String" "coder" "B", Cond.methodLink RX5 134 yJ0_charAt_5068e]
def wsX5_kindOf_r2 : List Cond := [Cond.instanceMethod yJ0_charAt_5068e, Cond.selects RJ0 yJ0_charAt_5068e yJ0_charAt_5068e, Cond.code yJ0_charAt_5068e cJ0_charAt_5068e 2 (some .char), Cond.methodLink RJ0 492 yJ0_isLatin1_aae02, Cond.instanceMethod yJ0_isLatin1_aae02, Cond.selects RJ0 yJ0_isLatin1_aae02 yJ0_isLatin1_aae02, Cond.code yJ0_isLatin1_aae02 cJ0_isLatin1_aae02 1 (some .boolean), Cond.methodLink RJ0 495 yJ1_charAt_3b067, Cond.static yJ1_charAt_3b067, Cond.initialized RJ1, Cond.code yJ1_charAt_3b067 cJ1_charAt_3b067 2 (some .char), Cond.methodLink RJ1 9 yJ0_checkIndex_df160, Cond.static yJ0_checkIndex_df160, Cond.code yJ0_checkIndex_df160 cJ0_checkIndex_df160 2 none, Cond.fieldLink RJ0 1053 "jdk/internal/util/Preconditions" "SIOOBE_FORMATTER" "Ljava/util/function/BiFunction;", Cond.methodLink RJ0 1059 yJ3_checkIndex_8e157, Cond.static yJ3_checkIndex_8e157, Cond.initialized RJ3, Cond.code yJ3_checkIndex_8e157 cJ3_checkIndex_8e157 3 (some .int), Cond.methodLink RJ0 498 yJ2_charAt_3b067, Cond.static yJ2_charAt_3b067, Cond.initialized RJ2, Cond.code yJ2_charAt_3b067 cJ2_charAt_3b067 2 (some .char), Cond.methodLink RJ2 67 yJ2_checkIndex_2214a]
def wsX5_kindOf_r3 : List Cond := [Cond.static yJ2_checkIndex_2214a, Cond.code yJ2_checkIndex_2214a cJ2_checkIndex_2214a 2 none, Cond.methodLink RJ2 48 yJ2_length_9d52b, Cond.static yJ2_length_9d52b, Cond.code yJ2_length_9d52b cJ2_length_9d52b 1 (some .int), Cond.methodLink RJ2 414 yJ0_checkIndex_df160, Cond.methodLink RJ2 71 yJ2_getChar_3b067, Cond.static yJ2_getChar_3b067, Cond.code yJ2_getChar_3b067 cJ2_getChar_3b067 2 (some .char), Cond.fieldLink RJ2 44 "java/lang/StringUTF16" "$assertionsDisabled" "Z", Cond.fieldLink RJ2 59 "java/lang/StringUTF16" "HI_BYTE_SHIFT" "I", Cond.fieldLink RJ2 63 "java/lang/StringUTF16" "LO_BYTE_SHIFT" "I"]
def wsX5_kindOf : List Cond := .code yX5_kindOf cX5_kindOf 4 (some .int) :: ((wsX5_kindOf_r1 ++ (wsX5_kindOf_r2 ++ wsX5_kindOf_r3)) ++ wsX50)
def wsX5_refuse : List Cond := .code yX5_refuse cX5_refuse 1 (some .boolean) :: ([.fieldLink RX5 46 "ClapBank$Reader" "fault" "I", .fieldLink RX5 101 "ClapBank$Reader" "from" "I", .fieldLink RX5 49 "ClapBank$Reader" "place" "I"] ++ wsX50)
def wsX5_isFull : List Cond := .code yX5_isFull cX5_isFull 2 (some .boolean) :: ([.fieldLink RX5 12 "ClapBank$Reader" "theatre" "LClapBank$Theatre;", .fieldLink RX5 28 "ClapBank$Reader" "dark" "LClapBank$Dark;", .fieldLink RX5 21 "ClapBank$Reader" "book" "LClapBank$Book;"] ++ wsX50 ++ wsX70 ++ wsX10 ++ wsX00)
def wsX5_note : List Cond := .code yX5_note cX5_note 2 none :: ([.fieldLink RX5 46 "ClapBank$Reader" "fault" "I", .fieldLink RX5 101 "ClapBank$Reader" "from" "I", .fieldLink RX5 49 "ClapBank$Reader" "place" "I"] ++ wsX50)
def wsX5_cannotBe : List Cond := .code yX5_cannotBe cX5_cannotBe 5 (some .boolean) :: ([.fieldLink RX5 32 "ClapBank$Reader" "numbers" "[I", .fieldLink RX5 175 "ClapBank$Reader" "LEAST" "[I", .fieldLink RX5 178 "ClapBank$Reader" "HIGHEST" "[I"] ++ wsX50)
def wsX5_keepLine_r1 : List Cond := [Cond.fieldLink RX5 12 "ClapBank$Reader" "theatre" "LClapBank$Theatre;", Cond.fieldLink RX5 32 "ClapBank$Reader" "numbers" "[I", Cond.fieldLink RX5 28 "ClapBank$Reader" "dark" "LClapBank$Dark;", Cond.fieldLink RX5 21 "ClapBank$Reader" "book" "LClapBank$Book;", Cond.methodLink RX5 181 yX7_addPalm, Cond.instanceMethod yX7_addPalm, Cond.selects RX7 yX7_addPalm yX7_addPalm, Cond.initialized RX7, Cond.code yX7_addPalm cX7_addPalm 3 none, Cond.fieldLink RX7 30 "ClapBank$Theatre" "palms" "I", Cond.fieldLink RX7 9 "ClapBank$Theatre" "claps" "[I", Cond.fieldLink RX7 15 "ClapBank$Theatre" "hands" "[I", Cond.methodLink RX5 185 yX7_addActor, Cond.instanceMethod yX7_addActor, Cond.selects RX7 yX7_addActor yX7_addActor, Cond.code yX7_addActor cX7_addActor 3 none, Cond.fieldLink RX7 34 "ClapBank$Theatre" "actors" "I", Cond.fieldLink RX7 18 "ClapBank$Theatre" "hunger" "[I", Cond.fieldLink RX7 21 "ClapBank$Theatre" "saved" "[I", Cond.methodLink RX5 188 yX7_addUsurer, Cond.instanceMethod yX7_addUsurer, Cond.selects RX7 yX7_addUsurer yX7_addUsurer, Cond.code yX7_addUsurer cX7_addUsurer 3 none, Cond.fieldLink RX7 37 "ClapBank$Theatre" "usurers" "I"]
def wsX5_keepLine_r2 : List Cond := [Cond.fieldLink RX7 24 "ClapBank$Theatre" "asks" "[I", Cond.fieldLink RX7 27 "ClapBank$Theatre" "floors" "[I", Cond.methodLink RX5 198 yX1_addMinute, Cond.instanceMethod yX1_addMinute, Cond.selects RX1 yX1_addMinute yX1_addMinute, Cond.initialized RX1, Cond.code yX1_addMinute cX1_addMinute 2 none, Cond.fieldLink RX1 15 "ClapBank$Dark" "minutes" "I", Cond.fieldLink RX1 9 "ClapBank$Dark" "halves" "[I", Cond.methodLink RX5 201 yX0_addDeed, Cond.instanceMethod yX0_addDeed, Cond.selects RX0 yX0_addDeed yX0_addDeed, Cond.initialized RX0, Cond.code yX0_addDeed cX0_addDeed 6 none, Cond.fieldLink RX0 15 "ClapBank$Book" "deeds" "I", Cond.fieldLink RX0 9 "ClapBank$Book" "parts" "[I"]
def wsX5_keepLine : List Cond := .code yX5_keepLine cX5_keepLine 2 none :: ((wsX5_keepLine_r1 ++ wsX5_keepLine_r2) ++ wsX50 ++ wsX70 ++ wsX10 ++ wsX00)
def wsX5_readLine_r1 : List Cond := [Cond.fieldLink RX5 59 "ClapBank$Reader" "token" "I", Cond.fieldLink RX5 32 "ClapBank$Reader" "numbers" "[I", Cond.fieldLink RX5 88 "ClapBank$Reader" "NUMBERS" "[I", Cond.fieldLink RX5 91 "ClapBank$Reader" "value" "I", Cond.methodLink RX5 66 yX5_kindOf, Cond.instanceMethod yX5_kindOf, Cond.selects RX5 yX5_kindOf yX5_kindOf, Cond.initialized RX5, Cond.code yX5_kindOf cX5_kindOf 4 (some .int), Cond.fieldLink RX5 117 "ClapBank$Reader" "FIRST_LINE" "[I", Cond.methodLink RX5 120 yX5_wordOf, Cond.static yX5_wordOf, Cond.code yX5_wordOf cX5_wordOf 1 (some (.object "java/lang/String")), Cond.methodLink RX5 124 yX5_spells, Cond.instanceMethod yX5_spells, Cond.selects RX5 yX5_spells yX5_spells, Cond.code yX5_spells cX5_spells 4 (some .boolean), Cond.fieldLink RX5 52 "ClapBank$Reader" "to" "I", Cond.fieldLink RX5 101 "ClapBank$Reader" "from" "I", Cond.methodLink RX5 128 yJ0_length_8abf5, Cond.instanceMethod yJ0_length_8abf5, Cond.selects RJ0 yJ0_length_8abf5 yJ0_length_8abf5, Cond.initialized RJ0, Cond.code yJ0_length_8abf5 cJ0_length_8abf5 1 (some .int)]
def wsX5_readLine_r2 : List Cond := [Cond.fieldLink RJ0 9 "java/lang/String" "value" "[B", Cond.methodLink RJ0 335 yJ0_coder_7d493, Cond.instanceMethod yJ0_coder_7d493, Cond.selects RJ0 yJ0_coder_7d493 yJ0_coder_7d493, Cond.code yJ0_coder_7d493 cJ0_coder_7d493 1 (some .byte), Cond.fieldLink RJ0 38 "java/lang/String" "COMPACT_STRINGS" "Z", Cond.fieldLink RJ0 15 "java/lang/String" "coder" "B", Cond.methodLink RX5 134 yJ0_charAt_5068e, Cond.instanceMethod yJ0_charAt_5068e, Cond.selects RJ0 yJ0_charAt_5068e yJ0_charAt_5068e, Cond.code yJ0_charAt_5068e cJ0_charAt_5068e 2 (some .char), Cond.methodLink RJ0 492 yJ0_isLatin1_aae02, Cond.instanceMethod yJ0_isLatin1_aae02, Cond.selects RJ0 yJ0_isLatin1_aae02 yJ0_isLatin1_aae02, Cond.code yJ0_isLatin1_aae02 cJ0_isLatin1_aae02 1 (some .boolean), Cond.methodLink RJ0 495 yJ1_charAt_3b067, Cond.static yJ1_charAt_3b067, Cond.initialized RJ1, Cond.code yJ1_charAt_3b067 cJ1_charAt_3b067 2 (some .char), Cond.methodLink RJ1 9 yJ0_checkIndex_df160, Cond.static yJ0_checkIndex_df160, Cond.code yJ0_checkIndex_df160 cJ0_checkIndex_df160 2 none, Cond.fieldLink RJ0 1053 "jdk/internal/util/Preconditions" "SIOOBE_FORMATTER" "Ljava/util/function/BiFunction;", Cond.methodLink RJ0 1059 yJ3_checkIndex_8e157]
def wsX5_readLine_r3 : List Cond := [Cond.static yJ3_checkIndex_8e157, Cond.initialized RJ3, Cond.code yJ3_checkIndex_8e157 cJ3_checkIndex_8e157 3 (some .int), Cond.methodLink RJ0 498 yJ2_charAt_3b067, Cond.static yJ2_charAt_3b067, Cond.initialized RJ2, Cond.code yJ2_charAt_3b067 cJ2_charAt_3b067 2 (some .char), Cond.methodLink RJ2 67 yJ2_checkIndex_2214a, Cond.static yJ2_checkIndex_2214a, Cond.code yJ2_checkIndex_2214a cJ2_checkIndex_2214a 2 none, Cond.methodLink RJ2 48 yJ2_length_9d52b, Cond.static yJ2_length_9d52b, Cond.code yJ2_length_9d52b cJ2_length_9d52b 1 (some .int), Cond.methodLink RJ2 414 yJ0_checkIndex_df160, Cond.methodLink RJ2 71 yJ2_getChar_3b067, Cond.static yJ2_getChar_3b067, Cond.code yJ2_getChar_3b067 cJ2_getChar_3b067 2 (some .char), Cond.fieldLink RJ2 44 "java/lang/StringUTF16" "$assertionsDisabled" "Z", Cond.fieldLink RJ2 59 "java/lang/StringUTF16" "HI_BYTE_SHIFT" "I", Cond.fieldLink RJ2 63 "java/lang/StringUTF16" "LO_BYTE_SHIFT" "I", Cond.methodLink RX5 70 yX5_refuse, Cond.instanceMethod yX5_refuse, Cond.selects RX5 yX5_refuse yX5_refuse, Cond.code yX5_refuse cX5_refuse 1 (some .boolean)]
def wsX5_readLine_r4 : List Cond := [Cond.fieldLink RX5 46 "ClapBank$Reader" "fault" "I", Cond.fieldLink RX5 49 "ClapBank$Reader" "place" "I", Cond.methodLink RX5 74 yX5_isFull, Cond.instanceMethod yX5_isFull, Cond.selects RX5 yX5_isFull yX5_isFull, Cond.code yX5_isFull cX5_isFull 2 (some .boolean), Cond.fieldLink RX5 12 "ClapBank$Reader" "theatre" "LClapBank$Theatre;", Cond.fieldLink RX5 28 "ClapBank$Reader" "dark" "LClapBank$Dark;", Cond.fieldLink RX5 21 "ClapBank$Reader" "book" "LClapBank$Book;", Cond.methodLink RX5 78 yX5_note, Cond.instanceMethod yX5_note, Cond.selects RX5 yX5_note yX5_note, Cond.code yX5_note cX5_note 2 none, Cond.methodLink RX5 82 yJ7_fill_53178, Cond.static yJ7_fill_53178, Cond.initialized RJ7, Cond.code yJ7_fill_53178 cJ7_fill_53178 4 none, Cond.methodLink RX5 55 yX5_step, Cond.instanceMethod yX5_step, Cond.selects RX5 yX5_step yX5_step, Cond.code yX5_step cX5_step 4 none, Cond.methodLink RX5 111 Lib.Math.min.name, Cond.static Lib.Math.min.name, Cond.initialized "java/lang/Math"]
def wsX5_readLine_r5 : List Cond := [Cond.code Lib.Math.min.name Lib.Math.min.code 2 (some .int), Cond.methodLink RX5 104 yX5_isLetter, Cond.static yX5_isLetter, Cond.code yX5_isLetter cX5_isLetter 1 (some .boolean), Cond.methodLink RX5 108 yX5_isDigit, Cond.static yX5_isDigit, Cond.code yX5_isDigit cX5_isDigit 1 (some .boolean), Cond.methodLink RX5 94 yX5_cannotBe, Cond.instanceMethod yX5_cannotBe, Cond.selects RX5 yX5_cannotBe yX5_cannotBe, Cond.code yX5_cannotBe cX5_cannotBe 5 (some .boolean), Cond.fieldLink RX5 175 "ClapBank$Reader" "LEAST" "[I", Cond.fieldLink RX5 178 "ClapBank$Reader" "HIGHEST" "[I", Cond.methodLink RX5 98 yX5_keepLine, Cond.instanceMethod yX5_keepLine, Cond.selects RX5 yX5_keepLine yX5_keepLine, Cond.code yX5_keepLine cX5_keepLine 2 none, Cond.methodLink RX5 181 yX7_addPalm, Cond.instanceMethod yX7_addPalm, Cond.selects RX7 yX7_addPalm yX7_addPalm, Cond.initialized RX7, Cond.code yX7_addPalm cX7_addPalm 3 none, Cond.fieldLink RX7 30 "ClapBank$Theatre" "palms" "I", Cond.fieldLink RX7 9 "ClapBank$Theatre" "claps" "[I"]
def wsX5_readLine_r6 : List Cond := [Cond.fieldLink RX7 15 "ClapBank$Theatre" "hands" "[I", Cond.methodLink RX5 185 yX7_addActor, Cond.instanceMethod yX7_addActor, Cond.selects RX7 yX7_addActor yX7_addActor, Cond.code yX7_addActor cX7_addActor 3 none, Cond.fieldLink RX7 34 "ClapBank$Theatre" "actors" "I", Cond.fieldLink RX7 18 "ClapBank$Theatre" "hunger" "[I", Cond.fieldLink RX7 21 "ClapBank$Theatre" "saved" "[I", Cond.methodLink RX5 188 yX7_addUsurer, Cond.instanceMethod yX7_addUsurer, Cond.selects RX7 yX7_addUsurer yX7_addUsurer, Cond.code yX7_addUsurer cX7_addUsurer 3 none, Cond.fieldLink RX7 37 "ClapBank$Theatre" "usurers" "I", Cond.fieldLink RX7 24 "ClapBank$Theatre" "asks" "[I", Cond.fieldLink RX7 27 "ClapBank$Theatre" "floors" "[I", Cond.methodLink RX5 198 yX1_addMinute, Cond.instanceMethod yX1_addMinute, Cond.selects RX1 yX1_addMinute yX1_addMinute, Cond.initialized RX1, Cond.code yX1_addMinute cX1_addMinute 2 none, Cond.fieldLink RX1 15 "ClapBank$Dark" "minutes" "I", Cond.fieldLink RX1 9 "ClapBank$Dark" "halves" "[I", Cond.methodLink RX5 201 yX0_addDeed, Cond.instanceMethod yX0_addDeed]
def wsX5_readLine_r7 : List Cond := [Cond.selects RX0 yX0_addDeed yX0_addDeed, Cond.initialized RX0, Cond.code yX0_addDeed cX0_addDeed 6 none, Cond.fieldLink RX0 15 "ClapBank$Book" "deeds" "I", Cond.fieldLink RX0 9 "ClapBank$Book" "parts" "[I"]
def wsX5_readLine : List Cond := .code yX5_readLine cX5_readLine 6 (some .boolean) :: ((wsX5_readLine_r1 ++ (wsX5_readLine_r2 ++ (wsX5_readLine_r3 ++ (wsX5_readLine_r4 ++ (wsX5_readLine_r5 ++ (wsX5_readLine_r6 ++ wsX5_readLine_r7)))))) ++ wsX50 ++ wsX70 ++ wsX10 ++ wsX00)
def wsX5_read_r1 : List Cond := [Cond.fieldLink RX5 12 "ClapBank$Reader" "theatre" "LClapBank$Theatre;", Cond.fieldLink RX5 21 "ClapBank$Reader" "book" "LClapBank$Book;", Cond.fieldLink RX5 28 "ClapBank$Reader" "dark" "LClapBank$Dark;", Cond.fieldLink RX5 46 "ClapBank$Reader" "fault" "I", Cond.fieldLink RX5 49 "ClapBank$Reader" "place" "I", Cond.fieldLink RX5 52 "ClapBank$Reader" "to" "I", Cond.fieldLink RX5 59 "ClapBank$Reader" "token" "I", Cond.methodLink RX5 36 yX7_clear, Cond.instanceMethod yX7_clear, Cond.selects RX7 yX7_clear yX7_clear, Cond.initialized RX7, Cond.code yX7_clear cX7_clear 1 none, Cond.fieldLink RX7 30 "ClapBank$Theatre" "palms" "I", Cond.fieldLink RX7 34 "ClapBank$Theatre" "actors" "I", Cond.fieldLink RX7 37 "ClapBank$Theatre" "usurers" "I", Cond.fieldLink RX7 40 "ClapBank$Theatre" "rate" "I", Cond.fieldLink RX7 43 "ClapBank$Theatre" "chest" "I", Cond.fieldLink RX7 46 "ClapBank$Theatre" "borrowers" "I", Cond.methodLink RX5 55 yX5_step, Cond.instanceMethod yX5_step, Cond.selects RX5 yX5_step yX5_step, Cond.initialized RX5, Cond.code yX5_step cX5_step 4 none, Cond.fieldLink RX5 101 "ClapBank$Reader" "from" "I"]
def wsX5_read_r2 : List Cond := [Cond.fieldLink RX5 91 "ClapBank$Reader" "value" "I", Cond.methodLink RX5 111 Lib.Math.min.name, Cond.static Lib.Math.min.name, Cond.initialized "java/lang/Math", Cond.code Lib.Math.min.name Lib.Math.min.code 2 (some .int), Cond.methodLink RX5 104 yX5_isLetter, Cond.static yX5_isLetter, Cond.code yX5_isLetter cX5_isLetter 1 (some .boolean), Cond.methodLink RX5 108 yX5_isDigit, Cond.static yX5_isDigit, Cond.code yX5_isDigit cX5_isDigit 1 (some .boolean), Cond.methodLink RX5 62 yX5_readLine, Cond.instanceMethod yX5_readLine, Cond.selects RX5 yX5_readLine yX5_readLine, Cond.code yX5_readLine cX5_readLine 6 (some .boolean), Cond.fieldLink RX5 32 "ClapBank$Reader" "numbers" "[I", Cond.fieldLink RX5 88 "ClapBank$Reader" "NUMBERS" "[I", Cond.methodLink RX5 66 yX5_kindOf, Cond.instanceMethod yX5_kindOf, Cond.selects RX5 yX5_kindOf yX5_kindOf, Cond.code yX5_kindOf cX5_kindOf 4 (some .int), Cond.fieldLink RX5 117 "ClapBank$Reader" "FIRST_LINE" "[I", Cond.methodLink RX5 120 yX5_wordOf, Cond.static yX5_wordOf]
def wsX5_read_r3 : List Cond := [Cond.code yX5_wordOf cX5_wordOf 1 (some (.object "java/lang/String")), Cond.methodLink RX5 124 yX5_spells, Cond.instanceMethod yX5_spells, Cond.selects RX5 yX5_spells yX5_spells, Cond.code yX5_spells cX5_spells 4 (some .boolean), Cond.methodLink RX5 128 yJ0_length_8abf5, Cond.instanceMethod yJ0_length_8abf5, Cond.selects RJ0 yJ0_length_8abf5 yJ0_length_8abf5, Cond.initialized RJ0, Cond.code yJ0_length_8abf5 cJ0_length_8abf5 1 (some .int), Cond.fieldLink RJ0 9 "java/lang/String" "value" "[B", Cond.methodLink RJ0 335 yJ0_coder_7d493, Cond.instanceMethod yJ0_coder_7d493, Cond.selects RJ0 yJ0_coder_7d493 yJ0_coder_7d493, Cond.code yJ0_coder_7d493 cJ0_coder_7d493 1 (some .byte), Cond.fieldLink RJ0 38 "java/lang/String" "COMPACT_STRINGS" "Z", Cond.fieldLink RJ0 15 "java/lang/String" "coder" "B", Cond.methodLink RX5 134 yJ0_charAt_5068e, Cond.instanceMethod yJ0_charAt_5068e, Cond.selects RJ0 yJ0_charAt_5068e yJ0_charAt_5068e, Cond.code yJ0_charAt_5068e cJ0_charAt_5068e 2 (some .char), Cond.methodLink RJ0 492 yJ0_isLatin1_aae02, Cond.instanceMethod yJ0_isLatin1_aae02, Cond.selects RJ0 yJ0_isLatin1_aae02 yJ0_isLatin1_aae02]
def wsX5_read_r4 : List Cond := [Cond.code yJ0_isLatin1_aae02 cJ0_isLatin1_aae02 1 (some .boolean), Cond.methodLink RJ0 495 yJ1_charAt_3b067, Cond.static yJ1_charAt_3b067, Cond.initialized RJ1, Cond.code yJ1_charAt_3b067 cJ1_charAt_3b067 2 (some .char), Cond.methodLink RJ1 9 yJ0_checkIndex_df160, Cond.static yJ0_checkIndex_df160, Cond.code yJ0_checkIndex_df160 cJ0_checkIndex_df160 2 none, Cond.fieldLink RJ0 1053 "jdk/internal/util/Preconditions" "SIOOBE_FORMATTER" "Ljava/util/function/BiFunction;", Cond.methodLink RJ0 1059 yJ3_checkIndex_8e157, Cond.static yJ3_checkIndex_8e157, Cond.initialized RJ3, Cond.code yJ3_checkIndex_8e157 cJ3_checkIndex_8e157 3 (some .int), Cond.methodLink RJ0 498 yJ2_charAt_3b067, Cond.static yJ2_charAt_3b067, Cond.initialized RJ2, Cond.code yJ2_charAt_3b067 cJ2_charAt_3b067 2 (some .char), Cond.methodLink RJ2 67 yJ2_checkIndex_2214a, Cond.static yJ2_checkIndex_2214a, Cond.code yJ2_checkIndex_2214a cJ2_checkIndex_2214a 2 none, Cond.methodLink RJ2 48 yJ2_length_9d52b, Cond.static yJ2_length_9d52b, Cond.code yJ2_length_9d52b cJ2_length_9d52b 1 (some .int), Cond.methodLink RJ2 414 yJ0_checkIndex_df160]
def wsX5_read_r5 : List Cond := [Cond.methodLink RJ2 71 yJ2_getChar_3b067, Cond.static yJ2_getChar_3b067, Cond.code yJ2_getChar_3b067 cJ2_getChar_3b067 2 (some .char), Cond.fieldLink RJ2 44 "java/lang/StringUTF16" "$assertionsDisabled" "Z", Cond.fieldLink RJ2 59 "java/lang/StringUTF16" "HI_BYTE_SHIFT" "I", Cond.fieldLink RJ2 63 "java/lang/StringUTF16" "LO_BYTE_SHIFT" "I", Cond.methodLink RX5 70 yX5_refuse, Cond.instanceMethod yX5_refuse, Cond.selects RX5 yX5_refuse yX5_refuse, Cond.code yX5_refuse cX5_refuse 1 (some .boolean), Cond.methodLink RX5 74 yX5_isFull, Cond.instanceMethod yX5_isFull, Cond.selects RX5 yX5_isFull yX5_isFull, Cond.code yX5_isFull cX5_isFull 2 (some .boolean), Cond.methodLink RX5 78 yX5_note, Cond.instanceMethod yX5_note, Cond.selects RX5 yX5_note yX5_note, Cond.code yX5_note cX5_note 2 none, Cond.methodLink RX5 82 yJ7_fill_53178, Cond.static yJ7_fill_53178, Cond.initialized RJ7, Cond.code yJ7_fill_53178 cJ7_fill_53178 4 none, Cond.methodLink RX5 94 yX5_cannotBe, Cond.instanceMethod yX5_cannotBe]
def wsX5_read_r6 : List Cond := [Cond.selects RX5 yX5_cannotBe yX5_cannotBe, Cond.code yX5_cannotBe cX5_cannotBe 5 (some .boolean), Cond.fieldLink RX5 175 "ClapBank$Reader" "LEAST" "[I", Cond.fieldLink RX5 178 "ClapBank$Reader" "HIGHEST" "[I", Cond.methodLink RX5 98 yX5_keepLine, Cond.instanceMethod yX5_keepLine, Cond.selects RX5 yX5_keepLine yX5_keepLine, Cond.code yX5_keepLine cX5_keepLine 2 none, Cond.methodLink RX5 181 yX7_addPalm, Cond.instanceMethod yX7_addPalm, Cond.selects RX7 yX7_addPalm yX7_addPalm, Cond.code yX7_addPalm cX7_addPalm 3 none, Cond.fieldLink RX7 9 "ClapBank$Theatre" "claps" "[I", Cond.fieldLink RX7 15 "ClapBank$Theatre" "hands" "[I", Cond.methodLink RX5 185 yX7_addActor, Cond.instanceMethod yX7_addActor, Cond.selects RX7 yX7_addActor yX7_addActor, Cond.code yX7_addActor cX7_addActor 3 none, Cond.fieldLink RX7 18 "ClapBank$Theatre" "hunger" "[I", Cond.fieldLink RX7 21 "ClapBank$Theatre" "saved" "[I", Cond.methodLink RX5 188 yX7_addUsurer, Cond.instanceMethod yX7_addUsurer, Cond.selects RX7 yX7_addUsurer yX7_addUsurer, Cond.code yX7_addUsurer cX7_addUsurer 3 none]
def wsX5_read_r7 : List Cond := [Cond.fieldLink RX7 24 "ClapBank$Theatre" "asks" "[I", Cond.fieldLink RX7 27 "ClapBank$Theatre" "floors" "[I", Cond.methodLink RX5 198 yX1_addMinute, Cond.instanceMethod yX1_addMinute, Cond.selects RX1 yX1_addMinute yX1_addMinute, Cond.initialized RX1, Cond.code yX1_addMinute cX1_addMinute 2 none, Cond.fieldLink RX1 15 "ClapBank$Dark" "minutes" "I", Cond.fieldLink RX1 9 "ClapBank$Dark" "halves" "[I", Cond.methodLink RX5 201 yX0_addDeed, Cond.instanceMethod yX0_addDeed, Cond.selects RX0 yX0_addDeed yX0_addDeed, Cond.initialized RX0, Cond.code yX0_addDeed cX0_addDeed 6 none, Cond.fieldLink RX0 15 "ClapBank$Book" "deeds" "I", Cond.fieldLink RX0 9 "ClapBank$Book" "parts" "[I"]
def wsX5_read : List Cond := .code yX5_read cX5_read 5 none :: ((wsX5_read_r1 ++ (wsX5_read_r2 ++ (wsX5_read_r3 ++ (wsX5_read_r4 ++ (wsX5_read_r5 ++ (wsX5_read_r6 ++ wsX5_read_r7)))))) ++ wsX50 ++ wsX00 ++ wsX10 ++ wsX70)
def wsX9_text_r1 : List Cond := [Cond.fieldLink RX9 10 "ClapBank" "told" "LClapBank$Told;", Cond.fieldLink RX9 23 "ClapBank" "reader" "LClapBank$Reader;", Cond.methodLink RX9 69 yX8_howMany, Cond.instanceMethod yX8_howMany, Cond.selects RX8 yX8_howMany yX8_howMany, Cond.initialized RX8, Cond.code yX8_howMany cX8_howMany 2 (some .int), Cond.fieldLink RX8 52 "ClapBank$Told" "theatres" "I", Cond.fieldLink RX8 55 "ClapBank$Told" "books" "I", Cond.fieldLink RX8 58 "ClapBank$Told" "darks" "I", Cond.methodLink RX9 77 yX5_read, Cond.instanceMethod yX5_read, Cond.selects RX5 yX5_read yX5_read, Cond.initialized RX5, Cond.code yX5_read cX5_read 5 none, Cond.fieldLink RX5 12 "ClapBank$Reader" "theatre" "LClapBank$Theatre;", Cond.fieldLink RX5 21 "ClapBank$Reader" "book" "LClapBank$Book;", Cond.fieldLink RX5 28 "ClapBank$Reader" "dark" "LClapBank$Dark;", Cond.fieldLink RX5 46 "ClapBank$Reader" "fault" "I", Cond.fieldLink RX5 49 "ClapBank$Reader" "place" "I", Cond.fieldLink RX5 52 "ClapBank$Reader" "to" "I", Cond.fieldLink RX5 59 "ClapBank$Reader" "token" "I", Cond.methodLink RX5 36 yX7_clear, Cond.instanceMethod yX7_clear]
def wsX9_text_r2 : List Cond := [Cond.selects RX7 yX7_clear yX7_clear, Cond.initialized RX7, Cond.code yX7_clear cX7_clear 1 none, Cond.fieldLink RX7 30 "ClapBank$Theatre" "palms" "I", Cond.fieldLink RX7 34 "ClapBank$Theatre" "actors" "I", Cond.fieldLink RX7 37 "ClapBank$Theatre" "usurers" "I", Cond.fieldLink RX7 40 "ClapBank$Theatre" "rate" "I", Cond.fieldLink RX7 43 "ClapBank$Theatre" "chest" "I", Cond.fieldLink RX7 46 "ClapBank$Theatre" "borrowers" "I", Cond.methodLink RX5 55 yX5_step, Cond.instanceMethod yX5_step, Cond.selects RX5 yX5_step yX5_step, Cond.code yX5_step cX5_step 4 none, Cond.fieldLink RX5 101 "ClapBank$Reader" "from" "I", Cond.fieldLink RX5 91 "ClapBank$Reader" "value" "I", Cond.methodLink RX5 111 Lib.Math.min.name, Cond.static Lib.Math.min.name, Cond.initialized "java/lang/Math", Cond.code Lib.Math.min.name Lib.Math.min.code 2 (some .int), Cond.methodLink RX5 104 yX5_isLetter, Cond.static yX5_isLetter, Cond.code yX5_isLetter cX5_isLetter 1 (some .boolean), Cond.methodLink RX5 108 yX5_isDigit, Cond.static yX5_isDigit]
def wsX9_text_r3 : List Cond := [Cond.code yX5_isDigit cX5_isDigit 1 (some .boolean), Cond.methodLink RX5 62 yX5_readLine, Cond.instanceMethod yX5_readLine, Cond.selects RX5 yX5_readLine yX5_readLine, Cond.code yX5_readLine cX5_readLine 6 (some .boolean), Cond.fieldLink RX5 32 "ClapBank$Reader" "numbers" "[I", Cond.fieldLink RX5 88 "ClapBank$Reader" "NUMBERS" "[I", Cond.methodLink RX5 66 yX5_kindOf, Cond.instanceMethod yX5_kindOf, Cond.selects RX5 yX5_kindOf yX5_kindOf, Cond.code yX5_kindOf cX5_kindOf 4 (some .int), Cond.fieldLink RX5 117 "ClapBank$Reader" "FIRST_LINE" "[I", Cond.methodLink RX5 120 yX5_wordOf, Cond.static yX5_wordOf, Cond.code yX5_wordOf cX5_wordOf 1 (some (.object "java/lang/String")), Cond.methodLink RX5 124 yX5_spells, Cond.instanceMethod yX5_spells, Cond.selects RX5 yX5_spells yX5_spells, Cond.code yX5_spells cX5_spells 4 (some .boolean), Cond.methodLink RX5 128 yJ0_length_8abf5, Cond.instanceMethod yJ0_length_8abf5, Cond.selects RJ0 yJ0_length_8abf5 yJ0_length_8abf5, Cond.initialized RJ0, Cond.code yJ0_length_8abf5 cJ0_length_8abf5 1 (some .int)]
def wsX9_text_r4 : List Cond := [Cond.fieldLink RJ0 9 "java/lang/String" "value" "[B", Cond.methodLink RJ0 335 yJ0_coder_7d493, Cond.instanceMethod yJ0_coder_7d493, Cond.selects RJ0 yJ0_coder_7d493 yJ0_coder_7d493, Cond.code yJ0_coder_7d493 cJ0_coder_7d493 1 (some .byte), Cond.fieldLink RJ0 38 "java/lang/String" "COMPACT_STRINGS" "Z", Cond.fieldLink RJ0 15 "java/lang/String" "coder" "B", Cond.methodLink RX5 134 yJ0_charAt_5068e, Cond.instanceMethod yJ0_charAt_5068e, Cond.selects RJ0 yJ0_charAt_5068e yJ0_charAt_5068e, Cond.code yJ0_charAt_5068e cJ0_charAt_5068e 2 (some .char), Cond.methodLink RJ0 492 yJ0_isLatin1_aae02, Cond.instanceMethod yJ0_isLatin1_aae02, Cond.selects RJ0 yJ0_isLatin1_aae02 yJ0_isLatin1_aae02, Cond.code yJ0_isLatin1_aae02 cJ0_isLatin1_aae02 1 (some .boolean), Cond.methodLink RJ0 495 yJ1_charAt_3b067, Cond.static yJ1_charAt_3b067, Cond.initialized RJ1, Cond.code yJ1_charAt_3b067 cJ1_charAt_3b067 2 (some .char), Cond.methodLink RJ1 9 yJ0_checkIndex_df160, Cond.static yJ0_checkIndex_df160, Cond.code yJ0_checkIndex_df160 cJ0_checkIndex_df160 2 none, Cond.fieldLink RJ0 1053 "jdk/internal/util/Preconditions" "SIOOBE_FORMATTER" "Ljava/util/function/BiFunction;", Cond.methodLink RJ0 1059 yJ3_checkIndex_8e157]
def wsX9_text_r5 : List Cond := [Cond.static yJ3_checkIndex_8e157, Cond.initialized RJ3, Cond.code yJ3_checkIndex_8e157 cJ3_checkIndex_8e157 3 (some .int), Cond.methodLink RJ0 498 yJ2_charAt_3b067, Cond.static yJ2_charAt_3b067, Cond.initialized RJ2, Cond.code yJ2_charAt_3b067 cJ2_charAt_3b067 2 (some .char), Cond.methodLink RJ2 67 yJ2_checkIndex_2214a, Cond.static yJ2_checkIndex_2214a, Cond.code yJ2_checkIndex_2214a cJ2_checkIndex_2214a 2 none, Cond.methodLink RJ2 48 yJ2_length_9d52b, Cond.static yJ2_length_9d52b, Cond.code yJ2_length_9d52b cJ2_length_9d52b 1 (some .int), Cond.methodLink RJ2 414 yJ0_checkIndex_df160, Cond.methodLink RJ2 71 yJ2_getChar_3b067, Cond.static yJ2_getChar_3b067, Cond.code yJ2_getChar_3b067 cJ2_getChar_3b067 2 (some .char), Cond.fieldLink RJ2 44 "java/lang/StringUTF16" "$assertionsDisabled" "Z", Cond.fieldLink RJ2 59 "java/lang/StringUTF16" "HI_BYTE_SHIFT" "I", Cond.fieldLink RJ2 63 "java/lang/StringUTF16" "LO_BYTE_SHIFT" "I", Cond.methodLink RX5 70 yX5_refuse, Cond.instanceMethod yX5_refuse, Cond.selects RX5 yX5_refuse yX5_refuse, Cond.code yX5_refuse cX5_refuse 1 (some .boolean)]
def wsX9_text_r6 : List Cond := [Cond.methodLink RX5 74 yX5_isFull, Cond.instanceMethod yX5_isFull, Cond.selects RX5 yX5_isFull yX5_isFull, Cond.code yX5_isFull cX5_isFull 2 (some .boolean), Cond.methodLink RX5 78 yX5_note, Cond.instanceMethod yX5_note, Cond.selects RX5 yX5_note yX5_note, Cond.code yX5_note cX5_note 2 none, Cond.methodLink RX5 82 yJ7_fill_53178, Cond.static yJ7_fill_53178, Cond.initialized RJ7, Cond.code yJ7_fill_53178 cJ7_fill_53178 4 none, Cond.methodLink RX5 94 yX5_cannotBe, Cond.instanceMethod yX5_cannotBe, Cond.selects RX5 yX5_cannotBe yX5_cannotBe, Cond.code yX5_cannotBe cX5_cannotBe 5 (some .boolean), Cond.fieldLink RX5 175 "ClapBank$Reader" "LEAST" "[I", Cond.fieldLink RX5 178 "ClapBank$Reader" "HIGHEST" "[I", Cond.methodLink RX5 98 yX5_keepLine, Cond.instanceMethod yX5_keepLine, Cond.selects RX5 yX5_keepLine yX5_keepLine, Cond.code yX5_keepLine cX5_keepLine 2 none, Cond.methodLink RX5 181 yX7_addPalm, Cond.instanceMethod yX7_addPalm]
def wsX9_text_r7 : List Cond := [Cond.selects RX7 yX7_addPalm yX7_addPalm, Cond.code yX7_addPalm cX7_addPalm 3 none, Cond.fieldLink RX7 9 "ClapBank$Theatre" "claps" "[I", Cond.fieldLink RX7 15 "ClapBank$Theatre" "hands" "[I", Cond.methodLink RX5 185 yX7_addActor, Cond.instanceMethod yX7_addActor, Cond.selects RX7 yX7_addActor yX7_addActor, Cond.code yX7_addActor cX7_addActor 3 none, Cond.fieldLink RX7 18 "ClapBank$Theatre" "hunger" "[I", Cond.fieldLink RX7 21 "ClapBank$Theatre" "saved" "[I", Cond.methodLink RX5 188 yX7_addUsurer, Cond.instanceMethod yX7_addUsurer, Cond.selects RX7 yX7_addUsurer yX7_addUsurer, Cond.code yX7_addUsurer cX7_addUsurer 3 none, Cond.fieldLink RX7 24 "ClapBank$Theatre" "asks" "[I", Cond.fieldLink RX7 27 "ClapBank$Theatre" "floors" "[I", Cond.methodLink RX5 198 yX1_addMinute, Cond.instanceMethod yX1_addMinute, Cond.selects RX1 yX1_addMinute yX1_addMinute, Cond.initialized RX1, Cond.code yX1_addMinute cX1_addMinute 2 none, Cond.fieldLink RX1 15 "ClapBank$Dark" "minutes" "I", Cond.fieldLink RX1 9 "ClapBank$Dark" "halves" "[I", Cond.methodLink RX5 201 yX0_addDeed]
def wsX9_text_r8 : List Cond := [Cond.instanceMethod yX0_addDeed, Cond.selects RX0 yX0_addDeed yX0_addDeed, Cond.initialized RX0, Cond.code yX0_addDeed cX0_addDeed 6 none, Cond.fieldLink RX0 15 "ClapBank$Book" "deeds" "I", Cond.fieldLink RX0 9 "ClapBank$Book" "parts" "[I", Cond.methodLink RX9 83 yX8_put, Cond.instanceMethod yX8_put, Cond.selects RX8 yX8_put yX8_put, Cond.code yX8_put cX8_put 4 none, Cond.fieldLink RX8 22 "ClapBank$Told" "firstTheatre" "LClapBank$Theatre;", Cond.fieldLink RX8 26 "ClapBank$Told" "secondTheatre" "LClapBank$Theatre;", Cond.methodLink RX8 70 Lib.Math.max.name, Cond.static Lib.Math.max.name, Cond.code Lib.Math.max.name Lib.Math.max.code 2 (some .int), Cond.fieldLink RX8 32 "ClapBank$Told" "firstBook" "LClapBank$Book;", Cond.fieldLink RX8 36 "ClapBank$Told" "secondBook" "LClapBank$Book;", Cond.fieldLink RX8 42 "ClapBank$Told" "firstDark" "LClapBank$Dark;", Cond.fieldLink RX8 46 "ClapBank$Told" "secondDark" "LClapBank$Dark;", Cond.methodLink RX8 66 yX7_copyFrom, Cond.instanceMethod yX7_copyFrom, Cond.selects RX7 yX7_copyFrom yX7_copyFrom, Cond.code yX7_copyFrom cX7_copyFrom 2 none, Cond.methodLink RX7 49 arraycopyName]
def wsX9_text_r9 : List Cond := [Cond.native arraycopyName, Cond.static arraycopyName, Cond.initialized "java/lang/System", Cond.methodLink RX8 79 yX0_copyFrom, Cond.instanceMethod yX0_copyFrom, Cond.selects RX0 yX0_copyFrom yX0_copyFrom, Cond.code yX0_copyFrom cX0_copyFrom 2 none, Cond.methodLink RX0 19 arraycopyName, Cond.methodLink RX8 85 yX1_copyFrom, Cond.instanceMethod yX1_copyFrom, Cond.selects RX1 yX1_copyFrom yX1_copyFrom, Cond.code yX1_copyFrom cX1_copyFrom 2 none, Cond.methodLink RX1 19 arraycopyName]
def wsX9_text : List Cond := .code yX9_text cX9_text 7 (some .int) :: ((wsX9_text_r1 ++ (wsX9_text_r2 ++ (wsX9_text_r3 ++ (wsX9_text_r4 ++ (wsX9_text_r5 ++ (wsX9_text_r6 ++ (wsX9_text_r7 ++ (wsX9_text_r8 ++ wsX9_text_r9)))))))) ++ wsX90 ++ wsX80 ++ wsX50 ++ wsX00 ++ wsX10 ++ wsX70)
set_option maxRecDepth 20000 in
theorem ggX5_read_X7_clear : GoodIn wsX5_read wsX7_clear := goodIn_r _ [12, 13, 14, 15, 16, 17, 18, 175, 176, 177, 178, 179, 180, 181, 182, 183, 184, 185, 186] (by decide +kernel) (by decide +kernel)
set_option maxRecDepth 20000 in
theorem gX5_read_X7_clear : GoodIn wsX5_read (wsV RX5 36 RX7 yX7_clear wsX7_clear) := goodIn_app (goodIn_of _ (by decide +kernel)) ggX5_read_X7_clear
set_option maxRecDepth 20000 in
theorem ggX5_read_X5_step : GoodIn wsX5_read wsX5_step := goodIn_r _ [23, 6, 24, 7, 25, 26, 27, 28, 29, 30, 31, 22, 32, 33, 34, 35, 161, 162, 163, 164, 165, 166, 167, 168, 169, 170] (by decide +kernel) (by decide +kernel)
set_option maxRecDepth 20000 in
theorem gX5_read_X5_step : GoodIn wsX5_read (wsV RX5 55 RX5 yX5_step wsX5_step) := goodIn_app (goodIn_of _ (by decide +kernel)) ggX5_read_X5_step
set_option maxRecDepth 20000 in
theorem ggX5_read_X5_readLine : GoodIn wsX5_read wsX5_readLine := goodIn_r _ [39, 7, 40, 41, 25, 42, 43, 44, 22, 45, 46, 47, 48, 49, 50, 51, 52, 53, 6, 24, 54, 55, 56, 57, 58, 59, 60, 61, 62, 63, 64, 65, 66, 67, 68, 69, 70, 71, 72, 73, 74, 75, 76, 77, 78, 79, 80, 81, 82, 83, 84, 85, 86, 87, 88, 89, 90, 91, 92, 93, 94, 95, 96, 97, 98, 99, 100, 101, 102, 103, 104, 105, 106, 4, 5, 107, 108, 109, 110, 1, 3, 2, 111, 112, 113, 114, 115, 116, 117, 118, 19, 20, 21, 23, 26, 27, 28, 29, 30, 31, 32, 33, 34, 35, 119, 120, 121, 122, 123, 124, 125, 126, 127, 128, 129, 130, 131, 11, 132, 13, 133, 134, 135, 136, 137, 138, 14, 139, 140, 141, 142, 143, 144, 15, 145, 146, 147, 148, 149, 150, 151, 152, 153, 154, 155, 156, 157, 158, 159, 160, 161, 162, 163, 164, 165, 166, 167, 168, 169, 170, 175, 176, 177, 178, 179, 180, 181, 182, 183, 184, 185, 186, 173, 174, 171, 172] (by decide +kernel) (by decide +kernel)
set_option maxRecDepth 20000 in
theorem gX5_read_X5_readLine : GoodIn wsX5_read (wsV RX5 62 RX5 yX5_readLine wsX5_readLine) := goodIn_app (goodIn_of _ (by decide +kernel)) ggX5_read_X5_readLine
theorem dX5_read_0 : decode cX5_read 0 = .ok (.aload_n 0, 1) := by decide +kernel
theorem dX5_read_1 : decode cX5_read 1 = .ok (.getfield 12, 3) := by decide +kernel
theorem dX5_read_4 : decode cX5_read 4 = .ok (.invokevirtual 36, 3) := by decide +kernel
theorem dX5_read_7 : decode cX5_read 7 = .ok (.aload_n 0, 1) := by decide +kernel
theorem dX5_read_8 : decode cX5_read 8 = .ok (.getfield 21, 3) := by decide +kernel
theorem dX5_read_11 : decode cX5_read 11 = .ok (.iconst 0, 1) := by decide +kernel
theorem dX5_read_12 : decode cX5_read 12 = .ok (.putfield 39, 3) := by decide +kernel
theorem dX5_read_15 : decode cX5_read 15 = .ok (.aload_n 0, 1) := by decide +kernel
theorem dX5_read_16 : decode cX5_read 16 = .ok (.getfield 28, 3) := by decide +kernel
theorem dX5_read_19 : decode cX5_read 19 = .ok (.iconst 0, 1) := by decide +kernel
theorem dX5_read_20 : decode cX5_read 20 = .ok (.putfield 43, 3) := by decide +kernel
theorem dX5_read_23 : decode cX5_read 23 = .ok (.aload_n 0, 1) := by decide +kernel
theorem dX5_read_24 : decode cX5_read 24 = .ok (.iconst 0, 1) := by decide +kernel
theorem dX5_read_25 : decode cX5_read 25 = .ok (.putfield 46, 3) := by decide +kernel
theorem dX5_read_28 : decode cX5_read 28 = .ok (.aload_n 0, 1) := by decide +kernel
theorem dX5_read_29 : decode cX5_read 29 = .ok (.iconst (-1), 1) := by decide +kernel
theorem dX5_read_30 : decode cX5_read 30 = .ok (.putfield 49, 3) := by decide +kernel
theorem dX5_read_33 : decode cX5_read 33 = .ok (.aload_n 0, 1) := by decide +kernel
theorem dX5_read_34 : decode cX5_read 34 = .ok (.iconst 0, 1) := by decide +kernel
theorem dX5_read_35 : decode cX5_read 35 = .ok (.putfield 52, 3) := by decide +kernel
theorem dX5_read_38 : decode cX5_read 38 = .ok (.iconst 0, 1) := by decide +kernel
theorem dX5_read_39 : decode cX5_read 39 = .ok (.istore 4, 2) := by decide +kernel
theorem dX5_read_41 : decode cX5_read 41 = .ok (.iload 4, 2) := by decide +kernel
theorem dX5_read_43 : decode cX5_read 43 = .ok (.sipush 600, 3) := by decide +kernel
theorem dX5_read_46 : decode cX5_read 46 = .ok (.if_icmp .gt 33, 3) := by decide +kernel
theorem dX5_read_49 : decode cX5_read 49 = .ok (.aload_n 0, 1) := by decide +kernel
theorem dX5_read_50 : decode cX5_read 50 = .ok (.aload_n 1, 1) := by decide +kernel
theorem dX5_read_51 : decode cX5_read 51 = .ok (.iload_n 2, 1) := by decide +kernel
theorem dX5_read_52 : decode cX5_read 52 = .ok (.invokevirtual 55, 3) := by decide +kernel
theorem dX5_read_55 : decode cX5_read 55 = .ok (.aload_n 0, 1) := by decide +kernel
theorem dX5_read_56 : decode cX5_read 56 = .ok (.getfield 59, 3) := by decide +kernel
theorem dX5_read_59 : decode cX5_read 59 = .ok (.ifCond .eq 13, 3) := by decide +kernel
theorem dX5_read_62 : decode cX5_read 62 = .ok (.aload_n 0, 1) := by decide +kernel
theorem dX5_read_63 : decode cX5_read 63 = .ok (.aload_n 1, 1) := by decide +kernel
theorem dX5_read_64 : decode cX5_read 64 = .ok (.iload_n 2, 1) := by decide +kernel
theorem dX5_read_65 : decode cX5_read 65 = .ok (.iload_n 3, 1) := by decide +kernel
theorem dX5_read_66 : decode cX5_read 66 = .ok (.invokevirtual 62, 3) := by decide +kernel
theorem dX5_read_69 : decode cX5_read 69 = .ok (.ifCond .ne 4, 3) := by decide +kernel
theorem dX5_read_72 : decode cX5_read 72 = .ok (.return_, 1) := by decide +kernel
theorem dX5_read_73 : decode cX5_read 73 = .ok (.iinc 4 1, 3) := by decide +kernel
theorem dX5_read_76 : decode cX5_read 76 = .ok (.goto (-35), 3) := by decide +kernel
theorem dX5_read_79 : decode cX5_read 79 = .ok (.return_, 1) := by decide +kernel
set_option maxRecDepth 20000 in
theorem ggX5_readLine_X5_kindOf : GoodIn wsX5_readLine wsX5_kindOf := goodIn_r _ [9, 10, 11, 12, 8, 13, 14, 15, 16, 17, 18, 19, 20, 21, 22, 23, 24, 25, 26, 27, 28, 29, 30, 31, 32, 33, 34, 35, 36, 37, 38, 39, 40, 41, 42, 43, 44, 45, 46, 47, 48, 49, 50, 51, 52, 53, 54, 55, 56, 57, 58, 59, 60, 61, 62, 63, 64, 65, 66, 67, 68, 150, 151, 152, 153, 154, 155, 156, 157, 158, 159] (by decide +kernel) (by decide +kernel)
set_option maxRecDepth 20000 in
theorem gX5_readLine_X5_kindOf : GoodIn wsX5_readLine (wsV RX5 66 RX5 yX5_kindOf wsX5_kindOf) := goodIn_app (goodIn_of _ (by decide +kernel)) ggX5_readLine_X5_kindOf
set_option maxRecDepth 20000 in
theorem ggX5_readLine_X5_refuse : GoodIn wsX5_readLine wsX5_refuse := goodIn_r _ [72, 73, 19, 74, 150, 151, 152, 153, 154, 155, 156, 157, 158, 159] (by decide +kernel) (by decide +kernel)
set_option maxRecDepth 20000 in
theorem gX5_readLine_X5_refuse : GoodIn wsX5_readLine (wsV RX5 70 RX5 yX5_refuse wsX5_refuse) := goodIn_app (goodIn_of _ (by decide +kernel)) ggX5_readLine_X5_refuse
set_option maxRecDepth 20000 in
theorem ggX5_readLine_X5_isFull : GoodIn wsX5_readLine wsX5_isFull := goodIn_r _ [78, 79, 80, 81, 150, 151, 152, 153, 154, 155, 156, 157, 158, 159, 160, 161, 162, 163, 164, 165, 166, 167, 168, 169, 170, 171, 172, 173, 174, 175] (by decide +kernel) (by decide +kernel)
set_option maxRecDepth 20000 in
theorem gX5_readLine_X5_isFull : GoodIn wsX5_readLine (wsV RX5 74 RX5 yX5_isFull wsX5_isFull) := goodIn_app (goodIn_of _ (by decide +kernel)) ggX5_readLine_X5_isFull
set_option maxRecDepth 20000 in
theorem ggX5_readLine_X5_note : GoodIn wsX5_readLine wsX5_note := goodIn_r _ [85, 73, 19, 74, 150, 151, 152, 153, 154, 155, 156, 157, 158, 159] (by decide +kernel) (by decide +kernel)
set_option maxRecDepth 20000 in
theorem gX5_readLine_X5_note : GoodIn wsX5_readLine (wsV RX5 78 RX5 yX5_note wsX5_note) := goodIn_app (goodIn_of _ (by decide +kernel)) ggX5_readLine_X5_note
set_option maxRecDepth 20000 in
theorem ggX5_readLine_J7_fill_53178 : GoodIn wsX5_readLine wsJ7_fill_53178 := goodIn_r _ [89] (by decide +kernel) (by decide +kernel)
set_option maxRecDepth 20000 in
theorem gX5_readLine_J7_fill_53178 : GoodIn wsX5_readLine (va_wsS RX5 82 yJ7_fill_53178 wsJ7_fill_53178) := goodIn_app (goodIn_of _ (by decide +kernel)) ggX5_readLine_J7_fill_53178
set_option maxRecDepth 20000 in
theorem ggX5_readLine_X5_step : GoodIn wsX5_readLine wsX5_step := goodIn_r _ [93, 18, 19, 1, 4, 94, 95, 96, 97, 98, 99, 8, 100, 101, 102, 103, 150, 151, 152, 153, 154, 155, 156, 157, 158, 159] (by decide +kernel) (by decide +kernel)
set_option maxRecDepth 20000 in
theorem gX5_readLine_X5_step : GoodIn wsX5_readLine (wsV RX5 55 RX5 yX5_step wsX5_step) := goodIn_app (goodIn_of _ (by decide +kernel)) ggX5_readLine_X5_step
set_option maxRecDepth 20000 in
theorem ggX5_readLine_X5_cannotBe : GoodIn wsX5_readLine wsX5_cannotBe := goodIn_r _ [107, 2, 108, 109, 150, 151, 152, 153, 154, 155, 156, 157, 158, 159] (by decide +kernel) (by decide +kernel)
set_option maxRecDepth 20000 in
theorem gX5_readLine_X5_cannotBe : GoodIn wsX5_readLine (wsV RX5 94 RX5 yX5_cannotBe wsX5_cannotBe) := goodIn_app (goodIn_of _ (by decide +kernel)) ggX5_readLine_X5_cannotBe
set_option maxRecDepth 20000 in
theorem ggX5_readLine_X5_keepLine : GoodIn wsX5_readLine wsX5_keepLine := goodIn_r _ [113, 79, 2, 80, 81, 114, 115, 116, 117, 118, 119, 120, 121, 122, 123, 124, 125, 126, 127, 128, 129, 130, 131, 132, 133, 134, 135, 136, 137, 138, 139, 140, 141, 142, 143, 144, 145, 146, 147, 148, 149, 150, 151, 152, 153, 154, 155, 156, 157, 158, 159, 160, 161, 162, 163, 164, 165, 166, 167, 168, 169, 170, 171, 172, 173, 174, 175] (by decide +kernel) (by decide +kernel)
set_option maxRecDepth 20000 in
theorem gX5_readLine_X5_keepLine : GoodIn wsX5_readLine (wsV RX5 98 RX5 yX5_keepLine wsX5_keepLine) := goodIn_app (goodIn_of _ (by decide +kernel)) ggX5_readLine_X5_keepLine
theorem dX5_readLine_0 : decode cX5_readLine 0 = .ok (.aload_n 0, 1) := by decide +kernel
theorem dX5_readLine_1 : decode cX5_readLine 1 = .ok (.getfield 59, 3) := by decide +kernel
theorem dX5_readLine_4 : decode cX5_readLine 4 = .ok (.iconst 1, 1) := by decide +kernel
theorem dX5_readLine_5 : decode cX5_readLine 5 = .ok (.if_icmp .ne 12, 3) := by decide +kernel
theorem dX5_readLine_8 : decode cX5_readLine 8 = .ok (.aload_n 0, 1) := by decide +kernel
theorem dX5_readLine_9 : decode cX5_readLine 9 = .ok (.aload_n 1, 1) := by decide +kernel
theorem dX5_readLine_10 : decode cX5_readLine 10 = .ok (.iload_n 3, 1) := by decide +kernel
theorem dX5_readLine_11 : decode cX5_readLine 11 = .ok (.invokevirtual 66, 3) := by decide +kernel
theorem dX5_readLine_14 : decode cX5_readLine 14 = .ok (.goto 4, 3) := by decide +kernel
theorem dX5_readLine_17 : decode cX5_readLine 17 = .ok (.iconst (-1), 1) := by decide +kernel
theorem dX5_readLine_18 : decode cX5_readLine 18 = .ok (.istore 4, 2) := by decide +kernel
theorem dX5_readLine_20 : decode cX5_readLine 20 = .ok (.iload 4, 2) := by decide +kernel
theorem dX5_readLine_22 : decode cX5_readLine 22 = .ok (.iconst (-1), 1) := by decide +kernel
theorem dX5_readLine_23 : decode cX5_readLine 23 = .ok (.if_icmp .ne 8, 3) := by decide +kernel
theorem dX5_readLine_26 : decode cX5_readLine 26 = .ok (.aload_n 0, 1) := by decide +kernel
theorem dX5_readLine_27 : decode cX5_readLine 27 = .ok (.invokevirtual 70, 3) := by decide +kernel
theorem dX5_readLine_30 : decode cX5_readLine 30 = .ok (.ireturn, 1) := by decide +kernel
theorem dX5_readLine_31 : decode cX5_readLine 31 = .ok (.aload_n 0, 1) := by decide +kernel
theorem dX5_readLine_32 : decode cX5_readLine 32 = .ok (.iload 4, 2) := by decide +kernel
theorem dX5_readLine_34 : decode cX5_readLine 34 = .ok (.invokevirtual 74, 3) := by decide +kernel
theorem dX5_readLine_37 : decode cX5_readLine 37 = .ok (.ifCond .eq 8, 3) := by decide +kernel
theorem dX5_readLine_40 : decode cX5_readLine 40 = .ok (.aload_n 0, 1) := by decide +kernel
theorem dX5_readLine_41 : decode cX5_readLine 41 = .ok (.iconst 3, 1) := by decide +kernel
theorem dX5_readLine_42 : decode cX5_readLine 42 = .ok (.invokevirtual 78, 3) := by decide +kernel
theorem dX5_readLine_45 : decode cX5_readLine 45 = .ok (.aload_n 0, 1) := by decide +kernel
theorem dX5_readLine_46 : decode cX5_readLine 46 = .ok (.getfield 32, 3) := by decide +kernel
theorem dX5_readLine_49 : decode cX5_readLine 49 = .ok (.iconst (-1), 1) := by decide +kernel
theorem dX5_readLine_50 : decode cX5_readLine 50 = .ok (.invokestatic 82, 3) := by decide +kernel
theorem dX5_readLine_53 : decode cX5_readLine 53 = .ok (.iconst 0, 1) := by decide +kernel
theorem dX5_readLine_54 : decode cX5_readLine 54 = .ok (.istore 5, 2) := by decide +kernel
theorem dX5_readLine_56 : decode cX5_readLine 56 = .ok (.iload 5, 2) := by decide +kernel
theorem dX5_readLine_58 : decode cX5_readLine 58 = .ok (.getstatic 88, 3) := by decide +kernel
theorem dX5_readLine_61 : decode cX5_readLine 61 = .ok (.iload 4, 2) := by decide +kernel
theorem dX5_readLine_63 : decode cX5_readLine 63 = .ok (.iaload, 1) := by decide +kernel
theorem dX5_readLine_64 : decode cX5_readLine 64 = .ok (.if_icmp .ge 61, 3) := by decide +kernel
theorem dX5_readLine_67 : decode cX5_readLine 67 = .ok (.iload 5, 2) := by decide +kernel
theorem dX5_readLine_69 : decode cX5_readLine 69 = .ok (.iconst 3, 1) := by decide +kernel
theorem dX5_readLine_70 : decode cX5_readLine 70 = .ok (.if_icmp .ge 55, 3) := by decide +kernel
theorem dX5_readLine_73 : decode cX5_readLine 73 = .ok (.aload_n 0, 1) := by decide +kernel
theorem dX5_readLine_74 : decode cX5_readLine 74 = .ok (.aload_n 1, 1) := by decide +kernel
theorem dX5_readLine_75 : decode cX5_readLine 75 = .ok (.iload_n 2, 1) := by decide +kernel
theorem dX5_readLine_76 : decode cX5_readLine 76 = .ok (.invokevirtual 55, 3) := by decide +kernel
theorem dX5_readLine_79 : decode cX5_readLine 79 = .ok (.aload_n 0, 1) := by decide +kernel
theorem dX5_readLine_80 : decode cX5_readLine 80 = .ok (.getfield 59, 3) := by decide +kernel
theorem dX5_readLine_83 : decode cX5_readLine 83 = .ok (.iconst 2, 1) := by decide +kernel
theorem dX5_readLine_84 : decode cX5_readLine 84 = .ok (.if_icmp .eq 8, 3) := by decide +kernel
theorem dX5_readLine_87 : decode cX5_readLine 87 = .ok (.aload_n 0, 1) := by decide +kernel
theorem dX5_readLine_88 : decode cX5_readLine 88 = .ok (.invokevirtual 70, 3) := by decide +kernel
theorem dX5_readLine_91 : decode cX5_readLine 91 = .ok (.ireturn, 1) := by decide +kernel
theorem dX5_readLine_92 : decode cX5_readLine 92 = .ok (.aload_n 0, 1) := by decide +kernel
theorem dX5_readLine_93 : decode cX5_readLine 93 = .ok (.getfield 32, 3) := by decide +kernel
theorem dX5_readLine_96 : decode cX5_readLine 96 = .ok (.iload 5, 2) := by decide +kernel
theorem dX5_readLine_98 : decode cX5_readLine 98 = .ok (.aload_n 0, 1) := by decide +kernel
theorem dX5_readLine_99 : decode cX5_readLine 99 = .ok (.getfield 91, 3) := by decide +kernel
theorem dX5_readLine_102 : decode cX5_readLine 102 = .ok (.iastore, 1) := by decide +kernel
theorem dX5_readLine_103 : decode cX5_readLine 103 = .ok (.aload_n 0, 1) := by decide +kernel
theorem dX5_readLine_104 : decode cX5_readLine 104 = .ok (.iload 4, 2) := by decide +kernel
theorem dX5_readLine_106 : decode cX5_readLine 106 = .ok (.iload 5, 2) := by decide +kernel
theorem dX5_readLine_108 : decode cX5_readLine 108 = .ok (.invokevirtual 94, 3) := by decide +kernel
theorem dX5_readLine_111 : decode cX5_readLine 111 = .ok (.ifCond .eq 8, 3) := by decide +kernel
theorem dX5_readLine_114 : decode cX5_readLine 114 = .ok (.aload_n 0, 1) := by decide +kernel
theorem dX5_readLine_115 : decode cX5_readLine 115 = .ok (.iconst 2, 1) := by decide +kernel
theorem dX5_readLine_116 : decode cX5_readLine 116 = .ok (.invokevirtual 78, 3) := by decide +kernel
theorem dX5_readLine_119 : decode cX5_readLine 119 = .ok (.iinc 5 1, 3) := by decide +kernel
theorem dX5_readLine_122 : decode cX5_readLine 122 = .ok (.goto (-66), 3) := by decide +kernel
theorem dX5_readLine_125 : decode cX5_readLine 125 = .ok (.aload_n 0, 1) := by decide +kernel
theorem dX5_readLine_126 : decode cX5_readLine 126 = .ok (.aload_n 1, 1) := by decide +kernel
theorem dX5_readLine_127 : decode cX5_readLine 127 = .ok (.iload_n 2, 1) := by decide +kernel
theorem dX5_readLine_128 : decode cX5_readLine 128 = .ok (.invokevirtual 55, 3) := by decide +kernel
theorem dX5_readLine_131 : decode cX5_readLine 131 = .ok (.aload_n 0, 1) := by decide +kernel
theorem dX5_readLine_132 : decode cX5_readLine 132 = .ok (.getfield 59, 3) := by decide +kernel
theorem dX5_readLine_135 : decode cX5_readLine 135 = .ok (.iconst 3, 1) := by decide +kernel
theorem dX5_readLine_136 : decode cX5_readLine 136 = .ok (.if_icmp .eq 8, 3) := by decide +kernel
theorem dX5_readLine_139 : decode cX5_readLine 139 = .ok (.aload_n 0, 1) := by decide +kernel
theorem dX5_readLine_140 : decode cX5_readLine 140 = .ok (.invokevirtual 70, 3) := by decide +kernel
theorem dX5_readLine_143 : decode cX5_readLine 143 = .ok (.ireturn, 1) := by decide +kernel
theorem dX5_readLine_144 : decode cX5_readLine 144 = .ok (.aload_n 0, 1) := by decide +kernel
theorem dX5_readLine_145 : decode cX5_readLine 145 = .ok (.iload 4, 2) := by decide +kernel
theorem dX5_readLine_147 : decode cX5_readLine 147 = .ok (.invokevirtual 98, 3) := by decide +kernel
theorem dX5_readLine_150 : decode cX5_readLine 150 = .ok (.iconst 1, 1) := by decide +kernel
theorem dX5_readLine_151 : decode cX5_readLine 151 = .ok (.ireturn, 1) := by decide +kernel
theorem dX5_refuse_0 : decode cX5_refuse 0 = .ok (.aload_n 0, 1) := by decide +kernel
theorem dX5_refuse_1 : decode cX5_refuse 1 = .ok (.iconst 1, 1) := by decide +kernel
theorem dX5_refuse_2 : decode cX5_refuse 2 = .ok (.putfield 46, 3) := by decide +kernel
theorem dX5_refuse_5 : decode cX5_refuse 5 = .ok (.aload_n 0, 1) := by decide +kernel
theorem dX5_refuse_6 : decode cX5_refuse 6 = .ok (.aload_n 0, 1) := by decide +kernel
theorem dX5_refuse_7 : decode cX5_refuse 7 = .ok (.getfield 101, 3) := by decide +kernel
theorem dX5_refuse_10 : decode cX5_refuse 10 = .ok (.putfield 49, 3) := by decide +kernel
theorem dX5_refuse_13 : decode cX5_refuse 13 = .ok (.iconst 0, 1) := by decide +kernel
theorem dX5_refuse_14 : decode cX5_refuse 14 = .ok (.ireturn, 1) := by decide +kernel
theorem dX5_note_0 : decode cX5_note 0 = .ok (.aload_n 0, 1) := by decide +kernel
theorem dX5_note_1 : decode cX5_note 1 = .ok (.getfield 46, 3) := by decide +kernel
theorem dX5_note_4 : decode cX5_note 4 = .ok (.ifCond .ne 16, 3) := by decide +kernel
theorem dX5_note_7 : decode cX5_note 7 = .ok (.aload_n 0, 1) := by decide +kernel
theorem dX5_note_8 : decode cX5_note 8 = .ok (.iload_n 1, 1) := by decide +kernel
theorem dX5_note_9 : decode cX5_note 9 = .ok (.putfield 46, 3) := by decide +kernel
theorem dX5_note_12 : decode cX5_note 12 = .ok (.aload_n 0, 1) := by decide +kernel
theorem dX5_note_13 : decode cX5_note 13 = .ok (.aload_n 0, 1) := by decide +kernel
theorem dX5_note_14 : decode cX5_note 14 = .ok (.getfield 101, 3) := by decide +kernel
theorem dX5_note_17 : decode cX5_note 17 = .ok (.putfield 49, 3) := by decide +kernel
theorem dX5_note_20 : decode cX5_note 20 = .ok (.return_, 1) := by decide +kernel
set_option maxRecDepth 20000 in
theorem ggX5_step_X5_isLetter : GoodIn wsX5_step wsX5_isLetter := goodIn_r _ [12] (by decide +kernel) (by decide +kernel)
set_option maxRecDepth 20000 in
theorem gX5_step_X5_isLetter : GoodIn wsX5_step (va_wsS RX5 104 yX5_isLetter wsX5_isLetter) := goodIn_app (goodIn_of _ (by decide +kernel)) ggX5_step_X5_isLetter
set_option maxRecDepth 20000 in
theorem ggX5_step_X5_isDigit : GoodIn wsX5_step wsX5_isDigit := goodIn_r _ [15] (by decide +kernel) (by decide +kernel)
set_option maxRecDepth 20000 in
theorem gX5_step_X5_isDigit : GoodIn wsX5_step (va_wsS RX5 108 yX5_isDigit wsX5_isDigit) := goodIn_app (goodIn_of _ (by decide +kernel)) ggX5_step_X5_isDigit
theorem dX5_step_0 : decode cX5_step 0 = .ok (.aload_n 0, 1) := by decide +kernel
theorem dX5_step_1 : decode cX5_step 1 = .ok (.getfield 52, 3) := by decide +kernel
theorem dX5_step_4 : decode cX5_step 4 = .ok (.istore_n 3, 1) := by decide +kernel
theorem dX5_step_5 : decode cX5_step 5 = .ok (.iload_n 3, 1) := by decide +kernel
theorem dX5_step_6 : decode cX5_step 6 = .ok (.iload_n 2, 1) := by decide +kernel
theorem dX5_step_7 : decode cX5_step 7 = .ok (.if_icmp .ge 25, 3) := by decide +kernel
theorem dX5_step_10 : decode cX5_step 10 = .ok (.aload_n 1, 1) := by decide +kernel
theorem dX5_step_11 : decode cX5_step 11 = .ok (.iload_n 3, 1) := by decide +kernel
theorem dX5_step_12 : decode cX5_step 12 = .ok (.baload, 1) := by decide +kernel
theorem dX5_step_13 : decode cX5_step 13 = .ok (.bipush 32, 2) := by decide +kernel
theorem dX5_step_15 : decode cX5_step 15 = .ok (.if_icmp .eq 11, 3) := by decide +kernel
theorem dX5_step_18 : decode cX5_step 18 = .ok (.aload_n 1, 1) := by decide +kernel
theorem dX5_step_19 : decode cX5_step 19 = .ok (.iload_n 3, 1) := by decide +kernel
theorem dX5_step_20 : decode cX5_step 20 = .ok (.baload, 1) := by decide +kernel
theorem dX5_step_21 : decode cX5_step 21 = .ok (.bipush 10, 2) := by decide +kernel
theorem dX5_step_23 : decode cX5_step 23 = .ok (.if_icmp .ne 9, 3) := by decide +kernel
theorem dX5_step_26 : decode cX5_step 26 = .ok (.iinc 3 1, 3) := by decide +kernel
theorem dX5_step_29 : decode cX5_step 29 = .ok (.goto (-24), 3) := by decide +kernel
theorem dX5_step_32 : decode cX5_step 32 = .ok (.aload_n 0, 1) := by decide +kernel
theorem dX5_step_33 : decode cX5_step 33 = .ok (.iload_n 3, 1) := by decide +kernel
theorem dX5_step_34 : decode cX5_step 34 = .ok (.putfield 101, 3) := by decide +kernel
theorem dX5_step_37 : decode cX5_step 37 = .ok (.iload_n 3, 1) := by decide +kernel
theorem dX5_step_38 : decode cX5_step 38 = .ok (.iload_n 2, 1) := by decide +kernel
theorem dX5_step_39 : decode cX5_step 39 = .ok (.if_icmp .lt 11, 3) := by decide +kernel
theorem dX5_step_42 : decode cX5_step 42 = .ok (.aload_n 0, 1) := by decide +kernel
theorem dX5_step_43 : decode cX5_step 43 = .ok (.iconst 0, 1) := by decide +kernel
theorem dX5_step_44 : decode cX5_step 44 = .ok (.putfield 59, 3) := by decide +kernel
theorem dX5_step_47 : decode cX5_step 47 = .ok (.goto 137, 3) := by decide +kernel
theorem dX5_step_50 : decode cX5_step 50 = .ok (.aload_n 1, 1) := by decide +kernel
theorem dX5_step_51 : decode cX5_step 51 = .ok (.iload_n 3, 1) := by decide +kernel
theorem dX5_step_52 : decode cX5_step 52 = .ok (.baload, 1) := by decide +kernel
theorem dX5_step_53 : decode cX5_step 53 = .ok (.invokestatic 104, 3) := by decide +kernel
theorem dX5_step_56 : decode cX5_step 56 = .ok (.ifCond .eq 28, 3) := by decide +kernel
theorem dX5_step_59 : decode cX5_step 59 = .ok (.aload_n 0, 1) := by decide +kernel
theorem dX5_step_60 : decode cX5_step 60 = .ok (.iconst 1, 1) := by decide +kernel
theorem dX5_step_61 : decode cX5_step 61 = .ok (.putfield 59, 3) := by decide +kernel
theorem dX5_step_64 : decode cX5_step 64 = .ok (.iload_n 3, 1) := by decide +kernel
theorem dX5_step_65 : decode cX5_step 65 = .ok (.iload_n 2, 1) := by decide +kernel
theorem dX5_step_66 : decode cX5_step 66 = .ok (.if_icmp .ge 118, 3) := by decide +kernel
theorem dX5_step_69 : decode cX5_step 69 = .ok (.aload_n 1, 1) := by decide +kernel
theorem dX5_step_70 : decode cX5_step 70 = .ok (.iload_n 3, 1) := by decide +kernel
theorem dX5_step_71 : decode cX5_step 71 = .ok (.baload, 1) := by decide +kernel
theorem dX5_step_72 : decode cX5_step 72 = .ok (.invokestatic 104, 3) := by decide +kernel
theorem dX5_step_75 : decode cX5_step 75 = .ok (.ifCond .eq 109, 3) := by decide +kernel
theorem dX5_step_78 : decode cX5_step 78 = .ok (.iinc 3 1, 3) := by decide +kernel
theorem dX5_step_81 : decode cX5_step 81 = .ok (.goto (-17), 3) := by decide +kernel
theorem dX5_step_84 : decode cX5_step 84 = .ok (.aload_n 1, 1) := by decide +kernel
theorem dX5_step_85 : decode cX5_step 85 = .ok (.iload_n 3, 1) := by decide +kernel
theorem dX5_step_86 : decode cX5_step 86 = .ok (.baload, 1) := by decide +kernel
theorem dX5_step_87 : decode cX5_step 87 = .ok (.invokestatic 108, 3) := by decide +kernel
theorem dX5_step_90 : decode cX5_step 90 = .ok (.ifCond .eq 74, 3) := by decide +kernel
theorem dX5_step_93 : decode cX5_step 93 = .ok (.aload_n 0, 1) := by decide +kernel
theorem dX5_step_94 : decode cX5_step 94 = .ok (.iconst 0, 1) := by decide +kernel
theorem dX5_step_95 : decode cX5_step 95 = .ok (.putfield 91, 3) := by decide +kernel
theorem dX5_step_98 : decode cX5_step 98 = .ok (.iload_n 3, 1) := by decide +kernel
theorem dX5_step_99 : decode cX5_step 99 = .ok (.iload_n 2, 1) := by decide +kernel
theorem dX5_step_100 : decode cX5_step 100 = .ok (.if_icmp .ge 42, 3) := by decide +kernel
theorem dX5_step_103 : decode cX5_step 103 = .ok (.aload_n 1, 1) := by decide +kernel
theorem dX5_step_104 : decode cX5_step 104 = .ok (.iload_n 3, 1) := by decide +kernel
theorem dX5_step_105 : decode cX5_step 105 = .ok (.baload, 1) := by decide +kernel
theorem dX5_step_106 : decode cX5_step 106 = .ok (.invokestatic 108, 3) := by decide +kernel
theorem dX5_step_109 : decode cX5_step 109 = .ok (.ifCond .eq 33, 3) := by decide +kernel
theorem dX5_step_112 : decode cX5_step 112 = .ok (.aload_n 0, 1) := by decide +kernel
theorem dX5_step_113 : decode cX5_step 113 = .ok (.sipush 9999, 3) := by decide +kernel
theorem dX5_step_116 : decode cX5_step 116 = .ok (.aload_n 0, 1) := by decide +kernel
theorem dX5_step_117 : decode cX5_step 117 = .ok (.getfield 91, 3) := by decide +kernel
theorem dX5_step_120 : decode cX5_step 120 = .ok (.bipush 10, 2) := by decide +kernel
theorem dX5_step_122 : decode cX5_step 122 = .ok (.imul, 1) := by decide +kernel
theorem dX5_step_123 : decode cX5_step 123 = .ok (.aload_n 1, 1) := by decide +kernel
theorem dX5_step_124 : decode cX5_step 124 = .ok (.iload_n 3, 1) := by decide +kernel
theorem dX5_step_125 : decode cX5_step 125 = .ok (.baload, 1) := by decide +kernel
theorem dX5_step_126 : decode cX5_step 126 = .ok (.iadd, 1) := by decide +kernel
theorem dX5_step_127 : decode cX5_step 127 = .ok (.bipush 48, 2) := by decide +kernel
theorem dX5_step_129 : decode cX5_step 129 = .ok (.isub, 1) := by decide +kernel
theorem dX5_step_130 : decode cX5_step 130 = .ok (.invokestatic 111, 3) := by decide +kernel
theorem dX5_step_133 : decode cX5_step 133 = .ok (.putfield 91, 3) := by decide +kernel
theorem dX5_step_136 : decode cX5_step 136 = .ok (.iinc 3 1, 3) := by decide +kernel
theorem dX5_step_139 : decode cX5_step 139 = .ok (.goto (-41), 3) := by decide +kernel
theorem dX5_step_142 : decode cX5_step 142 = .ok (.aload_n 0, 1) := by decide +kernel
theorem dX5_step_143 : decode cX5_step 143 = .ok (.iload_n 3, 1) := by decide +kernel
theorem dX5_step_144 : decode cX5_step 144 = .ok (.aload_n 0, 1) := by decide +kernel
theorem dX5_step_145 : decode cX5_step 145 = .ok (.getfield 101, 3) := by decide +kernel
theorem dX5_step_148 : decode cX5_step 148 = .ok (.isub, 1) := by decide +kernel
theorem dX5_step_149 : decode cX5_step 149 = .ok (.iconst 3, 1) := by decide +kernel
theorem dX5_step_150 : decode cX5_step 150 = .ok (.if_icmp .gt 7, 3) := by decide +kernel
theorem dX5_step_153 : decode cX5_step 153 = .ok (.iconst 2, 1) := by decide +kernel
theorem dX5_step_154 : decode cX5_step 154 = .ok (.goto 4, 3) := by decide +kernel
theorem dX5_step_157 : decode cX5_step 157 = .ok (.iconst 4, 1) := by decide +kernel
theorem dX5_step_158 : decode cX5_step 158 = .ok (.putfield 59, 3) := by decide +kernel
theorem dX5_step_161 : decode cX5_step 161 = .ok (.goto 23, 3) := by decide +kernel
theorem dX5_step_164 : decode cX5_step 164 = .ok (.aload_n 0, 1) := by decide +kernel
theorem dX5_step_165 : decode cX5_step 165 = .ok (.aload_n 1, 1) := by decide +kernel
theorem dX5_step_166 : decode cX5_step 166 = .ok (.iload_n 3, 1) := by decide +kernel
theorem dX5_step_167 : decode cX5_step 167 = .ok (.baload, 1) := by decide +kernel
theorem dX5_step_168 : decode cX5_step 168 = .ok (.bipush 59, 2) := by decide +kernel
theorem dX5_step_170 : decode cX5_step 170 = .ok (.if_icmp .ne 7, 3) := by decide +kernel
theorem dX5_step_173 : decode cX5_step 173 = .ok (.iconst 3, 1) := by decide +kernel
theorem dX5_step_174 : decode cX5_step 174 = .ok (.goto 4, 3) := by decide +kernel
theorem dX5_step_177 : decode cX5_step 177 = .ok (.iconst 4, 1) := by decide +kernel
theorem dX5_step_178 : decode cX5_step 178 = .ok (.putfield 59, 3) := by decide +kernel
theorem dX5_step_181 : decode cX5_step 181 = .ok (.iinc 3 1, 3) := by decide +kernel
theorem dX5_step_184 : decode cX5_step 184 = .ok (.aload_n 0, 1) := by decide +kernel
theorem dX5_step_185 : decode cX5_step 185 = .ok (.iload_n 3, 1) := by decide +kernel
theorem dX5_step_186 : decode cX5_step 186 = .ok (.putfield 52, 3) := by decide +kernel
theorem dX5_step_189 : decode cX5_step 189 = .ok (.return_, 1) := by decide +kernel
theorem dX5_isLetter_0 : decode cX5_isLetter 0 = .ok (.iload_n 0, 1) := by decide +kernel
theorem dX5_isLetter_1 : decode cX5_isLetter 1 = .ok (.bipush 97, 2) := by decide +kernel
theorem dX5_isLetter_3 : decode cX5_isLetter 3 = .ok (.if_icmp .lt 13, 3) := by decide +kernel
theorem dX5_isLetter_6 : decode cX5_isLetter 6 = .ok (.iload_n 0, 1) := by decide +kernel
theorem dX5_isLetter_7 : decode cX5_isLetter 7 = .ok (.bipush 122, 2) := by decide +kernel
theorem dX5_isLetter_9 : decode cX5_isLetter 9 = .ok (.if_icmp .gt 7, 3) := by decide +kernel
theorem dX5_isLetter_12 : decode cX5_isLetter 12 = .ok (.iconst 1, 1) := by decide +kernel
theorem dX5_isLetter_13 : decode cX5_isLetter 13 = .ok (.goto 4, 3) := by decide +kernel
theorem dX5_isLetter_16 : decode cX5_isLetter 16 = .ok (.iconst 0, 1) := by decide +kernel
theorem dX5_isLetter_17 : decode cX5_isLetter 17 = .ok (.ireturn, 1) := by decide +kernel
theorem dX5_isDigit_0 : decode cX5_isDigit 0 = .ok (.iload_n 0, 1) := by decide +kernel
theorem dX5_isDigit_1 : decode cX5_isDigit 1 = .ok (.bipush 48, 2) := by decide +kernel
theorem dX5_isDigit_3 : decode cX5_isDigit 3 = .ok (.if_icmp .lt 13, 3) := by decide +kernel
theorem dX5_isDigit_6 : decode cX5_isDigit 6 = .ok (.iload_n 0, 1) := by decide +kernel
theorem dX5_isDigit_7 : decode cX5_isDigit 7 = .ok (.bipush 57, 2) := by decide +kernel
theorem dX5_isDigit_9 : decode cX5_isDigit 9 = .ok (.if_icmp .gt 7, 3) := by decide +kernel
theorem dX5_isDigit_12 : decode cX5_isDigit 12 = .ok (.iconst 1, 1) := by decide +kernel
theorem dX5_isDigit_13 : decode cX5_isDigit 13 = .ok (.goto 4, 3) := by decide +kernel
theorem dX5_isDigit_16 : decode cX5_isDigit 16 = .ok (.iconst 0, 1) := by decide +kernel
theorem dX5_isDigit_17 : decode cX5_isDigit 17 = .ok (.ireturn, 1) := by decide +kernel
set_option maxRecDepth 20000 in
theorem ggX5_kindOf_X5_wordOf : GoodIn wsX5_kindOf wsX5_wordOf := goodIn_r _ [5] (by decide +kernel) (by decide +kernel)
set_option maxRecDepth 20000 in
theorem gX5_kindOf_X5_wordOf : GoodIn wsX5_kindOf (va_wsS RX5 120 yX5_wordOf wsX5_wordOf) := goodIn_app (goodIn_of _ (by decide +kernel)) ggX5_kindOf_X5_wordOf
set_option maxRecDepth 20000 in
theorem ggX5_kindOf_X5_spells : GoodIn wsX5_kindOf wsX5_spells := goodIn_r _ [9, 10, 11, 12, 13, 14, 15, 16, 17, 18, 19, 20, 21, 22, 23, 24, 25, 26, 27, 28, 29, 30, 31, 32, 33, 34, 35, 36, 37, 38, 39, 40, 41, 42, 43, 44, 45, 46, 47, 48, 49, 50, 51, 52, 53, 54, 55, 56, 57, 58, 59, 60, 61, 62, 63, 64, 65, 66, 67, 68, 69, 70] (by decide +kernel) (by decide +kernel)
set_option maxRecDepth 20000 in
theorem gX5_kindOf_X5_spells : GoodIn wsX5_kindOf (wsV RX5 124 RX5 yX5_spells wsX5_spells) := goodIn_app (goodIn_of _ (by decide +kernel)) ggX5_kindOf_X5_spells
theorem dX5_kindOf_0 : decode cX5_kindOf 0 = .ok (.iload_n 2, 1) := by decide +kernel
theorem dX5_kindOf_1 : decode cX5_kindOf 1 = .ok (.ifCond .lt 13, 3) := by decide +kernel
theorem dX5_kindOf_4 : decode cX5_kindOf 4 = .ok (.iload_n 2, 1) := by decide +kernel
theorem dX5_kindOf_5 : decode cX5_kindOf 5 = .ok (.iconst 1, 1) := by decide +kernel
theorem dX5_kindOf_6 : decode cX5_kindOf 6 = .ok (.iadd, 1) := by decide +kernel
theorem dX5_kindOf_7 : decode cX5_kindOf 7 = .ok (.getstatic 117, 3) := by decide +kernel
theorem dX5_kindOf_10 : decode cX5_kindOf 10 = .ok (.arraylength, 1) := by decide +kernel
theorem dX5_kindOf_11 : decode cX5_kindOf 11 = .ok (.if_icmp .lt 5, 3) := by decide +kernel
theorem dX5_kindOf_16 : decode cX5_kindOf 16 = .ok (.getstatic 117, 3) := by decide +kernel
theorem dX5_kindOf_19 : decode cX5_kindOf 19 = .ok (.iload_n 2, 1) := by decide +kernel
theorem dX5_kindOf_20 : decode cX5_kindOf 20 = .ok (.iaload, 1) := by decide +kernel
theorem dX5_kindOf_21 : decode cX5_kindOf 21 = .ok (.istore_n 3, 1) := by decide +kernel
theorem dX5_kindOf_22 : decode cX5_kindOf 22 = .ok (.iload_n 3, 1) := by decide +kernel
theorem dX5_kindOf_23 : decode cX5_kindOf 23 = .ok (.getstatic 117, 3) := by decide +kernel
theorem dX5_kindOf_26 : decode cX5_kindOf 26 = .ok (.iload_n 2, 1) := by decide +kernel
theorem dX5_kindOf_27 : decode cX5_kindOf 27 = .ok (.iconst 1, 1) := by decide +kernel
theorem dX5_kindOf_28 : decode cX5_kindOf 28 = .ok (.iadd, 1) := by decide +kernel
theorem dX5_kindOf_29 : decode cX5_kindOf 29 = .ok (.iaload, 1) := by decide +kernel
theorem dX5_kindOf_30 : decode cX5_kindOf 30 = .ok (.if_icmp .ge 23, 3) := by decide +kernel
theorem dX5_kindOf_33 : decode cX5_kindOf 33 = .ok (.aload_n 0, 1) := by decide +kernel
theorem dX5_kindOf_34 : decode cX5_kindOf 34 = .ok (.aload_n 1, 1) := by decide +kernel
theorem dX5_kindOf_35 : decode cX5_kindOf 35 = .ok (.iload_n 3, 1) := by decide +kernel
theorem dX5_kindOf_36 : decode cX5_kindOf 36 = .ok (.invokestatic 120, 3) := by decide +kernel
theorem dX5_kindOf_39 : decode cX5_kindOf 39 = .ok (.invokevirtual 124, 3) := by decide +kernel
theorem dX5_kindOf_42 : decode cX5_kindOf 42 = .ok (.ifCond .eq 5, 3) := by decide +kernel
theorem dX5_kindOf_45 : decode cX5_kindOf 45 = .ok (.iload_n 3, 1) := by decide +kernel
theorem dX5_kindOf_46 : decode cX5_kindOf 46 = .ok (.ireturn, 1) := by decide +kernel
theorem dX5_kindOf_47 : decode cX5_kindOf 47 = .ok (.iinc 3 1, 3) := by decide +kernel
theorem dX5_kindOf_50 : decode cX5_kindOf 50 = .ok (.goto (-28), 3) := by decide +kernel
theorem dX5_kindOf_53 : decode cX5_kindOf 53 = .ok (.iconst (-1), 1) := by decide +kernel
theorem dX5_kindOf_54 : decode cX5_kindOf 54 = .ok (.ireturn, 1) := by decide +kernel
set_option maxRecDepth 20000 in
theorem ggX5_spells_J0_length_8abf5 : GoodIn wsX5_spells wsJ0_length_8abf5 := goodIn_r _ [7, 8, 9, 10, 11, 6, 12, 13, 14] (by decide +kernel) (by decide +kernel)
set_option maxRecDepth 20000 in
theorem gX5_spells_J0_length_8abf5 : GoodIn wsX5_spells (wsV RX5 128 RJ0 yJ0_length_8abf5 wsJ0_length_8abf5) := goodIn_app (goodIn_of _ (by decide +kernel)) ggX5_spells_J0_length_8abf5
set_option maxRecDepth 20000 in
theorem ggX5_spells_J0_charAt_5068e : GoodIn wsX5_spells wsJ0_charAt_5068e := goodIn_r _ [18, 8, 19, 20, 21, 6, 22, 13, 14, 23, 24, 25, 26, 27, 28, 29, 30, 31, 32, 33, 34, 35, 36, 37, 38, 39, 40, 41, 42, 43, 44, 45, 46, 47, 48, 49, 50, 51] (by decide +kernel) (by decide +kernel)
set_option maxRecDepth 20000 in
theorem gX5_spells_J0_charAt_5068e : GoodIn wsX5_spells (wsV RX5 134 RJ0 yJ0_charAt_5068e wsJ0_charAt_5068e) := goodIn_app (goodIn_of _ (by decide +kernel)) ggX5_spells_J0_charAt_5068e
theorem dX5_spells_0 : decode cX5_spells 0 = .ok (.aload_n 0, 1) := by decide +kernel
theorem dX5_spells_1 : decode cX5_spells 1 = .ok (.getfield 52, 3) := by decide +kernel
theorem dX5_spells_4 : decode cX5_spells 4 = .ok (.aload_n 0, 1) := by decide +kernel
theorem dX5_spells_5 : decode cX5_spells 5 = .ok (.getfield 101, 3) := by decide +kernel
theorem dX5_spells_8 : decode cX5_spells 8 = .ok (.isub, 1) := by decide +kernel
theorem dX5_spells_9 : decode cX5_spells 9 = .ok (.aload_n 2, 1) := by decide +kernel
theorem dX5_spells_10 : decode cX5_spells 10 = .ok (.invokevirtual 128, 3) := by decide +kernel
theorem dX5_spells_13 : decode cX5_spells 13 = .ok (.if_icmp .eq 5, 3) := by decide +kernel
theorem dX5_spells_16 : decode cX5_spells 16 = .ok (.iconst 0, 1) := by decide +kernel
theorem dX5_spells_17 : decode cX5_spells 17 = .ok (.ireturn, 1) := by decide +kernel
theorem dX5_spells_18 : decode cX5_spells 18 = .ok (.iconst 0, 1) := by decide +kernel
theorem dX5_spells_19 : decode cX5_spells 19 = .ok (.istore_n 3, 1) := by decide +kernel
theorem dX5_spells_20 : decode cX5_spells 20 = .ok (.iload_n 3, 1) := by decide +kernel
theorem dX5_spells_21 : decode cX5_spells 21 = .ok (.aload_n 2, 1) := by decide +kernel
theorem dX5_spells_22 : decode cX5_spells 22 = .ok (.invokevirtual 128, 3) := by decide +kernel
theorem dX5_spells_25 : decode cX5_spells 25 = .ok (.if_icmp .ge 27, 3) := by decide +kernel
theorem dX5_spells_28 : decode cX5_spells 28 = .ok (.aload_n 1, 1) := by decide +kernel
theorem dX5_spells_29 : decode cX5_spells 29 = .ok (.aload_n 0, 1) := by decide +kernel
theorem dX5_spells_30 : decode cX5_spells 30 = .ok (.getfield 101, 3) := by decide +kernel
theorem dX5_spells_33 : decode cX5_spells 33 = .ok (.iload_n 3, 1) := by decide +kernel
theorem dX5_spells_34 : decode cX5_spells 34 = .ok (.iadd, 1) := by decide +kernel
theorem dX5_spells_35 : decode cX5_spells 35 = .ok (.baload, 1) := by decide +kernel
theorem dX5_spells_36 : decode cX5_spells 36 = .ok (.aload_n 2, 1) := by decide +kernel
theorem dX5_spells_37 : decode cX5_spells 37 = .ok (.iload_n 3, 1) := by decide +kernel
theorem dX5_spells_38 : decode cX5_spells 38 = .ok (.invokevirtual 134, 3) := by decide +kernel
theorem dX5_spells_41 : decode cX5_spells 41 = .ok (.if_icmp .eq 5, 3) := by decide +kernel
theorem dX5_spells_44 : decode cX5_spells 44 = .ok (.iconst 0, 1) := by decide +kernel
theorem dX5_spells_45 : decode cX5_spells 45 = .ok (.ireturn, 1) := by decide +kernel
theorem dX5_spells_46 : decode cX5_spells 46 = .ok (.iinc 3 1, 3) := by decide +kernel
theorem dX5_spells_49 : decode cX5_spells 49 = .ok (.goto (-29), 3) := by decide +kernel
theorem dX5_spells_52 : decode cX5_spells 52 = .ok (.iconst 1, 1) := by decide +kernel
theorem dX5_spells_53 : decode cX5_spells 53 = .ok (.ireturn, 1) := by decide +kernel
theorem dX5_wordOf_0 : decode cX5_wordOf 0 = .ok (.iload_n 0, 1) := by decide +kernel
theorem dX5_wordOf_1 : decode cX5_wordOf 1 = .ok (.tableswitch 106 0 12 #[67, 70, 73, 76, 79, 82, 85, 88, 91, 94, 97, 100, 103], 67) := by decide +kernel
theorem dX5_wordOf_68 : decode cX5_wordOf 68 = .ok (.ldc 138, 2) := by decide +kernel
theorem dX5_wordOf_70 : decode cX5_wordOf 70 = .ok (.areturn, 1) := by decide +kernel
theorem dX5_wordOf_71 : decode cX5_wordOf 71 = .ok (.ldc 140, 2) := by decide +kernel
theorem dX5_wordOf_73 : decode cX5_wordOf 73 = .ok (.areturn, 1) := by decide +kernel
theorem dX5_wordOf_74 : decode cX5_wordOf 74 = .ok (.ldc 142, 2) := by decide +kernel
theorem dX5_wordOf_76 : decode cX5_wordOf 76 = .ok (.areturn, 1) := by decide +kernel
theorem dX5_wordOf_77 : decode cX5_wordOf 77 = .ok (.ldc 144, 2) := by decide +kernel
theorem dX5_wordOf_79 : decode cX5_wordOf 79 = .ok (.areturn, 1) := by decide +kernel
theorem dX5_wordOf_80 : decode cX5_wordOf 80 = .ok (.ldc 146, 2) := by decide +kernel
theorem dX5_wordOf_82 : decode cX5_wordOf 82 = .ok (.areturn, 1) := by decide +kernel
theorem dX5_wordOf_83 : decode cX5_wordOf 83 = .ok (.ldc 148, 2) := by decide +kernel
theorem dX5_wordOf_85 : decode cX5_wordOf 85 = .ok (.areturn, 1) := by decide +kernel
theorem dX5_wordOf_86 : decode cX5_wordOf 86 = .ok (.ldc 150, 2) := by decide +kernel
theorem dX5_wordOf_88 : decode cX5_wordOf 88 = .ok (.areturn, 1) := by decide +kernel
theorem dX5_wordOf_89 : decode cX5_wordOf 89 = .ok (.ldc 152, 2) := by decide +kernel
theorem dX5_wordOf_91 : decode cX5_wordOf 91 = .ok (.areturn, 1) := by decide +kernel
theorem dX5_wordOf_92 : decode cX5_wordOf 92 = .ok (.ldc 154, 2) := by decide +kernel
theorem dX5_wordOf_94 : decode cX5_wordOf 94 = .ok (.areturn, 1) := by decide +kernel
theorem dX5_wordOf_95 : decode cX5_wordOf 95 = .ok (.ldc 156, 2) := by decide +kernel
theorem dX5_wordOf_97 : decode cX5_wordOf 97 = .ok (.areturn, 1) := by decide +kernel
theorem dX5_wordOf_98 : decode cX5_wordOf 98 = .ok (.ldc 158, 2) := by decide +kernel
theorem dX5_wordOf_100 : decode cX5_wordOf 100 = .ok (.areturn, 1) := by decide +kernel
theorem dX5_wordOf_101 : decode cX5_wordOf 101 = .ok (.ldc 160, 2) := by decide +kernel
theorem dX5_wordOf_103 : decode cX5_wordOf 103 = .ok (.areturn, 1) := by decide +kernel
theorem dX5_wordOf_104 : decode cX5_wordOf 104 = .ok (.ldc 162, 2) := by decide +kernel
theorem dX5_wordOf_106 : decode cX5_wordOf 106 = .ok (.areturn, 1) := by decide +kernel
theorem dX5_wordOf_107 : decode cX5_wordOf 107 = .ok (.ldc 164, 2) := by decide +kernel
theorem dX5_wordOf_109 : decode cX5_wordOf 109 = .ok (.areturn, 1) := by decide +kernel
theorem dX5_isFull_0 : decode cX5_isFull 0 = .ok (.iload_n 1, 1) := by decide +kernel
theorem dX5_isFull_1 : decode cX5_isFull 1 = .ok (.tableswitch 143 0 13 #[71, 88, 106, 123, 123, 123, 143, 143, 143, 143, 143, 143, 143, 125], 71) := by decide +kernel
theorem dX5_isFull_72 : decode cX5_isFull 72 = .ok (.aload_n 0, 1) := by decide +kernel
theorem dX5_isFull_73 : decode cX5_isFull 73 = .ok (.getfield 12, 3) := by decide +kernel
theorem dX5_isFull_76 : decode cX5_isFull 76 = .ok (.getfield 166, 3) := by decide +kernel
theorem dX5_isFull_79 : decode cX5_isFull 79 = .ok (.iconst 5, 1) := by decide +kernel
theorem dX5_isFull_80 : decode cX5_isFull 80 = .ok (.if_icmp .lt 7, 3) := by decide +kernel
theorem dX5_isFull_83 : decode cX5_isFull 83 = .ok (.iconst 1, 1) := by decide +kernel
theorem dX5_isFull_84 : decode cX5_isFull 84 = .ok (.goto 4, 3) := by decide +kernel
theorem dX5_isFull_87 : decode cX5_isFull 87 = .ok (.iconst 0, 1) := by decide +kernel
theorem dX5_isFull_88 : decode cX5_isFull 88 = .ok (.ireturn, 1) := by decide +kernel
theorem dX5_isFull_89 : decode cX5_isFull 89 = .ok (.aload_n 0, 1) := by decide +kernel
theorem dX5_isFull_90 : decode cX5_isFull 90 = .ok (.getfield 12, 3) := by decide +kernel
theorem dX5_isFull_93 : decode cX5_isFull 93 = .ok (.getfield 169, 3) := by decide +kernel
theorem dX5_isFull_96 : decode cX5_isFull 96 = .ok (.bipush 6, 2) := by decide +kernel
theorem dX5_isFull_98 : decode cX5_isFull 98 = .ok (.if_icmp .lt 7, 3) := by decide +kernel
theorem dX5_isFull_101 : decode cX5_isFull 101 = .ok (.iconst 1, 1) := by decide +kernel
theorem dX5_isFull_102 : decode cX5_isFull 102 = .ok (.goto 4, 3) := by decide +kernel
theorem dX5_isFull_105 : decode cX5_isFull 105 = .ok (.iconst 0, 1) := by decide +kernel
theorem dX5_isFull_106 : decode cX5_isFull 106 = .ok (.ireturn, 1) := by decide +kernel
theorem dX5_isFull_107 : decode cX5_isFull 107 = .ok (.aload_n 0, 1) := by decide +kernel
theorem dX5_isFull_108 : decode cX5_isFull 108 = .ok (.getfield 12, 3) := by decide +kernel
theorem dX5_isFull_111 : decode cX5_isFull 111 = .ok (.getfield 172, 3) := by decide +kernel
theorem dX5_isFull_114 : decode cX5_isFull 114 = .ok (.iconst 4, 1) := by decide +kernel
theorem dX5_isFull_115 : decode cX5_isFull 115 = .ok (.if_icmp .lt 7, 3) := by decide +kernel
theorem dX5_isFull_118 : decode cX5_isFull 118 = .ok (.iconst 1, 1) := by decide +kernel
theorem dX5_isFull_119 : decode cX5_isFull 119 = .ok (.goto 4, 3) := by decide +kernel
theorem dX5_isFull_122 : decode cX5_isFull 122 = .ok (.iconst 0, 1) := by decide +kernel
theorem dX5_isFull_123 : decode cX5_isFull 123 = .ok (.ireturn, 1) := by decide +kernel
theorem dX5_isFull_124 : decode cX5_isFull 124 = .ok (.iconst 0, 1) := by decide +kernel
theorem dX5_isFull_125 : decode cX5_isFull 125 = .ok (.ireturn, 1) := by decide +kernel
theorem dX5_isFull_126 : decode cX5_isFull 126 = .ok (.aload_n 0, 1) := by decide +kernel
theorem dX5_isFull_127 : decode cX5_isFull 127 = .ok (.getfield 28, 3) := by decide +kernel
theorem dX5_isFull_130 : decode cX5_isFull 130 = .ok (.getfield 43, 3) := by decide +kernel
theorem dX5_isFull_133 : decode cX5_isFull 133 = .ok (.bipush 6, 2) := by decide +kernel
theorem dX5_isFull_135 : decode cX5_isFull 135 = .ok (.if_icmp .lt 7, 3) := by decide +kernel
theorem dX5_isFull_138 : decode cX5_isFull 138 = .ok (.iconst 1, 1) := by decide +kernel
theorem dX5_isFull_139 : decode cX5_isFull 139 = .ok (.goto 4, 3) := by decide +kernel
theorem dX5_isFull_142 : decode cX5_isFull 142 = .ok (.iconst 0, 1) := by decide +kernel
theorem dX5_isFull_143 : decode cX5_isFull 143 = .ok (.ireturn, 1) := by decide +kernel
theorem dX5_isFull_144 : decode cX5_isFull 144 = .ok (.aload_n 0, 1) := by decide +kernel
theorem dX5_isFull_145 : decode cX5_isFull 145 = .ok (.getfield 21, 3) := by decide +kernel
theorem dX5_isFull_148 : decode cX5_isFull 148 = .ok (.getfield 39, 3) := by decide +kernel
theorem dX5_isFull_151 : decode cX5_isFull 151 = .ok (.bipush 30, 2) := by decide +kernel
theorem dX5_isFull_153 : decode cX5_isFull 153 = .ok (.if_icmp .lt 7, 3) := by decide +kernel
theorem dX5_isFull_156 : decode cX5_isFull 156 = .ok (.iconst 1, 1) := by decide +kernel
theorem dX5_isFull_157 : decode cX5_isFull 157 = .ok (.goto 4, 3) := by decide +kernel
theorem dX5_isFull_160 : decode cX5_isFull 160 = .ok (.iconst 0, 1) := by decide +kernel
theorem dX5_isFull_161 : decode cX5_isFull 161 = .ok (.ireturn, 1) := by decide +kernel
theorem dX5_cannotBe_0 : decode cX5_cannotBe 0 = .ok (.aload_n 0, 1) := by decide +kernel
theorem dX5_cannotBe_1 : decode cX5_cannotBe 1 = .ok (.getfield 32, 3) := by decide +kernel
theorem dX5_cannotBe_4 : decode cX5_cannotBe 4 = .ok (.iload_n 2, 1) := by decide +kernel
theorem dX5_cannotBe_5 : decode cX5_cannotBe 5 = .ok (.iaload, 1) := by decide +kernel
theorem dX5_cannotBe_6 : decode cX5_cannotBe 6 = .ok (.istore_n 3, 1) := by decide +kernel
theorem dX5_cannotBe_7 : decode cX5_cannotBe 7 = .ok (.iload_n 3, 1) := by decide +kernel
theorem dX5_cannotBe_8 : decode cX5_cannotBe 8 = .ok (.getstatic 175, 3) := by decide +kernel
theorem dX5_cannotBe_11 : decode cX5_cannotBe 11 = .ok (.iload_n 1, 1) := by decide +kernel
theorem dX5_cannotBe_12 : decode cX5_cannotBe 12 = .ok (.iconst 3, 1) := by decide +kernel
theorem dX5_cannotBe_13 : decode cX5_cannotBe 13 = .ok (.imul, 1) := by decide +kernel
theorem dX5_cannotBe_14 : decode cX5_cannotBe 14 = .ok (.iload_n 2, 1) := by decide +kernel
theorem dX5_cannotBe_15 : decode cX5_cannotBe 15 = .ok (.iadd, 1) := by decide +kernel
theorem dX5_cannotBe_16 : decode cX5_cannotBe 16 = .ok (.iaload, 1) := by decide +kernel
theorem dX5_cannotBe_17 : decode cX5_cannotBe 17 = .ok (.if_icmp .lt 16, 3) := by decide +kernel
theorem dX5_cannotBe_20 : decode cX5_cannotBe 20 = .ok (.iload_n 3, 1) := by decide +kernel
theorem dX5_cannotBe_21 : decode cX5_cannotBe 21 = .ok (.getstatic 178, 3) := by decide +kernel
theorem dX5_cannotBe_24 : decode cX5_cannotBe 24 = .ok (.iload_n 1, 1) := by decide +kernel
theorem dX5_cannotBe_25 : decode cX5_cannotBe 25 = .ok (.iconst 3, 1) := by decide +kernel
theorem dX5_cannotBe_26 : decode cX5_cannotBe 26 = .ok (.imul, 1) := by decide +kernel
theorem dX5_cannotBe_27 : decode cX5_cannotBe 27 = .ok (.iload_n 2, 1) := by decide +kernel
theorem dX5_cannotBe_28 : decode cX5_cannotBe 28 = .ok (.iadd, 1) := by decide +kernel
theorem dX5_cannotBe_29 : decode cX5_cannotBe 29 = .ok (.iaload, 1) := by decide +kernel
theorem dX5_cannotBe_30 : decode cX5_cannotBe 30 = .ok (.if_icmp .le 5, 3) := by decide +kernel
theorem dX5_cannotBe_33 : decode cX5_cannotBe 33 = .ok (.iconst 1, 1) := by decide +kernel
theorem dX5_cannotBe_34 : decode cX5_cannotBe 34 = .ok (.ireturn, 1) := by decide +kernel
theorem dX5_cannotBe_35 : decode cX5_cannotBe 35 = .ok (.iload_n 2, 1) := by decide +kernel
theorem dX5_cannotBe_36 : decode cX5_cannotBe 36 = .ok (.iconst 1, 1) := by decide +kernel
theorem dX5_cannotBe_37 : decode cX5_cannotBe 37 = .ok (.if_icmp .eq 5, 3) := by decide +kernel
theorem dX5_cannotBe_40 : decode cX5_cannotBe 40 = .ok (.iconst 0, 1) := by decide +kernel
theorem dX5_cannotBe_41 : decode cX5_cannotBe 41 = .ok (.ireturn, 1) := by decide +kernel
theorem dX5_cannotBe_42 : decode cX5_cannotBe 42 = .ok (.iload_n 1, 1) := by decide +kernel
theorem dX5_cannotBe_43 : decode cX5_cannotBe 43 = .ok (.iconst 2, 1) := by decide +kernel
theorem dX5_cannotBe_44 : decode cX5_cannotBe 44 = .ok (.if_icmp .ne 19, 3) := by decide +kernel
theorem dX5_cannotBe_47 : decode cX5_cannotBe 47 = .ok (.iload_n 3, 1) := by decide +kernel
theorem dX5_cannotBe_48 : decode cX5_cannotBe 48 = .ok (.aload_n 0, 1) := by decide +kernel
theorem dX5_cannotBe_49 : decode cX5_cannotBe 49 = .ok (.getfield 32, 3) := by decide +kernel
theorem dX5_cannotBe_52 : decode cX5_cannotBe 52 = .ok (.iconst 0, 1) := by decide +kernel
theorem dX5_cannotBe_53 : decode cX5_cannotBe 53 = .ok (.iaload, 1) := by decide +kernel
theorem dX5_cannotBe_54 : decode cX5_cannotBe 54 = .ok (.if_icmp .le 7, 3) := by decide +kernel
theorem dX5_cannotBe_57 : decode cX5_cannotBe 57 = .ok (.iconst 1, 1) := by decide +kernel
theorem dX5_cannotBe_58 : decode cX5_cannotBe 58 = .ok (.goto 4, 3) := by decide +kernel
theorem dX5_cannotBe_61 : decode cX5_cannotBe 61 = .ok (.iconst 0, 1) := by decide +kernel
theorem dX5_cannotBe_62 : decode cX5_cannotBe 62 = .ok (.ireturn, 1) := by decide +kernel
theorem dX5_cannotBe_63 : decode cX5_cannotBe 63 = .ok (.iload_n 1, 1) := by decide +kernel
theorem dX5_cannotBe_64 : decode cX5_cannotBe 64 = .ok (.bipush 7, 2) := by decide +kernel
theorem dX5_cannotBe_66 : decode cX5_cannotBe 66 = .ok (.if_icmp .eq 9, 3) := by decide +kernel
theorem dX5_cannotBe_69 : decode cX5_cannotBe 69 = .ok (.iload_n 1, 1) := by decide +kernel
theorem dX5_cannotBe_70 : decode cX5_cannotBe 70 = .ok (.bipush 8, 2) := by decide +kernel
theorem dX5_cannotBe_72 : decode cX5_cannotBe 72 = .ok (.if_icmp .ne 7, 3) := by decide +kernel
theorem dX5_cannotBe_75 : decode cX5_cannotBe 75 = .ok (.iconst 1, 1) := by decide +kernel
theorem dX5_cannotBe_76 : decode cX5_cannotBe 76 = .ok (.goto 4, 3) := by decide +kernel
theorem dX5_cannotBe_79 : decode cX5_cannotBe 79 = .ok (.iconst 0, 1) := by decide +kernel
theorem dX5_cannotBe_80 : decode cX5_cannotBe 80 = .ok (.istore 4, 2) := by decide +kernel
theorem dX5_cannotBe_82 : decode cX5_cannotBe 82 = .ok (.iload 4, 2) := by decide +kernel
theorem dX5_cannotBe_84 : decode cX5_cannotBe 84 = .ok (.ifCond .eq 17, 3) := by decide +kernel
theorem dX5_cannotBe_87 : decode cX5_cannotBe 87 = .ok (.iload_n 3, 1) := by decide +kernel
theorem dX5_cannotBe_88 : decode cX5_cannotBe 88 = .ok (.aload_n 0, 1) := by decide +kernel
theorem dX5_cannotBe_89 : decode cX5_cannotBe 89 = .ok (.getfield 32, 3) := by decide +kernel
theorem dX5_cannotBe_92 : decode cX5_cannotBe 92 = .ok (.iconst 0, 1) := by decide +kernel
theorem dX5_cannotBe_93 : decode cX5_cannotBe 93 = .ok (.iaload, 1) := by decide +kernel
theorem dX5_cannotBe_94 : decode cX5_cannotBe 94 = .ok (.if_icmp .ne 7, 3) := by decide +kernel
theorem dX5_cannotBe_97 : decode cX5_cannotBe 97 = .ok (.iconst 1, 1) := by decide +kernel
theorem dX5_cannotBe_98 : decode cX5_cannotBe 98 = .ok (.goto 4, 3) := by decide +kernel
theorem dX5_cannotBe_101 : decode cX5_cannotBe 101 = .ok (.iconst 0, 1) := by decide +kernel
theorem dX5_cannotBe_102 : decode cX5_cannotBe 102 = .ok (.ireturn, 1) := by decide +kernel
set_option maxRecDepth 20000 in
theorem ggX5_keepLine_X7_addPalm : GoodIn wsX5_keepLine wsX7_addPalm := goodIn_r _ [9, 10, 11, 12, 51, 52, 53, 54, 55, 56, 57, 58, 59, 60, 61, 62] (by decide +kernel) (by decide +kernel)
set_option maxRecDepth 20000 in
theorem gX5_keepLine_X7_addPalm : GoodIn wsX5_keepLine (wsV RX5 181 RX7 yX7_addPalm wsX7_addPalm) := goodIn_app (goodIn_of _ (by decide +kernel)) ggX5_keepLine_X7_addPalm
set_option maxRecDepth 20000 in
theorem ggX5_keepLine_X7_addActor : GoodIn wsX5_keepLine wsX7_addActor := goodIn_r _ [16, 17, 18, 19, 51, 52, 53, 54, 55, 56, 57, 58, 59, 60, 61, 62] (by decide +kernel) (by decide +kernel)
set_option maxRecDepth 20000 in
theorem gX5_keepLine_X7_addActor : GoodIn wsX5_keepLine (wsV RX5 185 RX7 yX7_addActor wsX7_addActor) := goodIn_app (goodIn_of _ (by decide +kernel)) ggX5_keepLine_X7_addActor
set_option maxRecDepth 20000 in
theorem ggX5_keepLine_X7_addUsurer : GoodIn wsX5_keepLine wsX7_addUsurer := goodIn_r _ [23, 24, 25, 26, 51, 52, 53, 54, 55, 56, 57, 58, 59, 60, 61, 62] (by decide +kernel) (by decide +kernel)
set_option maxRecDepth 20000 in
theorem gX5_keepLine_X7_addUsurer : GoodIn wsX5_keepLine (wsV RX5 188 RX7 yX7_addUsurer wsX7_addUsurer) := goodIn_app (goodIn_of _ (by decide +kernel)) ggX5_keepLine_X7_addUsurer
set_option maxRecDepth 20000 in
theorem ggX5_keepLine_X1_addMinute : GoodIn wsX5_keepLine wsX1_addMinute := goodIn_r _ [31, 32, 33, 63, 64] (by decide +kernel) (by decide +kernel)
set_option maxRecDepth 20000 in
theorem gX5_keepLine_X1_addMinute : GoodIn wsX5_keepLine (wsV RX5 198 RX1 yX1_addMinute wsX1_addMinute) := goodIn_app (goodIn_of _ (by decide +kernel)) ggX5_keepLine_X1_addMinute
set_option maxRecDepth 20000 in
theorem ggX5_keepLine_X0_addDeed : GoodIn wsX5_keepLine wsX0_addDeed := goodIn_r _ [38, 39, 40, 65, 66] (by decide +kernel) (by decide +kernel)
set_option maxRecDepth 20000 in
theorem gX5_keepLine_X0_addDeed : GoodIn wsX5_keepLine (wsV RX5 201 RX0 yX0_addDeed wsX0_addDeed) := goodIn_app (goodIn_of _ (by decide +kernel)) ggX5_keepLine_X0_addDeed
theorem dX5_keepLine_0 : decode cX5_keepLine 0 = .ok (.iload_n 1, 1) := by decide +kernel
theorem dX5_keepLine_1 : decode cX5_keepLine 1 = .ok (.tableswitch 201 0 13 #[71, 93, 115, 137, 153, 169, 201, 201, 201, 201, 201, 201, 201, 185], 71) := by decide +kernel
theorem dX5_keepLine_72 : decode cX5_keepLine 72 = .ok (.aload_n 0, 1) := by decide +kernel
theorem dX5_keepLine_73 : decode cX5_keepLine 73 = .ok (.getfield 12, 3) := by decide +kernel
theorem dX5_keepLine_76 : decode cX5_keepLine 76 = .ok (.aload_n 0, 1) := by decide +kernel
theorem dX5_keepLine_77 : decode cX5_keepLine 77 = .ok (.getfield 32, 3) := by decide +kernel
theorem dX5_keepLine_80 : decode cX5_keepLine 80 = .ok (.iconst 0, 1) := by decide +kernel
theorem dX5_keepLine_81 : decode cX5_keepLine 81 = .ok (.iaload, 1) := by decide +kernel
theorem dX5_keepLine_82 : decode cX5_keepLine 82 = .ok (.aload_n 0, 1) := by decide +kernel
theorem dX5_keepLine_83 : decode cX5_keepLine 83 = .ok (.getfield 32, 3) := by decide +kernel
theorem dX5_keepLine_86 : decode cX5_keepLine 86 = .ok (.iconst 1, 1) := by decide +kernel
theorem dX5_keepLine_87 : decode cX5_keepLine 87 = .ok (.iaload, 1) := by decide +kernel
theorem dX5_keepLine_88 : decode cX5_keepLine 88 = .ok (.invokevirtual 181, 3) := by decide +kernel
theorem dX5_keepLine_91 : decode cX5_keepLine 91 = .ok (.goto 140, 3) := by decide +kernel
theorem dX5_keepLine_94 : decode cX5_keepLine 94 = .ok (.aload_n 0, 1) := by decide +kernel
theorem dX5_keepLine_95 : decode cX5_keepLine 95 = .ok (.getfield 12, 3) := by decide +kernel
theorem dX5_keepLine_98 : decode cX5_keepLine 98 = .ok (.aload_n 0, 1) := by decide +kernel
theorem dX5_keepLine_99 : decode cX5_keepLine 99 = .ok (.getfield 32, 3) := by decide +kernel
theorem dX5_keepLine_102 : decode cX5_keepLine 102 = .ok (.iconst 0, 1) := by decide +kernel
theorem dX5_keepLine_103 : decode cX5_keepLine 103 = .ok (.iaload, 1) := by decide +kernel
theorem dX5_keepLine_104 : decode cX5_keepLine 104 = .ok (.aload_n 0, 1) := by decide +kernel
theorem dX5_keepLine_105 : decode cX5_keepLine 105 = .ok (.getfield 32, 3) := by decide +kernel
theorem dX5_keepLine_108 : decode cX5_keepLine 108 = .ok (.iconst 1, 1) := by decide +kernel
theorem dX5_keepLine_109 : decode cX5_keepLine 109 = .ok (.iaload, 1) := by decide +kernel
theorem dX5_keepLine_110 : decode cX5_keepLine 110 = .ok (.invokevirtual 185, 3) := by decide +kernel
theorem dX5_keepLine_113 : decode cX5_keepLine 113 = .ok (.goto 118, 3) := by decide +kernel
theorem dX5_keepLine_116 : decode cX5_keepLine 116 = .ok (.aload_n 0, 1) := by decide +kernel
theorem dX5_keepLine_117 : decode cX5_keepLine 117 = .ok (.getfield 12, 3) := by decide +kernel
theorem dX5_keepLine_120 : decode cX5_keepLine 120 = .ok (.aload_n 0, 1) := by decide +kernel
theorem dX5_keepLine_121 : decode cX5_keepLine 121 = .ok (.getfield 32, 3) := by decide +kernel
theorem dX5_keepLine_124 : decode cX5_keepLine 124 = .ok (.iconst 0, 1) := by decide +kernel
theorem dX5_keepLine_125 : decode cX5_keepLine 125 = .ok (.iaload, 1) := by decide +kernel
theorem dX5_keepLine_126 : decode cX5_keepLine 126 = .ok (.aload_n 0, 1) := by decide +kernel
theorem dX5_keepLine_127 : decode cX5_keepLine 127 = .ok (.getfield 32, 3) := by decide +kernel
theorem dX5_keepLine_130 : decode cX5_keepLine 130 = .ok (.iconst 1, 1) := by decide +kernel
theorem dX5_keepLine_131 : decode cX5_keepLine 131 = .ok (.iaload, 1) := by decide +kernel
theorem dX5_keepLine_132 : decode cX5_keepLine 132 = .ok (.invokevirtual 188, 3) := by decide +kernel
theorem dX5_keepLine_135 : decode cX5_keepLine 135 = .ok (.goto 96, 3) := by decide +kernel
theorem dX5_keepLine_138 : decode cX5_keepLine 138 = .ok (.aload_n 0, 1) := by decide +kernel
theorem dX5_keepLine_139 : decode cX5_keepLine 139 = .ok (.getfield 12, 3) := by decide +kernel
theorem dX5_keepLine_142 : decode cX5_keepLine 142 = .ok (.aload_n 0, 1) := by decide +kernel
theorem dX5_keepLine_143 : decode cX5_keepLine 143 = .ok (.getfield 32, 3) := by decide +kernel
theorem dX5_keepLine_146 : decode cX5_keepLine 146 = .ok (.iconst 0, 1) := by decide +kernel
theorem dX5_keepLine_147 : decode cX5_keepLine 147 = .ok (.iaload, 1) := by decide +kernel
theorem dX5_keepLine_148 : decode cX5_keepLine 148 = .ok (.putfield 191, 3) := by decide +kernel
theorem dX5_keepLine_151 : decode cX5_keepLine 151 = .ok (.goto 80, 3) := by decide +kernel
theorem dX5_keepLine_154 : decode cX5_keepLine 154 = .ok (.aload_n 0, 1) := by decide +kernel
theorem dX5_keepLine_155 : decode cX5_keepLine 155 = .ok (.getfield 12, 3) := by decide +kernel
theorem dX5_keepLine_158 : decode cX5_keepLine 158 = .ok (.aload_n 0, 1) := by decide +kernel
theorem dX5_keepLine_159 : decode cX5_keepLine 159 = .ok (.getfield 32, 3) := by decide +kernel
theorem dX5_keepLine_162 : decode cX5_keepLine 162 = .ok (.iconst 0, 1) := by decide +kernel
theorem dX5_keepLine_163 : decode cX5_keepLine 163 = .ok (.iaload, 1) := by decide +kernel
theorem dX5_keepLine_164 : decode cX5_keepLine 164 = .ok (.putfield 193, 3) := by decide +kernel
theorem dX5_keepLine_167 : decode cX5_keepLine 167 = .ok (.goto 64, 3) := by decide +kernel
theorem dX5_keepLine_170 : decode cX5_keepLine 170 = .ok (.aload_n 0, 1) := by decide +kernel
theorem dX5_keepLine_171 : decode cX5_keepLine 171 = .ok (.getfield 12, 3) := by decide +kernel
theorem dX5_keepLine_174 : decode cX5_keepLine 174 = .ok (.aload_n 0, 1) := by decide +kernel
theorem dX5_keepLine_175 : decode cX5_keepLine 175 = .ok (.getfield 32, 3) := by decide +kernel
theorem dX5_keepLine_178 : decode cX5_keepLine 178 = .ok (.iconst 0, 1) := by decide +kernel
theorem dX5_keepLine_179 : decode cX5_keepLine 179 = .ok (.iaload, 1) := by decide +kernel
theorem dX5_keepLine_180 : decode cX5_keepLine 180 = .ok (.putfield 195, 3) := by decide +kernel
theorem dX5_keepLine_183 : decode cX5_keepLine 183 = .ok (.goto 48, 3) := by decide +kernel
theorem dX5_keepLine_186 : decode cX5_keepLine 186 = .ok (.aload_n 0, 1) := by decide +kernel
theorem dX5_keepLine_187 : decode cX5_keepLine 187 = .ok (.getfield 28, 3) := by decide +kernel
theorem dX5_keepLine_190 : decode cX5_keepLine 190 = .ok (.aload_n 0, 1) := by decide +kernel
theorem dX5_keepLine_191 : decode cX5_keepLine 191 = .ok (.getfield 32, 3) := by decide +kernel
theorem dX5_keepLine_194 : decode cX5_keepLine 194 = .ok (.iconst 0, 1) := by decide +kernel
theorem dX5_keepLine_195 : decode cX5_keepLine 195 = .ok (.iaload, 1) := by decide +kernel
theorem dX5_keepLine_196 : decode cX5_keepLine 196 = .ok (.invokevirtual 198, 3) := by decide +kernel
theorem dX5_keepLine_199 : decode cX5_keepLine 199 = .ok (.goto 32, 3) := by decide +kernel
theorem dX5_keepLine_202 : decode cX5_keepLine 202 = .ok (.aload_n 0, 1) := by decide +kernel
theorem dX5_keepLine_203 : decode cX5_keepLine 203 = .ok (.getfield 21, 3) := by decide +kernel
theorem dX5_keepLine_206 : decode cX5_keepLine 206 = .ok (.iload_n 1, 1) := by decide +kernel
theorem dX5_keepLine_207 : decode cX5_keepLine 207 = .ok (.bipush 6, 2) := by decide +kernel
theorem dX5_keepLine_209 : decode cX5_keepLine 209 = .ok (.isub, 1) := by decide +kernel
theorem dX5_keepLine_210 : decode cX5_keepLine 210 = .ok (.aload_n 0, 1) := by decide +kernel
theorem dX5_keepLine_211 : decode cX5_keepLine 211 = .ok (.getfield 32, 3) := by decide +kernel
theorem dX5_keepLine_214 : decode cX5_keepLine 214 = .ok (.iconst 0, 1) := by decide +kernel
theorem dX5_keepLine_215 : decode cX5_keepLine 215 = .ok (.iaload, 1) := by decide +kernel
theorem dX5_keepLine_216 : decode cX5_keepLine 216 = .ok (.aload_n 0, 1) := by decide +kernel
theorem dX5_keepLine_217 : decode cX5_keepLine 217 = .ok (.getfield 32, 3) := by decide +kernel
theorem dX5_keepLine_220 : decode cX5_keepLine 220 = .ok (.iconst 1, 1) := by decide +kernel
theorem dX5_keepLine_221 : decode cX5_keepLine 221 = .ok (.iaload, 1) := by decide +kernel
theorem dX5_keepLine_222 : decode cX5_keepLine 222 = .ok (.aload_n 0, 1) := by decide +kernel
theorem dX5_keepLine_223 : decode cX5_keepLine 223 = .ok (.getfield 32, 3) := by decide +kernel
theorem dX5_keepLine_226 : decode cX5_keepLine 226 = .ok (.iconst 2, 1) := by decide +kernel
theorem dX5_keepLine_227 : decode cX5_keepLine 227 = .ok (.iaload, 1) := by decide +kernel
theorem dX5_keepLine_228 : decode cX5_keepLine 228 = .ok (.invokevirtual 201, 3) := by decide +kernel
theorem dX5_keepLine_231 : decode cX5_keepLine 231 = .ok (.return_, 1) := by decide +kernel
set_option maxRecDepth 20000 in
theorem ggX9_text_X8_howMany : GoodIn wsX9_text wsX8_howMany := goodIn_r _ [7, 8, 9, 10, 213, 214, 215, 216, 217, 218, 219, 220, 221, 222, 223, 224, 225] (by decide +kernel) (by decide +kernel)
set_option maxRecDepth 20000 in
theorem gX9_text_X8_howMany : GoodIn wsX9_text (wsV RX9 69 RX8 yX8_howMany wsX8_howMany) := goodIn_app (goodIn_of _ (by decide +kernel)) ggX9_text_X8_howMany
set_option maxRecDepth 20000 in
theorem ggX9_text_X5_read : GoodIn wsX9_text wsX5_read := goodIn_r _ [15, 16, 17, 18, 19, 20, 21, 22, 23, 24, 25, 26, 27, 28, 29, 30, 31, 32, 33, 34, 35, 36, 14, 37, 38, 39, 40, 41, 42, 43, 44, 45, 46, 47, 48, 49, 50, 51, 52, 53, 54, 55, 56, 57, 58, 59, 60, 61, 62, 63, 64, 65, 66, 67, 68, 69, 70, 71, 72, 73, 74, 75, 76, 77, 78, 79, 80, 81, 82, 83, 84, 85, 86, 87, 88, 89, 90, 91, 92, 93, 94, 95, 96, 97, 98, 99, 100, 101, 102, 103, 104, 105, 106, 107, 108, 109, 110, 111, 112, 113, 114, 115, 116, 117, 118, 119, 120, 121, 122, 123, 124, 125, 126, 127, 128, 129, 130, 131, 132, 133, 134, 135, 136, 137, 138, 139, 140, 141, 142, 143, 144, 145, 146, 147, 148, 149, 150, 151, 152, 153, 154, 155, 156, 157, 158, 159, 160, 161, 162, 163, 164, 165, 166, 167, 168, 169, 170, 171, 172, 173, 174, 226, 227, 228, 229, 230, 231, 232, 233, 234, 235, 236, 237, 238, 239, 240, 241, 242, 243, 244, 245, 246, 247, 248, 249, 250, 251] (by decide +kernel) (by decide +kernel)
set_option maxRecDepth 20000 in
theorem gX9_text_X5_read : GoodIn wsX9_text (wsV RX9 77 RX5 yX5_read wsX5_read) := goodIn_app (goodIn_of _ (by decide +kernel)) ggX9_text_X5_read
set_option maxRecDepth 20000 in
theorem ggX9_text_X8_put : GoodIn wsX9_text wsX8_put := goodIn_r _ [178, 179, 180, 8, 181, 182, 42, 183, 184, 185, 9, 186, 187, 10, 188, 189, 190, 26, 191, 28, 29, 30, 31, 32, 33, 147, 192, 193, 194, 195, 148, 153, 154, 159, 160, 196, 197, 198, 171, 199, 173, 174, 200, 201, 202, 203, 164, 204, 166, 167, 205, 213, 214, 215, 216, 217, 218, 219, 220, 221, 222, 223, 224, 225, 226, 227, 228, 229, 230, 231, 232, 233, 234, 235, 240, 241, 242, 243, 244, 245, 246, 247, 248, 249, 250, 251, 236, 237, 238, 239] (by decide +kernel) (by decide +kernel)
set_option maxRecDepth 20000 in
theorem gX9_text_X8_put : GoodIn wsX9_text (wsV RX9 83 RX8 yX8_put wsX8_put) := goodIn_app (goodIn_of _ (by decide +kernel)) ggX9_text_X8_put
theorem dX9_text_0 : decode cX9_text 0 = .ok (.aload_n 0, 1) := by decide +kernel
theorem dX9_text_1 : decode cX9_text 1 = .ok (.getfield 10, 3) := by decide +kernel
theorem dX9_text_4 : decode cX9_text 4 = .ok (.getfield 55, 3) := by decide +kernel
theorem dX9_text_7 : decode cX9_text 7 = .ok (.istore_n 3, 1) := by decide +kernel
theorem dX9_text_8 : decode cX9_text 8 = .ok (.aload_n 0, 1) := by decide +kernel
theorem dX9_text_9 : decode cX9_text 9 = .ok (.getfield 10, 3) := by decide +kernel
theorem dX9_text_12 : decode cX9_text 12 = .ok (.iconst 0, 1) := by decide +kernel
theorem dX9_text_13 : decode cX9_text 13 = .ok (.putfield 55, 3) := by decide +kernel
theorem dX9_text_16 : decode cX9_text 16 = .ok (.aload_n 0, 1) := by decide +kernel
theorem dX9_text_17 : decode cX9_text 17 = .ok (.getfield 10, 3) := by decide +kernel
theorem dX9_text_20 : decode cX9_text 20 = .ok (.iconst 0, 1) := by decide +kernel
theorem dX9_text_21 : decode cX9_text 21 = .ok (.putfield 63, 3) := by decide +kernel
theorem dX9_text_24 : decode cX9_text 24 = .ok (.aload_n 0, 1) := by decide +kernel
theorem dX9_text_25 : decode cX9_text 25 = .ok (.getfield 10, 3) := by decide +kernel
theorem dX9_text_28 : decode cX9_text 28 = .ok (.iconst (-1), 1) := by decide +kernel
theorem dX9_text_29 : decode cX9_text 29 = .ok (.putfield 66, 3) := by decide +kernel
theorem dX9_text_32 : decode cX9_text 32 = .ok (.aload_n 0, 1) := by decide +kernel
theorem dX9_text_33 : decode cX9_text 33 = .ok (.getfield 10, 3) := by decide +kernel
theorem dX9_text_36 : decode cX9_text 36 = .ok (.iload_n 1, 1) := by decide +kernel
theorem dX9_text_37 : decode cX9_text 37 = .ok (.invokevirtual 69, 3) := by decide +kernel
theorem dX9_text_40 : decode cX9_text 40 = .ok (.istore 4, 2) := by decide +kernel
theorem dX9_text_42 : decode cX9_text 42 = .ok (.iload_n 2, 1) := by decide +kernel
theorem dX9_text_43 : decode cX9_text 43 = .ok (.iconst (-1), 1) := by decide +kernel
theorem dX9_text_44 : decode cX9_text 44 = .ok (.if_icmp .ne 7, 3) := by decide +kernel
theorem dX9_text_47 : decode cX9_text 47 = .ok (.iconst 1, 1) := by decide +kernel
theorem dX9_text_48 : decode cX9_text 48 = .ok (.goto 4, 3) := by decide +kernel
theorem dX9_text_51 : decode cX9_text 51 = .ok (.iconst 0, 1) := by decide +kernel
theorem dX9_text_52 : decode cX9_text 52 = .ok (.istore 5, 2) := by decide +kernel
theorem dX9_text_54 : decode cX9_text 54 = .ok (.iload 4, 2) := by decide +kernel
theorem dX9_text_56 : decode cX9_text 56 = .ok (.ifCond .lt 29, 3) := by decide +kernel
theorem dX9_text_59 : decode cX9_text 59 = .ok (.iload 5, 2) := by decide +kernel
theorem dX9_text_61 : decode cX9_text 61 = .ok (.ifCond .eq 9, 3) := by decide +kernel
theorem dX9_text_64 : decode cX9_text 64 = .ok (.iload 4, 2) := by decide +kernel
theorem dX9_text_66 : decode cX9_text 66 = .ok (.iconst 2, 1) := by decide +kernel
theorem dX9_text_67 : decode cX9_text 67 = .ok (.if_icmp .ge 18, 3) := by decide +kernel
theorem dX9_text_70 : decode cX9_text 70 = .ok (.iload 5, 2) := by decide +kernel
theorem dX9_text_72 : decode cX9_text 72 = .ok (.ifCond .ne 16, 3) := by decide +kernel
theorem dX9_text_75 : decode cX9_text 75 = .ok (.iload_n 2, 1) := by decide +kernel
theorem dX9_text_76 : decode cX9_text 76 = .ok (.ifCond .lt 9, 3) := by decide +kernel
theorem dX9_text_79 : decode cX9_text 79 = .ok (.iload_n 2, 1) := by decide +kernel
theorem dX9_text_80 : decode cX9_text 80 = .ok (.iload 4, 2) := by decide +kernel
theorem dX9_text_82 : decode cX9_text 82 = .ok (.if_icmp .lt 6, 3) := by decide +kernel
theorem dX9_text_85 : decode cX9_text 85 = .ok (.bipush (-2), 2) := by decide +kernel
theorem dX9_text_87 : decode cX9_text 87 = .ok (.ireturn, 1) := by decide +kernel
theorem dX9_text_88 : decode cX9_text 88 = .ok (.aload_n 0, 1) := by decide +kernel
theorem dX9_text_89 : decode cX9_text 89 = .ok (.getfield 23, 3) := by decide +kernel
theorem dX9_text_92 : decode cX9_text 92 = .ok (.aload_n 0, 1) := by decide +kernel
theorem dX9_text_93 : decode cX9_text 93 = .ok (.getfield 10, 3) := by decide +kernel
theorem dX9_text_96 : decode cX9_text 96 = .ok (.getfield 73, 3) := by decide +kernel
theorem dX9_text_99 : decode cX9_text 99 = .ok (.iload_n 3, 1) := by decide +kernel
theorem dX9_text_100 : decode cX9_text 100 = .ok (.iload_n 1, 1) := by decide +kernel
theorem dX9_text_101 : decode cX9_text 101 = .ok (.invokevirtual 77, 3) := by decide +kernel
theorem dX9_text_104 : decode cX9_text 104 = .ok (.aload_n 0, 1) := by decide +kernel
theorem dX9_text_105 : decode cX9_text 105 = .ok (.getfield 10, 3) := by decide +kernel
theorem dX9_text_108 : decode cX9_text 108 = .ok (.aload_n 0, 1) := by decide +kernel
theorem dX9_text_109 : decode cX9_text 109 = .ok (.getfield 23, 3) := by decide +kernel
theorem dX9_text_112 : decode cX9_text 112 = .ok (.getfield 81, 3) := by decide +kernel
theorem dX9_text_115 : decode cX9_text 115 = .ok (.putfield 63, 3) := by decide +kernel
theorem dX9_text_118 : decode cX9_text 118 = .ok (.aload_n 0, 1) := by decide +kernel
theorem dX9_text_119 : decode cX9_text 119 = .ok (.getfield 10, 3) := by decide +kernel
theorem dX9_text_122 : decode cX9_text 122 = .ok (.aload_n 0, 1) := by decide +kernel
theorem dX9_text_123 : decode cX9_text 123 = .ok (.getfield 23, 3) := by decide +kernel
theorem dX9_text_126 : decode cX9_text 126 = .ok (.getfield 82, 3) := by decide +kernel
theorem dX9_text_129 : decode cX9_text 129 = .ok (.putfield 66, 3) := by decide +kernel
theorem dX9_text_132 : decode cX9_text 132 = .ok (.aload_n 0, 1) := by decide +kernel
theorem dX9_text_133 : decode cX9_text 133 = .ok (.getfield 23, 3) := by decide +kernel
theorem dX9_text_136 : decode cX9_text 136 = .ok (.getfield 81, 3) := by decide +kernel
theorem dX9_text_139 : decode cX9_text 139 = .ok (.ifCond .eq 5, 3) := by decide +kernel
theorem dX9_text_142 : decode cX9_text 142 = .ok (.iconst (-1), 1) := by decide +kernel
theorem dX9_text_143 : decode cX9_text 143 = .ok (.ireturn, 1) := by decide +kernel
theorem dX9_text_144 : decode cX9_text 144 = .ok (.iload 5, 2) := by decide +kernel
theorem dX9_text_146 : decode cX9_text 146 = .ok (.ifCond .eq 8, 3) := by decide +kernel
theorem dX9_text_149 : decode cX9_text 149 = .ok (.iload 4, 2) := by decide +kernel
theorem dX9_text_151 : decode cX9_text 151 = .ok (.goto 4, 3) := by decide +kernel
theorem dX9_text_154 : decode cX9_text 154 = .ok (.iload_n 2, 1) := by decide +kernel
theorem dX9_text_155 : decode cX9_text 155 = .ok (.istore 6, 2) := by decide +kernel
theorem dX9_text_157 : decode cX9_text 157 = .ok (.aload_n 0, 1) := by decide +kernel
theorem dX9_text_158 : decode cX9_text 158 = .ok (.getfield 10, 3) := by decide +kernel
theorem dX9_text_161 : decode cX9_text 161 = .ok (.iload_n 1, 1) := by decide +kernel
theorem dX9_text_162 : decode cX9_text 162 = .ok (.iload 6, 2) := by decide +kernel
theorem dX9_text_164 : decode cX9_text 164 = .ok (.aload_n 0, 1) := by decide +kernel
theorem dX9_text_165 : decode cX9_text 165 = .ok (.getfield 23, 3) := by decide +kernel
theorem dX9_text_168 : decode cX9_text 168 = .ok (.invokevirtual 83, 3) := by decide +kernel
theorem dX9_text_171 : decode cX9_text 171 = .ok (.iload 6, 2) := by decide +kernel
theorem dX9_text_173 : decode cX9_text 173 = .ok (.ireturn, 1) := by decide +kernel
set_option maxRecDepth 20000 in
theorem ggJ0_length_8abf5_J0_coder_7d493 : GoodIn wsJ0_length_8abf5 wsJ0_coder_7d493 := goodIn_r _ [6, 7, 8] (by decide +kernel) (by decide +kernel)
set_option maxRecDepth 20000 in
theorem gJ0_length_8abf5_J0_coder_7d493 : GoodIn wsJ0_length_8abf5 (wsV RJ0 335 RJ0 yJ0_coder_7d493 wsJ0_coder_7d493) := goodIn_app (goodIn_of _ (by decide +kernel)) ggJ0_length_8abf5_J0_coder_7d493
theorem dJ0_length_8abf5_0 : decode cJ0_length_8abf5 0 = .ok (.aload_n 0, 1) := by decide +kernel
theorem dJ0_length_8abf5_1 : decode cJ0_length_8abf5 1 = .ok (.getfield 9, 3) := by decide +kernel
theorem dJ0_length_8abf5_4 : decode cJ0_length_8abf5 4 = .ok (.arraylength, 1) := by decide +kernel
theorem dJ0_length_8abf5_5 : decode cJ0_length_8abf5 5 = .ok (.aload_n 0, 1) := by decide +kernel
theorem dJ0_length_8abf5_6 : decode cJ0_length_8abf5 6 = .ok (.invokevirtual 335, 3) := by decide +kernel
theorem dJ0_length_8abf5_9 : decode cJ0_length_8abf5 9 = .ok (.ishr, 1) := by decide +kernel
theorem dJ0_length_8abf5_10 : decode cJ0_length_8abf5 10 = .ok (.ireturn, 1) := by decide +kernel
set_option maxRecDepth 20000 in
theorem ggJ0_charAt_5068e_J0_isLatin1_aae02 : GoodIn wsJ0_charAt_5068e wsJ0_isLatin1_aae02 := goodIn_r _ [6, 7, 8] (by decide +kernel) (by decide +kernel)
set_option maxRecDepth 20000 in
theorem gJ0_charAt_5068e_J0_isLatin1_aae02 : GoodIn wsJ0_charAt_5068e (wsV RJ0 492 RJ0 yJ0_isLatin1_aae02 wsJ0_isLatin1_aae02) := goodIn_app (goodIn_of _ (by decide +kernel)) ggJ0_charAt_5068e_J0_isLatin1_aae02
set_option maxRecDepth 20000 in
theorem ggJ0_charAt_5068e_J1_charAt_3b067 : GoodIn wsJ0_charAt_5068e wsJ1_charAt_3b067 := goodIn_r _ [12, 13, 14, 5, 15, 16, 17, 18, 19, 20] (by decide +kernel) (by decide +kernel)
set_option maxRecDepth 20000 in
theorem gJ0_charAt_5068e_J1_charAt_3b067 : GoodIn wsJ0_charAt_5068e (va_wsS RJ0 495 yJ1_charAt_3b067 wsJ1_charAt_3b067) := goodIn_app (goodIn_of _ (by decide +kernel)) ggJ0_charAt_5068e_J1_charAt_3b067
theorem dJ0_charAt_5068e_0 : decode cJ0_charAt_5068e 0 = .ok (.aload_n 0, 1) := by decide +kernel
theorem dJ0_charAt_5068e_1 : decode cJ0_charAt_5068e 1 = .ok (.invokevirtual 492, 3) := by decide +kernel
theorem dJ0_charAt_5068e_4 : decode cJ0_charAt_5068e 4 = .ok (.ifCond .eq 12, 3) := by decide +kernel
theorem dJ0_charAt_5068e_7 : decode cJ0_charAt_5068e 7 = .ok (.aload_n 0, 1) := by decide +kernel
theorem dJ0_charAt_5068e_8 : decode cJ0_charAt_5068e 8 = .ok (.getfield 9, 3) := by decide +kernel
theorem dJ0_charAt_5068e_11 : decode cJ0_charAt_5068e 11 = .ok (.iload_n 1, 1) := by decide +kernel
theorem dJ0_charAt_5068e_12 : decode cJ0_charAt_5068e 12 = .ok (.invokestatic 495, 3) := by decide +kernel
theorem dJ0_charAt_5068e_15 : decode cJ0_charAt_5068e 15 = .ok (.ireturn, 1) := by decide +kernel
theorem dJ0_coder_7d493_0 : decode cJ0_coder_7d493 0 = .ok (.getstatic 38, 3) := by decide +kernel
theorem dJ0_coder_7d493_3 : decode cJ0_coder_7d493 3 = .ok (.ifCond .eq 10, 3) := by decide +kernel
theorem dJ0_coder_7d493_6 : decode cJ0_coder_7d493 6 = .ok (.aload_n 0, 1) := by decide +kernel
theorem dJ0_coder_7d493_7 : decode cJ0_coder_7d493 7 = .ok (.getfield 15, 3) := by decide +kernel
theorem dJ0_coder_7d493_10 : decode cJ0_coder_7d493 10 = .ok (.goto 4, 3) := by decide +kernel
theorem dJ0_coder_7d493_14 : decode cJ0_coder_7d493 14 = .ok (.ireturn, 1) := by decide +kernel
theorem dJ0_isLatin1_aae02_0 : decode cJ0_isLatin1_aae02 0 = .ok (.getstatic 38, 3) := by decide +kernel
theorem dJ0_isLatin1_aae02_3 : decode cJ0_isLatin1_aae02 3 = .ok (.ifCond .eq 14, 3) := by decide +kernel
theorem dJ0_isLatin1_aae02_6 : decode cJ0_isLatin1_aae02 6 = .ok (.aload_n 0, 1) := by decide +kernel
theorem dJ0_isLatin1_aae02_7 : decode cJ0_isLatin1_aae02 7 = .ok (.getfield 15, 3) := by decide +kernel
theorem dJ0_isLatin1_aae02_10 : decode cJ0_isLatin1_aae02 10 = .ok (.ifCond .ne 7, 3) := by decide +kernel
theorem dJ0_isLatin1_aae02_13 : decode cJ0_isLatin1_aae02 13 = .ok (.iconst 1, 1) := by decide +kernel
theorem dJ0_isLatin1_aae02_14 : decode cJ0_isLatin1_aae02 14 = .ok (.goto 4, 3) := by decide +kernel
theorem dJ0_isLatin1_aae02_18 : decode cJ0_isLatin1_aae02 18 = .ok (.ireturn, 1) := by decide +kernel
set_option maxRecDepth 20000 in
theorem ggJ0_checkIndex_df160_J3_checkIndex_8e157 : GoodIn wsJ0_checkIndex_df160 wsJ3_checkIndex_8e157 := goodIn_r _ [5] (by decide +kernel) (by decide +kernel)
set_option maxRecDepth 20000 in
theorem gJ0_checkIndex_df160_J3_checkIndex_8e157 : GoodIn wsJ0_checkIndex_df160 (va_wsS RJ0 1059 yJ3_checkIndex_8e157 wsJ3_checkIndex_8e157) := goodIn_app (goodIn_of _ (by decide +kernel)) ggJ0_checkIndex_df160_J3_checkIndex_8e157
theorem dJ0_checkIndex_df160_0 : decode cJ0_checkIndex_df160 0 = .ok (.iload_n 0, 1) := by decide +kernel
theorem dJ0_checkIndex_df160_1 : decode cJ0_checkIndex_df160 1 = .ok (.iload_n 1, 1) := by decide +kernel
theorem dJ0_checkIndex_df160_2 : decode cJ0_checkIndex_df160 2 = .ok (.getstatic 1053, 3) := by decide +kernel
theorem dJ0_checkIndex_df160_5 : decode cJ0_checkIndex_df160 5 = .ok (.invokestatic 1059, 3) := by decide +kernel
theorem dJ0_checkIndex_df160_8 : decode cJ0_checkIndex_df160 8 = .ok (.pop, 1) := by decide +kernel
theorem dJ0_checkIndex_df160_9 : decode cJ0_checkIndex_df160 9 = .ok (.return_, 1) := by decide +kernel
set_option maxRecDepth 20000 in
theorem ggJ1_charAt_3b067_J0_checkIndex_df160 : GoodIn wsJ1_charAt_3b067 wsJ0_checkIndex_df160 := goodIn_r _ [4, 5, 6, 7, 8, 9] (by decide +kernel) (by decide +kernel)
set_option maxRecDepth 20000 in
theorem gJ1_charAt_3b067_J0_checkIndex_df160 : GoodIn wsJ1_charAt_3b067 (va_wsS RJ1 9 yJ0_checkIndex_df160 wsJ0_checkIndex_df160) := goodIn_app (goodIn_of _ (by decide +kernel)) ggJ1_charAt_3b067_J0_checkIndex_df160
theorem dJ1_charAt_3b067_0 : decode cJ1_charAt_3b067 0 = .ok (.iload_n 1, 1) := by decide +kernel
theorem dJ1_charAt_3b067_1 : decode cJ1_charAt_3b067 1 = .ok (.aload_n 0, 1) := by decide +kernel
theorem dJ1_charAt_3b067_2 : decode cJ1_charAt_3b067 2 = .ok (.arraylength, 1) := by decide +kernel
theorem dJ1_charAt_3b067_3 : decode cJ1_charAt_3b067 3 = .ok (.invokestatic 9, 3) := by decide +kernel
theorem dJ1_charAt_3b067_6 : decode cJ1_charAt_3b067 6 = .ok (.aload_n 0, 1) := by decide +kernel
theorem dJ1_charAt_3b067_7 : decode cJ1_charAt_3b067 7 = .ok (.iload_n 1, 1) := by decide +kernel
theorem dJ1_charAt_3b067_8 : decode cJ1_charAt_3b067 8 = .ok (.baload, 1) := by decide +kernel
theorem dJ1_charAt_3b067_9 : decode cJ1_charAt_3b067 9 = .ok (.sipush 255, 3) := by decide +kernel
theorem dJ1_charAt_3b067_12 : decode cJ1_charAt_3b067 12 = .ok (.iand, 1) := by decide +kernel
theorem dJ1_charAt_3b067_13 : decode cJ1_charAt_3b067 13 = .ok (.i2c, 1) := by decide +kernel
theorem dJ1_charAt_3b067_14 : decode cJ1_charAt_3b067 14 = .ok (.ireturn, 1) := by decide +kernel
theorem dJ3_checkIndex_8e157_0 : decode cJ3_checkIndex_8e157 0 = .ok (.iload_n 0, 1) := by decide +kernel
theorem dJ3_checkIndex_8e157_1 : decode cJ3_checkIndex_8e157 1 = .ok (.ifCond .lt 8, 3) := by decide +kernel
theorem dJ3_checkIndex_8e157_4 : decode cJ3_checkIndex_8e157 4 = .ok (.iload_n 0, 1) := by decide +kernel
theorem dJ3_checkIndex_8e157_5 : decode cJ3_checkIndex_8e157 5 = .ok (.iload_n 1, 1) := by decide +kernel
theorem dJ3_checkIndex_8e157_6 : decode cJ3_checkIndex_8e157 6 = .ok (.if_icmp .lt 10, 3) := by decide +kernel
theorem dJ3_checkIndex_8e157_16 : decode cJ3_checkIndex_8e157 16 = .ok (.iload_n 0, 1) := by decide +kernel
theorem dJ3_checkIndex_8e157_17 : decode cJ3_checkIndex_8e157 17 = .ok (.ireturn, 1) := by decide +kernel
