abbrev cX10_hasDark : ByteArray := prog_12_method_80_code
def yX10_hasDark : MethodName := ⟨RX10, "hasDark", "(I)Z"⟩
abbrev cX10_heardOf : ByteArray := prog_12_method_81_code
def yX10_heardOf : MethodName := ⟨RX10, "heardOf", "(I)I"⟩
abbrev cX10_heard : ByteArray := prog_12_method_82_code
def yX10_heard : MethodName := ⟨RX10, "heard", "(II)I"⟩
abbrev cX10_after : ByteArray := prog_12_method_83_code
def yX10_after : MethodName := ⟨RX10, "after", "(II)I"⟩
abbrev cX10_halvesOf : ByteArray := prog_12_method_84_code
def yX10_halvesOf : MethodName := ⟨RX10, "halvesOf", "(I)I"⟩
abbrev cX10_states : ByteArray := prog_12_method_85_code
def yX10_states : MethodName := ⟨RX10, "states", "()I"⟩
abbrev cX10_findDark : ByteArray := prog_12_method_86_code
def yX10_findDark : MethodName := ⟨RX10, "findDark", "()V"⟩
abbrev cX10_goOn : ByteArray := prog_12_method_87_code
def yX10_goOn : MethodName := ⟨RX10, "goOn", "(I)V"⟩
abbrev cX10_goBack : ByteArray := prog_12_method_88_code
def yX10_goBack : MethodName := ⟨RX10, "goBack", "(I)V"⟩
abbrev cX10_ways : ByteArray := prog_12_method_89_code
def yX10_ways : MethodName := ⟨RX10, "ways", "(II)J"⟩
abbrev cX10_mayBe : ByteArray := prog_12_method_90_code
def yX10_mayBe : MethodName := ⟨RX10, "mayBe", "(II)Z"⟩
abbrev cX10_whose : ByteArray := prog_12_method_91_code
def yX10_whose : MethodName := ⟨RX10, "whose", "(IIIZ)I"⟩
abbrev cX10_draw : ByteArray := prog_12_method_92_code
def yX10_draw : MethodName := ⟨RX10, "draw", "(I)I"⟩
abbrev cX10_livingOne : ByteArray := prog_12_method_93_code
def yX10_livingOne : MethodName := ⟨RX10, "livingOne", "(I)I"⟩
abbrev cX10_drawn : ByteArray := prog_12_method_94_code
def yX10_drawn : MethodName := ⟨RX10, "drawn", "(IIII)I"⟩
def wsX10_hasDark : List Cond := .code yX10_hasDark cX10_hasDark 2 (some .boolean) :: ([.fieldLink RX10 386 "ClapBankModel" "dark" "I", .fieldLink RX10 32 "ClapBankModel" "darks" "[I", .fieldLink RX10 389 "ClapBankModel" "minutes" "I", .methodLink RX10 211 yX10_is, .instanceMethod yX10_is, .selects RX10 yX10_is yX10_is, .initialized RX10, .code yX10_is cX10_is 3 (some .boolean), .fieldLink RX10 23 "ClapBankModel" "many" "[I", .methodLink RX10 92 yX10_in, .static yX10_in, .code yX10_in cX10_in 3 (some .boolean)] ++ wsX100)
def wsX10_heardOf : List Cond := .code yX10_heardOf cX10_heardOf 2 (some .int) :: ([.fieldLink RX10 32 "ClapBankModel" "darks" "[I", .fieldLink RX10 386 "ClapBankModel" "dark" "I"] ++ wsX100)
def wsX10_heard : List Cond := .code yX10_heard cX10_heard 3 (some .int) :: ([.fieldLink RX10 80 "ClapBankModel" "code" "I", .fieldLink RX10 389 "ClapBankModel" "minutes" "I", .methodLink RX10 392 yX10_hasDark, .instanceMethod yX10_hasDark, .selects RX10 yX10_hasDark yX10_hasDark, .initialized RX10, .code yX10_hasDark cX10_hasDark 2 (some .boolean), .fieldLink RX10 386 "ClapBankModel" "dark" "I", .fieldLink RX10 32 "ClapBankModel" "darks" "[I", .methodLink RX10 211 yX10_is, .instanceMethod yX10_is, .selects RX10 yX10_is yX10_is, .code yX10_is cX10_is 3 (some .boolean), .fieldLink RX10 23 "ClapBankModel" "many" "[I", .methodLink RX10 92 yX10_in, .static yX10_in, .code yX10_in cX10_in 3 (some .boolean), .methodLink RX10 395 yX10_heardOf, .instanceMethod yX10_heardOf, .selects RX10 yX10_heardOf yX10_heardOf, .code yX10_heardOf cX10_heardOf 2 (some .int)] ++ wsX100)
def wsX10_after : List Cond := .code yX10_after cX10_after 5 (some .int) :: ([.fieldLink RX10 228 "ClapBankModel" "palms" "I", .fieldLink RX10 73 "ClapBankModel" "unit" "[I", .methodLink RX10 84 yX10_has, .static yX10_has, .initialized RX10, .code yX10_has cX10_has 2 (some .boolean), .methodLink RX10 224 yX10_of, .instanceMethod yX10_of, .selects RX10 yX10_of yX10_of, .code yX10_of cX10_of 2 (some .int), .fieldLink RX10 26 "ClapBankModel" "theatres" "[I", .fieldLink RX10 221 "ClapBankModel" "theatre" "I", .methodLink RX10 170 yX10_lesser, .static yX10_lesser, .code yX10_lesser cX10_lesser 2 (some .int)] ++ wsX100)
def wsX10_halvesOf : List Cond := .code yX10_halvesOf cX10_halvesOf 4 (some .int) :: ([.fieldLink RX10 228 "ClapBankModel" "palms" "I", .methodLink RX10 84 yX10_has, .static yX10_has, .initialized RX10, .code yX10_has cX10_has 2 (some .boolean), .methodLink RX10 288 yX10_handsOf, .instanceMethod yX10_handsOf, .selects RX10 yX10_handsOf yX10_handsOf, .code yX10_handsOf cX10_handsOf 2 (some .int), .methodLink RX10 224 yX10_of, .instanceMethod yX10_of, .selects RX10 yX10_of yX10_of, .code yX10_of cX10_of 2 (some .int), .fieldLink RX10 26 "ClapBankModel" "theatres" "[I", .fieldLink RX10 221 "ClapBankModel" "theatre" "I"] ++ wsX100)
def wsX10_states : List Cond := .code yX10_states cX10_states 3 (some .int) :: ([.fieldLink RX10 228 "ClapBankModel" "palms" "I"] ++ wsX100)
def wsX10_goOn_r1 : List Cond := [Cond.fieldLink RX10 228 "ClapBankModel" "palms" "I", Cond.fieldLink RX10 66 "ClapBankModel" "ahead" "[J", Cond.methodLink RX10 407 yX10_halvesOf, Cond.instanceMethod yX10_halvesOf, Cond.selects RX10 yX10_halvesOf yX10_halvesOf, Cond.initialized RX10, Cond.code yX10_halvesOf cX10_halvesOf 4 (some .int), Cond.methodLink RX10 84 yX10_has, Cond.static yX10_has, Cond.code yX10_has cX10_has 2 (some .boolean), Cond.methodLink RX10 288 yX10_handsOf, Cond.instanceMethod yX10_handsOf, Cond.selects RX10 yX10_handsOf yX10_handsOf, Cond.code yX10_handsOf cX10_handsOf 2 (some .int), Cond.methodLink RX10 224 yX10_of, Cond.instanceMethod yX10_of, Cond.selects RX10 yX10_of yX10_of, Cond.code yX10_of cX10_of 2 (some .int), Cond.fieldLink RX10 26 "ClapBankModel" "theatres" "[I", Cond.fieldLink RX10 221 "ClapBankModel" "theatre" "I", Cond.methodLink RX10 395 yX10_heardOf, Cond.instanceMethod yX10_heardOf, Cond.selects RX10 yX10_heardOf yX10_heardOf, Cond.code yX10_heardOf cX10_heardOf 2 (some .int)]
def wsX10_goOn_r2 : List Cond := [Cond.fieldLink RX10 32 "ClapBankModel" "darks" "[I", Cond.fieldLink RX10 386 "ClapBankModel" "dark" "I", Cond.methodLink RX10 398 yX10_states, Cond.instanceMethod yX10_states, Cond.selects RX10 yX10_states yX10_states, Cond.code yX10_states cX10_states 3 (some .int), Cond.methodLink RX10 410 yX10_after, Cond.instanceMethod yX10_after, Cond.selects RX10 yX10_after yX10_after, Cond.code yX10_after cX10_after 5 (some .int), Cond.fieldLink RX10 73 "ClapBankModel" "unit" "[I", Cond.methodLink RX10 170 yX10_lesser, Cond.static yX10_lesser, Cond.code yX10_lesser cX10_lesser 2 (some .int)]
def wsX10_goOn : List Cond := .code yX10_goOn cX10_goOn 6 none :: ((wsX10_goOn_r1 ++ wsX10_goOn_r2) ++ wsX100)
def wsX10_goBack_r1 : List Cond := [Cond.fieldLink RX10 228 "ClapBankModel" "palms" "I", Cond.fieldLink RX10 66 "ClapBankModel" "ahead" "[J", Cond.fieldLink RX10 70 "ClapBankModel" "behind" "[J", Cond.methodLink RX10 407 yX10_halvesOf, Cond.instanceMethod yX10_halvesOf, Cond.selects RX10 yX10_halvesOf yX10_halvesOf, Cond.initialized RX10, Cond.code yX10_halvesOf cX10_halvesOf 4 (some .int), Cond.methodLink RX10 84 yX10_has, Cond.static yX10_has, Cond.code yX10_has cX10_has 2 (some .boolean), Cond.methodLink RX10 288 yX10_handsOf, Cond.instanceMethod yX10_handsOf, Cond.selects RX10 yX10_handsOf yX10_handsOf, Cond.code yX10_handsOf cX10_handsOf 2 (some .int), Cond.methodLink RX10 224 yX10_of, Cond.instanceMethod yX10_of, Cond.selects RX10 yX10_of yX10_of, Cond.code yX10_of cX10_of 2 (some .int), Cond.fieldLink RX10 26 "ClapBankModel" "theatres" "[I", Cond.fieldLink RX10 221 "ClapBankModel" "theatre" "I", Cond.methodLink RX10 395 yX10_heardOf, Cond.instanceMethod yX10_heardOf, Cond.selects RX10 yX10_heardOf yX10_heardOf]
def wsX10_goBack_r2 : List Cond := [Cond.code yX10_heardOf cX10_heardOf 2 (some .int), Cond.fieldLink RX10 32 "ClapBankModel" "darks" "[I", Cond.fieldLink RX10 386 "ClapBankModel" "dark" "I", Cond.methodLink RX10 398 yX10_states, Cond.instanceMethod yX10_states, Cond.selects RX10 yX10_states yX10_states, Cond.code yX10_states cX10_states 3 (some .int), Cond.methodLink RX10 410 yX10_after, Cond.instanceMethod yX10_after, Cond.selects RX10 yX10_after yX10_after, Cond.code yX10_after cX10_after 5 (some .int), Cond.fieldLink RX10 73 "ClapBankModel" "unit" "[I", Cond.methodLink RX10 170 yX10_lesser, Cond.static yX10_lesser, Cond.code yX10_lesser cX10_lesser 2 (some .int)]
def wsX10_goBack : List Cond := .code yX10_goBack cX10_goBack 6 none :: ((wsX10_goBack_r1 ++ wsX10_goBack_r2) ++ wsX100)
def wsX10_findDark_r1 : List Cond := [Cond.fieldLink RX10 73 "ClapBankModel" "unit" "[I", Cond.fieldLink RX10 389 "ClapBankModel" "minutes" "I", Cond.fieldLink RX10 66 "ClapBankModel" "ahead" "[J", Cond.fieldLink RX10 70 "ClapBankModel" "behind" "[J", Cond.methodLink RX10 398 yX10_states, Cond.instanceMethod yX10_states, Cond.selects RX10 yX10_states yX10_states, Cond.initialized RX10, Cond.code yX10_states cX10_states 3 (some .int), Cond.fieldLink RX10 228 "ClapBankModel" "palms" "I", Cond.methodLink RX10 401 yX10_goOn, Cond.instanceMethod yX10_goOn, Cond.selects RX10 yX10_goOn yX10_goOn, Cond.code yX10_goOn cX10_goOn 6 none, Cond.methodLink RX10 407 yX10_halvesOf, Cond.instanceMethod yX10_halvesOf, Cond.selects RX10 yX10_halvesOf yX10_halvesOf, Cond.code yX10_halvesOf cX10_halvesOf 4 (some .int), Cond.methodLink RX10 84 yX10_has, Cond.static yX10_has, Cond.code yX10_has cX10_has 2 (some .boolean), Cond.methodLink RX10 288 yX10_handsOf, Cond.instanceMethod yX10_handsOf, Cond.selects RX10 yX10_handsOf yX10_handsOf]
def wsX10_findDark_r2 : List Cond := [Cond.code yX10_handsOf cX10_handsOf 2 (some .int), Cond.methodLink RX10 224 yX10_of, Cond.instanceMethod yX10_of, Cond.selects RX10 yX10_of yX10_of, Cond.code yX10_of cX10_of 2 (some .int), Cond.fieldLink RX10 26 "ClapBankModel" "theatres" "[I", Cond.fieldLink RX10 221 "ClapBankModel" "theatre" "I", Cond.methodLink RX10 395 yX10_heardOf, Cond.instanceMethod yX10_heardOf, Cond.selects RX10 yX10_heardOf yX10_heardOf, Cond.code yX10_heardOf cX10_heardOf 2 (some .int), Cond.fieldLink RX10 32 "ClapBankModel" "darks" "[I", Cond.fieldLink RX10 386 "ClapBankModel" "dark" "I", Cond.methodLink RX10 410 yX10_after, Cond.instanceMethod yX10_after, Cond.selects RX10 yX10_after yX10_after, Cond.code yX10_after cX10_after 5 (some .int), Cond.methodLink RX10 170 yX10_lesser, Cond.static yX10_lesser, Cond.code yX10_lesser cX10_lesser 2 (some .int), Cond.methodLink RX10 404 yX10_goBack, Cond.instanceMethod yX10_goBack, Cond.selects RX10 yX10_goBack yX10_goBack, Cond.code yX10_goBack cX10_goBack 6 none]
def wsX10_findDark : List Cond := .code yX10_findDark cX10_findDark 3 none :: ((wsX10_findDark_r1 ++ wsX10_findDark_r2) ++ wsX100)
def wsX10_ways_r1 : List Cond := [Cond.fieldLink RX10 80 "ClapBankModel" "code" "I", Cond.constantLong RX10 413 (-1), Cond.fieldLink RX10 70 "ClapBankModel" "behind" "[J", Cond.methodLink RX10 392 yX10_hasDark, Cond.instanceMethod yX10_hasDark, Cond.selects RX10 yX10_hasDark yX10_hasDark, Cond.initialized RX10, Cond.code yX10_hasDark cX10_hasDark 2 (some .boolean), Cond.fieldLink RX10 386 "ClapBankModel" "dark" "I", Cond.fieldLink RX10 32 "ClapBankModel" "darks" "[I", Cond.fieldLink RX10 389 "ClapBankModel" "minutes" "I", Cond.methodLink RX10 211 yX10_is, Cond.instanceMethod yX10_is, Cond.selects RX10 yX10_is yX10_is, Cond.code yX10_is cX10_is 3 (some .boolean), Cond.fieldLink RX10 23 "ClapBankModel" "many" "[I", Cond.methodLink RX10 92 yX10_in, Cond.static yX10_in, Cond.code yX10_in cX10_in 3 (some .boolean), Cond.methodLink RX10 237 yX10_hand, Cond.instanceMethod yX10_hand, Cond.selects RX10 yX10_hand yX10_hand, Cond.code yX10_hand cX10_hand 2 (some .boolean), Cond.fieldLink RX10 221 "ClapBankModel" "theatre" "I"]
def wsX10_ways_r2 : List Cond := [Cond.fieldLink RX10 228 "ClapBankModel" "palms" "I", Cond.fieldLink RX10 231 "ClapBankModel" "actors" "I", Cond.fieldLink RX10 234 "ClapBankModel" "rate" "I", Cond.methodLink RX10 224 yX10_of, Cond.instanceMethod yX10_of, Cond.selects RX10 yX10_of yX10_of, Cond.code yX10_of cX10_of 2 (some .int), Cond.fieldLink RX10 26 "ClapBankModel" "theatres" "[I", Cond.methodLink RX10 415 yX10_findDark, Cond.instanceMethod yX10_findDark, Cond.selects RX10 yX10_findDark yX10_findDark, Cond.code yX10_findDark cX10_findDark 3 none, Cond.fieldLink RX10 73 "ClapBankModel" "unit" "[I", Cond.fieldLink RX10 66 "ClapBankModel" "ahead" "[J", Cond.methodLink RX10 398 yX10_states, Cond.instanceMethod yX10_states, Cond.selects RX10 yX10_states yX10_states, Cond.code yX10_states cX10_states 3 (some .int), Cond.methodLink RX10 401 yX10_goOn, Cond.instanceMethod yX10_goOn, Cond.selects RX10 yX10_goOn yX10_goOn, Cond.code yX10_goOn cX10_goOn 6 none, Cond.methodLink RX10 407 yX10_halvesOf, Cond.instanceMethod yX10_halvesOf]
def wsX10_ways_r3 : List Cond := [Cond.selects RX10 yX10_halvesOf yX10_halvesOf, Cond.code yX10_halvesOf cX10_halvesOf 4 (some .int), Cond.methodLink RX10 84 yX10_has, Cond.static yX10_has, Cond.code yX10_has cX10_has 2 (some .boolean), Cond.methodLink RX10 288 yX10_handsOf, Cond.instanceMethod yX10_handsOf, Cond.selects RX10 yX10_handsOf yX10_handsOf, Cond.code yX10_handsOf cX10_handsOf 2 (some .int), Cond.methodLink RX10 395 yX10_heardOf, Cond.instanceMethod yX10_heardOf, Cond.selects RX10 yX10_heardOf yX10_heardOf, Cond.code yX10_heardOf cX10_heardOf 2 (some .int), Cond.methodLink RX10 410 yX10_after, Cond.instanceMethod yX10_after, Cond.selects RX10 yX10_after yX10_after, Cond.code yX10_after cX10_after 5 (some .int), Cond.methodLink RX10 170 yX10_lesser, Cond.static yX10_lesser, Cond.code yX10_lesser cX10_lesser 2 (some .int), Cond.methodLink RX10 404 yX10_goBack, Cond.instanceMethod yX10_goBack, Cond.selects RX10 yX10_goBack yX10_goBack, Cond.code yX10_goBack cX10_goBack 6 none]
def wsX10_ways : List Cond := .code yX10_ways cX10_ways 3 (some .long) :: ((wsX10_ways_r1 ++ (wsX10_ways_r2 ++ wsX10_ways_r3)) ++ wsX100)
def wsX10_mayBe_r1 : List Cond := [Cond.fieldLink RX10 66 "ClapBankModel" "ahead" "[J", Cond.fieldLink RX10 70 "ClapBankModel" "behind" "[J", Cond.methodLink RX10 407 yX10_halvesOf, Cond.instanceMethod yX10_halvesOf, Cond.selects RX10 yX10_halvesOf yX10_halvesOf, Cond.initialized RX10, Cond.code yX10_halvesOf cX10_halvesOf 4 (some .int), Cond.fieldLink RX10 228 "ClapBankModel" "palms" "I", Cond.methodLink RX10 84 yX10_has, Cond.static yX10_has, Cond.code yX10_has cX10_has 2 (some .boolean), Cond.methodLink RX10 288 yX10_handsOf, Cond.instanceMethod yX10_handsOf, Cond.selects RX10 yX10_handsOf yX10_handsOf, Cond.code yX10_handsOf cX10_handsOf 2 (some .int), Cond.methodLink RX10 224 yX10_of, Cond.instanceMethod yX10_of, Cond.selects RX10 yX10_of yX10_of, Cond.code yX10_of cX10_of 2 (some .int), Cond.fieldLink RX10 26 "ClapBankModel" "theatres" "[I", Cond.fieldLink RX10 221 "ClapBankModel" "theatre" "I", Cond.methodLink RX10 395 yX10_heardOf, Cond.instanceMethod yX10_heardOf, Cond.selects RX10 yX10_heardOf yX10_heardOf]
def wsX10_mayBe_r2 : List Cond := [Cond.code yX10_heardOf cX10_heardOf 2 (some .int), Cond.fieldLink RX10 32 "ClapBankModel" "darks" "[I", Cond.fieldLink RX10 386 "ClapBankModel" "dark" "I", Cond.methodLink RX10 398 yX10_states, Cond.instanceMethod yX10_states, Cond.selects RX10 yX10_states yX10_states, Cond.code yX10_states cX10_states 3 (some .int), Cond.methodLink RX10 410 yX10_after, Cond.instanceMethod yX10_after, Cond.selects RX10 yX10_after yX10_after, Cond.code yX10_after cX10_after 5 (some .int), Cond.fieldLink RX10 73 "ClapBankModel" "unit" "[I", Cond.methodLink RX10 170 yX10_lesser, Cond.static yX10_lesser, Cond.code yX10_lesser cX10_lesser 2 (some .int)]
def wsX10_mayBe : List Cond := .code yX10_mayBe cX10_mayBe 5 (some .boolean) :: ((wsX10_mayBe_r1 ++ wsX10_mayBe_r2) ++ wsX100)
def wsX10_whose_r1 : List Cond := [Cond.fieldLink RX10 80 "ClapBankModel" "code" "I", Cond.fieldLink RX10 389 "ClapBankModel" "minutes" "I", Cond.fieldLink RX10 228 "ClapBankModel" "palms" "I", Cond.fieldLink RX10 70 "ClapBankModel" "behind" "[J", Cond.methodLink RX10 392 yX10_hasDark, Cond.instanceMethod yX10_hasDark, Cond.selects RX10 yX10_hasDark yX10_hasDark, Cond.initialized RX10, Cond.code yX10_hasDark cX10_hasDark 2 (some .boolean), Cond.fieldLink RX10 386 "ClapBankModel" "dark" "I", Cond.fieldLink RX10 32 "ClapBankModel" "darks" "[I", Cond.methodLink RX10 211 yX10_is, Cond.instanceMethod yX10_is, Cond.selects RX10 yX10_is yX10_is, Cond.code yX10_is cX10_is 3 (some .boolean), Cond.fieldLink RX10 23 "ClapBankModel" "many" "[I", Cond.methodLink RX10 92 yX10_in, Cond.static yX10_in, Cond.code yX10_in cX10_in 3 (some .boolean), Cond.methodLink RX10 237 yX10_hand, Cond.instanceMethod yX10_hand, Cond.selects RX10 yX10_hand yX10_hand, Cond.code yX10_hand cX10_hand 2 (some .boolean), Cond.fieldLink RX10 221 "ClapBankModel" "theatre" "I"]
def wsX10_whose_r2 : List Cond := [Cond.fieldLink RX10 231 "ClapBankModel" "actors" "I", Cond.fieldLink RX10 234 "ClapBankModel" "rate" "I", Cond.methodLink RX10 224 yX10_of, Cond.instanceMethod yX10_of, Cond.selects RX10 yX10_of yX10_of, Cond.code yX10_of cX10_of 2 (some .int), Cond.fieldLink RX10 26 "ClapBankModel" "theatres" "[I", Cond.methodLink RX10 415 yX10_findDark, Cond.instanceMethod yX10_findDark, Cond.selects RX10 yX10_findDark yX10_findDark, Cond.code yX10_findDark cX10_findDark 3 none, Cond.fieldLink RX10 73 "ClapBankModel" "unit" "[I", Cond.fieldLink RX10 66 "ClapBankModel" "ahead" "[J", Cond.methodLink RX10 398 yX10_states, Cond.instanceMethod yX10_states, Cond.selects RX10 yX10_states yX10_states, Cond.code yX10_states cX10_states 3 (some .int), Cond.methodLink RX10 401 yX10_goOn, Cond.instanceMethod yX10_goOn, Cond.selects RX10 yX10_goOn yX10_goOn, Cond.code yX10_goOn cX10_goOn 6 none, Cond.methodLink RX10 407 yX10_halvesOf, Cond.instanceMethod yX10_halvesOf, Cond.selects RX10 yX10_halvesOf yX10_halvesOf]
def wsX10_whose_r3 : List Cond := [Cond.code yX10_halvesOf cX10_halvesOf 4 (some .int), Cond.methodLink RX10 84 yX10_has, Cond.static yX10_has, Cond.code yX10_has cX10_has 2 (some .boolean), Cond.methodLink RX10 288 yX10_handsOf, Cond.instanceMethod yX10_handsOf, Cond.selects RX10 yX10_handsOf yX10_handsOf, Cond.code yX10_handsOf cX10_handsOf 2 (some .int), Cond.methodLink RX10 395 yX10_heardOf, Cond.instanceMethod yX10_heardOf, Cond.selects RX10 yX10_heardOf yX10_heardOf, Cond.code yX10_heardOf cX10_heardOf 2 (some .int), Cond.methodLink RX10 410 yX10_after, Cond.instanceMethod yX10_after, Cond.selects RX10 yX10_after yX10_after, Cond.code yX10_after cX10_after 5 (some .int), Cond.methodLink RX10 170 yX10_lesser, Cond.static yX10_lesser, Cond.code yX10_lesser cX10_lesser 2 (some .int), Cond.methodLink RX10 404 yX10_goBack, Cond.instanceMethod yX10_goBack, Cond.selects RX10 yX10_goBack yX10_goBack, Cond.code yX10_goBack cX10_goBack 6 none, Cond.methodLink RX10 418 yX10_mayBe]
def wsX10_whose_r4 : List Cond := [Cond.instanceMethod yX10_mayBe, Cond.selects RX10 yX10_mayBe yX10_mayBe, Cond.code yX10_mayBe cX10_mayBe 5 (some .boolean)]
def wsX10_whose : List Cond := .code yX10_whose cX10_whose 8 (some .int) :: ((wsX10_whose_r1 ++ (wsX10_whose_r2 ++ (wsX10_whose_r3 ++ wsX10_whose_r4))) ++ wsX100)
def wsX10_draw : List Cond := .code yX10_draw cX10_draw 2 (some .int) :: ([.fieldLink RX10 421 "ClapBankModel" "seed" "I", .constant RX10 424 (1103515245)] ++ wsX100)
def wsX10_livingOne : List Cond := .code yX10_livingOne cX10_livingOne 4 (some .int) :: ([.fieldLink RX10 267 "ClapBankModel" "lives" "I", .methodLink RX10 84 yX10_has, .static yX10_has, .initialized RX10, .code yX10_has cX10_has 2 (some .boolean)] ++ wsX100)
def wsX10_drawn_r1 : List Cond := [Cond.fieldLink RX10 80 "ClapBankModel" "code" "I", Cond.fieldLink RX10 231 "ClapBankModel" "actors" "I", Cond.fieldLink RX10 421 "ClapBankModel" "seed" "I", Cond.fieldLink RX10 228 "ClapBankModel" "palms" "I", Cond.fieldLink RX10 267 "ClapBankModel" "lives" "I", Cond.fieldLink RX10 258 "ClapBankModel" "chest" "I", Cond.fieldLink RX10 50 "ClapBankModel" "saved" "[I", Cond.methodLink RX10 92 yX10_in, Cond.static yX10_in, Cond.initialized RX10, Cond.code yX10_in cX10_in 3 (some .boolean), Cond.methodLink RX10 237 yX10_hand, Cond.instanceMethod yX10_hand, Cond.selects RX10 yX10_hand yX10_hand, Cond.code yX10_hand cX10_hand 2 (some .boolean), Cond.fieldLink RX10 221 "ClapBankModel" "theatre" "I", Cond.fieldLink RX10 234 "ClapBankModel" "rate" "I", Cond.methodLink RX10 211 yX10_is, Cond.instanceMethod yX10_is, Cond.selects RX10 yX10_is yX10_is, Cond.code yX10_is cX10_is 3 (some .boolean), Cond.fieldLink RX10 23 "ClapBankModel" "many" "[I", Cond.methodLink RX10 224 yX10_of, Cond.instanceMethod yX10_of]
def wsX10_drawn_r2 : List Cond := [Cond.selects RX10 yX10_of yX10_of, Cond.code yX10_of cX10_of 2 (some .int), Cond.fieldLink RX10 26 "ClapBankModel" "theatres" "[I", Cond.methodLink RX10 323 yX10_begin, Cond.instanceMethod yX10_begin, Cond.selects RX10 yX10_begin yX10_begin, Cond.code yX10_begin cX10_begin 2 none, Cond.fieldLink RX10 261 "ClapBankModel" "encores" "I", Cond.fieldLink RX10 264 "ClapBankModel" "nights" "I", Cond.fieldLink RX10 270 "ClapBankModel" "claps" "I", Cond.fieldLink RX10 273 "ClapBankModel" "echoFor" "I", Cond.fieldLink RX10 44 "ClapBankModel" "owes" "[I", Cond.fieldLink RX10 47 "ClapBankModel" "got" "[I", Cond.fieldLink RX10 53 "ClapBankModel" "storms" "[I", Cond.fieldLink RX10 56 "ClapBankModel" "starved" "[I", Cond.methodLink RX10 276 yX10_morning, Cond.instanceMethod yX10_morning, Cond.selects RX10 yX10_morning yX10_morning, Cond.code yX10_morning cX10_morning 2 none, Cond.fieldLink RX10 41 "ClapBankModel" "left" "[I", Cond.fieldLink RX10 279 "ClapBankModel" "hushed" "I", Cond.methodLink RX10 368 yX10_ones, Cond.static yX10_ones, Cond.code yX10_ones cX10_ones 3 (some .int)]
def wsX10_drawn_r3 : List Cond := [Cond.methodLink RX10 84 yX10_has, Cond.static yX10_has, Cond.code yX10_has cX10_has 2 (some .boolean), Cond.methodLink RX10 425 yX10_draw, Cond.instanceMethod yX10_draw, Cond.selects RX10 yX10_draw yX10_draw, Cond.code yX10_draw cX10_draw 2 (some .int), Cond.constant RX10 424 (1103515245), Cond.methodLink RX10 428 yX10_livingOne, Cond.instanceMethod yX10_livingOne, Cond.selects RX10 yX10_livingOne yX10_livingOne, Cond.code yX10_livingOne cX10_livingOne 4 (some .int), Cond.methodLink RX10 288 yX10_handsOf, Cond.instanceMethod yX10_handsOf, Cond.selects RX10 yX10_handsOf yX10_handsOf, Cond.code yX10_handsOf cX10_handsOf 2 (some .int), Cond.methodLink RX10 291 yX10_gets, Cond.instanceMethod yX10_gets, Cond.selects RX10 yX10_gets yX10_gets, Cond.code yX10_gets cX10_gets 3 none, Cond.methodLink RX10 317 yX10_night, Cond.instanceMethod yX10_night, Cond.selects RX10 yX10_night yX10_night, Cond.code yX10_night cX10_night 2 none]
def wsX10_drawn_r4 : List Cond := [Cond.constantLong RX10 300 (100), Cond.fieldLink RX10 302 "ClapBankModel" "capped" "Z", Cond.constant RX10 306 (1000000), Cond.methodLink RX10 297 yX10_eatsNow, Cond.instanceMethod yX10_eatsNow, Cond.selects RX10 yX10_eatsNow yX10_eatsNow, Cond.code yX10_eatsNow cX10_eatsNow 3 (some .boolean), Cond.methodLink RX10 294 yX10_eats, Cond.instanceMethod yX10_eats, Cond.selects RX10 yX10_eats yX10_eats, Cond.code yX10_eats cX10_eats 3 (some .int), Cond.methodLink RX10 282 yX10_hungerOf, Cond.instanceMethod yX10_hungerOf, Cond.selects RX10 yX10_hungerOf yX10_hungerOf, Cond.code yX10_hungerOf cX10_hungerOf 2 (some .int), Cond.methodLink RX10 170 yX10_lesser, Cond.static yX10_lesser, Cond.code yX10_lesser cX10_lesser 2 (some .int)]
def wsX10_drawn : List Cond := .code yX10_drawn cX10_drawn 8 (some .int) :: ((wsX10_drawn_r1 ++ (wsX10_drawn_r2 ++ (wsX10_drawn_r3 ++ wsX10_drawn_r4))) ++ wsX100)
set_option maxRecDepth 20000 in
theorem ggX10_hasDark_X10_is : GoodIn wsX10_hasDark wsX10_is := goodIn_r _ [8, 9, 10, 11, 7, 12, 13, 14, 15, 16, 17, 18, 19, 20, 21, 22, 23, 24, 25, 26, 27, 28, 29, 30, 31, 32, 33, 34, 35, 36, 37, 38, 39, 40, 41, 42, 43, 44, 45, 46, 47, 48, 49, 50, 51, 52, 53, 54, 55, 56, 57, 58, 59, 60, 61, 62] (by decide +kernel) (by decide +kernel)
set_option maxRecDepth 20000 in
theorem gX10_hasDark_X10_is : GoodIn wsX10_hasDark (wsV RX10 211 RX10 yX10_is wsX10_is) := goodIn_app (goodIn_of _ (by decide +kernel)) ggX10_hasDark_X10_is
theorem dX10_hasDark_0 : decode cX10_hasDark 0 = .ok (.aload_n 0, 1) := by decide +kernel
theorem dX10_hasDark_1 : decode cX10_hasDark 1 = .ok (.iload_n 1, 1) := by decide +kernel
theorem dX10_hasDark_2 : decode cX10_hasDark 2 = .ok (.putfield 386, 3) := by decide +kernel
theorem dX10_hasDark_5 : decode cX10_hasDark 5 = .ok (.aload_n 0, 1) := by decide +kernel
theorem dX10_hasDark_6 : decode cX10_hasDark 6 = .ok (.aload_n 0, 1) := by decide +kernel
theorem dX10_hasDark_7 : decode cX10_hasDark 7 = .ok (.iconst 2, 1) := by decide +kernel
theorem dX10_hasDark_8 : decode cX10_hasDark 8 = .ok (.iload_n 1, 1) := by decide +kernel
theorem dX10_hasDark_9 : decode cX10_hasDark 9 = .ok (.invokevirtual 211, 3) := by decide +kernel
theorem dX10_hasDark_12 : decode cX10_hasDark 12 = .ok (.ifCond .eq 15, 3) := by decide +kernel
theorem dX10_hasDark_15 : decode cX10_hasDark 15 = .ok (.aload_n 0, 1) := by decide +kernel
theorem dX10_hasDark_16 : decode cX10_hasDark 16 = .ok (.getfield 32, 3) := by decide +kernel
theorem dX10_hasDark_19 : decode cX10_hasDark 19 = .ok (.bipush 7, 2) := by decide +kernel
theorem dX10_hasDark_21 : decode cX10_hasDark 21 = .ok (.iload_n 1, 1) := by decide +kernel
theorem dX10_hasDark_22 : decode cX10_hasDark 22 = .ok (.imul, 1) := by decide +kernel
theorem dX10_hasDark_23 : decode cX10_hasDark 23 = .ok (.iaload, 1) := by decide +kernel
theorem dX10_hasDark_24 : decode cX10_hasDark 24 = .ok (.goto 4, 3) := by decide +kernel
theorem dX10_hasDark_27 : decode cX10_hasDark 27 = .ok (.iconst 0, 1) := by decide +kernel
theorem dX10_hasDark_28 : decode cX10_hasDark 28 = .ok (.putfield 389, 3) := by decide +kernel
theorem dX10_hasDark_31 : decode cX10_hasDark 31 = .ok (.aload_n 0, 1) := by decide +kernel
theorem dX10_hasDark_32 : decode cX10_hasDark 32 = .ok (.iconst 2, 1) := by decide +kernel
theorem dX10_hasDark_33 : decode cX10_hasDark 33 = .ok (.iload_n 1, 1) := by decide +kernel
theorem dX10_hasDark_34 : decode cX10_hasDark 34 = .ok (.invokevirtual 211, 3) := by decide +kernel
theorem dX10_hasDark_37 : decode cX10_hasDark 37 = .ok (.ireturn, 1) := by decide +kernel
theorem dX10_heardOf_0 : decode cX10_heardOf 0 = .ok (.aload_n 0, 1) := by decide +kernel
theorem dX10_heardOf_1 : decode cX10_heardOf 1 = .ok (.getfield 32, 3) := by decide +kernel
theorem dX10_heardOf_4 : decode cX10_heardOf 4 = .ok (.bipush 7, 2) := by decide +kernel
theorem dX10_heardOf_6 : decode cX10_heardOf 6 = .ok (.aload_n 0, 1) := by decide +kernel
theorem dX10_heardOf_7 : decode cX10_heardOf 7 = .ok (.getfield 386, 3) := by decide +kernel
theorem dX10_heardOf_10 : decode cX10_heardOf 10 = .ok (.imul, 1) := by decide +kernel
theorem dX10_heardOf_11 : decode cX10_heardOf 11 = .ok (.iconst 1, 1) := by decide +kernel
theorem dX10_heardOf_12 : decode cX10_heardOf 12 = .ok (.iadd, 1) := by decide +kernel
theorem dX10_heardOf_13 : decode cX10_heardOf 13 = .ok (.iload_n 1, 1) := by decide +kernel
theorem dX10_heardOf_14 : decode cX10_heardOf 14 = .ok (.iadd, 1) := by decide +kernel
theorem dX10_heardOf_15 : decode cX10_heardOf 15 = .ok (.iaload, 1) := by decide +kernel
theorem dX10_heardOf_16 : decode cX10_heardOf 16 = .ok (.ireturn, 1) := by decide +kernel
set_option maxRecDepth 20000 in
theorem ggX10_heard_X10_hasDark : GoodIn wsX10_heard wsX10_hasDark := goodIn_r _ [7, 8, 9, 2, 10, 11, 12, 6, 13, 14, 15, 16, 17, 22, 23, 24, 25, 26, 27, 28, 29, 30, 31, 32, 33, 34, 35, 36, 37, 38, 39, 40, 41, 42, 43, 44, 45, 46, 47, 48, 49, 50, 51, 52, 53, 54, 55, 56, 57, 58, 59, 60, 61, 62, 63, 64, 65, 66, 67, 68, 69, 70, 71] (by decide +kernel) (by decide +kernel)
set_option maxRecDepth 20000 in
theorem gX10_heard_X10_hasDark : GoodIn wsX10_heard (wsV RX10 392 RX10 yX10_hasDark wsX10_hasDark) := goodIn_app (goodIn_of _ (by decide +kernel)) ggX10_heard_X10_hasDark
set_option maxRecDepth 20000 in
theorem ggX10_heard_X10_in : GoodIn wsX10_heard wsX10_in := goodIn_r _ [17] (by decide +kernel) (by decide +kernel)
set_option maxRecDepth 20000 in
theorem gX10_heard_X10_in : GoodIn wsX10_heard (va_wsS RX10 92 yX10_in wsX10_in) := goodIn_app (goodIn_of _ (by decide +kernel)) ggX10_heard_X10_in
set_option maxRecDepth 20000 in
theorem ggX10_heard_X10_heardOf : GoodIn wsX10_heard wsX10_heardOf := goodIn_r _ [21, 9, 8, 22, 23, 24, 25, 26, 27, 28, 29, 30, 31, 32, 33, 34, 35, 36, 37, 38, 39, 40, 41, 42, 43, 44, 45, 46, 47, 48, 49, 50, 51, 52, 53, 54, 55, 56, 57, 58, 59, 60, 61, 62, 63, 64, 65, 66, 67, 68, 69, 70, 71] (by decide +kernel) (by decide +kernel)
set_option maxRecDepth 20000 in
theorem gX10_heard_X10_heardOf : GoodIn wsX10_heard (wsV RX10 395 RX10 yX10_heardOf wsX10_heardOf) := goodIn_app (goodIn_of _ (by decide +kernel)) ggX10_heard_X10_heardOf
theorem dX10_heard_0 : decode cX10_heard 0 = .ok (.aload_n 0, 1) := by decide +kernel
theorem dX10_heard_1 : decode cX10_heard 1 = .ok (.iconst 0, 1) := by decide +kernel
theorem dX10_heard_2 : decode cX10_heard 2 = .ok (.putfield 80, 3) := by decide +kernel
theorem dX10_heard_5 : decode cX10_heard 5 = .ok (.aload_n 0, 1) := by decide +kernel
theorem dX10_heard_6 : decode cX10_heard 6 = .ok (.iload_n 1, 1) := by decide +kernel
theorem dX10_heard_7 : decode cX10_heard 7 = .ok (.invokevirtual 392, 3) := by decide +kernel
theorem dX10_heard_10 : decode cX10_heard 10 = .ok (.ifCond .ne 6, 3) := by decide +kernel
theorem dX10_heard_13 : decode cX10_heard 13 = .ok (.bipush (-2), 2) := by decide +kernel
theorem dX10_heard_15 : decode cX10_heard 15 = .ok (.ireturn, 1) := by decide +kernel
theorem dX10_heard_16 : decode cX10_heard 16 = .ok (.iload_n 2, 1) := by decide +kernel
theorem dX10_heard_17 : decode cX10_heard 17 = .ok (.iconst (-1), 1) := by decide +kernel
theorem dX10_heard_18 : decode cX10_heard 18 = .ok (.if_icmp .ne 10, 3) := by decide +kernel
theorem dX10_heard_21 : decode cX10_heard 21 = .ok (.aload_n 0, 1) := by decide +kernel
theorem dX10_heard_22 : decode cX10_heard 22 = .ok (.getfield 389, 3) := by decide +kernel
theorem dX10_heard_25 : decode cX10_heard 25 = .ok (.goto 27, 3) := by decide +kernel
theorem dX10_heard_28 : decode cX10_heard 28 = .ok (.iload_n 2, 1) := by decide +kernel
theorem dX10_heard_29 : decode cX10_heard 29 = .ok (.iconst 0, 1) := by decide +kernel
theorem dX10_heard_30 : decode cX10_heard 30 = .ok (.aload_n 0, 1) := by decide +kernel
theorem dX10_heard_31 : decode cX10_heard 31 = .ok (.getfield 389, 3) := by decide +kernel
theorem dX10_heard_34 : decode cX10_heard 34 = .ok (.iconst 1, 1) := by decide +kernel
theorem dX10_heard_35 : decode cX10_heard 35 = .ok (.isub, 1) := by decide +kernel
theorem dX10_heard_36 : decode cX10_heard 36 = .ok (.invokestatic 92, 3) := by decide +kernel
theorem dX10_heard_39 : decode cX10_heard 39 = .ok (.ifCond .eq 11, 3) := by decide +kernel
theorem dX10_heard_42 : decode cX10_heard 42 = .ok (.aload_n 0, 1) := by decide +kernel
theorem dX10_heard_43 : decode cX10_heard 43 = .ok (.iload_n 2, 1) := by decide +kernel
theorem dX10_heard_44 : decode cX10_heard 44 = .ok (.invokevirtual 395, 3) := by decide +kernel
theorem dX10_heard_47 : decode cX10_heard 47 = .ok (.goto 5, 3) := by decide +kernel
theorem dX10_heard_50 : decode cX10_heard 50 = .ok (.bipush (-2), 2) := by decide +kernel
theorem dX10_heard_52 : decode cX10_heard 52 = .ok (.ireturn, 1) := by decide +kernel
set_option maxRecDepth 20000 in
theorem ggX10_after_X10_has : GoodIn wsX10_after wsX10_has := goodIn_r _ [6] (by decide +kernel) (by decide +kernel)
set_option maxRecDepth 20000 in
theorem gX10_after_X10_has : GoodIn wsX10_after (va_wsS RX10 84 yX10_has wsX10_has) := goodIn_app (goodIn_of _ (by decide +kernel)) ggX10_after_X10_has
set_option maxRecDepth 20000 in
theorem ggX10_after_X10_of : GoodIn wsX10_after wsX10_of := goodIn_r _ [10, 11, 12, 16, 17, 18, 19, 20, 21, 22, 23, 24, 25, 26, 27, 28, 29, 30, 31, 32, 33, 34, 35, 36, 37, 38, 39, 40, 41, 42, 43, 44, 45, 46, 47, 48, 49, 50, 51, 52, 53, 54, 55, 56, 57, 58, 59, 60, 61, 62, 63, 64, 65] (by decide +kernel) (by decide +kernel)
set_option maxRecDepth 20000 in
theorem gX10_after_X10_of : GoodIn wsX10_after (wsV RX10 224 RX10 yX10_of wsX10_of) := goodIn_app (goodIn_of _ (by decide +kernel)) ggX10_after_X10_of
set_option maxRecDepth 20000 in
theorem ggX10_after_X10_lesser : GoodIn wsX10_after wsX10_lesser := goodIn_r _ [15] (by decide +kernel) (by decide +kernel)
set_option maxRecDepth 20000 in
theorem gX10_after_X10_lesser : GoodIn wsX10_after (va_wsS RX10 170 yX10_lesser wsX10_lesser) := goodIn_app (goodIn_of _ (by decide +kernel)) ggX10_after_X10_lesser
theorem dX10_after_0 : decode cX10_after 0 = .ok (.iload_n 1, 1) := by decide +kernel
theorem dX10_after_1 : decode cX10_after 1 = .ok (.istore_n 3, 1) := by decide +kernel
theorem dX10_after_2 : decode cX10_after 2 = .ok (.iconst 0, 1) := by decide +kernel
theorem dX10_after_3 : decode cX10_after 3 = .ok (.istore 4, 2) := by decide +kernel
theorem dX10_after_5 : decode cX10_after 5 = .ok (.iload 4, 2) := by decide +kernel
theorem dX10_after_7 : decode cX10_after 7 = .ok (.aload_n 0, 1) := by decide +kernel
theorem dX10_after_8 : decode cX10_after 8 = .ok (.getfield 228, 3) := by decide +kernel
theorem dX10_after_11 : decode cX10_after 11 = .ok (.if_icmp .ge 61, 3) := by decide +kernel
theorem dX10_after_14 : decode cX10_after 14 = .ok (.iload_n 2, 1) := by decide +kernel
theorem dX10_after_15 : decode cX10_after 15 = .ok (.iload 4, 2) := by decide +kernel
theorem dX10_after_17 : decode cX10_after 17 = .ok (.invokestatic 84, 3) := by decide +kernel
theorem dX10_after_20 : decode cX10_after 20 = .ok (.ifCond .eq 46, 3) := by decide +kernel
theorem dX10_after_23 : decode cX10_after 23 = .ok (.iload_n 1, 1) := by decide +kernel
theorem dX10_after_24 : decode cX10_after 24 = .ok (.aload_n 0, 1) := by decide +kernel
theorem dX10_after_25 : decode cX10_after 25 = .ok (.getfield 73, 3) := by decide +kernel
theorem dX10_after_28 : decode cX10_after 28 = .ok (.iload 4, 2) := by decide +kernel
theorem dX10_after_30 : decode cX10_after 30 = .ok (.iaload, 1) := by decide +kernel
theorem dX10_after_31 : decode cX10_after 31 = .ok (.idiv, 1) := by decide +kernel
theorem dX10_after_32 : decode cX10_after 32 = .ok (.bipush 7, 2) := by decide +kernel
theorem dX10_after_34 : decode cX10_after 34 = .ok (.irem, 1) := by decide +kernel
theorem dX10_after_35 : decode cX10_after 35 = .ok (.bipush 6, 2) := by decide +kernel
theorem dX10_after_37 : decode cX10_after 37 = .ok (.aload_n 0, 1) := by decide +kernel
theorem dX10_after_38 : decode cX10_after 38 = .ok (.bipush 6, 2) := by decide +kernel
theorem dX10_after_40 : decode cX10_after 40 = .ok (.iconst 2, 1) := by decide +kernel
theorem dX10_after_41 : decode cX10_after 41 = .ok (.iload 4, 2) := by decide +kernel
theorem dX10_after_43 : decode cX10_after 43 = .ok (.imul, 1) := by decide +kernel
theorem dX10_after_44 : decode cX10_after 44 = .ok (.iadd, 1) := by decide +kernel
theorem dX10_after_45 : decode cX10_after 45 = .ok (.invokevirtual 224, 3) := by decide +kernel
theorem dX10_after_48 : decode cX10_after 48 = .ok (.invokestatic 170, 3) := by decide +kernel
theorem dX10_after_51 : decode cX10_after 51 = .ok (.if_icmp .lt 5, 3) := by decide +kernel
theorem dX10_after_54 : decode cX10_after 54 = .ok (.iconst (-1), 1) := by decide +kernel
theorem dX10_after_55 : decode cX10_after 55 = .ok (.ireturn, 1) := by decide +kernel
theorem dX10_after_56 : decode cX10_after 56 = .ok (.iload_n 3, 1) := by decide +kernel
theorem dX10_after_57 : decode cX10_after 57 = .ok (.aload_n 0, 1) := by decide +kernel
theorem dX10_after_58 : decode cX10_after 58 = .ok (.getfield 73, 3) := by decide +kernel
theorem dX10_after_61 : decode cX10_after 61 = .ok (.iload 4, 2) := by decide +kernel
theorem dX10_after_63 : decode cX10_after 63 = .ok (.iaload, 1) := by decide +kernel
theorem dX10_after_64 : decode cX10_after 64 = .ok (.iadd, 1) := by decide +kernel
theorem dX10_after_65 : decode cX10_after 65 = .ok (.istore_n 3, 1) := by decide +kernel
theorem dX10_after_66 : decode cX10_after 66 = .ok (.iinc 4 1, 3) := by decide +kernel
theorem dX10_after_69 : decode cX10_after 69 = .ok (.goto (-64), 3) := by decide +kernel
theorem dX10_after_72 : decode cX10_after 72 = .ok (.iload_n 3, 1) := by decide +kernel
theorem dX10_after_73 : decode cX10_after 73 = .ok (.ireturn, 1) := by decide +kernel
set_option maxRecDepth 20000 in
theorem ggX10_halvesOf_X10_has : GoodIn wsX10_halvesOf wsX10_has := goodIn_r _ [5] (by decide +kernel) (by decide +kernel)
set_option maxRecDepth 20000 in
theorem gX10_halvesOf_X10_has : GoodIn wsX10_halvesOf (va_wsS RX10 84 yX10_has wsX10_has) := goodIn_app (goodIn_of _ (by decide +kernel)) ggX10_halvesOf_X10_has
set_option maxRecDepth 20000 in
theorem ggX10_halvesOf_X10_handsOf : GoodIn wsX10_halvesOf wsX10_handsOf := goodIn_r _ [9, 10, 11, 12, 4, 13, 14, 15, 16, 17, 18, 19, 20, 21, 22, 23, 24, 25, 26, 27, 28, 29, 30, 31, 32, 33, 34, 35, 36, 37, 38, 39, 40, 41, 42, 43, 44, 45, 46, 47, 48, 49, 50, 51, 52, 53, 54, 55, 56, 57, 58, 59, 60, 61, 62, 63, 64, 65] (by decide +kernel) (by decide +kernel)
set_option maxRecDepth 20000 in
theorem gX10_halvesOf_X10_handsOf : GoodIn wsX10_halvesOf (wsV RX10 288 RX10 yX10_handsOf wsX10_handsOf) := goodIn_app (goodIn_of _ (by decide +kernel)) ggX10_halvesOf_X10_handsOf
theorem dX10_halvesOf_0 : decode cX10_halvesOf 0 = .ok (.iconst 0, 1) := by decide +kernel
theorem dX10_halvesOf_1 : decode cX10_halvesOf 1 = .ok (.istore_n 2, 1) := by decide +kernel
theorem dX10_halvesOf_2 : decode cX10_halvesOf 2 = .ok (.iconst 0, 1) := by decide +kernel
theorem dX10_halvesOf_3 : decode cX10_halvesOf 3 = .ok (.istore_n 3, 1) := by decide +kernel
theorem dX10_halvesOf_4 : decode cX10_halvesOf 4 = .ok (.iload_n 3, 1) := by decide +kernel
theorem dX10_halvesOf_5 : decode cX10_halvesOf 5 = .ok (.aload_n 0, 1) := by decide +kernel
theorem dX10_halvesOf_6 : decode cX10_halvesOf 6 = .ok (.getfield 228, 3) := by decide +kernel
theorem dX10_halvesOf_9 : decode cX10_halvesOf 9 = .ok (.if_icmp .ge 29, 3) := by decide +kernel
theorem dX10_halvesOf_12 : decode cX10_halvesOf 12 = .ok (.iload_n 2, 1) := by decide +kernel
theorem dX10_halvesOf_13 : decode cX10_halvesOf 13 = .ok (.iload_n 1, 1) := by decide +kernel
theorem dX10_halvesOf_14 : decode cX10_halvesOf 14 = .ok (.iload_n 3, 1) := by decide +kernel
theorem dX10_halvesOf_15 : decode cX10_halvesOf 15 = .ok (.invokestatic 84, 3) := by decide +kernel
theorem dX10_halvesOf_18 : decode cX10_halvesOf 18 = .ok (.ifCond .eq 11, 3) := by decide +kernel
theorem dX10_halvesOf_21 : decode cX10_halvesOf 21 = .ok (.aload_n 0, 1) := by decide +kernel
theorem dX10_halvesOf_22 : decode cX10_halvesOf 22 = .ok (.iload_n 3, 1) := by decide +kernel
theorem dX10_halvesOf_23 : decode cX10_halvesOf 23 = .ok (.invokevirtual 288, 3) := by decide +kernel
theorem dX10_halvesOf_26 : decode cX10_halvesOf 26 = .ok (.goto 4, 3) := by decide +kernel
theorem dX10_halvesOf_29 : decode cX10_halvesOf 29 = .ok (.iconst 0, 1) := by decide +kernel
theorem dX10_halvesOf_30 : decode cX10_halvesOf 30 = .ok (.iadd, 1) := by decide +kernel
theorem dX10_halvesOf_31 : decode cX10_halvesOf 31 = .ok (.istore_n 2, 1) := by decide +kernel
theorem dX10_halvesOf_32 : decode cX10_halvesOf 32 = .ok (.iinc 3 1, 3) := by decide +kernel
theorem dX10_halvesOf_35 : decode cX10_halvesOf 35 = .ok (.goto (-31), 3) := by decide +kernel
theorem dX10_halvesOf_38 : decode cX10_halvesOf 38 = .ok (.iload_n 2, 1) := by decide +kernel
theorem dX10_halvesOf_39 : decode cX10_halvesOf 39 = .ok (.ireturn, 1) := by decide +kernel
theorem dX10_states_0 : decode cX10_states 0 = .ok (.iconst 1, 1) := by decide +kernel
theorem dX10_states_1 : decode cX10_states 1 = .ok (.istore_n 1, 1) := by decide +kernel
theorem dX10_states_2 : decode cX10_states 2 = .ok (.iconst 0, 1) := by decide +kernel
theorem dX10_states_3 : decode cX10_states 3 = .ok (.istore_n 2, 1) := by decide +kernel
theorem dX10_states_4 : decode cX10_states 4 = .ok (.iload_n 2, 1) := by decide +kernel
theorem dX10_states_5 : decode cX10_states 5 = .ok (.aload_n 0, 1) := by decide +kernel
theorem dX10_states_6 : decode cX10_states 6 = .ok (.getfield 228, 3) := by decide +kernel
theorem dX10_states_9 : decode cX10_states 9 = .ok (.if_icmp .ge 14, 3) := by decide +kernel
theorem dX10_states_12 : decode cX10_states 12 = .ok (.iload_n 1, 1) := by decide +kernel
theorem dX10_states_13 : decode cX10_states 13 = .ok (.bipush 7, 2) := by decide +kernel
theorem dX10_states_15 : decode cX10_states 15 = .ok (.imul, 1) := by decide +kernel
theorem dX10_states_16 : decode cX10_states 16 = .ok (.istore_n 1, 1) := by decide +kernel
theorem dX10_states_17 : decode cX10_states 17 = .ok (.iinc 2 1, 3) := by decide +kernel
theorem dX10_states_20 : decode cX10_states 20 = .ok (.goto (-16), 3) := by decide +kernel
theorem dX10_states_23 : decode cX10_states 23 = .ok (.iload_n 1, 1) := by decide +kernel
theorem dX10_states_24 : decode cX10_states 24 = .ok (.ireturn, 1) := by decide +kernel
set_option maxRecDepth 20000 in
theorem ggX10_findDark_X10_states : GoodIn wsX10_findDark wsX10_states := goodIn_r _ [9, 10, 49, 50, 51, 52, 53, 54, 55, 56, 57, 58, 59, 60, 61, 62, 63, 64, 65, 66, 67, 68, 69, 70, 71, 72, 73, 74, 75, 76, 77, 78, 79, 80, 81, 82, 83, 84, 85, 86, 87, 88, 89, 90, 91, 92, 93, 94, 95, 96, 97, 98] (by decide +kernel) (by decide +kernel)
set_option maxRecDepth 20000 in
theorem gX10_findDark_X10_states : GoodIn wsX10_findDark (wsV RX10 398 RX10 yX10_states wsX10_states) := goodIn_app (goodIn_of _ (by decide +kernel)) ggX10_findDark_X10_states
set_option maxRecDepth 20000 in
theorem ggX10_findDark_X10_goOn : GoodIn wsX10_findDark wsX10_goOn := goodIn_r _ [14, 10, 3, 15, 16, 17, 8, 18, 19, 20, 21, 22, 23, 24, 25, 26, 27, 28, 29, 30, 31, 32, 33, 34, 35, 36, 37, 5, 6, 7, 9, 38, 39, 40, 41, 1, 42, 43, 44, 49, 50, 51, 52, 53, 54, 55, 56, 57, 58, 59, 60, 61, 62, 63, 64, 65, 66, 67, 68, 69, 70, 71, 72, 73, 74, 75, 76, 77, 78, 79, 80, 81, 82, 83, 84, 85, 86, 87, 88, 89, 90, 91, 92, 93, 94, 95, 96, 97, 98] (by decide +kernel) (by decide +kernel)
set_option maxRecDepth 20000 in
theorem gX10_findDark_X10_goOn : GoodIn wsX10_findDark (wsV RX10 401 RX10 yX10_goOn wsX10_goOn) := goodIn_app (goodIn_of _ (by decide +kernel)) ggX10_findDark_X10_goOn
set_option maxRecDepth 20000 in
theorem ggX10_findDark_X10_goBack : GoodIn wsX10_findDark wsX10_goBack := goodIn_r _ [48, 10, 3, 4, 15, 16, 17, 8, 18, 19, 20, 21, 22, 23, 24, 25, 26, 27, 28, 29, 30, 31, 32, 33, 34, 35, 36, 37, 5, 6, 7, 9, 38, 39, 40, 41, 1, 42, 43, 44, 49, 50, 51, 52, 53, 54, 55, 56, 57, 58, 59, 60, 61, 62, 63, 64, 65, 66, 67, 68, 69, 70, 71, 72, 73, 74, 75, 76, 77, 78, 79, 80, 81, 82, 83, 84, 85, 86, 87, 88, 89, 90, 91, 92, 93, 94, 95, 96, 97, 98] (by decide +kernel) (by decide +kernel)
set_option maxRecDepth 20000 in
theorem gX10_findDark_X10_goBack : GoodIn wsX10_findDark (wsV RX10 404 RX10 yX10_goBack wsX10_goBack) := goodIn_app (goodIn_of _ (by decide +kernel)) ggX10_findDark_X10_goBack
theorem dX10_findDark_0 : decode cX10_findDark 0 = .ok (.iconst 1, 1) := by decide +kernel
theorem dX10_findDark_1 : decode cX10_findDark 1 = .ok (.istore_n 1, 1) := by decide +kernel
theorem dX10_findDark_2 : decode cX10_findDark 2 = .ok (.iconst 0, 1) := by decide +kernel
theorem dX10_findDark_3 : decode cX10_findDark 3 = .ok (.istore_n 2, 1) := by decide +kernel
theorem dX10_findDark_4 : decode cX10_findDark 4 = .ok (.iload_n 2, 1) := by decide +kernel
theorem dX10_findDark_5 : decode cX10_findDark 5 = .ok (.iconst 5, 1) := by decide +kernel
theorem dX10_findDark_6 : decode cX10_findDark 6 = .ok (.if_icmp .ge 21, 3) := by decide +kernel
theorem dX10_findDark_9 : decode cX10_findDark 9 = .ok (.aload_n 0, 1) := by decide +kernel
theorem dX10_findDark_10 : decode cX10_findDark 10 = .ok (.getfield 73, 3) := by decide +kernel
theorem dX10_findDark_13 : decode cX10_findDark 13 = .ok (.iload_n 2, 1) := by decide +kernel
theorem dX10_findDark_14 : decode cX10_findDark 14 = .ok (.iload_n 1, 1) := by decide +kernel
theorem dX10_findDark_15 : decode cX10_findDark 15 = .ok (.iastore, 1) := by decide +kernel
theorem dX10_findDark_16 : decode cX10_findDark 16 = .ok (.iload_n 1, 1) := by decide +kernel
theorem dX10_findDark_17 : decode cX10_findDark 17 = .ok (.bipush 7, 2) := by decide +kernel
theorem dX10_findDark_19 : decode cX10_findDark 19 = .ok (.imul, 1) := by decide +kernel
theorem dX10_findDark_20 : decode cX10_findDark 20 = .ok (.istore_n 1, 1) := by decide +kernel
theorem dX10_findDark_21 : decode cX10_findDark 21 = .ok (.iinc 2 1, 3) := by decide +kernel
theorem dX10_findDark_24 : decode cX10_findDark 24 = .ok (.goto (-20), 3) := by decide +kernel
theorem dX10_findDark_27 : decode cX10_findDark 27 = .ok (.iconst 0, 1) := by decide +kernel
theorem dX10_findDark_28 : decode cX10_findDark 28 = .ok (.istore_n 2, 1) := by decide +kernel
theorem dX10_findDark_29 : decode cX10_findDark 29 = .ok (.iload_n 2, 1) := by decide +kernel
theorem dX10_findDark_30 : decode cX10_findDark 30 = .ok (.sipush 16807, 3) := by decide +kernel
theorem dX10_findDark_33 : decode cX10_findDark 33 = .ok (.aload_n 0, 1) := by decide +kernel
theorem dX10_findDark_34 : decode cX10_findDark 34 = .ok (.getfield 389, 3) := by decide +kernel
theorem dX10_findDark_37 : decode cX10_findDark 37 = .ok (.iconst 1, 1) := by decide +kernel
theorem dX10_findDark_38 : decode cX10_findDark 38 = .ok (.iadd, 1) := by decide +kernel
theorem dX10_findDark_39 : decode cX10_findDark 39 = .ok (.imul, 1) := by decide +kernel
theorem dX10_findDark_40 : decode cX10_findDark 40 = .ok (.if_icmp .ge 23, 3) := by decide +kernel
theorem dX10_findDark_43 : decode cX10_findDark 43 = .ok (.aload_n 0, 1) := by decide +kernel
theorem dX10_findDark_44 : decode cX10_findDark 44 = .ok (.getfield 66, 3) := by decide +kernel
theorem dX10_findDark_47 : decode cX10_findDark 47 = .ok (.iload_n 2, 1) := by decide +kernel
theorem dX10_findDark_48 : decode cX10_findDark 48 = .ok (.lconst 0, 1) := by decide +kernel
theorem dX10_findDark_49 : decode cX10_findDark 49 = .ok (.lastore, 1) := by decide +kernel
theorem dX10_findDark_50 : decode cX10_findDark 50 = .ok (.aload_n 0, 1) := by decide +kernel
theorem dX10_findDark_51 : decode cX10_findDark 51 = .ok (.getfield 70, 3) := by decide +kernel
theorem dX10_findDark_54 : decode cX10_findDark 54 = .ok (.iload_n 2, 1) := by decide +kernel
theorem dX10_findDark_55 : decode cX10_findDark 55 = .ok (.lconst 0, 1) := by decide +kernel
theorem dX10_findDark_56 : decode cX10_findDark 56 = .ok (.lastore, 1) := by decide +kernel
theorem dX10_findDark_57 : decode cX10_findDark 57 = .ok (.iinc 2 1, 3) := by decide +kernel
theorem dX10_findDark_60 : decode cX10_findDark 60 = .ok (.goto (-31), 3) := by decide +kernel
theorem dX10_findDark_63 : decode cX10_findDark 63 = .ok (.aload_n 0, 1) := by decide +kernel
theorem dX10_findDark_64 : decode cX10_findDark 64 = .ok (.getfield 66, 3) := by decide +kernel
theorem dX10_findDark_67 : decode cX10_findDark 67 = .ok (.iconst 0, 1) := by decide +kernel
theorem dX10_findDark_68 : decode cX10_findDark 68 = .ok (.lconst 1, 1) := by decide +kernel
theorem dX10_findDark_69 : decode cX10_findDark 69 = .ok (.lastore, 1) := by decide +kernel
theorem dX10_findDark_70 : decode cX10_findDark 70 = .ok (.iconst 0, 1) := by decide +kernel
theorem dX10_findDark_71 : decode cX10_findDark 71 = .ok (.istore_n 2, 1) := by decide +kernel
theorem dX10_findDark_72 : decode cX10_findDark 72 = .ok (.iload_n 2, 1) := by decide +kernel
theorem dX10_findDark_73 : decode cX10_findDark 73 = .ok (.aload_n 0, 1) := by decide +kernel
theorem dX10_findDark_74 : decode cX10_findDark 74 = .ok (.invokevirtual 398, 3) := by decide +kernel
theorem dX10_findDark_77 : decode cX10_findDark 77 = .ok (.if_icmp .ge 25, 3) := by decide +kernel
theorem dX10_findDark_80 : decode cX10_findDark 80 = .ok (.aload_n 0, 1) := by decide +kernel
theorem dX10_findDark_81 : decode cX10_findDark 81 = .ok (.getfield 70, 3) := by decide +kernel
theorem dX10_findDark_84 : decode cX10_findDark 84 = .ok (.sipush 16807, 3) := by decide +kernel
theorem dX10_findDark_87 : decode cX10_findDark 87 = .ok (.aload_n 0, 1) := by decide +kernel
theorem dX10_findDark_88 : decode cX10_findDark 88 = .ok (.getfield 389, 3) := by decide +kernel
theorem dX10_findDark_91 : decode cX10_findDark 91 = .ok (.imul, 1) := by decide +kernel
theorem dX10_findDark_92 : decode cX10_findDark 92 = .ok (.iload_n 2, 1) := by decide +kernel
theorem dX10_findDark_93 : decode cX10_findDark 93 = .ok (.iadd, 1) := by decide +kernel
theorem dX10_findDark_94 : decode cX10_findDark 94 = .ok (.lconst 1, 1) := by decide +kernel
theorem dX10_findDark_95 : decode cX10_findDark 95 = .ok (.lastore, 1) := by decide +kernel
theorem dX10_findDark_96 : decode cX10_findDark 96 = .ok (.iinc 2 1, 3) := by decide +kernel
theorem dX10_findDark_99 : decode cX10_findDark 99 = .ok (.goto (-27), 3) := by decide +kernel
theorem dX10_findDark_102 : decode cX10_findDark 102 = .ok (.iconst 0, 1) := by decide +kernel
theorem dX10_findDark_103 : decode cX10_findDark 103 = .ok (.istore_n 2, 1) := by decide +kernel
theorem dX10_findDark_104 : decode cX10_findDark 104 = .ok (.iload_n 2, 1) := by decide +kernel
theorem dX10_findDark_105 : decode cX10_findDark 105 = .ok (.aload_n 0, 1) := by decide +kernel
theorem dX10_findDark_106 : decode cX10_findDark 106 = .ok (.getfield 389, 3) := by decide +kernel
theorem dX10_findDark_109 : decode cX10_findDark 109 = .ok (.if_icmp .ge 14, 3) := by decide +kernel
theorem dX10_findDark_112 : decode cX10_findDark 112 = .ok (.aload_n 0, 1) := by decide +kernel
theorem dX10_findDark_113 : decode cX10_findDark 113 = .ok (.iload_n 2, 1) := by decide +kernel
theorem dX10_findDark_114 : decode cX10_findDark 114 = .ok (.invokevirtual 401, 3) := by decide +kernel
theorem dX10_findDark_117 : decode cX10_findDark 117 = .ok (.iinc 2 1, 3) := by decide +kernel
theorem dX10_findDark_120 : decode cX10_findDark 120 = .ok (.goto (-16), 3) := by decide +kernel
theorem dX10_findDark_123 : decode cX10_findDark 123 = .ok (.aload_n 0, 1) := by decide +kernel
theorem dX10_findDark_124 : decode cX10_findDark 124 = .ok (.getfield 389, 3) := by decide +kernel
theorem dX10_findDark_127 : decode cX10_findDark 127 = .ok (.iconst 1, 1) := by decide +kernel
theorem dX10_findDark_128 : decode cX10_findDark 128 = .ok (.isub, 1) := by decide +kernel
theorem dX10_findDark_129 : decode cX10_findDark 129 = .ok (.istore_n 2, 1) := by decide +kernel
theorem dX10_findDark_130 : decode cX10_findDark 130 = .ok (.iload_n 2, 1) := by decide +kernel
theorem dX10_findDark_131 : decode cX10_findDark 131 = .ok (.ifCond .lt 14, 3) := by decide +kernel
theorem dX10_findDark_134 : decode cX10_findDark 134 = .ok (.aload_n 0, 1) := by decide +kernel
theorem dX10_findDark_135 : decode cX10_findDark 135 = .ok (.iload_n 2, 1) := by decide +kernel
theorem dX10_findDark_136 : decode cX10_findDark 136 = .ok (.invokevirtual 404, 3) := by decide +kernel
theorem dX10_findDark_139 : decode cX10_findDark 139 = .ok (.iinc 2 (-1), 3) := by decide +kernel
theorem dX10_findDark_142 : decode cX10_findDark 142 = .ok (.goto (-12), 3) := by decide +kernel
theorem dX10_findDark_145 : decode cX10_findDark 145 = .ok (.return_, 1) := by decide +kernel
set_option maxRecDepth 20000 in
theorem ggX10_goOn_X10_halvesOf : GoodIn wsX10_goOn wsX10_halvesOf := goodIn_r _ [7, 1, 8, 9, 6, 10, 11, 12, 13, 14, 15, 16, 17, 18, 19, 20, 39, 40, 41, 42, 43, 44, 45, 46, 47, 48, 49, 50, 51, 52, 53, 54, 55, 56, 57, 58, 59, 60, 61, 62, 63, 64, 65, 66, 67, 68, 69, 70, 71, 72, 73, 74, 75, 76, 77, 78, 79, 80, 81, 82, 83, 84, 85, 86, 87, 88] (by decide +kernel) (by decide +kernel)
set_option maxRecDepth 20000 in
theorem gX10_goOn_X10_halvesOf : GoodIn wsX10_goOn (wsV RX10 407 RX10 yX10_halvesOf wsX10_halvesOf) := goodIn_app (goodIn_of _ (by decide +kernel)) ggX10_goOn_X10_halvesOf
set_option maxRecDepth 20000 in
theorem ggX10_goOn_X10_heardOf : GoodIn wsX10_goOn wsX10_heardOf := goodIn_r _ [24, 25, 26, 39, 40, 41, 42, 43, 44, 45, 46, 47, 48, 49, 50, 51, 52, 53, 54, 55, 56, 57, 58, 59, 60, 61, 62, 63, 64, 65, 66, 67, 68, 69, 70, 71, 72, 73, 74, 75, 76, 77, 78, 79, 80, 81, 82, 83, 84, 85, 86, 87, 88] (by decide +kernel) (by decide +kernel)
set_option maxRecDepth 20000 in
theorem gX10_goOn_X10_heardOf : GoodIn wsX10_goOn (wsV RX10 395 RX10 yX10_heardOf wsX10_heardOf) := goodIn_app (goodIn_of _ (by decide +kernel)) ggX10_goOn_X10_heardOf
set_option maxRecDepth 20000 in
theorem ggX10_goOn_X10_states : GoodIn wsX10_goOn wsX10_states := goodIn_r _ [30, 1, 39, 40, 41, 42, 43, 44, 45, 46, 47, 48, 49, 50, 51, 52, 53, 54, 55, 56, 57, 58, 59, 60, 61, 62, 63, 64, 65, 66, 67, 68, 69, 70, 71, 72, 73, 74, 75, 76, 77, 78, 79, 80, 81, 82, 83, 84, 85, 86, 87, 88] (by decide +kernel) (by decide +kernel)
set_option maxRecDepth 20000 in
theorem gX10_goOn_X10_states : GoodIn wsX10_goOn (wsV RX10 398 RX10 yX10_states wsX10_states) := goodIn_app (goodIn_of _ (by decide +kernel)) ggX10_goOn_X10_states
set_option maxRecDepth 20000 in
theorem ggX10_goOn_X10_after : GoodIn wsX10_goOn wsX10_after := goodIn_r _ [34, 1, 35, 8, 9, 6, 10, 15, 16, 17, 18, 19, 20, 36, 37, 38, 39, 40, 41, 42, 43, 44, 45, 46, 47, 48, 49, 50, 51, 52, 53, 54, 55, 56, 57, 58, 59, 60, 61, 62, 63, 64, 65, 66, 67, 68, 69, 70, 71, 72, 73, 74, 75, 76, 77, 78, 79, 80, 81, 82, 83, 84, 85, 86, 87, 88] (by decide +kernel) (by decide +kernel)
set_option maxRecDepth 20000 in
theorem gX10_goOn_X10_after : GoodIn wsX10_goOn (wsV RX10 410 RX10 yX10_after wsX10_after) := goodIn_app (goodIn_of _ (by decide +kernel)) ggX10_goOn_X10_after
theorem dX10_goOn_0 : decode cX10_goOn 0 = .ok (.iconst 0, 1) := by decide +kernel
theorem dX10_goOn_1 : decode cX10_goOn 1 = .ok (.istore_n 2, 1) := by decide +kernel
theorem dX10_goOn_2 : decode cX10_goOn 2 = .ok (.iload_n 2, 1) := by decide +kernel
theorem dX10_goOn_3 : decode cX10_goOn 3 = .ok (.iconst 1, 1) := by decide +kernel
theorem dX10_goOn_4 : decode cX10_goOn 4 = .ok (.aload_n 0, 1) := by decide +kernel
theorem dX10_goOn_5 : decode cX10_goOn 5 = .ok (.getfield 228, 3) := by decide +kernel
theorem dX10_goOn_8 : decode cX10_goOn 8 = .ok (.ishl, 1) := by decide +kernel
theorem dX10_goOn_9 : decode cX10_goOn 9 = .ok (.if_icmp .ge 114, 3) := by decide +kernel
theorem dX10_goOn_12 : decode cX10_goOn 12 = .ok (.aload_n 0, 1) := by decide +kernel
theorem dX10_goOn_13 : decode cX10_goOn 13 = .ok (.iload_n 2, 1) := by decide +kernel
theorem dX10_goOn_14 : decode cX10_goOn 14 = .ok (.invokevirtual 407, 3) := by decide +kernel
theorem dX10_goOn_17 : decode cX10_goOn 17 = .ok (.aload_n 0, 1) := by decide +kernel
theorem dX10_goOn_18 : decode cX10_goOn 18 = .ok (.iload_n 1, 1) := by decide +kernel
theorem dX10_goOn_19 : decode cX10_goOn 19 = .ok (.invokevirtual 395, 3) := by decide +kernel
theorem dX10_goOn_22 : decode cX10_goOn 22 = .ok (.if_icmp .ne 10, 3) := by decide +kernel
theorem dX10_goOn_25 : decode cX10_goOn 25 = .ok (.aload_n 0, 1) := by decide +kernel
theorem dX10_goOn_26 : decode cX10_goOn 26 = .ok (.invokevirtual 398, 3) := by decide +kernel
theorem dX10_goOn_29 : decode cX10_goOn 29 = .ok (.goto 4, 3) := by decide +kernel
theorem dX10_goOn_32 : decode cX10_goOn 32 = .ok (.iconst 0, 1) := by decide +kernel
theorem dX10_goOn_33 : decode cX10_goOn 33 = .ok (.istore_n 3, 1) := by decide +kernel
theorem dX10_goOn_34 : decode cX10_goOn 34 = .ok (.iconst 0, 1) := by decide +kernel
theorem dX10_goOn_35 : decode cX10_goOn 35 = .ok (.istore 4, 2) := by decide +kernel
theorem dX10_goOn_37 : decode cX10_goOn 37 = .ok (.iload 4, 2) := by decide +kernel
theorem dX10_goOn_39 : decode cX10_goOn 39 = .ok (.iload_n 3, 1) := by decide +kernel
theorem dX10_goOn_40 : decode cX10_goOn 40 = .ok (.if_icmp .ge 77, 3) := by decide +kernel
theorem dX10_goOn_43 : decode cX10_goOn 43 = .ok (.aload_n 0, 1) := by decide +kernel
theorem dX10_goOn_44 : decode cX10_goOn 44 = .ok (.getfield 66, 3) := by decide +kernel
theorem dX10_goOn_47 : decode cX10_goOn 47 = .ok (.sipush 16807, 3) := by decide +kernel
theorem dX10_goOn_50 : decode cX10_goOn 50 = .ok (.iload_n 1, 1) := by decide +kernel
theorem dX10_goOn_51 : decode cX10_goOn 51 = .ok (.imul, 1) := by decide +kernel
theorem dX10_goOn_52 : decode cX10_goOn 52 = .ok (.iload 4, 2) := by decide +kernel
theorem dX10_goOn_54 : decode cX10_goOn 54 = .ok (.iadd, 1) := by decide +kernel
theorem dX10_goOn_55 : decode cX10_goOn 55 = .ok (.laload, 1) := by decide +kernel
theorem dX10_goOn_56 : decode cX10_goOn 56 = .ok (.lconst 0, 1) := by decide +kernel
theorem dX10_goOn_57 : decode cX10_goOn 57 = .ok (.lcmp, 1) := by decide +kernel
theorem dX10_goOn_58 : decode cX10_goOn 58 = .ok (.ifCond .ne 7, 3) := by decide +kernel
theorem dX10_goOn_61 : decode cX10_goOn 61 = .ok (.iconst (-1), 1) := by decide +kernel
theorem dX10_goOn_62 : decode cX10_goOn 62 = .ok (.goto 10, 3) := by decide +kernel
theorem dX10_goOn_65 : decode cX10_goOn 65 = .ok (.aload_n 0, 1) := by decide +kernel
theorem dX10_goOn_66 : decode cX10_goOn 66 = .ok (.iload 4, 2) := by decide +kernel
theorem dX10_goOn_68 : decode cX10_goOn 68 = .ok (.iload_n 2, 1) := by decide +kernel
theorem dX10_goOn_69 : decode cX10_goOn 69 = .ok (.invokevirtual 410, 3) := by decide +kernel
theorem dX10_goOn_72 : decode cX10_goOn 72 = .ok (.istore 5, 2) := by decide +kernel
theorem dX10_goOn_74 : decode cX10_goOn 74 = .ok (.iload 5, 2) := by decide +kernel
theorem dX10_goOn_76 : decode cX10_goOn 76 = .ok (.iconst (-1), 1) := by decide +kernel
theorem dX10_goOn_77 : decode cX10_goOn 77 = .ok (.if_icmp .eq 34, 3) := by decide +kernel
theorem dX10_goOn_80 : decode cX10_goOn 80 = .ok (.aload_n 0, 1) := by decide +kernel
theorem dX10_goOn_81 : decode cX10_goOn 81 = .ok (.getfield 66, 3) := by decide +kernel
theorem dX10_goOn_84 : decode cX10_goOn 84 = .ok (.sipush 16807, 3) := by decide +kernel
theorem dX10_goOn_87 : decode cX10_goOn 87 = .ok (.iload_n 1, 1) := by decide +kernel
theorem dX10_goOn_88 : decode cX10_goOn 88 = .ok (.iconst 1, 1) := by decide +kernel
theorem dX10_goOn_89 : decode cX10_goOn 89 = .ok (.iadd, 1) := by decide +kernel
theorem dX10_goOn_90 : decode cX10_goOn 90 = .ok (.imul, 1) := by decide +kernel
theorem dX10_goOn_91 : decode cX10_goOn 91 = .ok (.iload 5, 2) := by decide +kernel
theorem dX10_goOn_93 : decode cX10_goOn 93 = .ok (.iadd, 1) := by decide +kernel
theorem dX10_goOn_94 : decode cX10_goOn 94 = .ok (.dup2, 1) := by decide +kernel
theorem dX10_goOn_95 : decode cX10_goOn 95 = .ok (.laload, 1) := by decide +kernel
theorem dX10_goOn_96 : decode cX10_goOn 96 = .ok (.aload_n 0, 1) := by decide +kernel
theorem dX10_goOn_97 : decode cX10_goOn 97 = .ok (.getfield 66, 3) := by decide +kernel
theorem dX10_goOn_100 : decode cX10_goOn 100 = .ok (.sipush 16807, 3) := by decide +kernel
theorem dX10_goOn_103 : decode cX10_goOn 103 = .ok (.iload_n 1, 1) := by decide +kernel
theorem dX10_goOn_104 : decode cX10_goOn 104 = .ok (.imul, 1) := by decide +kernel
theorem dX10_goOn_105 : decode cX10_goOn 105 = .ok (.iload 4, 2) := by decide +kernel
theorem dX10_goOn_107 : decode cX10_goOn 107 = .ok (.iadd, 1) := by decide +kernel
theorem dX10_goOn_108 : decode cX10_goOn 108 = .ok (.laload, 1) := by decide +kernel
theorem dX10_goOn_109 : decode cX10_goOn 109 = .ok (.ladd, 1) := by decide +kernel
theorem dX10_goOn_110 : decode cX10_goOn 110 = .ok (.lastore, 1) := by decide +kernel
theorem dX10_goOn_111 : decode cX10_goOn 111 = .ok (.iinc 4 1, 3) := by decide +kernel
theorem dX10_goOn_114 : decode cX10_goOn 114 = .ok (.goto (-77), 3) := by decide +kernel
theorem dX10_goOn_117 : decode cX10_goOn 117 = .ok (.iinc 2 1, 3) := by decide +kernel
theorem dX10_goOn_120 : decode cX10_goOn 120 = .ok (.goto (-118), 3) := by decide +kernel
theorem dX10_goOn_123 : decode cX10_goOn 123 = .ok (.return_, 1) := by decide +kernel
set_option maxRecDepth 20000 in
theorem ggX10_goBack_X10_halvesOf : GoodIn wsX10_goBack wsX10_halvesOf := goodIn_r _ [8, 1, 9, 10, 7, 11, 12, 13, 14, 15, 16, 17, 18, 19, 20, 21, 40, 41, 42, 43, 44, 45, 46, 47, 48, 49, 50, 51, 52, 53, 54, 55, 56, 57, 58, 59, 60, 61, 62, 63, 64, 65, 66, 67, 68, 69, 70, 71, 72, 73, 74, 75, 76, 77, 78, 79, 80, 81, 82, 83, 84, 85, 86, 87, 88, 89] (by decide +kernel) (by decide +kernel)
set_option maxRecDepth 20000 in
theorem gX10_goBack_X10_halvesOf : GoodIn wsX10_goBack (wsV RX10 407 RX10 yX10_halvesOf wsX10_halvesOf) := goodIn_app (goodIn_of _ (by decide +kernel)) ggX10_goBack_X10_halvesOf
set_option maxRecDepth 20000 in
theorem ggX10_goBack_X10_heardOf : GoodIn wsX10_goBack wsX10_heardOf := goodIn_r _ [25, 26, 27, 40, 41, 42, 43, 44, 45, 46, 47, 48, 49, 50, 51, 52, 53, 54, 55, 56, 57, 58, 59, 60, 61, 62, 63, 64, 65, 66, 67, 68, 69, 70, 71, 72, 73, 74, 75, 76, 77, 78, 79, 80, 81, 82, 83, 84, 85, 86, 87, 88, 89] (by decide +kernel) (by decide +kernel)
set_option maxRecDepth 20000 in
theorem gX10_goBack_X10_heardOf : GoodIn wsX10_goBack (wsV RX10 395 RX10 yX10_heardOf wsX10_heardOf) := goodIn_app (goodIn_of _ (by decide +kernel)) ggX10_goBack_X10_heardOf
set_option maxRecDepth 20000 in
theorem ggX10_goBack_X10_states : GoodIn wsX10_goBack wsX10_states := goodIn_r _ [31, 1, 40, 41, 42, 43, 44, 45, 46, 47, 48, 49, 50, 51, 52, 53, 54, 55, 56, 57, 58, 59, 60, 61, 62, 63, 64, 65, 66, 67, 68, 69, 70, 71, 72, 73, 74, 75, 76, 77, 78, 79, 80, 81, 82, 83, 84, 85, 86, 87, 88, 89] (by decide +kernel) (by decide +kernel)
set_option maxRecDepth 20000 in
theorem gX10_goBack_X10_states : GoodIn wsX10_goBack (wsV RX10 398 RX10 yX10_states wsX10_states) := goodIn_app (goodIn_of _ (by decide +kernel)) ggX10_goBack_X10_states
set_option maxRecDepth 20000 in
theorem ggX10_goBack_X10_after : GoodIn wsX10_goBack wsX10_after := goodIn_r _ [35, 1, 36, 9, 10, 7, 11, 16, 17, 18, 19, 20, 21, 37, 38, 39, 40, 41, 42, 43, 44, 45, 46, 47, 48, 49, 50, 51, 52, 53, 54, 55, 56, 57, 58, 59, 60, 61, 62, 63, 64, 65, 66, 67, 68, 69, 70, 71, 72, 73, 74, 75, 76, 77, 78, 79, 80, 81, 82, 83, 84, 85, 86, 87, 88, 89] (by decide +kernel) (by decide +kernel)
set_option maxRecDepth 20000 in
theorem gX10_goBack_X10_after : GoodIn wsX10_goBack (wsV RX10 410 RX10 yX10_after wsX10_after) := goodIn_app (goodIn_of _ (by decide +kernel)) ggX10_goBack_X10_after
theorem dX10_goBack_0 : decode cX10_goBack 0 = .ok (.iconst 0, 1) := by decide +kernel
theorem dX10_goBack_1 : decode cX10_goBack 1 = .ok (.istore_n 2, 1) := by decide +kernel
theorem dX10_goBack_2 : decode cX10_goBack 2 = .ok (.iload_n 2, 1) := by decide +kernel
theorem dX10_goBack_3 : decode cX10_goBack 3 = .ok (.iconst 1, 1) := by decide +kernel
theorem dX10_goBack_4 : decode cX10_goBack 4 = .ok (.aload_n 0, 1) := by decide +kernel
theorem dX10_goBack_5 : decode cX10_goBack 5 = .ok (.getfield 228, 3) := by decide +kernel
theorem dX10_goBack_8 : decode cX10_goBack 8 = .ok (.ishl, 1) := by decide +kernel
theorem dX10_goBack_9 : decode cX10_goBack 9 = .ok (.if_icmp .ge 114, 3) := by decide +kernel
theorem dX10_goBack_12 : decode cX10_goBack 12 = .ok (.aload_n 0, 1) := by decide +kernel
theorem dX10_goBack_13 : decode cX10_goBack 13 = .ok (.iload_n 2, 1) := by decide +kernel
theorem dX10_goBack_14 : decode cX10_goBack 14 = .ok (.invokevirtual 407, 3) := by decide +kernel
theorem dX10_goBack_17 : decode cX10_goBack 17 = .ok (.aload_n 0, 1) := by decide +kernel
theorem dX10_goBack_18 : decode cX10_goBack 18 = .ok (.iload_n 1, 1) := by decide +kernel
theorem dX10_goBack_19 : decode cX10_goBack 19 = .ok (.invokevirtual 395, 3) := by decide +kernel
theorem dX10_goBack_22 : decode cX10_goBack 22 = .ok (.if_icmp .ne 10, 3) := by decide +kernel
theorem dX10_goBack_25 : decode cX10_goBack 25 = .ok (.aload_n 0, 1) := by decide +kernel
theorem dX10_goBack_26 : decode cX10_goBack 26 = .ok (.invokevirtual 398, 3) := by decide +kernel
theorem dX10_goBack_29 : decode cX10_goBack 29 = .ok (.goto 4, 3) := by decide +kernel
theorem dX10_goBack_32 : decode cX10_goBack 32 = .ok (.iconst 0, 1) := by decide +kernel
theorem dX10_goBack_33 : decode cX10_goBack 33 = .ok (.istore_n 3, 1) := by decide +kernel
theorem dX10_goBack_34 : decode cX10_goBack 34 = .ok (.iconst 0, 1) := by decide +kernel
theorem dX10_goBack_35 : decode cX10_goBack 35 = .ok (.istore 4, 2) := by decide +kernel
theorem dX10_goBack_37 : decode cX10_goBack 37 = .ok (.iload 4, 2) := by decide +kernel
theorem dX10_goBack_39 : decode cX10_goBack 39 = .ok (.iload_n 3, 1) := by decide +kernel
theorem dX10_goBack_40 : decode cX10_goBack 40 = .ok (.if_icmp .ge 77, 3) := by decide +kernel
theorem dX10_goBack_43 : decode cX10_goBack 43 = .ok (.aload_n 0, 1) := by decide +kernel
theorem dX10_goBack_44 : decode cX10_goBack 44 = .ok (.getfield 66, 3) := by decide +kernel
theorem dX10_goBack_47 : decode cX10_goBack 47 = .ok (.sipush 16807, 3) := by decide +kernel
theorem dX10_goBack_50 : decode cX10_goBack 50 = .ok (.iload_n 1, 1) := by decide +kernel
theorem dX10_goBack_51 : decode cX10_goBack 51 = .ok (.imul, 1) := by decide +kernel
theorem dX10_goBack_52 : decode cX10_goBack 52 = .ok (.iload 4, 2) := by decide +kernel
theorem dX10_goBack_54 : decode cX10_goBack 54 = .ok (.iadd, 1) := by decide +kernel
theorem dX10_goBack_55 : decode cX10_goBack 55 = .ok (.laload, 1) := by decide +kernel
theorem dX10_goBack_56 : decode cX10_goBack 56 = .ok (.lconst 0, 1) := by decide +kernel
theorem dX10_goBack_57 : decode cX10_goBack 57 = .ok (.lcmp, 1) := by decide +kernel
theorem dX10_goBack_58 : decode cX10_goBack 58 = .ok (.ifCond .ne 7, 3) := by decide +kernel
theorem dX10_goBack_61 : decode cX10_goBack 61 = .ok (.iconst (-1), 1) := by decide +kernel
theorem dX10_goBack_62 : decode cX10_goBack 62 = .ok (.goto 10, 3) := by decide +kernel
theorem dX10_goBack_65 : decode cX10_goBack 65 = .ok (.aload_n 0, 1) := by decide +kernel
theorem dX10_goBack_66 : decode cX10_goBack 66 = .ok (.iload 4, 2) := by decide +kernel
theorem dX10_goBack_68 : decode cX10_goBack 68 = .ok (.iload_n 2, 1) := by decide +kernel
theorem dX10_goBack_69 : decode cX10_goBack 69 = .ok (.invokevirtual 410, 3) := by decide +kernel
theorem dX10_goBack_72 : decode cX10_goBack 72 = .ok (.istore 5, 2) := by decide +kernel
theorem dX10_goBack_74 : decode cX10_goBack 74 = .ok (.iload 5, 2) := by decide +kernel
theorem dX10_goBack_76 : decode cX10_goBack 76 = .ok (.iconst (-1), 1) := by decide +kernel
theorem dX10_goBack_77 : decode cX10_goBack 77 = .ok (.if_icmp .eq 34, 3) := by decide +kernel
theorem dX10_goBack_80 : decode cX10_goBack 80 = .ok (.aload_n 0, 1) := by decide +kernel
theorem dX10_goBack_81 : decode cX10_goBack 81 = .ok (.getfield 70, 3) := by decide +kernel
theorem dX10_goBack_84 : decode cX10_goBack 84 = .ok (.sipush 16807, 3) := by decide +kernel
theorem dX10_goBack_87 : decode cX10_goBack 87 = .ok (.iload_n 1, 1) := by decide +kernel
theorem dX10_goBack_88 : decode cX10_goBack 88 = .ok (.imul, 1) := by decide +kernel
theorem dX10_goBack_89 : decode cX10_goBack 89 = .ok (.iload 4, 2) := by decide +kernel
theorem dX10_goBack_91 : decode cX10_goBack 91 = .ok (.iadd, 1) := by decide +kernel
theorem dX10_goBack_92 : decode cX10_goBack 92 = .ok (.dup2, 1) := by decide +kernel
theorem dX10_goBack_93 : decode cX10_goBack 93 = .ok (.laload, 1) := by decide +kernel
theorem dX10_goBack_94 : decode cX10_goBack 94 = .ok (.aload_n 0, 1) := by decide +kernel
theorem dX10_goBack_95 : decode cX10_goBack 95 = .ok (.getfield 70, 3) := by decide +kernel
theorem dX10_goBack_98 : decode cX10_goBack 98 = .ok (.sipush 16807, 3) := by decide +kernel
theorem dX10_goBack_101 : decode cX10_goBack 101 = .ok (.iload_n 1, 1) := by decide +kernel
theorem dX10_goBack_102 : decode cX10_goBack 102 = .ok (.iconst 1, 1) := by decide +kernel
theorem dX10_goBack_103 : decode cX10_goBack 103 = .ok (.iadd, 1) := by decide +kernel
theorem dX10_goBack_104 : decode cX10_goBack 104 = .ok (.imul, 1) := by decide +kernel
theorem dX10_goBack_105 : decode cX10_goBack 105 = .ok (.iload 5, 2) := by decide +kernel
theorem dX10_goBack_107 : decode cX10_goBack 107 = .ok (.iadd, 1) := by decide +kernel
theorem dX10_goBack_108 : decode cX10_goBack 108 = .ok (.laload, 1) := by decide +kernel
theorem dX10_goBack_109 : decode cX10_goBack 109 = .ok (.ladd, 1) := by decide +kernel
theorem dX10_goBack_110 : decode cX10_goBack 110 = .ok (.lastore, 1) := by decide +kernel
theorem dX10_goBack_111 : decode cX10_goBack 111 = .ok (.iinc 4 1, 3) := by decide +kernel
theorem dX10_goBack_114 : decode cX10_goBack 114 = .ok (.goto (-77), 3) := by decide +kernel
theorem dX10_goBack_117 : decode cX10_goBack 117 = .ok (.iinc 2 1, 3) := by decide +kernel
theorem dX10_goBack_120 : decode cX10_goBack 120 = .ok (.goto (-118), 3) := by decide +kernel
theorem dX10_goBack_123 : decode cX10_goBack 123 = .ok (.return_, 1) := by decide +kernel
set_option maxRecDepth 20000 in
theorem ggX10_ways_X10_hasDark : GoodIn wsX10_ways wsX10_hasDark := goodIn_r _ [8, 9, 10, 11, 12, 13, 14, 7, 15, 16, 17, 18, 19, 73, 74, 75, 76, 77, 78, 79, 80, 81, 82, 83, 84, 85, 86, 87, 88, 89, 90, 91, 92, 93, 94, 95, 96, 97, 98, 99, 100, 101, 102, 103, 104, 105, 106, 107, 108, 109, 110, 111, 112, 113, 114, 115, 116, 117, 118, 119, 120, 121, 122] (by decide +kernel) (by decide +kernel)
set_option maxRecDepth 20000 in
theorem gX10_ways_X10_hasDark : GoodIn wsX10_ways (wsV RX10 392 RX10 yX10_hasDark wsX10_hasDark) := goodIn_app (goodIn_of _ (by decide +kernel)) ggX10_ways_X10_hasDark
set_option maxRecDepth 20000 in
theorem ggX10_ways_X10_hand : GoodIn wsX10_ways wsX10_hand := goodIn_r _ [23, 24, 25, 26, 27, 12, 13, 14, 7, 15, 16, 17, 18, 19, 28, 29, 30, 31, 32, 73, 74, 75, 76, 77, 78, 79, 80, 81, 82, 83, 84, 85, 86, 87, 88, 89, 90, 91, 92, 93, 94, 95, 96, 97, 98, 99, 100, 101, 102, 103, 104, 105, 106, 107, 108, 109, 110, 111, 112, 113, 114, 115, 116, 117, 118, 119, 120, 121, 122] (by decide +kernel) (by decide +kernel)
set_option maxRecDepth 20000 in
theorem gX10_ways_X10_hand : GoodIn wsX10_ways (wsV RX10 237 RX10 yX10_hand wsX10_hand) := goodIn_app (goodIn_of _ (by decide +kernel)) ggX10_ways_X10_hand
set_option maxRecDepth 20000 in
theorem ggX10_ways_X10_findDark : GoodIn wsX10_ways wsX10_findDark := goodIn_r _ [36, 37, 11, 38, 3, 39, 40, 41, 7, 42, 25, 43, 44, 45, 46, 47, 48, 49, 50, 51, 52, 53, 54, 55, 56, 57, 28, 29, 30, 31, 32, 24, 58, 59, 60, 61, 10, 9, 62, 63, 64, 65, 66, 67, 68, 69, 70, 71, 72, 73, 74, 75, 76, 77, 78, 79, 80, 81, 82, 83, 84, 85, 86, 87, 88, 89, 90, 91, 92, 93, 94, 95, 96, 97, 98, 99, 100, 101, 102, 103, 104, 105, 106, 107, 108, 109, 110, 111, 112, 113, 114, 115, 116, 117, 118, 119, 120, 121, 122] (by decide +kernel) (by decide +kernel)
set_option maxRecDepth 20000 in
theorem gX10_ways_X10_findDark : GoodIn wsX10_ways (wsV RX10 415 RX10 yX10_findDark wsX10_findDark) := goodIn_app (goodIn_of _ (by decide +kernel)) ggX10_ways_X10_findDark
theorem dX10_ways_0 : decode cX10_ways 0 = .ok (.aload_n 0, 1) := by decide +kernel
theorem dX10_ways_1 : decode cX10_ways 1 = .ok (.iconst 0, 1) := by decide +kernel
theorem dX10_ways_2 : decode cX10_ways 2 = .ok (.putfield 80, 3) := by decide +kernel
theorem dX10_ways_5 : decode cX10_ways 5 = .ok (.aload_n 0, 1) := by decide +kernel
theorem dX10_ways_6 : decode cX10_ways 6 = .ok (.iload_n 2, 1) := by decide +kernel
theorem dX10_ways_7 : decode cX10_ways 7 = .ok (.invokevirtual 392, 3) := by decide +kernel
theorem dX10_ways_10 : decode cX10_ways 10 = .ok (.ifCond .eq 11, 3) := by decide +kernel
theorem dX10_ways_13 : decode cX10_ways 13 = .ok (.aload_n 0, 1) := by decide +kernel
theorem dX10_ways_14 : decode cX10_ways 14 = .ok (.iload_n 1, 1) := by decide +kernel
theorem dX10_ways_15 : decode cX10_ways 15 = .ok (.invokevirtual 237, 3) := by decide +kernel
theorem dX10_ways_18 : decode cX10_ways 18 = .ok (.ifCond .ne 7, 3) := by decide +kernel
theorem dX10_ways_21 : decode cX10_ways 21 = .ok (.ldc2_w 413, 3) := by decide +kernel
theorem dX10_ways_24 : decode cX10_ways 24 = .ok (.lreturn, 1) := by decide +kernel
theorem dX10_ways_25 : decode cX10_ways 25 = .ok (.aload_n 0, 1) := by decide +kernel
theorem dX10_ways_26 : decode cX10_ways 26 = .ok (.invokevirtual 415, 3) := by decide +kernel
theorem dX10_ways_29 : decode cX10_ways 29 = .ok (.aload_n 0, 1) := by decide +kernel
theorem dX10_ways_30 : decode cX10_ways 30 = .ok (.getfield 70, 3) := by decide +kernel
theorem dX10_ways_33 : decode cX10_ways 33 = .ok (.iconst 0, 1) := by decide +kernel
theorem dX10_ways_34 : decode cX10_ways 34 = .ok (.laload, 1) := by decide +kernel
theorem dX10_ways_35 : decode cX10_ways 35 = .ok (.lreturn, 1) := by decide +kernel
set_option maxRecDepth 20000 in
theorem ggX10_mayBe_X10_halvesOf : GoodIn wsX10_mayBe wsX10_halvesOf := goodIn_r _ [7, 8, 9, 10, 6, 11, 12, 13, 14, 15, 16, 17, 18, 19, 20, 21, 40, 41, 42, 43, 44, 45, 46, 47, 48, 49, 50, 51, 52, 53, 54, 55, 56, 57, 58, 59, 60, 61, 62, 63, 64, 65, 66, 67, 68, 69, 70, 71, 72, 73, 74, 75, 76, 77, 78, 79, 80, 81, 82, 83, 84, 85, 86, 87, 88, 89] (by decide +kernel) (by decide +kernel)
set_option maxRecDepth 20000 in
theorem gX10_mayBe_X10_halvesOf : GoodIn wsX10_mayBe (wsV RX10 407 RX10 yX10_halvesOf wsX10_halvesOf) := goodIn_app (goodIn_of _ (by decide +kernel)) ggX10_mayBe_X10_halvesOf
set_option maxRecDepth 20000 in
theorem ggX10_mayBe_X10_heardOf : GoodIn wsX10_mayBe wsX10_heardOf := goodIn_r _ [25, 26, 27, 40, 41, 42, 43, 44, 45, 46, 47, 48, 49, 50, 51, 52, 53, 54, 55, 56, 57, 58, 59, 60, 61, 62, 63, 64, 65, 66, 67, 68, 69, 70, 71, 72, 73, 74, 75, 76, 77, 78, 79, 80, 81, 82, 83, 84, 85, 86, 87, 88, 89] (by decide +kernel) (by decide +kernel)
set_option maxRecDepth 20000 in
theorem gX10_mayBe_X10_heardOf : GoodIn wsX10_mayBe (wsV RX10 395 RX10 yX10_heardOf wsX10_heardOf) := goodIn_app (goodIn_of _ (by decide +kernel)) ggX10_mayBe_X10_heardOf
set_option maxRecDepth 20000 in
theorem ggX10_mayBe_X10_states : GoodIn wsX10_mayBe wsX10_states := goodIn_r _ [31, 8, 40, 41, 42, 43, 44, 45, 46, 47, 48, 49, 50, 51, 52, 53, 54, 55, 56, 57, 58, 59, 60, 61, 62, 63, 64, 65, 66, 67, 68, 69, 70, 71, 72, 73, 74, 75, 76, 77, 78, 79, 80, 81, 82, 83, 84, 85, 86, 87, 88, 89] (by decide +kernel) (by decide +kernel)
set_option maxRecDepth 20000 in
theorem gX10_mayBe_X10_states : GoodIn wsX10_mayBe (wsV RX10 398 RX10 yX10_states wsX10_states) := goodIn_app (goodIn_of _ (by decide +kernel)) ggX10_mayBe_X10_states
set_option maxRecDepth 20000 in
theorem ggX10_mayBe_X10_after : GoodIn wsX10_mayBe wsX10_after := goodIn_r _ [35, 8, 36, 9, 10, 6, 11, 16, 17, 18, 19, 20, 21, 37, 38, 39, 40, 41, 42, 43, 44, 45, 46, 47, 48, 49, 50, 51, 52, 53, 54, 55, 56, 57, 58, 59, 60, 61, 62, 63, 64, 65, 66, 67, 68, 69, 70, 71, 72, 73, 74, 75, 76, 77, 78, 79, 80, 81, 82, 83, 84, 85, 86, 87, 88, 89] (by decide +kernel) (by decide +kernel)
set_option maxRecDepth 20000 in
theorem gX10_mayBe_X10_after : GoodIn wsX10_mayBe (wsV RX10 410 RX10 yX10_after wsX10_after) := goodIn_app (goodIn_of _ (by decide +kernel)) ggX10_mayBe_X10_after
theorem dX10_mayBe_0 : decode cX10_mayBe 0 = .ok (.aload_n 0, 1) := by decide +kernel
theorem dX10_mayBe_1 : decode cX10_mayBe 1 = .ok (.iload_n 2, 1) := by decide +kernel
theorem dX10_mayBe_2 : decode cX10_mayBe 2 = .ok (.invokevirtual 407, 3) := by decide +kernel
theorem dX10_mayBe_5 : decode cX10_mayBe 5 = .ok (.aload_n 0, 1) := by decide +kernel
theorem dX10_mayBe_6 : decode cX10_mayBe 6 = .ok (.iload_n 1, 1) := by decide +kernel
theorem dX10_mayBe_7 : decode cX10_mayBe 7 = .ok (.invokevirtual 395, 3) := by decide +kernel
theorem dX10_mayBe_10 : decode cX10_mayBe 10 = .ok (.if_icmp .eq 5, 3) := by decide +kernel
theorem dX10_mayBe_13 : decode cX10_mayBe 13 = .ok (.iconst 0, 1) := by decide +kernel
theorem dX10_mayBe_14 : decode cX10_mayBe 14 = .ok (.ireturn, 1) := by decide +kernel
theorem dX10_mayBe_15 : decode cX10_mayBe 15 = .ok (.iconst 0, 1) := by decide +kernel
theorem dX10_mayBe_16 : decode cX10_mayBe 16 = .ok (.istore_n 3, 1) := by decide +kernel
theorem dX10_mayBe_17 : decode cX10_mayBe 17 = .ok (.iload_n 3, 1) := by decide +kernel
theorem dX10_mayBe_18 : decode cX10_mayBe 18 = .ok (.aload_n 0, 1) := by decide +kernel
theorem dX10_mayBe_19 : decode cX10_mayBe 19 = .ok (.invokevirtual 398, 3) := by decide +kernel
theorem dX10_mayBe_22 : decode cX10_mayBe 22 = .ok (.if_icmp .ge 66, 3) := by decide +kernel
theorem dX10_mayBe_25 : decode cX10_mayBe 25 = .ok (.aload_n 0, 1) := by decide +kernel
theorem dX10_mayBe_26 : decode cX10_mayBe 26 = .ok (.getfield 66, 3) := by decide +kernel
theorem dX10_mayBe_29 : decode cX10_mayBe 29 = .ok (.sipush 16807, 3) := by decide +kernel
theorem dX10_mayBe_32 : decode cX10_mayBe 32 = .ok (.iload_n 1, 1) := by decide +kernel
theorem dX10_mayBe_33 : decode cX10_mayBe 33 = .ok (.imul, 1) := by decide +kernel
theorem dX10_mayBe_34 : decode cX10_mayBe 34 = .ok (.iload_n 3, 1) := by decide +kernel
theorem dX10_mayBe_35 : decode cX10_mayBe 35 = .ok (.iadd, 1) := by decide +kernel
theorem dX10_mayBe_36 : decode cX10_mayBe 36 = .ok (.laload, 1) := by decide +kernel
theorem dX10_mayBe_37 : decode cX10_mayBe 37 = .ok (.lconst 0, 1) := by decide +kernel
theorem dX10_mayBe_38 : decode cX10_mayBe 38 = .ok (.lcmp, 1) := by decide +kernel
theorem dX10_mayBe_39 : decode cX10_mayBe 39 = .ok (.ifCond .ne 7, 3) := by decide +kernel
theorem dX10_mayBe_42 : decode cX10_mayBe 42 = .ok (.iconst (-1), 1) := by decide +kernel
theorem dX10_mayBe_43 : decode cX10_mayBe 43 = .ok (.goto 9, 3) := by decide +kernel
theorem dX10_mayBe_46 : decode cX10_mayBe 46 = .ok (.aload_n 0, 1) := by decide +kernel
theorem dX10_mayBe_47 : decode cX10_mayBe 47 = .ok (.iload_n 3, 1) := by decide +kernel
theorem dX10_mayBe_48 : decode cX10_mayBe 48 = .ok (.iload_n 2, 1) := by decide +kernel
theorem dX10_mayBe_49 : decode cX10_mayBe 49 = .ok (.invokevirtual 410, 3) := by decide +kernel
theorem dX10_mayBe_52 : decode cX10_mayBe 52 = .ok (.istore 4, 2) := by decide +kernel
theorem dX10_mayBe_54 : decode cX10_mayBe 54 = .ok (.iload 4, 2) := by decide +kernel
theorem dX10_mayBe_56 : decode cX10_mayBe 56 = .ok (.iconst (-1), 1) := by decide +kernel
theorem dX10_mayBe_57 : decode cX10_mayBe 57 = .ok (.if_icmp .eq 25, 3) := by decide +kernel
theorem dX10_mayBe_60 : decode cX10_mayBe 60 = .ok (.aload_n 0, 1) := by decide +kernel
theorem dX10_mayBe_61 : decode cX10_mayBe 61 = .ok (.getfield 70, 3) := by decide +kernel
theorem dX10_mayBe_64 : decode cX10_mayBe 64 = .ok (.sipush 16807, 3) := by decide +kernel
theorem dX10_mayBe_67 : decode cX10_mayBe 67 = .ok (.iload_n 1, 1) := by decide +kernel
theorem dX10_mayBe_68 : decode cX10_mayBe 68 = .ok (.iconst 1, 1) := by decide +kernel
theorem dX10_mayBe_69 : decode cX10_mayBe 69 = .ok (.iadd, 1) := by decide +kernel
theorem dX10_mayBe_70 : decode cX10_mayBe 70 = .ok (.imul, 1) := by decide +kernel
theorem dX10_mayBe_71 : decode cX10_mayBe 71 = .ok (.iload 4, 2) := by decide +kernel
theorem dX10_mayBe_73 : decode cX10_mayBe 73 = .ok (.iadd, 1) := by decide +kernel
theorem dX10_mayBe_74 : decode cX10_mayBe 74 = .ok (.laload, 1) := by decide +kernel
theorem dX10_mayBe_75 : decode cX10_mayBe 75 = .ok (.lconst 0, 1) := by decide +kernel
theorem dX10_mayBe_76 : decode cX10_mayBe 76 = .ok (.lcmp, 1) := by decide +kernel
theorem dX10_mayBe_77 : decode cX10_mayBe 77 = .ok (.ifCond .le 5, 3) := by decide +kernel
theorem dX10_mayBe_80 : decode cX10_mayBe 80 = .ok (.iconst 1, 1) := by decide +kernel
theorem dX10_mayBe_81 : decode cX10_mayBe 81 = .ok (.ireturn, 1) := by decide +kernel
theorem dX10_mayBe_82 : decode cX10_mayBe 82 = .ok (.iinc 3 1, 3) := by decide +kernel
theorem dX10_mayBe_85 : decode cX10_mayBe 85 = .ok (.goto (-68), 3) := by decide +kernel
theorem dX10_mayBe_88 : decode cX10_mayBe 88 = .ok (.iconst 0, 1) := by decide +kernel
theorem dX10_mayBe_89 : decode cX10_mayBe 89 = .ok (.ireturn, 1) := by decide +kernel
set_option maxRecDepth 20000 in
theorem ggX10_whose_X10_hasDark : GoodIn wsX10_whose wsX10_hasDark := goodIn_r _ [9, 10, 11, 2, 12, 13, 14, 8, 15, 16, 17, 18, 19, 76, 77, 78, 79, 80, 81, 82, 83, 84, 85, 86, 87, 88, 89, 90, 91, 92, 93, 94, 95, 96, 97, 98, 99, 100, 101, 102, 103, 104, 105, 106, 107, 108, 109, 110, 111, 112, 113, 114, 115, 116, 117, 118, 119, 120, 121, 122, 123, 124, 125] (by decide +kernel) (by decide +kernel)
set_option maxRecDepth 20000 in
theorem gX10_whose_X10_hasDark : GoodIn wsX10_whose (wsV RX10 392 RX10 yX10_hasDark wsX10_hasDark) := goodIn_app (goodIn_of _ (by decide +kernel)) ggX10_whose_X10_hasDark
set_option maxRecDepth 20000 in
theorem ggX10_whose_X10_hand : GoodIn wsX10_whose wsX10_hand := goodIn_r _ [23, 24, 3, 25, 26, 12, 13, 14, 8, 15, 16, 17, 18, 19, 27, 28, 29, 30, 31, 76, 77, 78, 79, 80, 81, 82, 83, 84, 85, 86, 87, 88, 89, 90, 91, 92, 93, 94, 95, 96, 97, 98, 99, 100, 101, 102, 103, 104, 105, 106, 107, 108, 109, 110, 111, 112, 113, 114, 115, 116, 117, 118, 119, 120, 121, 122, 123, 124, 125] (by decide +kernel) (by decide +kernel)
set_option maxRecDepth 20000 in
theorem gX10_whose_X10_hand : GoodIn wsX10_whose (wsV RX10 237 RX10 yX10_hand wsX10_hand) := goodIn_app (goodIn_of _ (by decide +kernel)) ggX10_whose_X10_hand
set_option maxRecDepth 20000 in
theorem ggX10_whose_X10_in : GoodIn wsX10_whose wsX10_in := goodIn_r _ [19] (by decide +kernel) (by decide +kernel)
set_option maxRecDepth 20000 in
theorem gX10_whose_X10_in : GoodIn wsX10_whose (va_wsS RX10 92 yX10_in wsX10_in) := goodIn_app (goodIn_of _ (by decide +kernel)) ggX10_whose_X10_in
set_option maxRecDepth 20000 in
theorem ggX10_whose_X10_findDark : GoodIn wsX10_whose wsX10_findDark := goodIn_r _ [35, 36, 2, 37, 4, 38, 39, 40, 8, 41, 3, 42, 43, 44, 45, 46, 47, 48, 49, 50, 51, 52, 53, 54, 55, 56, 27, 28, 29, 30, 31, 24, 57, 58, 59, 60, 11, 10, 61, 62, 63, 64, 65, 66, 67, 68, 69, 70, 71, 76, 77, 78, 79, 80, 81, 82, 83, 84, 85, 86, 87, 88, 89, 90, 91, 92, 93, 94, 95, 96, 97, 98, 99, 100, 101, 102, 103, 104, 105, 106, 107, 108, 109, 110, 111, 112, 113, 114, 115, 116, 117, 118, 119, 120, 121, 122, 123, 124, 125] (by decide +kernel) (by decide +kernel)
set_option maxRecDepth 20000 in
theorem gX10_whose_X10_findDark : GoodIn wsX10_whose (wsV RX10 415 RX10 yX10_findDark wsX10_findDark) := goodIn_app (goodIn_of _ (by decide +kernel)) ggX10_whose_X10_findDark
set_option maxRecDepth 20000 in
theorem ggX10_whose_X10_mayBe : GoodIn wsX10_whose wsX10_mayBe := goodIn_r _ [75, 37, 4, 46, 47, 48, 8, 49, 3, 50, 51, 52, 53, 54, 55, 56, 27, 28, 29, 30, 31, 24, 57, 58, 59, 60, 11, 10, 38, 39, 40, 41, 61, 62, 63, 64, 36, 65, 66, 67, 76, 77, 78, 79, 80, 81, 82, 83, 84, 85, 86, 87, 88, 89, 90, 91, 92, 93, 94, 95, 96, 97, 98, 99, 100, 101, 102, 103, 104, 105, 106, 107, 108, 109, 110, 111, 112, 113, 114, 115, 116, 117, 118, 119, 120, 121, 122, 123, 124, 125] (by decide +kernel) (by decide +kernel)
set_option maxRecDepth 20000 in
theorem gX10_whose_X10_mayBe : GoodIn wsX10_whose (wsV RX10 418 RX10 yX10_mayBe wsX10_mayBe) := goodIn_app (goodIn_of _ (by decide +kernel)) ggX10_whose_X10_mayBe
theorem dX10_whose_0 : decode cX10_whose 0 = .ok (.aload_n 0, 1) := by decide +kernel
theorem dX10_whose_1 : decode cX10_whose 1 = .ok (.iconst 0, 1) := by decide +kernel
theorem dX10_whose_2 : decode cX10_whose 2 = .ok (.putfield 80, 3) := by decide +kernel
theorem dX10_whose_5 : decode cX10_whose 5 = .ok (.aload_n 0, 1) := by decide +kernel
theorem dX10_whose_6 : decode cX10_whose 6 = .ok (.iload_n 2, 1) := by decide +kernel
theorem dX10_whose_7 : decode cX10_whose 7 = .ok (.invokevirtual 392, 3) := by decide +kernel
theorem dX10_whose_10 : decode cX10_whose 10 = .ok (.ifCond .eq 25, 3) := by decide +kernel
theorem dX10_whose_13 : decode cX10_whose 13 = .ok (.aload_n 0, 1) := by decide +kernel
theorem dX10_whose_14 : decode cX10_whose 14 = .ok (.iload_n 1, 1) := by decide +kernel
theorem dX10_whose_15 : decode cX10_whose 15 = .ok (.invokevirtual 237, 3) := by decide +kernel
theorem dX10_whose_18 : decode cX10_whose 18 = .ok (.ifCond .eq 17, 3) := by decide +kernel
theorem dX10_whose_21 : decode cX10_whose 21 = .ok (.iload_n 3, 1) := by decide +kernel
theorem dX10_whose_22 : decode cX10_whose 22 = .ok (.iconst 0, 1) := by decide +kernel
theorem dX10_whose_23 : decode cX10_whose 23 = .ok (.aload_n 0, 1) := by decide +kernel
theorem dX10_whose_24 : decode cX10_whose 24 = .ok (.getfield 389, 3) := by decide +kernel
theorem dX10_whose_27 : decode cX10_whose 27 = .ok (.iconst 1, 1) := by decide +kernel
theorem dX10_whose_28 : decode cX10_whose 28 = .ok (.isub, 1) := by decide +kernel
theorem dX10_whose_29 : decode cX10_whose 29 = .ok (.invokestatic 92, 3) := by decide +kernel
theorem dX10_whose_32 : decode cX10_whose 32 = .ok (.ifCond .ne 6, 3) := by decide +kernel
theorem dX10_whose_35 : decode cX10_whose 35 = .ok (.bipush (-2), 2) := by decide +kernel
theorem dX10_whose_37 : decode cX10_whose 37 = .ok (.ireturn, 1) := by decide +kernel
theorem dX10_whose_38 : decode cX10_whose 38 = .ok (.aload_n 0, 1) := by decide +kernel
theorem dX10_whose_39 : decode cX10_whose 39 = .ok (.invokevirtual 415, 3) := by decide +kernel
theorem dX10_whose_42 : decode cX10_whose 42 = .ok (.iconst 0, 1) := by decide +kernel
theorem dX10_whose_43 : decode cX10_whose 43 = .ok (.istore 5, 2) := by decide +kernel
theorem dX10_whose_45 : decode cX10_whose 45 = .ok (.iconst 1, 1) := by decide +kernel
theorem dX10_whose_46 : decode cX10_whose 46 = .ok (.aload_n 0, 1) := by decide +kernel
theorem dX10_whose_47 : decode cX10_whose 47 = .ok (.getfield 228, 3) := by decide +kernel
theorem dX10_whose_50 : decode cX10_whose 50 = .ok (.ishl, 1) := by decide +kernel
theorem dX10_whose_51 : decode cX10_whose 51 = .ok (.iconst 1, 1) := by decide +kernel
theorem dX10_whose_52 : decode cX10_whose 52 = .ok (.isub, 1) := by decide +kernel
theorem dX10_whose_53 : decode cX10_whose 53 = .ok (.istore 6, 2) := by decide +kernel
theorem dX10_whose_55 : decode cX10_whose 55 = .ok (.iconst 0, 1) := by decide +kernel
theorem dX10_whose_56 : decode cX10_whose 56 = .ok (.istore 7, 2) := by decide +kernel
theorem dX10_whose_58 : decode cX10_whose 58 = .ok (.iload 7, 2) := by decide +kernel
theorem dX10_whose_60 : decode cX10_whose 60 = .ok (.iconst 1, 1) := by decide +kernel
theorem dX10_whose_61 : decode cX10_whose 61 = .ok (.aload_n 0, 1) := by decide +kernel
theorem dX10_whose_62 : decode cX10_whose 62 = .ok (.getfield 228, 3) := by decide +kernel
theorem dX10_whose_65 : decode cX10_whose 65 = .ok (.ishl, 1) := by decide +kernel
theorem dX10_whose_66 : decode cX10_whose 66 = .ok (.if_icmp .ge 33, 3) := by decide +kernel
theorem dX10_whose_69 : decode cX10_whose 69 = .ok (.aload_n 0, 1) := by decide +kernel
theorem dX10_whose_70 : decode cX10_whose 70 = .ok (.iload_n 3, 1) := by decide +kernel
theorem dX10_whose_71 : decode cX10_whose 71 = .ok (.iload 7, 2) := by decide +kernel
theorem dX10_whose_73 : decode cX10_whose 73 = .ok (.invokevirtual 418, 3) := by decide +kernel
theorem dX10_whose_76 : decode cX10_whose 76 = .ok (.ifCond .eq 17, 3) := by decide +kernel
theorem dX10_whose_79 : decode cX10_whose 79 = .ok (.iload 5, 2) := by decide +kernel
theorem dX10_whose_81 : decode cX10_whose 81 = .ok (.iload 7, 2) := by decide +kernel
theorem dX10_whose_83 : decode cX10_whose 83 = .ok (.ior, 1) := by decide +kernel
theorem dX10_whose_84 : decode cX10_whose 84 = .ok (.istore 5, 2) := by decide +kernel
theorem dX10_whose_86 : decode cX10_whose 86 = .ok (.iload 6, 2) := by decide +kernel
theorem dX10_whose_88 : decode cX10_whose 88 = .ok (.iload 7, 2) := by decide +kernel
theorem dX10_whose_90 : decode cX10_whose 90 = .ok (.iand, 1) := by decide +kernel
theorem dX10_whose_91 : decode cX10_whose 91 = .ok (.istore 6, 2) := by decide +kernel
theorem dX10_whose_93 : decode cX10_whose 93 = .ok (.iinc 7 1, 3) := by decide +kernel
theorem dX10_whose_96 : decode cX10_whose 96 = .ok (.goto (-38), 3) := by decide +kernel
theorem dX10_whose_99 : decode cX10_whose 99 = .ok (.iload 4, 2) := by decide +kernel
theorem dX10_whose_101 : decode cX10_whose 101 = .ok (.ifCond .eq 8, 3) := by decide +kernel
theorem dX10_whose_104 : decode cX10_whose 104 = .ok (.iload 5, 2) := by decide +kernel
theorem dX10_whose_106 : decode cX10_whose 106 = .ok (.goto 20, 3) := by decide +kernel
theorem dX10_whose_109 : decode cX10_whose 109 = .ok (.aload_n 0, 1) := by decide +kernel
theorem dX10_whose_110 : decode cX10_whose 110 = .ok (.getfield 70, 3) := by decide +kernel
theorem dX10_whose_113 : decode cX10_whose 113 = .ok (.iconst 0, 1) := by decide +kernel
theorem dX10_whose_114 : decode cX10_whose 114 = .ok (.laload, 1) := by decide +kernel
theorem dX10_whose_115 : decode cX10_whose 115 = .ok (.lconst 0, 1) := by decide +kernel
theorem dX10_whose_116 : decode cX10_whose 116 = .ok (.lcmp, 1) := by decide +kernel
theorem dX10_whose_117 : decode cX10_whose 117 = .ok (.ifCond .ne 7, 3) := by decide +kernel
theorem dX10_whose_120 : decode cX10_whose 120 = .ok (.iconst (-1), 1) := by decide +kernel
theorem dX10_whose_121 : decode cX10_whose 121 = .ok (.goto 5, 3) := by decide +kernel
theorem dX10_whose_124 : decode cX10_whose 124 = .ok (.iload 6, 2) := by decide +kernel
theorem dX10_whose_126 : decode cX10_whose 126 = .ok (.ireturn, 1) := by decide +kernel
theorem dX10_draw_0 : decode cX10_draw 0 = .ok (.aload_n 0, 1) := by decide +kernel
theorem dX10_draw_1 : decode cX10_draw 1 = .ok (.aload_n 0, 1) := by decide +kernel
theorem dX10_draw_2 : decode cX10_draw 2 = .ok (.getfield 421, 3) := by decide +kernel
theorem dX10_draw_5 : decode cX10_draw 5 = .ok (.ldc_w 424, 3) := by decide +kernel
theorem dX10_draw_8 : decode cX10_draw 8 = .ok (.imul, 1) := by decide +kernel
theorem dX10_draw_9 : decode cX10_draw 9 = .ok (.sipush 12345, 3) := by decide +kernel
theorem dX10_draw_12 : decode cX10_draw 12 = .ok (.iadd, 1) := by decide +kernel
theorem dX10_draw_13 : decode cX10_draw 13 = .ok (.putfield 421, 3) := by decide +kernel
theorem dX10_draw_16 : decode cX10_draw 16 = .ok (.aload_n 0, 1) := by decide +kernel
theorem dX10_draw_17 : decode cX10_draw 17 = .ok (.getfield 421, 3) := by decide +kernel
theorem dX10_draw_20 : decode cX10_draw 20 = .ok (.bipush 16, 2) := by decide +kernel
theorem dX10_draw_22 : decode cX10_draw 22 = .ok (.iushr, 1) := by decide +kernel
theorem dX10_draw_23 : decode cX10_draw 23 = .ok (.iload_n 1, 1) := by decide +kernel
theorem dX10_draw_24 : decode cX10_draw 24 = .ok (.irem, 1) := by decide +kernel
theorem dX10_draw_25 : decode cX10_draw 25 = .ok (.ireturn, 1) := by decide +kernel
set_option maxRecDepth 20000 in
theorem ggX10_livingOne_X10_has : GoodIn wsX10_livingOne wsX10_has := goodIn_r _ [5] (by decide +kernel) (by decide +kernel)
set_option maxRecDepth 20000 in
theorem gX10_livingOne_X10_has : GoodIn wsX10_livingOne (va_wsS RX10 84 yX10_has wsX10_has) := goodIn_app (goodIn_of _ (by decide +kernel)) ggX10_livingOne_X10_has
theorem dX10_livingOne_0 : decode cX10_livingOne 0 = .ok (.iload_n 1, 1) := by decide +kernel
theorem dX10_livingOne_1 : decode cX10_livingOne 1 = .ok (.istore_n 2, 1) := by decide +kernel
theorem dX10_livingOne_2 : decode cX10_livingOne 2 = .ok (.iconst 0, 1) := by decide +kernel
theorem dX10_livingOne_3 : decode cX10_livingOne 3 = .ok (.istore_n 3, 1) := by decide +kernel
theorem dX10_livingOne_4 : decode cX10_livingOne 4 = .ok (.aload_n 0, 1) := by decide +kernel
theorem dX10_livingOne_5 : decode cX10_livingOne 5 = .ok (.getfield 267, 3) := by decide +kernel
theorem dX10_livingOne_8 : decode cX10_livingOne 8 = .ok (.iload_n 3, 1) := by decide +kernel
theorem dX10_livingOne_9 : decode cX10_livingOne 9 = .ok (.invokestatic 84, 3) := by decide +kernel
theorem dX10_livingOne_12 : decode cX10_livingOne 12 = .ok (.ifCond .eq 7, 3) := by decide +kernel
theorem dX10_livingOne_15 : decode cX10_livingOne 15 = .ok (.iload_n 2, 1) := by decide +kernel
theorem dX10_livingOne_16 : decode cX10_livingOne 16 = .ok (.ifCond .le 28, 3) := by decide +kernel
theorem dX10_livingOne_19 : decode cX10_livingOne 19 = .ok (.iload_n 2, 1) := by decide +kernel
theorem dX10_livingOne_20 : decode cX10_livingOne 20 = .ok (.aload_n 0, 1) := by decide +kernel
theorem dX10_livingOne_21 : decode cX10_livingOne 21 = .ok (.getfield 267, 3) := by decide +kernel
theorem dX10_livingOne_24 : decode cX10_livingOne 24 = .ok (.iload_n 3, 1) := by decide +kernel
theorem dX10_livingOne_25 : decode cX10_livingOne 25 = .ok (.invokestatic 84, 3) := by decide +kernel
theorem dX10_livingOne_28 : decode cX10_livingOne 28 = .ok (.ifCond .eq 7, 3) := by decide +kernel
theorem dX10_livingOne_31 : decode cX10_livingOne 31 = .ok (.iconst 1, 1) := by decide +kernel
theorem dX10_livingOne_32 : decode cX10_livingOne 32 = .ok (.goto 4, 3) := by decide +kernel
theorem dX10_livingOne_35 : decode cX10_livingOne 35 = .ok (.iconst 0, 1) := by decide +kernel
theorem dX10_livingOne_36 : decode cX10_livingOne 36 = .ok (.isub, 1) := by decide +kernel
theorem dX10_livingOne_37 : decode cX10_livingOne 37 = .ok (.istore_n 2, 1) := by decide +kernel
theorem dX10_livingOne_38 : decode cX10_livingOne 38 = .ok (.iinc 3 1, 3) := by decide +kernel
theorem dX10_livingOne_41 : decode cX10_livingOne 41 = .ok (.goto (-37), 3) := by decide +kernel
theorem dX10_livingOne_44 : decode cX10_livingOne 44 = .ok (.iload_n 3, 1) := by decide +kernel
theorem dX10_livingOne_45 : decode cX10_livingOne 45 = .ok (.ireturn, 1) := by decide +kernel
set_option maxRecDepth 20000 in
theorem ggX10_drawn_X10_in : GoodIn wsX10_drawn wsX10_in := goodIn_r _ [11] (by decide +kernel) (by decide +kernel)
set_option maxRecDepth 20000 in
theorem gX10_drawn_X10_in : GoodIn wsX10_drawn (va_wsS RX10 92 yX10_in wsX10_in) := goodIn_app (goodIn_of _ (by decide +kernel)) ggX10_drawn_X10_in
set_option maxRecDepth 20000 in
theorem ggX10_drawn_X10_hand : GoodIn wsX10_drawn wsX10_hand := goodIn_r _ [15, 16, 4, 2, 17, 18, 19, 20, 10, 21, 22, 8, 9, 11, 23, 24, 25, 26, 27, 91, 92, 93, 94, 95, 96, 97, 98, 99, 100, 101, 102, 103, 104, 105, 106, 107, 108, 109, 110, 111, 112, 113, 114, 115, 116, 117, 118, 119, 120, 121, 122, 123, 124, 125, 126, 127, 128, 129, 130, 131, 132, 133, 134, 135, 136, 137, 138, 139, 140] (by decide +kernel) (by decide +kernel)
set_option maxRecDepth 20000 in
theorem gX10_drawn_X10_hand : GoodIn wsX10_drawn (wsV RX10 237 RX10 yX10_hand wsX10_hand) := goodIn_app (goodIn_of _ (by decide +kernel)) ggX10_drawn_X10_hand
set_option maxRecDepth 20000 in
theorem ggX10_drawn_X10_begin : GoodIn wsX10_drawn wsX10_begin := goodIn_r _ [31, 6, 32, 33, 2, 5, 34, 35, 36, 37, 7, 38, 39, 23, 24, 25, 10, 26, 27, 16, 40, 41, 42, 43, 4, 44, 45, 91, 92, 93, 94, 95, 96, 97, 98, 99, 100, 101, 102, 103, 104, 105, 106, 107, 108, 109, 110, 111, 112, 113, 114, 115, 116, 117, 118, 119, 120, 121, 122, 123, 124, 125, 126, 127, 128, 129, 130, 131, 132, 133, 134, 135, 136, 137, 138, 139, 140] (by decide +kernel) (by decide +kernel)
set_option maxRecDepth 20000 in
theorem gX10_drawn_X10_begin : GoodIn wsX10_drawn (wsV RX10 323 RX10 yX10_begin wsX10_begin) := goodIn_app (goodIn_of _ (by decide +kernel)) ggX10_drawn_X10_begin
set_option maxRecDepth 20000 in
theorem ggX10_drawn_X10_of : GoodIn wsX10_drawn wsX10_of := goodIn_r _ [26, 27, 16, 91, 92, 93, 94, 95, 96, 97, 98, 99, 100, 101, 102, 103, 104, 105, 106, 107, 108, 109, 110, 111, 112, 113, 114, 115, 116, 117, 118, 119, 120, 121, 122, 123, 124, 125, 126, 127, 128, 129, 130, 131, 132, 133, 134, 135, 136, 137, 138, 139, 140] (by decide +kernel) (by decide +kernel)
set_option maxRecDepth 20000 in
theorem gX10_drawn_X10_of : GoodIn wsX10_drawn (wsV RX10 224 RX10 yX10_of wsX10_of) := goodIn_app (goodIn_of _ (by decide +kernel)) ggX10_drawn_X10_of
set_option maxRecDepth 20000 in
theorem ggX10_drawn_X10_ones : GoodIn wsX10_drawn wsX10_ones := goodIn_r _ [48, 49, 50, 10, 51] (by decide +kernel) (by decide +kernel)
set_option maxRecDepth 20000 in
theorem gX10_drawn_X10_ones : GoodIn wsX10_drawn (va_wsS RX10 368 yX10_ones wsX10_ones) := goodIn_app (goodIn_of _ (by decide +kernel)) ggX10_drawn_X10_ones
set_option maxRecDepth 20000 in
theorem ggX10_drawn_X10_draw : GoodIn wsX10_drawn wsX10_draw := goodIn_r _ [55, 3, 56, 91, 92, 93, 94, 95, 96, 97, 98, 99, 100, 101, 102, 103, 104, 105, 106, 107, 108, 109, 110, 111, 112, 113, 114, 115, 116, 117, 118, 119, 120, 121, 122, 123, 124, 125, 126, 127, 128, 129, 130, 131, 132, 133, 134, 135, 136, 137, 138, 139, 140] (by decide +kernel) (by decide +kernel)
set_option maxRecDepth 20000 in
theorem gX10_drawn_X10_draw : GoodIn wsX10_drawn (wsV RX10 425 RX10 yX10_draw wsX10_draw) := goodIn_app (goodIn_of _ (by decide +kernel)) ggX10_drawn_X10_draw
set_option maxRecDepth 20000 in
theorem ggX10_drawn_X10_livingOne : GoodIn wsX10_drawn wsX10_livingOne := goodIn_r _ [60, 5, 49, 50, 10, 51, 91, 92, 93, 94, 95, 96, 97, 98, 99, 100, 101, 102, 103, 104, 105, 106, 107, 108, 109, 110, 111, 112, 113, 114, 115, 116, 117, 118, 119, 120, 121, 122, 123, 124, 125, 126, 127, 128, 129, 130, 131, 132, 133, 134, 135, 136, 137, 138, 139, 140] (by decide +kernel) (by decide +kernel)
set_option maxRecDepth 20000 in
theorem gX10_drawn_X10_livingOne : GoodIn wsX10_drawn (wsV RX10 428 RX10 yX10_livingOne wsX10_livingOne) := goodIn_app (goodIn_of _ (by decide +kernel)) ggX10_drawn_X10_livingOne
set_option maxRecDepth 20000 in
theorem ggX10_drawn_X10_handsOf : GoodIn wsX10_drawn wsX10_handsOf := goodIn_r _ [64, 23, 24, 25, 10, 26, 27, 16, 91, 92, 93, 94, 95, 96, 97, 98, 99, 100, 101, 102, 103, 104, 105, 106, 107, 108, 109, 110, 111, 112, 113, 114, 115, 116, 117, 118, 119, 120, 121, 122, 123, 124, 125, 126, 127, 128, 129, 130, 131, 132, 133, 134, 135, 136, 137, 138, 139, 140] (by decide +kernel) (by decide +kernel)
set_option maxRecDepth 20000 in
theorem gX10_drawn_X10_handsOf : GoodIn wsX10_drawn (wsV RX10 288 RX10 yX10_handsOf wsX10_handsOf) := goodIn_app (goodIn_of _ (by decide +kernel)) ggX10_drawn_X10_handsOf
set_option maxRecDepth 20000 in
theorem ggX10_drawn_X10_gets : GoodIn wsX10_drawn wsX10_gets := goodIn_r _ [68, 7, 6, 91, 92, 93, 94, 95, 96, 97, 98, 99, 100, 101, 102, 103, 104, 105, 106, 107, 108, 109, 110, 111, 112, 113, 114, 115, 116, 117, 118, 119, 120, 121, 122, 123, 124, 125, 126, 127, 128, 129, 130, 131, 132, 133, 134, 135, 136, 137, 138, 139, 140] (by decide +kernel) (by decide +kernel)
set_option maxRecDepth 20000 in
theorem gX10_drawn_X10_gets : GoodIn wsX10_drawn (wsV RX10 291 RX10 yX10_gets wsX10_gets) := goodIn_app (goodIn_of _ (by decide +kernel)) ggX10_drawn_X10_gets
set_option maxRecDepth 20000 in
theorem ggX10_drawn_X10_night : GoodIn wsX10_drawn wsX10_night := goodIn_r _ [72, 2, 5, 39, 33, 7, 17, 73, 74, 75, 36, 49, 50, 10, 51, 76, 77, 78, 79, 6, 80, 81, 82, 83, 32, 84, 85, 86, 87, 23, 24, 25, 26, 27, 16, 65, 66, 67, 68, 88, 89, 90, 40, 41, 42, 43, 4, 44, 45, 91, 92, 93, 94, 95, 96, 97, 98, 99, 100, 101, 102, 103, 104, 105, 106, 107, 108, 109, 110, 111, 112, 113, 114, 115, 116, 117, 118, 119, 120, 121, 122, 123, 124, 125, 126, 127, 128, 129, 130, 131, 132, 133, 134, 135, 136, 137, 138, 139, 140] (by decide +kernel) (by decide +kernel)
set_option maxRecDepth 20000 in
theorem gX10_drawn_X10_night : GoodIn wsX10_drawn (wsV RX10 317 RX10 yX10_night wsX10_night) := goodIn_app (goodIn_of _ (by decide +kernel)) ggX10_drawn_X10_night
theorem dX10_drawn_0 : decode cX10_drawn 0 = .ok (.aload_n 0, 1) := by decide +kernel
theorem dX10_drawn_1 : decode cX10_drawn 1 = .ok (.iconst 0, 1) := by decide +kernel
theorem dX10_drawn_2 : decode cX10_drawn 2 = .ok (.putfield 80, 3) := by decide +kernel
theorem dX10_drawn_5 : decode cX10_drawn 5 = .ok (.iload_n 3, 1) := by decide +kernel
theorem dX10_drawn_6 : decode cX10_drawn 6 = .ok (.iconst 0, 1) := by decide +kernel
theorem dX10_drawn_7 : decode cX10_drawn 7 = .ok (.bipush 20, 2) := by decide +kernel
theorem dX10_drawn_9 : decode cX10_drawn 9 = .ok (.invokestatic 92, 3) := by decide +kernel
theorem dX10_drawn_12 : decode cX10_drawn 12 = .ok (.ifCond .eq 38, 3) := by decide +kernel
theorem dX10_drawn_15 : decode cX10_drawn 15 = .ok (.aload_n 0, 1) := by decide +kernel
theorem dX10_drawn_16 : decode cX10_drawn 16 = .ok (.iload_n 1, 1) := by decide +kernel
theorem dX10_drawn_17 : decode cX10_drawn 17 = .ok (.invokevirtual 237, 3) := by decide +kernel
theorem dX10_drawn_20 : decode cX10_drawn 20 = .ok (.ifCond .eq 30, 3) := by decide +kernel
theorem dX10_drawn_23 : decode cX10_drawn 23 = .ok (.iload 4, 2) := by decide +kernel
theorem dX10_drawn_25 : decode cX10_drawn 25 = .ok (.iconst 0, 1) := by decide +kernel
theorem dX10_drawn_26 : decode cX10_drawn 26 = .ok (.iconst 1, 1) := by decide +kernel
theorem dX10_drawn_27 : decode cX10_drawn 27 = .ok (.invokestatic 92, 3) := by decide +kernel
theorem dX10_drawn_30 : decode cX10_drawn 30 = .ok (.ifCond .ne 22, 3) := by decide +kernel
theorem dX10_drawn_33 : decode cX10_drawn 33 = .ok (.iload 4, 2) := by decide +kernel
theorem dX10_drawn_35 : decode cX10_drawn 35 = .ok (.bipush 10, 2) := by decide +kernel
theorem dX10_drawn_37 : decode cX10_drawn 37 = .ok (.bipush 9, 2) := by decide +kernel
theorem dX10_drawn_39 : decode cX10_drawn 39 = .ok (.aload_n 0, 1) := by decide +kernel
theorem dX10_drawn_40 : decode cX10_drawn 40 = .ok (.getfield 231, 3) := by decide +kernel
theorem dX10_drawn_43 : decode cX10_drawn 43 = .ok (.iadd, 1) := by decide +kernel
theorem dX10_drawn_44 : decode cX10_drawn 44 = .ok (.invokestatic 92, 3) := by decide +kernel
theorem dX10_drawn_47 : decode cX10_drawn 47 = .ok (.ifCond .ne 5, 3) := by decide +kernel
theorem dX10_drawn_50 : decode cX10_drawn 50 = .ok (.iconst (-1), 1) := by decide +kernel
theorem dX10_drawn_51 : decode cX10_drawn 51 = .ok (.ireturn, 1) := by decide +kernel
theorem dX10_drawn_52 : decode cX10_drawn 52 = .ok (.aload_n 0, 1) := by decide +kernel
theorem dX10_drawn_53 : decode cX10_drawn 53 = .ok (.iload_n 2, 1) := by decide +kernel
theorem dX10_drawn_54 : decode cX10_drawn 54 = .ok (.putfield 421, 3) := by decide +kernel
theorem dX10_drawn_57 : decode cX10_drawn 57 = .ok (.aload_n 0, 1) := by decide +kernel
theorem dX10_drawn_58 : decode cX10_drawn 58 = .ok (.invokevirtual 323, 3) := by decide +kernel
theorem dX10_drawn_61 : decode cX10_drawn 61 = .ok (.iconst 0, 1) := by decide +kernel
theorem dX10_drawn_62 : decode cX10_drawn 62 = .ok (.istore 5, 2) := by decide +kernel
theorem dX10_drawn_64 : decode cX10_drawn 64 = .ok (.iload 5, 2) := by decide +kernel
theorem dX10_drawn_66 : decode cX10_drawn 66 = .ok (.iload_n 3, 1) := by decide +kernel
theorem dX10_drawn_67 : decode cX10_drawn 67 = .ok (.if_icmp .ge 88, 3) := by decide +kernel
theorem dX10_drawn_70 : decode cX10_drawn 70 = .ok (.iconst 0, 1) := by decide +kernel
theorem dX10_drawn_71 : decode cX10_drawn 71 = .ok (.istore 6, 2) := by decide +kernel
theorem dX10_drawn_73 : decode cX10_drawn 73 = .ok (.iload 6, 2) := by decide +kernel
theorem dX10_drawn_75 : decode cX10_drawn 75 = .ok (.aload_n 0, 1) := by decide +kernel
theorem dX10_drawn_76 : decode cX10_drawn 76 = .ok (.getfield 228, 3) := by decide +kernel
theorem dX10_drawn_79 : decode cX10_drawn 79 = .ok (.if_icmp .ge 66, 3) := by decide +kernel
theorem dX10_drawn_82 : decode cX10_drawn 82 = .ok (.iconst 0, 1) := by decide +kernel
theorem dX10_drawn_83 : decode cX10_drawn 83 = .ok (.istore 7, 2) := by decide +kernel
theorem dX10_drawn_85 : decode cX10_drawn 85 = .ok (.iload 7, 2) := by decide +kernel
theorem dX10_drawn_87 : decode cX10_drawn 87 = .ok (.aload_n 0, 1) := by decide +kernel
theorem dX10_drawn_88 : decode cX10_drawn 88 = .ok (.bipush 6, 2) := by decide +kernel
theorem dX10_drawn_90 : decode cX10_drawn 90 = .ok (.iconst 2, 1) := by decide +kernel
theorem dX10_drawn_91 : decode cX10_drawn 91 = .ok (.iload 6, 2) := by decide +kernel
theorem dX10_drawn_93 : decode cX10_drawn 93 = .ok (.imul, 1) := by decide +kernel
theorem dX10_drawn_94 : decode cX10_drawn 94 = .ok (.iadd, 1) := by decide +kernel
theorem dX10_drawn_95 : decode cX10_drawn 95 = .ok (.invokevirtual 224, 3) := by decide +kernel
theorem dX10_drawn_98 : decode cX10_drawn 98 = .ok (.if_icmp .ge 41, 3) := by decide +kernel
theorem dX10_drawn_101 : decode cX10_drawn 101 = .ok (.aload_n 0, 1) := by decide +kernel
theorem dX10_drawn_102 : decode cX10_drawn 102 = .ok (.getfield 267, 3) := by decide +kernel
theorem dX10_drawn_105 : decode cX10_drawn 105 = .ok (.ifCond .eq 34, 3) := by decide +kernel
theorem dX10_drawn_108 : decode cX10_drawn 108 = .ok (.aload_n 0, 1) := by decide +kernel
theorem dX10_drawn_109 : decode cX10_drawn 109 = .ok (.aload_n 0, 1) := by decide +kernel
theorem dX10_drawn_110 : decode cX10_drawn 110 = .ok (.aload_n 0, 1) := by decide +kernel
theorem dX10_drawn_111 : decode cX10_drawn 111 = .ok (.aload_n 0, 1) := by decide +kernel
theorem dX10_drawn_112 : decode cX10_drawn 112 = .ok (.getfield 267, 3) := by decide +kernel
theorem dX10_drawn_115 : decode cX10_drawn 115 = .ok (.invokestatic 368, 3) := by decide +kernel
theorem dX10_drawn_118 : decode cX10_drawn 118 = .ok (.invokevirtual 425, 3) := by decide +kernel
theorem dX10_drawn_121 : decode cX10_drawn 121 = .ok (.invokevirtual 428, 3) := by decide +kernel
theorem dX10_drawn_124 : decode cX10_drawn 124 = .ok (.aload_n 0, 1) := by decide +kernel
theorem dX10_drawn_125 : decode cX10_drawn 125 = .ok (.iload 6, 2) := by decide +kernel
theorem dX10_drawn_127 : decode cX10_drawn 127 = .ok (.invokevirtual 288, 3) := by decide +kernel
theorem dX10_drawn_130 : decode cX10_drawn 130 = .ok (.invokevirtual 291, 3) := by decide +kernel
theorem dX10_drawn_133 : decode cX10_drawn 133 = .ok (.iinc 7 1, 3) := by decide +kernel
theorem dX10_drawn_136 : decode cX10_drawn 136 = .ok (.goto (-51), 3) := by decide +kernel
theorem dX10_drawn_139 : decode cX10_drawn 139 = .ok (.iinc 6 1, 3) := by decide +kernel
theorem dX10_drawn_142 : decode cX10_drawn 142 = .ok (.goto (-69), 3) := by decide +kernel
theorem dX10_drawn_145 : decode cX10_drawn 145 = .ok (.aload_n 0, 1) := by decide +kernel
theorem dX10_drawn_146 : decode cX10_drawn 146 = .ok (.invokevirtual 317, 3) := by decide +kernel
theorem dX10_drawn_149 : decode cX10_drawn 149 = .ok (.iinc 5 1, 3) := by decide +kernel
theorem dX10_drawn_152 : decode cX10_drawn 152 = .ok (.goto (-88), 3) := by decide +kernel
theorem dX10_drawn_155 : decode cX10_drawn 155 = .ok (.iload 4, 2) := by decide +kernel
theorem dX10_drawn_157 : decode cX10_drawn 157 = .ok (.ifCond .ne 10, 3) := by decide +kernel
theorem dX10_drawn_160 : decode cX10_drawn 160 = .ok (.aload_n 0, 1) := by decide +kernel
theorem dX10_drawn_161 : decode cX10_drawn 161 = .ok (.getfield 267, 3) := by decide +kernel
theorem dX10_drawn_164 : decode cX10_drawn 164 = .ok (.goto 26, 3) := by decide +kernel
theorem dX10_drawn_167 : decode cX10_drawn 167 = .ok (.iload 4, 2) := by decide +kernel
theorem dX10_drawn_169 : decode cX10_drawn 169 = .ok (.iconst 1, 1) := by decide +kernel
theorem dX10_drawn_170 : decode cX10_drawn 170 = .ok (.if_icmp .ne 10, 3) := by decide +kernel
theorem dX10_drawn_173 : decode cX10_drawn 173 = .ok (.aload_n 0, 1) := by decide +kernel
theorem dX10_drawn_174 : decode cX10_drawn 174 = .ok (.getfield 258, 3) := by decide +kernel
theorem dX10_drawn_177 : decode cX10_drawn 177 = .ok (.goto 13, 3) := by decide +kernel
theorem dX10_drawn_180 : decode cX10_drawn 180 = .ok (.aload_n 0, 1) := by decide +kernel
theorem dX10_drawn_181 : decode cX10_drawn 181 = .ok (.getfield 50, 3) := by decide +kernel
theorem dX10_drawn_184 : decode cX10_drawn 184 = .ok (.iload 4, 2) := by decide +kernel
theorem dX10_drawn_186 : decode cX10_drawn 186 = .ok (.bipush 10, 2) := by decide +kernel
theorem dX10_drawn_188 : decode cX10_drawn 188 = .ok (.isub, 1) := by decide +kernel
theorem dX10_drawn_189 : decode cX10_drawn 189 = .ok (.iaload, 1) := by decide +kernel
theorem dX10_drawn_190 : decode cX10_drawn 190 = .ok (.ireturn, 1) := by decide +kernel
