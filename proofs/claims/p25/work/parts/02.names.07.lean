abbrev wsX100 : List Cond := u_ws RX10 TX10 50
theorem nmX10 : ∀ a, a < 50 → ∀ b, b < 50 → a ≠ b → (TX10 a).2.1 ≠ (TX10 b).2.1 := by decide +kernel
theorem tyX10_ok : ∀ k, k < 50 → parseFieldDescriptor (TX10 k).2.2.1 = some (tyX10 k) := by decide +kernel
abbrev cX10_in : ByteArray := prog_12_method_3_code
def yX10_in : MethodName := ⟨RX10, "in", "(III)Z"⟩
abbrev cX10_has : ByteArray := prog_12_method_4_code
def yX10_has : MethodName := ⟨RX10, "has", "(II)Z"⟩
abbrev cX10_ones : ByteArray := prog_12_method_5_code
def yX10_ones : MethodName := ⟨RX10, "ones", "(I)I"⟩
abbrev cX10_greater : ByteArray := prog_12_method_6_code
def yX10_greater : MethodName := ⟨RX10, "greater", "(II)I"⟩
abbrev cX10_lesser : ByteArray := prog_12_method_7_code
def yX10_lesser : MethodName := ⟨RX10, "lesser", "(II)I"⟩
abbrev cX10_is : ByteArray := prog_12_method_10_code
def yX10_is : MethodName := ⟨RX10, "is", "(II)Z"⟩
abbrev cX10_of : ByteArray := prog_12_method_32_code
def yX10_of : MethodName := ⟨RX10, "of", "(I)I"⟩
abbrev cX10_hand : ByteArray := prog_12_method_33_code
def yX10_hand : MethodName := ⟨RX10, "hand", "(I)Z"⟩
abbrev cX10_isPalm : ByteArray := prog_12_method_34_code
def yX10_isPalm : MethodName := ⟨RX10, "isPalm", "(I)Z"⟩
abbrev cX10_isActor : ByteArray := prog_12_method_35_code
def yX10_isActor : MethodName := ⟨RX10, "isActor", "(I)Z"⟩
abbrev cX10_handsOf : ByteArray := prog_12_method_36_code
def yX10_handsOf : MethodName := ⟨RX10, "handsOf", "(I)I"⟩
abbrev cX10_hungerOf : ByteArray := prog_12_method_37_code
def yX10_hungerOf : MethodName := ⟨RX10, "hungerOf", "(I)I"⟩
abbrev cX10_theatre : ByteArray := prog_12_method_38_code
def yX10_theatre : MethodName := ⟨RX10, "theatre", "(II)I"⟩
abbrev cX10_deeds : ByteArray := prog_12_method_39_code
def yX10_deeds : MethodName := ⟨RX10, "deeds", "()I"⟩
abbrev cX10_deedOf : ByteArray := prog_12_method_40_code
def yX10_deedOf : MethodName := ⟨RX10, "deedOf", "(II)I"⟩
abbrev cX10_hasBook : ByteArray := prog_12_method_41_code
def yX10_hasBook : MethodName := ⟨RX10, "hasBook", "(I)Z"⟩
abbrev cX10_deed : ByteArray := prog_12_method_42_code
def yX10_deed : MethodName := ⟨RX10, "deed", "(III)I"⟩
abbrev cX10_begin : ByteArray := prog_12_method_43_code
def yX10_begin : MethodName := ⟨RX10, "begin", "()V"⟩
abbrev cX10_morning : ByteArray := prog_12_method_44_code
def yX10_morning : MethodName := ⟨RX10, "morning", "()V"⟩
abbrev cX10_isLiving : ByteArray := prog_12_method_45_code
def yX10_isLiving : MethodName := ⟨RX10, "isLiving", "(I)Z"⟩
abbrev cX10_eats : ByteArray := prog_12_method_46_code
def yX10_eats : MethodName := ⟨RX10, "eats", "(II)I"⟩
abbrev cX10_gets : ByteArray := prog_12_method_47_code
def yX10_gets : MethodName := ⟨RX10, "gets", "(II)V"⟩
abbrev cX10_clapsFor : ByteArray := prog_12_method_48_code
def yX10_clapsFor : MethodName := ⟨RX10, "clapsFor", "(III)Z"⟩
abbrev cX10_gives : ByteArray := prog_12_method_49_code
def yX10_gives : MethodName := ⟨RX10, "gives", "(IIIZ)Z"⟩
abbrev cX10_hushes : ByteArray := prog_12_method_50_code
def yX10_hushes : MethodName := ⟨RX10, "hushes", "(III)Z"⟩
abbrev cX10_eatsNow : ByteArray := prog_12_method_51_code
def yX10_eatsNow : MethodName := ⟨RX10, "eatsNow", "(I)Z"⟩
abbrev cX10_night : ByteArray := prog_12_method_52_code
def yX10_night : MethodName := ⟨RX10, "night", "()V"⟩
abbrev cX10_does : ByteArray := prog_12_method_53_code
def yX10_does : MethodName := ⟨RX10, "does", "(I)Z"⟩
abbrev cX10_doesNext : ByteArray := prog_12_method_54_code
def yX10_doesNext : MethodName := ⟨RX10, "doesNext", "(I)Z"⟩
abbrev cX10_play : ByteArray := prog_12_method_55_code
def yX10_play : MethodName := ⟨RX10, "play", "(I)I"⟩
abbrev cX10_layState : ByteArray := prog_12_method_56_code
def yX10_layState : MethodName := ⟨RX10, "layState", "(III)Z"⟩
abbrev cX10_stop : ByteArray := prog_12_method_57_code
def yX10_stop : MethodName := ⟨RX10, "stop", "(II)I"⟩
abbrev cX10_allSaved : ByteArray := prog_12_method_58_code
def yX10_allSaved : MethodName := ⟨RX10, "allSaved", "()I"⟩
abbrev cX10_state : ByteArray := prog_12_method_59_code
def yX10_state : MethodName := ⟨RX10, "state", "(IIII)I"⟩
abbrev cX10_palm : ByteArray := prog_12_method_60_code
def yX10_palm : MethodName := ⟨RX10, "palm", "(IIIII)I"⟩
abbrev cX10_needOf : ByteArray := prog_12_method_61_code
def yX10_needOf : MethodName := ⟨RX10, "needOf", "(I)I"⟩
abbrev cX10_star : ByteArray := prog_12_method_63_code
def yX10_star : MethodName := ⟨RX10, "star", "(I)I"⟩
abbrev cX10_isInDanger : ByteArray := prog_12_method_65_code
def yX10_isInDanger : MethodName := ⟨RX10, "isInDanger", "(I)Z"⟩
abbrev cX10_isDoomed : ByteArray := prog_12_method_66_code
def yX10_isDoomed : MethodName := ⟨RX10, "isDoomed", "(I)Z"⟩
abbrev cX10_run : ByteArray := prog_12_method_67_code
def yX10_run : MethodName := ⟨RX10, "run", "(IIII)I"⟩
abbrev cX10_leftOf : ByteArray := prog_12_method_68_code
def yX10_leftOf : MethodName := ⟨RX10, "leftOf", "(I)I"⟩
abbrev cX10_canFeed : ByteArray := prog_12_method_69_code
def yX10_canFeed : MethodName := ⟨RX10, "canFeed", "(I)Z"⟩
abbrev cX10_feast : ByteArray := prog_12_method_70_code
def yX10_feast : MethodName := ⟨RX10, "feast", "(IIII)I"⟩
def wsX10_in : List Cond := .code yX10_in cX10_in 3 (some .boolean) :: ([])
def wsX10_has : List Cond := .code yX10_has cX10_has 2 (some .boolean) :: ([])
def wsX10_ones : List Cond := .code yX10_ones cX10_ones 3 (some .int) :: ([.methodLink RX10 84 yX10_has, .static yX10_has, .initialized RX10, .code yX10_has cX10_has 2 (some .boolean)])
def wsX10_greater : List Cond := .code yX10_greater cX10_greater 2 (some .int) :: ([])
def wsX10_lesser : List Cond := .code yX10_lesser cX10_lesser 2 (some .int) :: ([])
def wsX10_is : List Cond := .code yX10_is cX10_is 3 (some .boolean) :: ([.fieldLink RX10 23 "ClapBankModel" "many" "[I", .methodLink RX10 92 yX10_in, .static yX10_in, .initialized RX10, .code yX10_in cX10_in 3 (some .boolean)] ++ wsX100)
def wsX10_of : List Cond := .code yX10_of cX10_of 2 (some .int) :: ([.fieldLink RX10 26 "ClapBankModel" "theatres" "[I", .fieldLink RX10 221 "ClapBankModel" "theatre" "I"] ++ wsX100)
def wsX10_hand : List Cond := .code yX10_hand cX10_hand 2 (some .boolean) :: ([.fieldLink RX10 221 "ClapBankModel" "theatre" "I", .fieldLink RX10 228 "ClapBankModel" "palms" "I", .fieldLink RX10 231 "ClapBankModel" "actors" "I", .fieldLink RX10 234 "ClapBankModel" "rate" "I", .methodLink RX10 211 yX10_is, .instanceMethod yX10_is, .selects RX10 yX10_is yX10_is, .initialized RX10, .code yX10_is cX10_is 3 (some .boolean), .fieldLink RX10 23 "ClapBankModel" "many" "[I", .methodLink RX10 92 yX10_in, .static yX10_in, .code yX10_in cX10_in 3 (some .boolean), .methodLink RX10 224 yX10_of, .instanceMethod yX10_of, .selects RX10 yX10_of yX10_of, .code yX10_of cX10_of 2 (some .int), .fieldLink RX10 26 "ClapBankModel" "theatres" "[I"] ++ wsX100)
def wsX10_isPalm : List Cond := .code yX10_isPalm cX10_isPalm 2 (some .boolean) :: ([.fieldLink RX10 228 "ClapBankModel" "palms" "I", .methodLink RX10 92 yX10_in, .static yX10_in, .initialized RX10, .code yX10_in cX10_in 3 (some .boolean)] ++ wsX100)
def wsX10_isActor : List Cond := .code yX10_isActor cX10_isActor 2 (some .boolean) :: ([.fieldLink RX10 231 "ClapBankModel" "actors" "I", .methodLink RX10 92 yX10_in, .static yX10_in, .initialized RX10, .code yX10_in cX10_in 3 (some .boolean)] ++ wsX100)
def wsX10_handsOf : List Cond := .code yX10_handsOf cX10_handsOf 2 (some .int) :: ([.methodLink RX10 224 yX10_of, .instanceMethod yX10_of, .selects RX10 yX10_of yX10_of, .initialized RX10, .code yX10_of cX10_of 2 (some .int), .fieldLink RX10 26 "ClapBankModel" "theatres" "[I", .fieldLink RX10 221 "ClapBankModel" "theatre" "I"] ++ wsX100)
def wsX10_hungerOf : List Cond := .code yX10_hungerOf cX10_hungerOf 2 (some .int) :: ([.methodLink RX10 224 yX10_of, .instanceMethod yX10_of, .selects RX10 yX10_of yX10_of, .initialized RX10, .code yX10_of cX10_of 2 (some .int), .fieldLink RX10 26 "ClapBankModel" "theatres" "[I", .fieldLink RX10 221 "ClapBankModel" "theatre" "I"] ++ wsX100)
def wsX10_theatre_r1 : List Cond := [Cond.fieldLink RX10 80 "ClapBankModel" "code" "I", Cond.methodLink RX10 237 yX10_hand, Cond.instanceMethod yX10_hand, Cond.selects RX10 yX10_hand yX10_hand, Cond.initialized RX10, Cond.code yX10_hand cX10_hand 2 (some .boolean), Cond.fieldLink RX10 221 "ClapBankModel" "theatre" "I", Cond.fieldLink RX10 228 "ClapBankModel" "palms" "I", Cond.fieldLink RX10 231 "ClapBankModel" "actors" "I", Cond.fieldLink RX10 234 "ClapBankModel" "rate" "I", Cond.methodLink RX10 211 yX10_is, Cond.instanceMethod yX10_is, Cond.selects RX10 yX10_is yX10_is, Cond.code yX10_is cX10_is 3 (some .boolean), Cond.fieldLink RX10 23 "ClapBankModel" "many" "[I", Cond.methodLink RX10 92 yX10_in, Cond.static yX10_in, Cond.code yX10_in cX10_in 3 (some .boolean), Cond.methodLink RX10 224 yX10_of, Cond.instanceMethod yX10_of, Cond.selects RX10 yX10_of yX10_of, Cond.code yX10_of cX10_of 2 (some .int), Cond.fieldLink RX10 26 "ClapBankModel" "theatres" "[I", Cond.methodLink RX10 240 yX10_isPalm]
def wsX10_theatre_r2 : List Cond := [Cond.instanceMethod yX10_isPalm, Cond.selects RX10 yX10_isPalm yX10_isPalm, Cond.code yX10_isPalm cX10_isPalm 2 (some .boolean), Cond.methodLink RX10 243 yX10_isActor, Cond.instanceMethod yX10_isActor, Cond.selects RX10 yX10_isActor yX10_isActor, Cond.code yX10_isActor cX10_isActor 2 (some .boolean)]
def wsX10_theatre : List Cond := .code yX10_theatre cX10_theatre 4 (some .int) :: ((wsX10_theatre_r1 ++ wsX10_theatre_r2) ++ wsX100)
def wsX10_deeds : List Cond := .code yX10_deeds cX10_deeds 1 (some .int) :: ([.fieldLink RX10 29 "ClapBankModel" "books" "[I", .fieldLink RX10 246 "ClapBankModel" "book" "I"] ++ wsX100)
def wsX10_deedOf : List Cond := .code yX10_deedOf cX10_deedOf 3 (some .int) :: ([.fieldLink RX10 29 "ClapBankModel" "books" "[I", .fieldLink RX10 246 "ClapBankModel" "book" "I"] ++ wsX100)
def wsX10_hasBook : List Cond := .code yX10_hasBook cX10_hasBook 2 (some .boolean) :: ([.fieldLink RX10 246 "ClapBankModel" "book" "I", .methodLink RX10 211 yX10_is, .instanceMethod yX10_is, .selects RX10 yX10_is yX10_is, .initialized RX10, .code yX10_is cX10_is 3 (some .boolean), .fieldLink RX10 23 "ClapBankModel" "many" "[I", .methodLink RX10 92 yX10_in, .static yX10_in, .code yX10_in cX10_in 3 (some .boolean)] ++ wsX100)
def wsX10_deed : List Cond := .code yX10_deed cX10_deed 4 (some .int) :: ([.fieldLink RX10 80 "ClapBankModel" "code" "I", .methodLink RX10 249 yX10_hasBook, .instanceMethod yX10_hasBook, .selects RX10 yX10_hasBook yX10_hasBook, .initialized RX10, .code yX10_hasBook cX10_hasBook 2 (some .boolean), .fieldLink RX10 246 "ClapBankModel" "book" "I", .methodLink RX10 211 yX10_is, .instanceMethod yX10_is, .selects RX10 yX10_is yX10_is, .code yX10_is cX10_is 3 (some .boolean), .fieldLink RX10 23 "ClapBankModel" "many" "[I", .methodLink RX10 92 yX10_in, .static yX10_in, .code yX10_in cX10_in 3 (some .boolean), .methodLink RX10 252 yX10_deeds, .instanceMethod yX10_deeds, .selects RX10 yX10_deeds yX10_deeds, .code yX10_deeds cX10_deeds 1 (some .int), .fieldLink RX10 29 "ClapBankModel" "books" "[I", .methodLink RX10 255 yX10_deedOf, .instanceMethod yX10_deedOf, .selects RX10 yX10_deedOf yX10_deedOf, .code yX10_deedOf cX10_deedOf 3 (some .int)] ++ wsX100)
def wsX10_morning : List Cond := .code yX10_morning cX10_morning 2 none :: ([.fieldLink RX10 228 "ClapBankModel" "palms" "I", .fieldLink RX10 41 "ClapBankModel" "left" "[I", .fieldLink RX10 279 "ClapBankModel" "hushed" "I", .methodLink RX10 224 yX10_of, .instanceMethod yX10_of, .selects RX10 yX10_of yX10_of, .initialized RX10, .code yX10_of cX10_of 2 (some .int), .fieldLink RX10 26 "ClapBankModel" "theatres" "[I", .fieldLink RX10 221 "ClapBankModel" "theatre" "I"] ++ wsX100)
def wsX10_begin_r1 : List Cond := [Cond.fieldLink RX10 258 "ClapBankModel" "chest" "I", Cond.fieldLink RX10 261 "ClapBankModel" "encores" "I", Cond.fieldLink RX10 264 "ClapBankModel" "nights" "I", Cond.fieldLink RX10 231 "ClapBankModel" "actors" "I", Cond.fieldLink RX10 267 "ClapBankModel" "lives" "I", Cond.fieldLink RX10 270 "ClapBankModel" "claps" "I", Cond.fieldLink RX10 273 "ClapBankModel" "echoFor" "I", Cond.fieldLink RX10 44 "ClapBankModel" "owes" "[I", Cond.fieldLink RX10 47 "ClapBankModel" "got" "[I", Cond.fieldLink RX10 50 "ClapBankModel" "saved" "[I", Cond.fieldLink RX10 53 "ClapBankModel" "storms" "[I", Cond.fieldLink RX10 56 "ClapBankModel" "starved" "[I", Cond.methodLink RX10 224 yX10_of, Cond.instanceMethod yX10_of, Cond.selects RX10 yX10_of yX10_of, Cond.initialized RX10, Cond.code yX10_of cX10_of 2 (some .int), Cond.fieldLink RX10 26 "ClapBankModel" "theatres" "[I", Cond.fieldLink RX10 221 "ClapBankModel" "theatre" "I", Cond.methodLink RX10 276 yX10_morning, Cond.instanceMethod yX10_morning, Cond.selects RX10 yX10_morning yX10_morning, Cond.code yX10_morning cX10_morning 2 none, Cond.fieldLink RX10 228 "ClapBankModel" "palms" "I"]
def wsX10_begin_r2 : List Cond := [Cond.fieldLink RX10 41 "ClapBankModel" "left" "[I", Cond.fieldLink RX10 279 "ClapBankModel" "hushed" "I"]
def wsX10_begin : List Cond := .code yX10_begin cX10_begin 2 none :: ((wsX10_begin_r1 ++ wsX10_begin_r2) ++ wsX100)
def wsX10_isLiving : List Cond := .code yX10_isLiving cX10_isLiving 2 (some .boolean) :: ([.fieldLink RX10 267 "ClapBankModel" "lives" "I", .methodLink RX10 243 yX10_isActor, .instanceMethod yX10_isActor, .selects RX10 yX10_isActor yX10_isActor, .initialized RX10, .code yX10_isActor cX10_isActor 2 (some .boolean), .fieldLink RX10 231 "ClapBankModel" "actors" "I", .methodLink RX10 92 yX10_in, .static yX10_in, .code yX10_in cX10_in 3 (some .boolean), .methodLink RX10 84 yX10_has, .static yX10_has, .code yX10_has cX10_has 2 (some .boolean)] ++ wsX100)
def wsX10_eats : List Cond := .code yX10_eats cX10_eats 3 (some .int) :: ([.fieldLink RX10 261 "ClapBankModel" "encores" "I", .methodLink RX10 282 yX10_hungerOf, .instanceMethod yX10_hungerOf, .selects RX10 yX10_hungerOf yX10_hungerOf, .initialized RX10, .code yX10_hungerOf cX10_hungerOf 2 (some .int), .methodLink RX10 224 yX10_of, .instanceMethod yX10_of, .selects RX10 yX10_of yX10_of, .code yX10_of cX10_of 2 (some .int), .fieldLink RX10 26 "ClapBankModel" "theatres" "[I", .fieldLink RX10 221 "ClapBankModel" "theatre" "I"] ++ wsX100)
def wsX10_gets : List Cond := .code yX10_gets cX10_gets 3 none :: ([.fieldLink RX10 50 "ClapBankModel" "saved" "[I", .fieldLink RX10 258 "ClapBankModel" "chest" "I"] ++ wsX100)
def wsX10_clapsFor_r1 : List Cond := [Cond.fieldLink RX10 279 "ClapBankModel" "hushed" "I", Cond.fieldLink RX10 41 "ClapBankModel" "left" "[I", Cond.fieldLink RX10 273 "ClapBankModel" "echoFor" "I", Cond.fieldLink RX10 47 "ClapBankModel" "got" "[I", Cond.fieldLink RX10 270 "ClapBankModel" "claps" "I", Cond.methodLink RX10 240 yX10_isPalm, Cond.instanceMethod yX10_isPalm, Cond.selects RX10 yX10_isPalm yX10_isPalm, Cond.initialized RX10, Cond.code yX10_isPalm cX10_isPalm 2 (some .boolean), Cond.fieldLink RX10 228 "ClapBankModel" "palms" "I", Cond.methodLink RX10 92 yX10_in, Cond.static yX10_in, Cond.code yX10_in cX10_in 3 (some .boolean), Cond.methodLink RX10 285 yX10_isLiving, Cond.instanceMethod yX10_isLiving, Cond.selects RX10 yX10_isLiving yX10_isLiving, Cond.code yX10_isLiving cX10_isLiving 2 (some .boolean), Cond.fieldLink RX10 267 "ClapBankModel" "lives" "I", Cond.methodLink RX10 243 yX10_isActor, Cond.instanceMethod yX10_isActor, Cond.selects RX10 yX10_isActor yX10_isActor, Cond.code yX10_isActor cX10_isActor 2 (some .boolean), Cond.fieldLink RX10 231 "ClapBankModel" "actors" "I"]
def wsX10_clapsFor_r2 : List Cond := [Cond.methodLink RX10 84 yX10_has, Cond.static yX10_has, Cond.code yX10_has cX10_has 2 (some .boolean), Cond.methodLink RX10 288 yX10_handsOf, Cond.instanceMethod yX10_handsOf, Cond.selects RX10 yX10_handsOf yX10_handsOf, Cond.code yX10_handsOf cX10_handsOf 2 (some .int), Cond.methodLink RX10 224 yX10_of, Cond.instanceMethod yX10_of, Cond.selects RX10 yX10_of yX10_of, Cond.code yX10_of cX10_of 2 (some .int), Cond.fieldLink RX10 26 "ClapBankModel" "theatres" "[I", Cond.fieldLink RX10 221 "ClapBankModel" "theatre" "I", Cond.methodLink RX10 291 yX10_gets, Cond.instanceMethod yX10_gets, Cond.selects RX10 yX10_gets yX10_gets, Cond.code yX10_gets cX10_gets 3 none, Cond.fieldLink RX10 50 "ClapBankModel" "saved" "[I", Cond.fieldLink RX10 258 "ClapBankModel" "chest" "I"]
def wsX10_clapsFor : List Cond := .code yX10_clapsFor cX10_clapsFor 5 (some .boolean) :: ((wsX10_clapsFor_r1 ++ wsX10_clapsFor_r2) ++ wsX100)
def wsX10_gives : List Cond := .code yX10_gives cX10_gives 5 (some .boolean) :: ([.fieldLink RX10 279 "ClapBankModel" "hushed" "I", .fieldLink RX10 41 "ClapBankModel" "left" "[I", .fieldLink RX10 44 "ClapBankModel" "owes" "[I", .methodLink RX10 240 yX10_isPalm, .instanceMethod yX10_isPalm, .selects RX10 yX10_isPalm yX10_isPalm, .initialized RX10, .code yX10_isPalm cX10_isPalm 2 (some .boolean), .fieldLink RX10 228 "ClapBankModel" "palms" "I", .methodLink RX10 92 yX10_in, .static yX10_in, .code yX10_in cX10_in 3 (some .boolean), .methodLink RX10 84 yX10_has, .static yX10_has, .code yX10_has cX10_has 2 (some .boolean)] ++ wsX100)
def wsX10_hushes_r1 : List Cond := [Cond.fieldLink RX10 50 "ClapBankModel" "saved" "[I", Cond.fieldLink RX10 258 "ClapBankModel" "chest" "I", Cond.fieldLink RX10 279 "ClapBankModel" "hushed" "I", Cond.methodLink RX10 285 yX10_isLiving, Cond.instanceMethod yX10_isLiving, Cond.selects RX10 yX10_isLiving yX10_isLiving, Cond.initialized RX10, Cond.code yX10_isLiving cX10_isLiving 2 (some .boolean), Cond.fieldLink RX10 267 "ClapBankModel" "lives" "I", Cond.methodLink RX10 243 yX10_isActor, Cond.instanceMethod yX10_isActor, Cond.selects RX10 yX10_isActor yX10_isActor, Cond.code yX10_isActor cX10_isActor 2 (some .boolean), Cond.fieldLink RX10 231 "ClapBankModel" "actors" "I", Cond.methodLink RX10 92 yX10_in, Cond.static yX10_in, Cond.code yX10_in cX10_in 3 (some .boolean), Cond.methodLink RX10 84 yX10_has, Cond.static yX10_has, Cond.code yX10_has cX10_has 2 (some .boolean), Cond.methodLink RX10 240 yX10_isPalm, Cond.instanceMethod yX10_isPalm, Cond.selects RX10 yX10_isPalm yX10_isPalm, Cond.code yX10_isPalm cX10_isPalm 2 (some .boolean)]
def wsX10_hushes_r2 : List Cond := [Cond.fieldLink RX10 228 "ClapBankModel" "palms" "I", Cond.methodLink RX10 291 yX10_gets, Cond.instanceMethod yX10_gets, Cond.selects RX10 yX10_gets yX10_gets, Cond.code yX10_gets cX10_gets 3 none]
def wsX10_hushes : List Cond := .code yX10_hushes cX10_hushes 4 (some .boolean) :: ((wsX10_hushes_r1 ++ wsX10_hushes_r2) ++ wsX100)
def wsX10_eatsNow : List Cond := .code yX10_eatsNow cX10_eatsNow 3 (some .boolean) :: ([.fieldLink RX10 50 "ClapBankModel" "saved" "[I", .fieldLink RX10 258 "ClapBankModel" "chest" "I", .methodLink RX10 294 yX10_eats, .instanceMethod yX10_eats, .selects RX10 yX10_eats yX10_eats, .initialized RX10, .code yX10_eats cX10_eats 3 (some .int), .fieldLink RX10 261 "ClapBankModel" "encores" "I", .methodLink RX10 282 yX10_hungerOf, .instanceMethod yX10_hungerOf, .selects RX10 yX10_hungerOf yX10_hungerOf, .code yX10_hungerOf cX10_hungerOf 2 (some .int), .methodLink RX10 224 yX10_of, .instanceMethod yX10_of, .selects RX10 yX10_of yX10_of, .code yX10_of cX10_of 2 (some .int), .fieldLink RX10 26 "ClapBankModel" "theatres" "[I", .fieldLink RX10 221 "ClapBankModel" "theatre" "I", .methodLink RX10 291 yX10_gets, .instanceMethod yX10_gets, .selects RX10 yX10_gets yX10_gets, .code yX10_gets cX10_gets 3 none] ++ wsX100)
def wsX10_night_r1 : List Cond := [Cond.fieldLink RX10 231 "ClapBankModel" "actors" "I", Cond.fieldLink RX10 267 "ClapBankModel" "lives" "I", Cond.fieldLink RX10 56 "ClapBankModel" "starved" "[I", Cond.fieldLink RX10 264 "ClapBankModel" "nights" "I", Cond.fieldLink RX10 50 "ClapBankModel" "saved" "[I", Cond.fieldLink RX10 234 "ClapBankModel" "rate" "I", Cond.constantLong RX10 300 (100), Cond.fieldLink RX10 302 "ClapBankModel" "capped" "Z", Cond.constant RX10 306 (1000000), Cond.fieldLink RX10 44 "ClapBankModel" "owes" "[I", Cond.methodLink RX10 84 yX10_has, Cond.static yX10_has, Cond.initialized RX10, Cond.code yX10_has cX10_has 2 (some .boolean), Cond.methodLink RX10 297 yX10_eatsNow, Cond.instanceMethod yX10_eatsNow, Cond.selects RX10 yX10_eatsNow yX10_eatsNow, Cond.code yX10_eatsNow cX10_eatsNow 3 (some .boolean), Cond.fieldLink RX10 258 "ClapBankModel" "chest" "I", Cond.methodLink RX10 294 yX10_eats, Cond.instanceMethod yX10_eats, Cond.selects RX10 yX10_eats yX10_eats, Cond.code yX10_eats cX10_eats 3 (some .int), Cond.fieldLink RX10 261 "ClapBankModel" "encores" "I"]
def wsX10_night_r2 : List Cond := [Cond.methodLink RX10 282 yX10_hungerOf, Cond.instanceMethod yX10_hungerOf, Cond.selects RX10 yX10_hungerOf yX10_hungerOf, Cond.code yX10_hungerOf cX10_hungerOf 2 (some .int), Cond.methodLink RX10 224 yX10_of, Cond.instanceMethod yX10_of, Cond.selects RX10 yX10_of yX10_of, Cond.code yX10_of cX10_of 2 (some .int), Cond.fieldLink RX10 26 "ClapBankModel" "theatres" "[I", Cond.fieldLink RX10 221 "ClapBankModel" "theatre" "I", Cond.methodLink RX10 291 yX10_gets, Cond.instanceMethod yX10_gets, Cond.selects RX10 yX10_gets yX10_gets, Cond.code yX10_gets cX10_gets 3 none, Cond.methodLink RX10 170 yX10_lesser, Cond.static yX10_lesser, Cond.code yX10_lesser cX10_lesser 2 (some .int), Cond.methodLink RX10 276 yX10_morning, Cond.instanceMethod yX10_morning, Cond.selects RX10 yX10_morning yX10_morning, Cond.code yX10_morning cX10_morning 2 none, Cond.fieldLink RX10 228 "ClapBankModel" "palms" "I", Cond.fieldLink RX10 41 "ClapBankModel" "left" "[I", Cond.fieldLink RX10 279 "ClapBankModel" "hushed" "I"]
def wsX10_night : List Cond := .code yX10_night cX10_night 2 none :: ((wsX10_night_r1 ++ wsX10_night_r2) ++ wsX100)
def wsX10_does_r1 : List Cond := [Cond.fieldLink RX10 53 "ClapBankModel" "storms" "[I", Cond.fieldLink RX10 261 "ClapBankModel" "encores" "I", Cond.methodLink RX10 255 yX10_deedOf, Cond.instanceMethod yX10_deedOf, Cond.selects RX10 yX10_deedOf yX10_deedOf, Cond.initialized RX10, Cond.code yX10_deedOf cX10_deedOf 3 (some .int), Cond.fieldLink RX10 29 "ClapBankModel" "books" "[I", Cond.fieldLink RX10 246 "ClapBankModel" "book" "I", Cond.methodLink RX10 307 yX10_clapsFor, Cond.instanceMethod yX10_clapsFor, Cond.selects RX10 yX10_clapsFor yX10_clapsFor, Cond.code yX10_clapsFor cX10_clapsFor 5 (some .boolean), Cond.fieldLink RX10 279 "ClapBankModel" "hushed" "I", Cond.fieldLink RX10 41 "ClapBankModel" "left" "[I", Cond.fieldLink RX10 273 "ClapBankModel" "echoFor" "I", Cond.fieldLink RX10 47 "ClapBankModel" "got" "[I", Cond.fieldLink RX10 270 "ClapBankModel" "claps" "I", Cond.methodLink RX10 240 yX10_isPalm, Cond.instanceMethod yX10_isPalm, Cond.selects RX10 yX10_isPalm yX10_isPalm, Cond.code yX10_isPalm cX10_isPalm 2 (some .boolean), Cond.fieldLink RX10 228 "ClapBankModel" "palms" "I", Cond.methodLink RX10 92 yX10_in]
def wsX10_does_r2 : List Cond := [Cond.static yX10_in, Cond.code yX10_in cX10_in 3 (some .boolean), Cond.methodLink RX10 285 yX10_isLiving, Cond.instanceMethod yX10_isLiving, Cond.selects RX10 yX10_isLiving yX10_isLiving, Cond.code yX10_isLiving cX10_isLiving 2 (some .boolean), Cond.fieldLink RX10 267 "ClapBankModel" "lives" "I", Cond.methodLink RX10 243 yX10_isActor, Cond.instanceMethod yX10_isActor, Cond.selects RX10 yX10_isActor yX10_isActor, Cond.code yX10_isActor cX10_isActor 2 (some .boolean), Cond.fieldLink RX10 231 "ClapBankModel" "actors" "I", Cond.methodLink RX10 84 yX10_has, Cond.static yX10_has, Cond.code yX10_has cX10_has 2 (some .boolean), Cond.methodLink RX10 288 yX10_handsOf, Cond.instanceMethod yX10_handsOf, Cond.selects RX10 yX10_handsOf yX10_handsOf, Cond.code yX10_handsOf cX10_handsOf 2 (some .int), Cond.methodLink RX10 224 yX10_of, Cond.instanceMethod yX10_of, Cond.selects RX10 yX10_of yX10_of, Cond.code yX10_of cX10_of 2 (some .int), Cond.fieldLink RX10 26 "ClapBankModel" "theatres" "[I"]
def wsX10_does_r3 : List Cond := [Cond.fieldLink RX10 221 "ClapBankModel" "theatre" "I", Cond.methodLink RX10 291 yX10_gets, Cond.instanceMethod yX10_gets, Cond.selects RX10 yX10_gets yX10_gets, Cond.code yX10_gets cX10_gets 3 none, Cond.fieldLink RX10 50 "ClapBankModel" "saved" "[I", Cond.fieldLink RX10 258 "ClapBankModel" "chest" "I", Cond.methodLink RX10 310 yX10_gives, Cond.instanceMethod yX10_gives, Cond.selects RX10 yX10_gives yX10_gives, Cond.code yX10_gives cX10_gives 5 (some .boolean), Cond.fieldLink RX10 44 "ClapBankModel" "owes" "[I", Cond.methodLink RX10 314 yX10_hushes, Cond.instanceMethod yX10_hushes, Cond.selects RX10 yX10_hushes yX10_hushes, Cond.code yX10_hushes cX10_hushes 4 (some .boolean), Cond.methodLink RX10 317 yX10_night, Cond.instanceMethod yX10_night, Cond.selects RX10 yX10_night yX10_night, Cond.code yX10_night cX10_night 2 none, Cond.fieldLink RX10 56 "ClapBankModel" "starved" "[I", Cond.fieldLink RX10 264 "ClapBankModel" "nights" "I", Cond.fieldLink RX10 234 "ClapBankModel" "rate" "I", Cond.constantLong RX10 300 (100)]
def wsX10_does_r4 : List Cond := [Cond.fieldLink RX10 302 "ClapBankModel" "capped" "Z", Cond.constant RX10 306 (1000000), Cond.methodLink RX10 297 yX10_eatsNow, Cond.instanceMethod yX10_eatsNow, Cond.selects RX10 yX10_eatsNow yX10_eatsNow, Cond.code yX10_eatsNow cX10_eatsNow 3 (some .boolean), Cond.methodLink RX10 294 yX10_eats, Cond.instanceMethod yX10_eats, Cond.selects RX10 yX10_eats yX10_eats, Cond.code yX10_eats cX10_eats 3 (some .int), Cond.methodLink RX10 282 yX10_hungerOf, Cond.instanceMethod yX10_hungerOf, Cond.selects RX10 yX10_hungerOf yX10_hungerOf, Cond.code yX10_hungerOf cX10_hungerOf 2 (some .int), Cond.methodLink RX10 170 yX10_lesser, Cond.static yX10_lesser, Cond.code yX10_lesser cX10_lesser 2 (some .int), Cond.methodLink RX10 276 yX10_morning, Cond.instanceMethod yX10_morning, Cond.selects RX10 yX10_morning yX10_morning, Cond.code yX10_morning cX10_morning 2 none]
def wsX10_does : List Cond := .code yX10_does cX10_does 5 (some .boolean) :: ((wsX10_does_r1 ++ (wsX10_does_r2 ++ (wsX10_does_r3 ++ wsX10_does_r4))) ++ wsX100)
def wsX10_doesNext_r1 : List Cond := [Cond.fieldLink RX10 273 "ClapBankModel" "echoFor" "I", Cond.methodLink RX10 320 yX10_does, Cond.instanceMethod yX10_does, Cond.selects RX10 yX10_does yX10_does, Cond.initialized RX10, Cond.code yX10_does cX10_does 5 (some .boolean), Cond.fieldLink RX10 53 "ClapBankModel" "storms" "[I", Cond.fieldLink RX10 261 "ClapBankModel" "encores" "I", Cond.methodLink RX10 255 yX10_deedOf, Cond.instanceMethod yX10_deedOf, Cond.selects RX10 yX10_deedOf yX10_deedOf, Cond.code yX10_deedOf cX10_deedOf 3 (some .int), Cond.fieldLink RX10 29 "ClapBankModel" "books" "[I", Cond.fieldLink RX10 246 "ClapBankModel" "book" "I", Cond.methodLink RX10 307 yX10_clapsFor, Cond.instanceMethod yX10_clapsFor, Cond.selects RX10 yX10_clapsFor yX10_clapsFor, Cond.code yX10_clapsFor cX10_clapsFor 5 (some .boolean), Cond.fieldLink RX10 279 "ClapBankModel" "hushed" "I", Cond.fieldLink RX10 41 "ClapBankModel" "left" "[I", Cond.fieldLink RX10 47 "ClapBankModel" "got" "[I", Cond.fieldLink RX10 270 "ClapBankModel" "claps" "I", Cond.methodLink RX10 240 yX10_isPalm, Cond.instanceMethod yX10_isPalm]
def wsX10_doesNext_r2 : List Cond := [Cond.selects RX10 yX10_isPalm yX10_isPalm, Cond.code yX10_isPalm cX10_isPalm 2 (some .boolean), Cond.fieldLink RX10 228 "ClapBankModel" "palms" "I", Cond.methodLink RX10 92 yX10_in, Cond.static yX10_in, Cond.code yX10_in cX10_in 3 (some .boolean), Cond.methodLink RX10 285 yX10_isLiving, Cond.instanceMethod yX10_isLiving, Cond.selects RX10 yX10_isLiving yX10_isLiving, Cond.code yX10_isLiving cX10_isLiving 2 (some .boolean), Cond.fieldLink RX10 267 "ClapBankModel" "lives" "I", Cond.methodLink RX10 243 yX10_isActor, Cond.instanceMethod yX10_isActor, Cond.selects RX10 yX10_isActor yX10_isActor, Cond.code yX10_isActor cX10_isActor 2 (some .boolean), Cond.fieldLink RX10 231 "ClapBankModel" "actors" "I", Cond.methodLink RX10 84 yX10_has, Cond.static yX10_has, Cond.code yX10_has cX10_has 2 (some .boolean), Cond.methodLink RX10 288 yX10_handsOf, Cond.instanceMethod yX10_handsOf, Cond.selects RX10 yX10_handsOf yX10_handsOf, Cond.code yX10_handsOf cX10_handsOf 2 (some .int), Cond.methodLink RX10 224 yX10_of]
def wsX10_doesNext_r3 : List Cond := [Cond.instanceMethod yX10_of, Cond.selects RX10 yX10_of yX10_of, Cond.code yX10_of cX10_of 2 (some .int), Cond.fieldLink RX10 26 "ClapBankModel" "theatres" "[I", Cond.fieldLink RX10 221 "ClapBankModel" "theatre" "I", Cond.methodLink RX10 291 yX10_gets, Cond.instanceMethod yX10_gets, Cond.selects RX10 yX10_gets yX10_gets, Cond.code yX10_gets cX10_gets 3 none, Cond.fieldLink RX10 50 "ClapBankModel" "saved" "[I", Cond.fieldLink RX10 258 "ClapBankModel" "chest" "I", Cond.methodLink RX10 310 yX10_gives, Cond.instanceMethod yX10_gives, Cond.selects RX10 yX10_gives yX10_gives, Cond.code yX10_gives cX10_gives 5 (some .boolean), Cond.fieldLink RX10 44 "ClapBankModel" "owes" "[I", Cond.methodLink RX10 314 yX10_hushes, Cond.instanceMethod yX10_hushes, Cond.selects RX10 yX10_hushes yX10_hushes, Cond.code yX10_hushes cX10_hushes 4 (some .boolean), Cond.methodLink RX10 317 yX10_night, Cond.instanceMethod yX10_night, Cond.selects RX10 yX10_night yX10_night, Cond.code yX10_night cX10_night 2 none]
def wsX10_doesNext_r4 : List Cond := [Cond.fieldLink RX10 56 "ClapBankModel" "starved" "[I", Cond.fieldLink RX10 264 "ClapBankModel" "nights" "I", Cond.fieldLink RX10 234 "ClapBankModel" "rate" "I", Cond.constantLong RX10 300 (100), Cond.fieldLink RX10 302 "ClapBankModel" "capped" "Z", Cond.constant RX10 306 (1000000), Cond.methodLink RX10 297 yX10_eatsNow, Cond.instanceMethod yX10_eatsNow, Cond.selects RX10 yX10_eatsNow yX10_eatsNow, Cond.code yX10_eatsNow cX10_eatsNow 3 (some .boolean), Cond.methodLink RX10 294 yX10_eats, Cond.instanceMethod yX10_eats, Cond.selects RX10 yX10_eats yX10_eats, Cond.code yX10_eats cX10_eats 3 (some .int), Cond.methodLink RX10 282 yX10_hungerOf, Cond.instanceMethod yX10_hungerOf, Cond.selects RX10 yX10_hungerOf yX10_hungerOf, Cond.code yX10_hungerOf cX10_hungerOf 2 (some .int), Cond.methodLink RX10 170 yX10_lesser, Cond.static yX10_lesser, Cond.code yX10_lesser cX10_lesser 2 (some .int), Cond.methodLink RX10 276 yX10_morning, Cond.instanceMethod yX10_morning, Cond.selects RX10 yX10_morning yX10_morning]
def wsX10_doesNext_r5 : List Cond := [Cond.code yX10_morning cX10_morning 2 none]
def wsX10_doesNext : List Cond := .code yX10_doesNext cX10_doesNext 2 (some .boolean) :: ((wsX10_doesNext_r1 ++ (wsX10_doesNext_r2 ++ (wsX10_doesNext_r3 ++ (wsX10_doesNext_r4 ++ wsX10_doesNext_r5)))) ++ wsX100)
def wsX10_play_r1 : List Cond := [Cond.methodLink RX10 323 yX10_begin, Cond.instanceMethod yX10_begin, Cond.selects RX10 yX10_begin yX10_begin, Cond.initialized RX10, Cond.code yX10_begin cX10_begin 2 none, Cond.fieldLink RX10 258 "ClapBankModel" "chest" "I", Cond.fieldLink RX10 261 "ClapBankModel" "encores" "I", Cond.fieldLink RX10 264 "ClapBankModel" "nights" "I", Cond.fieldLink RX10 231 "ClapBankModel" "actors" "I", Cond.fieldLink RX10 267 "ClapBankModel" "lives" "I", Cond.fieldLink RX10 270 "ClapBankModel" "claps" "I", Cond.fieldLink RX10 273 "ClapBankModel" "echoFor" "I", Cond.fieldLink RX10 44 "ClapBankModel" "owes" "[I", Cond.fieldLink RX10 47 "ClapBankModel" "got" "[I", Cond.fieldLink RX10 50 "ClapBankModel" "saved" "[I", Cond.fieldLink RX10 53 "ClapBankModel" "storms" "[I", Cond.fieldLink RX10 56 "ClapBankModel" "starved" "[I", Cond.methodLink RX10 224 yX10_of, Cond.instanceMethod yX10_of, Cond.selects RX10 yX10_of yX10_of, Cond.code yX10_of cX10_of 2 (some .int), Cond.fieldLink RX10 26 "ClapBankModel" "theatres" "[I", Cond.fieldLink RX10 221 "ClapBankModel" "theatre" "I", Cond.methodLink RX10 276 yX10_morning]
def wsX10_play_r2 : List Cond := [Cond.instanceMethod yX10_morning, Cond.selects RX10 yX10_morning yX10_morning, Cond.code yX10_morning cX10_morning 2 none, Cond.fieldLink RX10 228 "ClapBankModel" "palms" "I", Cond.fieldLink RX10 41 "ClapBankModel" "left" "[I", Cond.fieldLink RX10 279 "ClapBankModel" "hushed" "I", Cond.methodLink RX10 326 yX10_doesNext, Cond.instanceMethod yX10_doesNext, Cond.selects RX10 yX10_doesNext yX10_doesNext, Cond.code yX10_doesNext cX10_doesNext 2 (some .boolean), Cond.methodLink RX10 320 yX10_does, Cond.instanceMethod yX10_does, Cond.selects RX10 yX10_does yX10_does, Cond.code yX10_does cX10_does 5 (some .boolean), Cond.methodLink RX10 255 yX10_deedOf, Cond.instanceMethod yX10_deedOf, Cond.selects RX10 yX10_deedOf yX10_deedOf, Cond.code yX10_deedOf cX10_deedOf 3 (some .int), Cond.fieldLink RX10 29 "ClapBankModel" "books" "[I", Cond.fieldLink RX10 246 "ClapBankModel" "book" "I", Cond.methodLink RX10 307 yX10_clapsFor, Cond.instanceMethod yX10_clapsFor, Cond.selects RX10 yX10_clapsFor yX10_clapsFor, Cond.code yX10_clapsFor cX10_clapsFor 5 (some .boolean)]
def wsX10_play_r3 : List Cond := [Cond.methodLink RX10 240 yX10_isPalm, Cond.instanceMethod yX10_isPalm, Cond.selects RX10 yX10_isPalm yX10_isPalm, Cond.code yX10_isPalm cX10_isPalm 2 (some .boolean), Cond.methodLink RX10 92 yX10_in, Cond.static yX10_in, Cond.code yX10_in cX10_in 3 (some .boolean), Cond.methodLink RX10 285 yX10_isLiving, Cond.instanceMethod yX10_isLiving, Cond.selects RX10 yX10_isLiving yX10_isLiving, Cond.code yX10_isLiving cX10_isLiving 2 (some .boolean), Cond.methodLink RX10 243 yX10_isActor, Cond.instanceMethod yX10_isActor, Cond.selects RX10 yX10_isActor yX10_isActor, Cond.code yX10_isActor cX10_isActor 2 (some .boolean), Cond.methodLink RX10 84 yX10_has, Cond.static yX10_has, Cond.code yX10_has cX10_has 2 (some .boolean), Cond.methodLink RX10 288 yX10_handsOf, Cond.instanceMethod yX10_handsOf, Cond.selects RX10 yX10_handsOf yX10_handsOf, Cond.code yX10_handsOf cX10_handsOf 2 (some .int), Cond.methodLink RX10 291 yX10_gets, Cond.instanceMethod yX10_gets]
def wsX10_play_r4 : List Cond := [Cond.selects RX10 yX10_gets yX10_gets, Cond.code yX10_gets cX10_gets 3 none, Cond.methodLink RX10 310 yX10_gives, Cond.instanceMethod yX10_gives, Cond.selects RX10 yX10_gives yX10_gives, Cond.code yX10_gives cX10_gives 5 (some .boolean), Cond.methodLink RX10 314 yX10_hushes, Cond.instanceMethod yX10_hushes, Cond.selects RX10 yX10_hushes yX10_hushes, Cond.code yX10_hushes cX10_hushes 4 (some .boolean), Cond.methodLink RX10 317 yX10_night, Cond.instanceMethod yX10_night, Cond.selects RX10 yX10_night yX10_night, Cond.code yX10_night cX10_night 2 none, Cond.fieldLink RX10 234 "ClapBankModel" "rate" "I", Cond.constantLong RX10 300 (100), Cond.fieldLink RX10 302 "ClapBankModel" "capped" "Z", Cond.constant RX10 306 (1000000), Cond.methodLink RX10 297 yX10_eatsNow, Cond.instanceMethod yX10_eatsNow, Cond.selects RX10 yX10_eatsNow yX10_eatsNow, Cond.code yX10_eatsNow cX10_eatsNow 3 (some .boolean), Cond.methodLink RX10 294 yX10_eats, Cond.instanceMethod yX10_eats]
def wsX10_play_r5 : List Cond := [Cond.selects RX10 yX10_eats yX10_eats, Cond.code yX10_eats cX10_eats 3 (some .int), Cond.methodLink RX10 282 yX10_hungerOf, Cond.instanceMethod yX10_hungerOf, Cond.selects RX10 yX10_hungerOf yX10_hungerOf, Cond.code yX10_hungerOf cX10_hungerOf 2 (some .int), Cond.methodLink RX10 170 yX10_lesser, Cond.static yX10_lesser, Cond.code yX10_lesser cX10_lesser 2 (some .int)]
def wsX10_play : List Cond := .code yX10_play cX10_play 3 (some .int) :: ((wsX10_play_r1 ++ (wsX10_play_r2 ++ (wsX10_play_r3 ++ (wsX10_play_r4 ++ wsX10_play_r5)))) ++ wsX100)
def wsX10_layState_r1 : List Cond := [Cond.methodLink RX10 249 yX10_hasBook, Cond.instanceMethod yX10_hasBook, Cond.selects RX10 yX10_hasBook yX10_hasBook, Cond.initialized RX10, Cond.code yX10_hasBook cX10_hasBook 2 (some .boolean), Cond.fieldLink RX10 246 "ClapBankModel" "book" "I", Cond.methodLink RX10 211 yX10_is, Cond.instanceMethod yX10_is, Cond.selects RX10 yX10_is yX10_is, Cond.code yX10_is cX10_is 3 (some .boolean), Cond.fieldLink RX10 23 "ClapBankModel" "many" "[I", Cond.methodLink RX10 92 yX10_in, Cond.static yX10_in, Cond.code yX10_in cX10_in 3 (some .boolean), Cond.methodLink RX10 237 yX10_hand, Cond.instanceMethod yX10_hand, Cond.selects RX10 yX10_hand yX10_hand, Cond.code yX10_hand cX10_hand 2 (some .boolean), Cond.fieldLink RX10 221 "ClapBankModel" "theatre" "I", Cond.fieldLink RX10 228 "ClapBankModel" "palms" "I", Cond.fieldLink RX10 231 "ClapBankModel" "actors" "I", Cond.fieldLink RX10 234 "ClapBankModel" "rate" "I", Cond.methodLink RX10 224 yX10_of, Cond.instanceMethod yX10_of]
def wsX10_layState_r2 : List Cond := [Cond.selects RX10 yX10_of yX10_of, Cond.code yX10_of cX10_of 2 (some .int), Cond.fieldLink RX10 26 "ClapBankModel" "theatres" "[I", Cond.methodLink RX10 252 yX10_deeds, Cond.instanceMethod yX10_deeds, Cond.selects RX10 yX10_deeds yX10_deeds, Cond.code yX10_deeds cX10_deeds 1 (some .int), Cond.fieldLink RX10 29 "ClapBankModel" "books" "[I", Cond.methodLink RX10 329 yX10_play, Cond.instanceMethod yX10_play, Cond.selects RX10 yX10_play yX10_play, Cond.code yX10_play cX10_play 3 (some .int), Cond.methodLink RX10 323 yX10_begin, Cond.instanceMethod yX10_begin, Cond.selects RX10 yX10_begin yX10_begin, Cond.code yX10_begin cX10_begin 2 none, Cond.fieldLink RX10 258 "ClapBankModel" "chest" "I", Cond.fieldLink RX10 261 "ClapBankModel" "encores" "I", Cond.fieldLink RX10 264 "ClapBankModel" "nights" "I", Cond.fieldLink RX10 267 "ClapBankModel" "lives" "I", Cond.fieldLink RX10 270 "ClapBankModel" "claps" "I", Cond.fieldLink RX10 273 "ClapBankModel" "echoFor" "I", Cond.fieldLink RX10 44 "ClapBankModel" "owes" "[I", Cond.fieldLink RX10 47 "ClapBankModel" "got" "[I"]
def wsX10_layState_r3 : List Cond := [Cond.fieldLink RX10 50 "ClapBankModel" "saved" "[I", Cond.fieldLink RX10 53 "ClapBankModel" "storms" "[I", Cond.fieldLink RX10 56 "ClapBankModel" "starved" "[I", Cond.methodLink RX10 276 yX10_morning, Cond.instanceMethod yX10_morning, Cond.selects RX10 yX10_morning yX10_morning, Cond.code yX10_morning cX10_morning 2 none, Cond.fieldLink RX10 41 "ClapBankModel" "left" "[I", Cond.fieldLink RX10 279 "ClapBankModel" "hushed" "I", Cond.methodLink RX10 326 yX10_doesNext, Cond.instanceMethod yX10_doesNext, Cond.selects RX10 yX10_doesNext yX10_doesNext, Cond.code yX10_doesNext cX10_doesNext 2 (some .boolean), Cond.methodLink RX10 320 yX10_does, Cond.instanceMethod yX10_does, Cond.selects RX10 yX10_does yX10_does, Cond.code yX10_does cX10_does 5 (some .boolean), Cond.methodLink RX10 255 yX10_deedOf, Cond.instanceMethod yX10_deedOf, Cond.selects RX10 yX10_deedOf yX10_deedOf, Cond.code yX10_deedOf cX10_deedOf 3 (some .int), Cond.methodLink RX10 307 yX10_clapsFor, Cond.instanceMethod yX10_clapsFor, Cond.selects RX10 yX10_clapsFor yX10_clapsFor]
def wsX10_layState_r4 : List Cond := [Cond.code yX10_clapsFor cX10_clapsFor 5 (some .boolean), Cond.methodLink RX10 240 yX10_isPalm, Cond.instanceMethod yX10_isPalm, Cond.selects RX10 yX10_isPalm yX10_isPalm, Cond.code yX10_isPalm cX10_isPalm 2 (some .boolean), Cond.methodLink RX10 285 yX10_isLiving, Cond.instanceMethod yX10_isLiving, Cond.selects RX10 yX10_isLiving yX10_isLiving, Cond.code yX10_isLiving cX10_isLiving 2 (some .boolean), Cond.methodLink RX10 243 yX10_isActor, Cond.instanceMethod yX10_isActor, Cond.selects RX10 yX10_isActor yX10_isActor, Cond.code yX10_isActor cX10_isActor 2 (some .boolean), Cond.methodLink RX10 84 yX10_has, Cond.static yX10_has, Cond.code yX10_has cX10_has 2 (some .boolean), Cond.methodLink RX10 288 yX10_handsOf, Cond.instanceMethod yX10_handsOf, Cond.selects RX10 yX10_handsOf yX10_handsOf, Cond.code yX10_handsOf cX10_handsOf 2 (some .int), Cond.methodLink RX10 291 yX10_gets, Cond.instanceMethod yX10_gets, Cond.selects RX10 yX10_gets yX10_gets, Cond.code yX10_gets cX10_gets 3 none]
def wsX10_layState_r5 : List Cond := [Cond.methodLink RX10 310 yX10_gives, Cond.instanceMethod yX10_gives, Cond.selects RX10 yX10_gives yX10_gives, Cond.code yX10_gives cX10_gives 5 (some .boolean), Cond.methodLink RX10 314 yX10_hushes, Cond.instanceMethod yX10_hushes, Cond.selects RX10 yX10_hushes yX10_hushes, Cond.code yX10_hushes cX10_hushes 4 (some .boolean), Cond.methodLink RX10 317 yX10_night, Cond.instanceMethod yX10_night, Cond.selects RX10 yX10_night yX10_night, Cond.code yX10_night cX10_night 2 none, Cond.constantLong RX10 300 (100), Cond.fieldLink RX10 302 "ClapBankModel" "capped" "Z", Cond.constant RX10 306 (1000000), Cond.methodLink RX10 297 yX10_eatsNow, Cond.instanceMethod yX10_eatsNow, Cond.selects RX10 yX10_eatsNow yX10_eatsNow, Cond.code yX10_eatsNow cX10_eatsNow 3 (some .boolean), Cond.methodLink RX10 294 yX10_eats, Cond.instanceMethod yX10_eats, Cond.selects RX10 yX10_eats yX10_eats, Cond.code yX10_eats cX10_eats 3 (some .int), Cond.methodLink RX10 282 yX10_hungerOf]
def wsX10_layState_r6 : List Cond := [Cond.instanceMethod yX10_hungerOf, Cond.selects RX10 yX10_hungerOf yX10_hungerOf, Cond.code yX10_hungerOf cX10_hungerOf 2 (some .int), Cond.methodLink RX10 170 yX10_lesser, Cond.static yX10_lesser, Cond.code yX10_lesser cX10_lesser 2 (some .int)]
def wsX10_layState : List Cond := .code yX10_layState cX10_layState 4 (some .boolean) :: ((wsX10_layState_r1 ++ (wsX10_layState_r2 ++ (wsX10_layState_r3 ++ (wsX10_layState_r4 ++ (wsX10_layState_r5 ++ wsX10_layState_r6))))) ++ wsX100)
def wsX10_stop_r1 : List Cond := [Cond.fieldLink RX10 80 "ClapBankModel" "code" "I", Cond.methodLink RX10 249 yX10_hasBook, Cond.instanceMethod yX10_hasBook, Cond.selects RX10 yX10_hasBook yX10_hasBook, Cond.initialized RX10, Cond.code yX10_hasBook cX10_hasBook 2 (some .boolean), Cond.fieldLink RX10 246 "ClapBankModel" "book" "I", Cond.methodLink RX10 211 yX10_is, Cond.instanceMethod yX10_is, Cond.selects RX10 yX10_is yX10_is, Cond.code yX10_is cX10_is 3 (some .boolean), Cond.fieldLink RX10 23 "ClapBankModel" "many" "[I", Cond.methodLink RX10 92 yX10_in, Cond.static yX10_in, Cond.code yX10_in cX10_in 3 (some .boolean), Cond.methodLink RX10 237 yX10_hand, Cond.instanceMethod yX10_hand, Cond.selects RX10 yX10_hand yX10_hand, Cond.code yX10_hand cX10_hand 2 (some .boolean), Cond.fieldLink RX10 221 "ClapBankModel" "theatre" "I", Cond.fieldLink RX10 228 "ClapBankModel" "palms" "I", Cond.fieldLink RX10 231 "ClapBankModel" "actors" "I", Cond.fieldLink RX10 234 "ClapBankModel" "rate" "I", Cond.methodLink RX10 224 yX10_of]
def wsX10_stop_r2 : List Cond := [Cond.instanceMethod yX10_of, Cond.selects RX10 yX10_of yX10_of, Cond.code yX10_of cX10_of 2 (some .int), Cond.fieldLink RX10 26 "ClapBankModel" "theatres" "[I", Cond.methodLink RX10 252 yX10_deeds, Cond.instanceMethod yX10_deeds, Cond.selects RX10 yX10_deeds yX10_deeds, Cond.code yX10_deeds cX10_deeds 1 (some .int), Cond.fieldLink RX10 29 "ClapBankModel" "books" "[I", Cond.methodLink RX10 329 yX10_play, Cond.instanceMethod yX10_play, Cond.selects RX10 yX10_play yX10_play, Cond.code yX10_play cX10_play 3 (some .int), Cond.methodLink RX10 323 yX10_begin, Cond.instanceMethod yX10_begin, Cond.selects RX10 yX10_begin yX10_begin, Cond.code yX10_begin cX10_begin 2 none, Cond.fieldLink RX10 258 "ClapBankModel" "chest" "I", Cond.fieldLink RX10 261 "ClapBankModel" "encores" "I", Cond.fieldLink RX10 264 "ClapBankModel" "nights" "I", Cond.fieldLink RX10 267 "ClapBankModel" "lives" "I", Cond.fieldLink RX10 270 "ClapBankModel" "claps" "I", Cond.fieldLink RX10 273 "ClapBankModel" "echoFor" "I", Cond.fieldLink RX10 44 "ClapBankModel" "owes" "[I"]
def wsX10_stop_r3 : List Cond := [Cond.fieldLink RX10 47 "ClapBankModel" "got" "[I", Cond.fieldLink RX10 50 "ClapBankModel" "saved" "[I", Cond.fieldLink RX10 53 "ClapBankModel" "storms" "[I", Cond.fieldLink RX10 56 "ClapBankModel" "starved" "[I", Cond.methodLink RX10 276 yX10_morning, Cond.instanceMethod yX10_morning, Cond.selects RX10 yX10_morning yX10_morning, Cond.code yX10_morning cX10_morning 2 none, Cond.fieldLink RX10 41 "ClapBankModel" "left" "[I", Cond.fieldLink RX10 279 "ClapBankModel" "hushed" "I", Cond.methodLink RX10 326 yX10_doesNext, Cond.instanceMethod yX10_doesNext, Cond.selects RX10 yX10_doesNext yX10_doesNext, Cond.code yX10_doesNext cX10_doesNext 2 (some .boolean), Cond.methodLink RX10 320 yX10_does, Cond.instanceMethod yX10_does, Cond.selects RX10 yX10_does yX10_does, Cond.code yX10_does cX10_does 5 (some .boolean), Cond.methodLink RX10 255 yX10_deedOf, Cond.instanceMethod yX10_deedOf, Cond.selects RX10 yX10_deedOf yX10_deedOf, Cond.code yX10_deedOf cX10_deedOf 3 (some .int), Cond.methodLink RX10 307 yX10_clapsFor, Cond.instanceMethod yX10_clapsFor]
def wsX10_stop_r4 : List Cond := [Cond.selects RX10 yX10_clapsFor yX10_clapsFor, Cond.code yX10_clapsFor cX10_clapsFor 5 (some .boolean), Cond.methodLink RX10 240 yX10_isPalm, Cond.instanceMethod yX10_isPalm, Cond.selects RX10 yX10_isPalm yX10_isPalm, Cond.code yX10_isPalm cX10_isPalm 2 (some .boolean), Cond.methodLink RX10 285 yX10_isLiving, Cond.instanceMethod yX10_isLiving, Cond.selects RX10 yX10_isLiving yX10_isLiving, Cond.code yX10_isLiving cX10_isLiving 2 (some .boolean), Cond.methodLink RX10 243 yX10_isActor, Cond.instanceMethod yX10_isActor, Cond.selects RX10 yX10_isActor yX10_isActor, Cond.code yX10_isActor cX10_isActor 2 (some .boolean), Cond.methodLink RX10 84 yX10_has, Cond.static yX10_has, Cond.code yX10_has cX10_has 2 (some .boolean), Cond.methodLink RX10 288 yX10_handsOf, Cond.instanceMethod yX10_handsOf, Cond.selects RX10 yX10_handsOf yX10_handsOf, Cond.code yX10_handsOf cX10_handsOf 2 (some .int), Cond.methodLink RX10 291 yX10_gets, Cond.instanceMethod yX10_gets, Cond.selects RX10 yX10_gets yX10_gets]
def wsX10_stop_r5 : List Cond := [Cond.code yX10_gets cX10_gets 3 none, Cond.methodLink RX10 310 yX10_gives, Cond.instanceMethod yX10_gives, Cond.selects RX10 yX10_gives yX10_gives, Cond.code yX10_gives cX10_gives 5 (some .boolean), Cond.methodLink RX10 314 yX10_hushes, Cond.instanceMethod yX10_hushes, Cond.selects RX10 yX10_hushes yX10_hushes, Cond.code yX10_hushes cX10_hushes 4 (some .boolean), Cond.methodLink RX10 317 yX10_night, Cond.instanceMethod yX10_night, Cond.selects RX10 yX10_night yX10_night, Cond.code yX10_night cX10_night 2 none, Cond.constantLong RX10 300 (100), Cond.fieldLink RX10 302 "ClapBankModel" "capped" "Z", Cond.constant RX10 306 (1000000), Cond.methodLink RX10 297 yX10_eatsNow, Cond.instanceMethod yX10_eatsNow, Cond.selects RX10 yX10_eatsNow yX10_eatsNow, Cond.code yX10_eatsNow cX10_eatsNow 3 (some .boolean), Cond.methodLink RX10 294 yX10_eats, Cond.instanceMethod yX10_eats, Cond.selects RX10 yX10_eats yX10_eats, Cond.code yX10_eats cX10_eats 3 (some .int)]
def wsX10_stop_r6 : List Cond := [Cond.methodLink RX10 282 yX10_hungerOf, Cond.instanceMethod yX10_hungerOf, Cond.selects RX10 yX10_hungerOf yX10_hungerOf, Cond.code yX10_hungerOf cX10_hungerOf 2 (some .int), Cond.methodLink RX10 170 yX10_lesser, Cond.static yX10_lesser, Cond.code yX10_lesser cX10_lesser 2 (some .int)]
def wsX10_stop : List Cond := .code yX10_stop cX10_stop 3 (some .int) :: ((wsX10_stop_r1 ++ (wsX10_stop_r2 ++ (wsX10_stop_r3 ++ (wsX10_stop_r4 ++ (wsX10_stop_r5 ++ wsX10_stop_r6))))) ++ wsX100)
def wsX10_allSaved : List Cond := .code yX10_allSaved cX10_allSaved 3 (some .int) :: ([.fieldLink RX10 231 "ClapBankModel" "actors" "I", .fieldLink RX10 267 "ClapBankModel" "lives" "I", .fieldLink RX10 50 "ClapBankModel" "saved" "[I", .methodLink RX10 84 yX10_has, .static yX10_has, .initialized RX10, .code yX10_has cX10_has 2 (some .boolean)] ++ wsX100)
def wsX10_state_r1 : List Cond := [Cond.fieldLink RX10 80 "ClapBankModel" "code" "I", Cond.fieldLink RX10 258 "ClapBankModel" "chest" "I", Cond.fieldLink RX10 261 "ClapBankModel" "encores" "I", Cond.fieldLink RX10 264 "ClapBankModel" "nights" "I", Cond.fieldLink RX10 267 "ClapBankModel" "lives" "I", Cond.fieldLink RX10 279 "ClapBankModel" "hushed" "I", Cond.fieldLink RX10 270 "ClapBankModel" "claps" "I", Cond.methodLink RX10 332 yX10_layState, Cond.instanceMethod yX10_layState, Cond.selects RX10 yX10_layState yX10_layState, Cond.initialized RX10, Cond.code yX10_layState cX10_layState 4 (some .boolean), Cond.methodLink RX10 249 yX10_hasBook, Cond.instanceMethod yX10_hasBook, Cond.selects RX10 yX10_hasBook yX10_hasBook, Cond.code yX10_hasBook cX10_hasBook 2 (some .boolean), Cond.fieldLink RX10 246 "ClapBankModel" "book" "I", Cond.methodLink RX10 211 yX10_is, Cond.instanceMethod yX10_is, Cond.selects RX10 yX10_is yX10_is, Cond.code yX10_is cX10_is 3 (some .boolean), Cond.fieldLink RX10 23 "ClapBankModel" "many" "[I", Cond.methodLink RX10 92 yX10_in, Cond.static yX10_in]
def wsX10_state_r2 : List Cond := [Cond.code yX10_in cX10_in 3 (some .boolean), Cond.methodLink RX10 237 yX10_hand, Cond.instanceMethod yX10_hand, Cond.selects RX10 yX10_hand yX10_hand, Cond.code yX10_hand cX10_hand 2 (some .boolean), Cond.fieldLink RX10 221 "ClapBankModel" "theatre" "I", Cond.fieldLink RX10 228 "ClapBankModel" "palms" "I", Cond.fieldLink RX10 231 "ClapBankModel" "actors" "I", Cond.fieldLink RX10 234 "ClapBankModel" "rate" "I", Cond.methodLink RX10 224 yX10_of, Cond.instanceMethod yX10_of, Cond.selects RX10 yX10_of yX10_of, Cond.code yX10_of cX10_of 2 (some .int), Cond.fieldLink RX10 26 "ClapBankModel" "theatres" "[I", Cond.methodLink RX10 252 yX10_deeds, Cond.instanceMethod yX10_deeds, Cond.selects RX10 yX10_deeds yX10_deeds, Cond.code yX10_deeds cX10_deeds 1 (some .int), Cond.fieldLink RX10 29 "ClapBankModel" "books" "[I", Cond.methodLink RX10 329 yX10_play, Cond.instanceMethod yX10_play, Cond.selects RX10 yX10_play yX10_play, Cond.code yX10_play cX10_play 3 (some .int), Cond.methodLink RX10 323 yX10_begin]
def wsX10_state_r3 : List Cond := [Cond.instanceMethod yX10_begin, Cond.selects RX10 yX10_begin yX10_begin, Cond.code yX10_begin cX10_begin 2 none, Cond.fieldLink RX10 273 "ClapBankModel" "echoFor" "I", Cond.fieldLink RX10 44 "ClapBankModel" "owes" "[I", Cond.fieldLink RX10 47 "ClapBankModel" "got" "[I", Cond.fieldLink RX10 50 "ClapBankModel" "saved" "[I", Cond.fieldLink RX10 53 "ClapBankModel" "storms" "[I", Cond.fieldLink RX10 56 "ClapBankModel" "starved" "[I", Cond.methodLink RX10 276 yX10_morning, Cond.instanceMethod yX10_morning, Cond.selects RX10 yX10_morning yX10_morning, Cond.code yX10_morning cX10_morning 2 none, Cond.fieldLink RX10 41 "ClapBankModel" "left" "[I", Cond.methodLink RX10 326 yX10_doesNext, Cond.instanceMethod yX10_doesNext, Cond.selects RX10 yX10_doesNext yX10_doesNext, Cond.code yX10_doesNext cX10_doesNext 2 (some .boolean), Cond.methodLink RX10 320 yX10_does, Cond.instanceMethod yX10_does, Cond.selects RX10 yX10_does yX10_does, Cond.code yX10_does cX10_does 5 (some .boolean), Cond.methodLink RX10 255 yX10_deedOf, Cond.instanceMethod yX10_deedOf]
def wsX10_state_r4 : List Cond := [Cond.selects RX10 yX10_deedOf yX10_deedOf, Cond.code yX10_deedOf cX10_deedOf 3 (some .int), Cond.methodLink RX10 307 yX10_clapsFor, Cond.instanceMethod yX10_clapsFor, Cond.selects RX10 yX10_clapsFor yX10_clapsFor, Cond.code yX10_clapsFor cX10_clapsFor 5 (some .boolean), Cond.methodLink RX10 240 yX10_isPalm, Cond.instanceMethod yX10_isPalm, Cond.selects RX10 yX10_isPalm yX10_isPalm, Cond.code yX10_isPalm cX10_isPalm 2 (some .boolean), Cond.methodLink RX10 285 yX10_isLiving, Cond.instanceMethod yX10_isLiving, Cond.selects RX10 yX10_isLiving yX10_isLiving, Cond.code yX10_isLiving cX10_isLiving 2 (some .boolean), Cond.methodLink RX10 243 yX10_isActor, Cond.instanceMethod yX10_isActor, Cond.selects RX10 yX10_isActor yX10_isActor, Cond.code yX10_isActor cX10_isActor 2 (some .boolean), Cond.methodLink RX10 84 yX10_has, Cond.static yX10_has, Cond.code yX10_has cX10_has 2 (some .boolean), Cond.methodLink RX10 288 yX10_handsOf, Cond.instanceMethod yX10_handsOf, Cond.selects RX10 yX10_handsOf yX10_handsOf]
def wsX10_state_r5 : List Cond := [Cond.code yX10_handsOf cX10_handsOf 2 (some .int), Cond.methodLink RX10 291 yX10_gets, Cond.instanceMethod yX10_gets, Cond.selects RX10 yX10_gets yX10_gets, Cond.code yX10_gets cX10_gets 3 none, Cond.methodLink RX10 310 yX10_gives, Cond.instanceMethod yX10_gives, Cond.selects RX10 yX10_gives yX10_gives, Cond.code yX10_gives cX10_gives 5 (some .boolean), Cond.methodLink RX10 314 yX10_hushes, Cond.instanceMethod yX10_hushes, Cond.selects RX10 yX10_hushes yX10_hushes, Cond.code yX10_hushes cX10_hushes 4 (some .boolean), Cond.methodLink RX10 317 yX10_night, Cond.instanceMethod yX10_night, Cond.selects RX10 yX10_night yX10_night, Cond.code yX10_night cX10_night 2 none, Cond.constantLong RX10 300 (100), Cond.fieldLink RX10 302 "ClapBankModel" "capped" "Z", Cond.constant RX10 306 (1000000), Cond.methodLink RX10 297 yX10_eatsNow, Cond.instanceMethod yX10_eatsNow, Cond.selects RX10 yX10_eatsNow yX10_eatsNow, Cond.code yX10_eatsNow cX10_eatsNow 3 (some .boolean)]
def wsX10_state_r6 : List Cond := [Cond.methodLink RX10 294 yX10_eats, Cond.instanceMethod yX10_eats, Cond.selects RX10 yX10_eats yX10_eats, Cond.code yX10_eats cX10_eats 3 (some .int), Cond.methodLink RX10 282 yX10_hungerOf, Cond.instanceMethod yX10_hungerOf, Cond.selects RX10 yX10_hungerOf yX10_hungerOf, Cond.code yX10_hungerOf cX10_hungerOf 2 (some .int), Cond.methodLink RX10 170 yX10_lesser, Cond.static yX10_lesser, Cond.code yX10_lesser cX10_lesser 2 (some .int), Cond.methodLink RX10 335 yX10_allSaved, Cond.instanceMethod yX10_allSaved, Cond.selects RX10 yX10_allSaved yX10_allSaved, Cond.code yX10_allSaved cX10_allSaved 3 (some .int)]
def wsX10_state : List Cond := .code yX10_state cX10_state 5 (some .int) :: ((wsX10_state_r1 ++ (wsX10_state_r2 ++ (wsX10_state_r3 ++ (wsX10_state_r4 ++ (wsX10_state_r5 ++ wsX10_state_r6))))) ++ wsX100)
def wsX10_palm_r1 : List Cond := [Cond.fieldLink RX10 80 "ClapBankModel" "code" "I", Cond.fieldLink RX10 228 "ClapBankModel" "palms" "I", Cond.fieldLink RX10 44 "ClapBankModel" "owes" "[I", Cond.fieldLink RX10 41 "ClapBankModel" "left" "[I", Cond.fieldLink RX10 231 "ClapBankModel" "actors" "I", Cond.fieldLink RX10 47 "ClapBankModel" "got" "[I", Cond.methodLink RX10 332 yX10_layState, Cond.instanceMethod yX10_layState, Cond.selects RX10 yX10_layState yX10_layState, Cond.initialized RX10, Cond.code yX10_layState cX10_layState 4 (some .boolean), Cond.methodLink RX10 249 yX10_hasBook, Cond.instanceMethod yX10_hasBook, Cond.selects RX10 yX10_hasBook yX10_hasBook, Cond.code yX10_hasBook cX10_hasBook 2 (some .boolean), Cond.fieldLink RX10 246 "ClapBankModel" "book" "I", Cond.methodLink RX10 211 yX10_is, Cond.instanceMethod yX10_is, Cond.selects RX10 yX10_is yX10_is, Cond.code yX10_is cX10_is 3 (some .boolean), Cond.fieldLink RX10 23 "ClapBankModel" "many" "[I", Cond.methodLink RX10 92 yX10_in, Cond.static yX10_in, Cond.code yX10_in cX10_in 3 (some .boolean)]
def wsX10_palm_r2 : List Cond := [Cond.methodLink RX10 237 yX10_hand, Cond.instanceMethod yX10_hand, Cond.selects RX10 yX10_hand yX10_hand, Cond.code yX10_hand cX10_hand 2 (some .boolean), Cond.fieldLink RX10 221 "ClapBankModel" "theatre" "I", Cond.fieldLink RX10 234 "ClapBankModel" "rate" "I", Cond.methodLink RX10 224 yX10_of, Cond.instanceMethod yX10_of, Cond.selects RX10 yX10_of yX10_of, Cond.code yX10_of cX10_of 2 (some .int), Cond.fieldLink RX10 26 "ClapBankModel" "theatres" "[I", Cond.methodLink RX10 252 yX10_deeds, Cond.instanceMethod yX10_deeds, Cond.selects RX10 yX10_deeds yX10_deeds, Cond.code yX10_deeds cX10_deeds 1 (some .int), Cond.fieldLink RX10 29 "ClapBankModel" "books" "[I", Cond.methodLink RX10 329 yX10_play, Cond.instanceMethod yX10_play, Cond.selects RX10 yX10_play yX10_play, Cond.code yX10_play cX10_play 3 (some .int), Cond.methodLink RX10 323 yX10_begin, Cond.instanceMethod yX10_begin, Cond.selects RX10 yX10_begin yX10_begin, Cond.code yX10_begin cX10_begin 2 none]
def wsX10_palm_r3 : List Cond := [Cond.fieldLink RX10 258 "ClapBankModel" "chest" "I", Cond.fieldLink RX10 261 "ClapBankModel" "encores" "I", Cond.fieldLink RX10 264 "ClapBankModel" "nights" "I", Cond.fieldLink RX10 267 "ClapBankModel" "lives" "I", Cond.fieldLink RX10 270 "ClapBankModel" "claps" "I", Cond.fieldLink RX10 273 "ClapBankModel" "echoFor" "I", Cond.fieldLink RX10 50 "ClapBankModel" "saved" "[I", Cond.fieldLink RX10 53 "ClapBankModel" "storms" "[I", Cond.fieldLink RX10 56 "ClapBankModel" "starved" "[I", Cond.methodLink RX10 276 yX10_morning, Cond.instanceMethod yX10_morning, Cond.selects RX10 yX10_morning yX10_morning, Cond.code yX10_morning cX10_morning 2 none, Cond.fieldLink RX10 279 "ClapBankModel" "hushed" "I", Cond.methodLink RX10 326 yX10_doesNext, Cond.instanceMethod yX10_doesNext, Cond.selects RX10 yX10_doesNext yX10_doesNext, Cond.code yX10_doesNext cX10_doesNext 2 (some .boolean), Cond.methodLink RX10 320 yX10_does, Cond.instanceMethod yX10_does, Cond.selects RX10 yX10_does yX10_does, Cond.code yX10_does cX10_does 5 (some .boolean), Cond.methodLink RX10 255 yX10_deedOf, Cond.instanceMethod yX10_deedOf]
def wsX10_palm_r4 : List Cond := [Cond.selects RX10 yX10_deedOf yX10_deedOf, Cond.code yX10_deedOf cX10_deedOf 3 (some .int), Cond.methodLink RX10 307 yX10_clapsFor, Cond.instanceMethod yX10_clapsFor, Cond.selects RX10 yX10_clapsFor yX10_clapsFor, Cond.code yX10_clapsFor cX10_clapsFor 5 (some .boolean), Cond.methodLink RX10 240 yX10_isPalm, Cond.instanceMethod yX10_isPalm, Cond.selects RX10 yX10_isPalm yX10_isPalm, Cond.code yX10_isPalm cX10_isPalm 2 (some .boolean), Cond.methodLink RX10 285 yX10_isLiving, Cond.instanceMethod yX10_isLiving, Cond.selects RX10 yX10_isLiving yX10_isLiving, Cond.code yX10_isLiving cX10_isLiving 2 (some .boolean), Cond.methodLink RX10 243 yX10_isActor, Cond.instanceMethod yX10_isActor, Cond.selects RX10 yX10_isActor yX10_isActor, Cond.code yX10_isActor cX10_isActor 2 (some .boolean), Cond.methodLink RX10 84 yX10_has, Cond.static yX10_has, Cond.code yX10_has cX10_has 2 (some .boolean), Cond.methodLink RX10 288 yX10_handsOf, Cond.instanceMethod yX10_handsOf, Cond.selects RX10 yX10_handsOf yX10_handsOf]
def wsX10_palm_r5 : List Cond := [Cond.code yX10_handsOf cX10_handsOf 2 (some .int), Cond.methodLink RX10 291 yX10_gets, Cond.instanceMethod yX10_gets, Cond.selects RX10 yX10_gets yX10_gets, Cond.code yX10_gets cX10_gets 3 none, Cond.methodLink RX10 310 yX10_gives, Cond.instanceMethod yX10_gives, Cond.selects RX10 yX10_gives yX10_gives, Cond.code yX10_gives cX10_gives 5 (some .boolean), Cond.methodLink RX10 314 yX10_hushes, Cond.instanceMethod yX10_hushes, Cond.selects RX10 yX10_hushes yX10_hushes, Cond.code yX10_hushes cX10_hushes 4 (some .boolean), Cond.methodLink RX10 317 yX10_night, Cond.instanceMethod yX10_night, Cond.selects RX10 yX10_night yX10_night, Cond.code yX10_night cX10_night 2 none, Cond.constantLong RX10 300 (100), Cond.fieldLink RX10 302 "ClapBankModel" "capped" "Z", Cond.constant RX10 306 (1000000), Cond.methodLink RX10 297 yX10_eatsNow, Cond.instanceMethod yX10_eatsNow, Cond.selects RX10 yX10_eatsNow yX10_eatsNow, Cond.code yX10_eatsNow cX10_eatsNow 3 (some .boolean)]
def wsX10_palm_r6 : List Cond := [Cond.methodLink RX10 294 yX10_eats, Cond.instanceMethod yX10_eats, Cond.selects RX10 yX10_eats yX10_eats, Cond.code yX10_eats cX10_eats 3 (some .int), Cond.methodLink RX10 282 yX10_hungerOf, Cond.instanceMethod yX10_hungerOf, Cond.selects RX10 yX10_hungerOf yX10_hungerOf, Cond.code yX10_hungerOf cX10_hungerOf 2 (some .int), Cond.methodLink RX10 170 yX10_lesser, Cond.static yX10_lesser, Cond.code yX10_lesser cX10_lesser 2 (some .int)]
def wsX10_palm : List Cond := .code yX10_palm cX10_palm 6 (some .int) :: ((wsX10_palm_r1 ++ (wsX10_palm_r2 ++ (wsX10_palm_r3 ++ (wsX10_palm_r4 ++ (wsX10_palm_r5 ++ wsX10_palm_r6))))) ++ wsX100)
def wsX10_needOf : List Cond := .code yX10_needOf cX10_needOf 2 (some .int) :: ([.fieldLink RX10 267 "ClapBankModel" "lives" "I", .fieldLink RX10 50 "ClapBankModel" "saved" "[I", .methodLink RX10 84 yX10_has, .static yX10_has, .initialized RX10, .code yX10_has cX10_has 2 (some .boolean), .methodLink RX10 294 yX10_eats, .instanceMethod yX10_eats, .selects RX10 yX10_eats yX10_eats, .code yX10_eats cX10_eats 3 (some .int), .fieldLink RX10 261 "ClapBankModel" "encores" "I", .methodLink RX10 282 yX10_hungerOf, .instanceMethod yX10_hungerOf, .selects RX10 yX10_hungerOf yX10_hungerOf, .code yX10_hungerOf cX10_hungerOf 2 (some .int), .methodLink RX10 224 yX10_of, .instanceMethod yX10_of, .selects RX10 yX10_of yX10_of, .code yX10_of cX10_of 2 (some .int), .fieldLink RX10 26 "ClapBankModel" "theatres" "[I", .fieldLink RX10 221 "ClapBankModel" "theatre" "I", .methodLink RX10 338 yX10_greater, .static yX10_greater, .code yX10_greater cX10_greater 2 (some .int)] ++ wsX100)
def wsX10_star : List Cond := .code yX10_star cX10_star 5 (some .int) :: ([.constant RX10 306 (1000000), .fieldLink RX10 50 "ClapBankModel" "saved" "[I", .fieldLink RX10 234 "ClapBankModel" "rate" "I", .methodLink RX10 170 yX10_lesser, .static yX10_lesser, .initialized RX10, .code yX10_lesser cX10_lesser 2 (some .int), .methodLink RX10 294 yX10_eats, .instanceMethod yX10_eats, .selects RX10 yX10_eats yX10_eats, .code yX10_eats cX10_eats 3 (some .int), .fieldLink RX10 261 "ClapBankModel" "encores" "I", .methodLink RX10 282 yX10_hungerOf, .instanceMethod yX10_hungerOf, .selects RX10 yX10_hungerOf yX10_hungerOf, .code yX10_hungerOf cX10_hungerOf 2 (some .int), .methodLink RX10 224 yX10_of, .instanceMethod yX10_of, .selects RX10 yX10_of yX10_of, .code yX10_of cX10_of 2 (some .int), .fieldLink RX10 26 "ClapBankModel" "theatres" "[I", .fieldLink RX10 221 "ClapBankModel" "theatre" "I"] ++ wsX100)
def wsX10_isInDanger : List Cond := .code yX10_isInDanger cX10_isInDanger 6 (some .boolean) :: ([.fieldLink RX10 231 "ClapBankModel" "actors" "I", .fieldLink RX10 267 "ClapBankModel" "lives" "I", .fieldLink RX10 50 "ClapBankModel" "saved" "[I", .fieldLink RX10 258 "ClapBankModel" "chest" "I", .methodLink RX10 84 yX10_has, .static yX10_has, .initialized RX10, .code yX10_has cX10_has 2 (some .boolean), .methodLink RX10 294 yX10_eats, .instanceMethod yX10_eats, .selects RX10 yX10_eats yX10_eats, .code yX10_eats cX10_eats 3 (some .int), .fieldLink RX10 261 "ClapBankModel" "encores" "I", .methodLink RX10 282 yX10_hungerOf, .instanceMethod yX10_hungerOf, .selects RX10 yX10_hungerOf yX10_hungerOf, .code yX10_hungerOf cX10_hungerOf 2 (some .int), .methodLink RX10 224 yX10_of, .instanceMethod yX10_of, .selects RX10 yX10_of yX10_of, .code yX10_of cX10_of 2 (some .int), .fieldLink RX10 26 "ClapBankModel" "theatres" "[I", .fieldLink RX10 221 "ClapBankModel" "theatre" "I"] ++ wsX100)
def wsX10_isDoomed : List Cond := .code yX10_isDoomed cX10_isDoomed 2 (some .boolean) :: ([.fieldLink RX10 50 "ClapBankModel" "saved" "[I", .fieldLink RX10 258 "ClapBankModel" "chest" "I", .methodLink RX10 294 yX10_eats, .instanceMethod yX10_eats, .selects RX10 yX10_eats yX10_eats, .initialized RX10, .code yX10_eats cX10_eats 3 (some .int), .fieldLink RX10 261 "ClapBankModel" "encores" "I", .methodLink RX10 282 yX10_hungerOf, .instanceMethod yX10_hungerOf, .selects RX10 yX10_hungerOf yX10_hungerOf, .code yX10_hungerOf cX10_hungerOf 2 (some .int), .methodLink RX10 224 yX10_of, .instanceMethod yX10_of, .selects RX10 yX10_of yX10_of, .code yX10_of cX10_of 2 (some .int), .fieldLink RX10 26 "ClapBankModel" "theatres" "[I", .fieldLink RX10 221 "ClapBankModel" "theatre" "I"] ++ wsX100)
def wsX10_run_r1 : List Cond := [Cond.fieldLink RX10 80 "ClapBankModel" "code" "I", Cond.fieldLink RX10 231 "ClapBankModel" "actors" "I", Cond.fieldLink RX10 267 "ClapBankModel" "lives" "I", Cond.methodLink RX10 332 yX10_layState, Cond.instanceMethod yX10_layState, Cond.selects RX10 yX10_layState yX10_layState, Cond.initialized RX10, Cond.code yX10_layState cX10_layState 4 (some .boolean), Cond.methodLink RX10 249 yX10_hasBook, Cond.instanceMethod yX10_hasBook, Cond.selects RX10 yX10_hasBook yX10_hasBook, Cond.code yX10_hasBook cX10_hasBook 2 (some .boolean), Cond.fieldLink RX10 246 "ClapBankModel" "book" "I", Cond.methodLink RX10 211 yX10_is, Cond.instanceMethod yX10_is, Cond.selects RX10 yX10_is yX10_is, Cond.code yX10_is cX10_is 3 (some .boolean), Cond.fieldLink RX10 23 "ClapBankModel" "many" "[I", Cond.methodLink RX10 92 yX10_in, Cond.static yX10_in, Cond.code yX10_in cX10_in 3 (some .boolean), Cond.methodLink RX10 237 yX10_hand, Cond.instanceMethod yX10_hand, Cond.selects RX10 yX10_hand yX10_hand]
def wsX10_run_r2 : List Cond := [Cond.code yX10_hand cX10_hand 2 (some .boolean), Cond.fieldLink RX10 221 "ClapBankModel" "theatre" "I", Cond.fieldLink RX10 228 "ClapBankModel" "palms" "I", Cond.fieldLink RX10 234 "ClapBankModel" "rate" "I", Cond.methodLink RX10 224 yX10_of, Cond.instanceMethod yX10_of, Cond.selects RX10 yX10_of yX10_of, Cond.code yX10_of cX10_of 2 (some .int), Cond.fieldLink RX10 26 "ClapBankModel" "theatres" "[I", Cond.methodLink RX10 252 yX10_deeds, Cond.instanceMethod yX10_deeds, Cond.selects RX10 yX10_deeds yX10_deeds, Cond.code yX10_deeds cX10_deeds 1 (some .int), Cond.fieldLink RX10 29 "ClapBankModel" "books" "[I", Cond.methodLink RX10 329 yX10_play, Cond.instanceMethod yX10_play, Cond.selects RX10 yX10_play yX10_play, Cond.code yX10_play cX10_play 3 (some .int), Cond.methodLink RX10 323 yX10_begin, Cond.instanceMethod yX10_begin, Cond.selects RX10 yX10_begin yX10_begin, Cond.code yX10_begin cX10_begin 2 none, Cond.fieldLink RX10 258 "ClapBankModel" "chest" "I", Cond.fieldLink RX10 261 "ClapBankModel" "encores" "I"]
def wsX10_run_r3 : List Cond := [Cond.fieldLink RX10 264 "ClapBankModel" "nights" "I", Cond.fieldLink RX10 270 "ClapBankModel" "claps" "I", Cond.fieldLink RX10 273 "ClapBankModel" "echoFor" "I", Cond.fieldLink RX10 44 "ClapBankModel" "owes" "[I", Cond.fieldLink RX10 47 "ClapBankModel" "got" "[I", Cond.fieldLink RX10 50 "ClapBankModel" "saved" "[I", Cond.fieldLink RX10 53 "ClapBankModel" "storms" "[I", Cond.fieldLink RX10 56 "ClapBankModel" "starved" "[I", Cond.methodLink RX10 276 yX10_morning, Cond.instanceMethod yX10_morning, Cond.selects RX10 yX10_morning yX10_morning, Cond.code yX10_morning cX10_morning 2 none, Cond.fieldLink RX10 41 "ClapBankModel" "left" "[I", Cond.fieldLink RX10 279 "ClapBankModel" "hushed" "I", Cond.methodLink RX10 326 yX10_doesNext, Cond.instanceMethod yX10_doesNext, Cond.selects RX10 yX10_doesNext yX10_doesNext, Cond.code yX10_doesNext cX10_doesNext 2 (some .boolean), Cond.methodLink RX10 320 yX10_does, Cond.instanceMethod yX10_does, Cond.selects RX10 yX10_does yX10_does, Cond.code yX10_does cX10_does 5 (some .boolean), Cond.methodLink RX10 255 yX10_deedOf, Cond.instanceMethod yX10_deedOf]
def wsX10_run_r4 : List Cond := [Cond.selects RX10 yX10_deedOf yX10_deedOf, Cond.code yX10_deedOf cX10_deedOf 3 (some .int), Cond.methodLink RX10 307 yX10_clapsFor, Cond.instanceMethod yX10_clapsFor, Cond.selects RX10 yX10_clapsFor yX10_clapsFor, Cond.code yX10_clapsFor cX10_clapsFor 5 (some .boolean), Cond.methodLink RX10 240 yX10_isPalm, Cond.instanceMethod yX10_isPalm, Cond.selects RX10 yX10_isPalm yX10_isPalm, Cond.code yX10_isPalm cX10_isPalm 2 (some .boolean), Cond.methodLink RX10 285 yX10_isLiving, Cond.instanceMethod yX10_isLiving, Cond.selects RX10 yX10_isLiving yX10_isLiving, Cond.code yX10_isLiving cX10_isLiving 2 (some .boolean), Cond.methodLink RX10 243 yX10_isActor, Cond.instanceMethod yX10_isActor, Cond.selects RX10 yX10_isActor yX10_isActor, Cond.code yX10_isActor cX10_isActor 2 (some .boolean), Cond.methodLink RX10 84 yX10_has, Cond.static yX10_has, Cond.code yX10_has cX10_has 2 (some .boolean), Cond.methodLink RX10 288 yX10_handsOf, Cond.instanceMethod yX10_handsOf, Cond.selects RX10 yX10_handsOf yX10_handsOf]
def wsX10_run_r5 : List Cond := [Cond.code yX10_handsOf cX10_handsOf 2 (some .int), Cond.methodLink RX10 291 yX10_gets, Cond.instanceMethod yX10_gets, Cond.selects RX10 yX10_gets yX10_gets, Cond.code yX10_gets cX10_gets 3 none, Cond.methodLink RX10 310 yX10_gives, Cond.instanceMethod yX10_gives, Cond.selects RX10 yX10_gives yX10_gives, Cond.code yX10_gives cX10_gives 5 (some .boolean), Cond.methodLink RX10 314 yX10_hushes, Cond.instanceMethod yX10_hushes, Cond.selects RX10 yX10_hushes yX10_hushes, Cond.code yX10_hushes cX10_hushes 4 (some .boolean), Cond.methodLink RX10 317 yX10_night, Cond.instanceMethod yX10_night, Cond.selects RX10 yX10_night yX10_night, Cond.code yX10_night cX10_night 2 none, Cond.constantLong RX10 300 (100), Cond.fieldLink RX10 302 "ClapBankModel" "capped" "Z", Cond.constant RX10 306 (1000000), Cond.methodLink RX10 297 yX10_eatsNow, Cond.instanceMethod yX10_eatsNow, Cond.selects RX10 yX10_eatsNow yX10_eatsNow, Cond.code yX10_eatsNow cX10_eatsNow 3 (some .boolean)]
def wsX10_run_r6 : List Cond := [Cond.methodLink RX10 294 yX10_eats, Cond.instanceMethod yX10_eats, Cond.selects RX10 yX10_eats yX10_eats, Cond.code yX10_eats cX10_eats 3 (some .int), Cond.methodLink RX10 282 yX10_hungerOf, Cond.instanceMethod yX10_hungerOf, Cond.selects RX10 yX10_hungerOf yX10_hungerOf, Cond.code yX10_hungerOf cX10_hungerOf 2 (some .int), Cond.methodLink RX10 170 yX10_lesser, Cond.static yX10_lesser, Cond.code yX10_lesser cX10_lesser 2 (some .int), Cond.methodLink RX10 350 yX10_isDoomed, Cond.instanceMethod yX10_isDoomed, Cond.selects RX10 yX10_isDoomed yX10_isDoomed, Cond.code yX10_isDoomed cX10_isDoomed 2 (some .boolean), Cond.methodLink RX10 353 yX10_isInDanger, Cond.instanceMethod yX10_isInDanger, Cond.selects RX10 yX10_isInDanger yX10_isInDanger, Cond.code yX10_isInDanger cX10_isInDanger 6 (some .boolean)]
def wsX10_run : List Cond := .code yX10_run cX10_run 8 (some .int) :: ((wsX10_run_r1 ++ (wsX10_run_r2 ++ (wsX10_run_r3 ++ (wsX10_run_r4 ++ (wsX10_run_r5 ++ wsX10_run_r6))))) ++ wsX100)
def wsX10_leftOf : List Cond := .code yX10_leftOf cX10_leftOf 4 (some .int) :: ([.fieldLink RX10 228 "ClapBankModel" "palms" "I", .fieldLink RX10 279 "ClapBankModel" "hushed" "I", .fieldLink RX10 41 "ClapBankModel" "left" "[I", .methodLink RX10 288 yX10_handsOf, .instanceMethod yX10_handsOf, .selects RX10 yX10_handsOf yX10_handsOf, .initialized RX10, .code yX10_handsOf cX10_handsOf 2 (some .int), .methodLink RX10 224 yX10_of, .instanceMethod yX10_of, .selects RX10 yX10_of yX10_of, .code yX10_of cX10_of 2 (some .int), .fieldLink RX10 26 "ClapBankModel" "theatres" "[I", .fieldLink RX10 221 "ClapBankModel" "theatre" "I", .methodLink RX10 84 yX10_has, .static yX10_has, .code yX10_has cX10_has 2 (some .boolean)] ++ wsX100)
def wsX10_canFeed_r1 : List Cond := [Cond.fieldLink RX10 231 "ClapBankModel" "actors" "I", Cond.fieldLink RX10 359 "ClapBankModel" "twoHands" "I", Cond.fieldLink RX10 362 "ClapBankModel" "oneHand" "I", Cond.methodLink RX10 84 yX10_has, Cond.static yX10_has, Cond.initialized RX10, Cond.code yX10_has cX10_has 2 (some .boolean), Cond.methodLink RX10 341 yX10_needOf, Cond.instanceMethod yX10_needOf, Cond.selects RX10 yX10_needOf yX10_needOf, Cond.code yX10_needOf cX10_needOf 2 (some .int), Cond.fieldLink RX10 267 "ClapBankModel" "lives" "I", Cond.fieldLink RX10 50 "ClapBankModel" "saved" "[I", Cond.methodLink RX10 294 yX10_eats, Cond.instanceMethod yX10_eats, Cond.selects RX10 yX10_eats yX10_eats, Cond.code yX10_eats cX10_eats 3 (some .int), Cond.fieldLink RX10 261 "ClapBankModel" "encores" "I", Cond.methodLink RX10 282 yX10_hungerOf, Cond.instanceMethod yX10_hungerOf, Cond.selects RX10 yX10_hungerOf yX10_hungerOf, Cond.code yX10_hungerOf cX10_hungerOf 2 (some .int), Cond.methodLink RX10 224 yX10_of, Cond.instanceMethod yX10_of]
def wsX10_canFeed_r2 : List Cond := [Cond.selects RX10 yX10_of yX10_of, Cond.code yX10_of cX10_of 2 (some .int), Cond.fieldLink RX10 26 "ClapBankModel" "theatres" "[I", Cond.fieldLink RX10 221 "ClapBankModel" "theatre" "I", Cond.methodLink RX10 338 yX10_greater, Cond.static yX10_greater, Cond.code yX10_greater cX10_greater 2 (some .int), Cond.methodLink RX10 356 yX10_leftOf, Cond.instanceMethod yX10_leftOf, Cond.selects RX10 yX10_leftOf yX10_leftOf, Cond.code yX10_leftOf cX10_leftOf 4 (some .int), Cond.fieldLink RX10 228 "ClapBankModel" "palms" "I", Cond.fieldLink RX10 279 "ClapBankModel" "hushed" "I", Cond.fieldLink RX10 41 "ClapBankModel" "left" "[I", Cond.methodLink RX10 288 yX10_handsOf, Cond.instanceMethod yX10_handsOf, Cond.selects RX10 yX10_handsOf yX10_handsOf, Cond.code yX10_handsOf cX10_handsOf 2 (some .int), Cond.methodLink RX10 170 yX10_lesser, Cond.static yX10_lesser, Cond.code yX10_lesser cX10_lesser 2 (some .int)]
def wsX10_canFeed : List Cond := .code yX10_canFeed cX10_canFeed 9 (some .boolean) :: ((wsX10_canFeed_r1 ++ wsX10_canFeed_r2) ++ wsX100)
def wsX10_feast_r1 : List Cond := [Cond.fieldLink RX10 80 "ClapBankModel" "code" "I", Cond.fieldLink RX10 231 "ClapBankModel" "actors" "I", Cond.fieldLink RX10 267 "ClapBankModel" "lives" "I", Cond.fieldLink RX10 359 "ClapBankModel" "twoHands" "I", Cond.fieldLink RX10 362 "ClapBankModel" "oneHand" "I", Cond.methodLink RX10 332 yX10_layState, Cond.instanceMethod yX10_layState, Cond.selects RX10 yX10_layState yX10_layState, Cond.initialized RX10, Cond.code yX10_layState cX10_layState 4 (some .boolean), Cond.methodLink RX10 249 yX10_hasBook, Cond.instanceMethod yX10_hasBook, Cond.selects RX10 yX10_hasBook yX10_hasBook, Cond.code yX10_hasBook cX10_hasBook 2 (some .boolean), Cond.fieldLink RX10 246 "ClapBankModel" "book" "I", Cond.methodLink RX10 211 yX10_is, Cond.instanceMethod yX10_is, Cond.selects RX10 yX10_is yX10_is, Cond.code yX10_is cX10_is 3 (some .boolean), Cond.fieldLink RX10 23 "ClapBankModel" "many" "[I", Cond.methodLink RX10 92 yX10_in, Cond.static yX10_in, Cond.code yX10_in cX10_in 3 (some .boolean), Cond.methodLink RX10 237 yX10_hand]
def wsX10_feast_r2 : List Cond := [Cond.instanceMethod yX10_hand, Cond.selects RX10 yX10_hand yX10_hand, Cond.code yX10_hand cX10_hand 2 (some .boolean), Cond.fieldLink RX10 221 "ClapBankModel" "theatre" "I", Cond.fieldLink RX10 228 "ClapBankModel" "palms" "I", Cond.fieldLink RX10 234 "ClapBankModel" "rate" "I", Cond.methodLink RX10 224 yX10_of, Cond.instanceMethod yX10_of, Cond.selects RX10 yX10_of yX10_of, Cond.code yX10_of cX10_of 2 (some .int), Cond.fieldLink RX10 26 "ClapBankModel" "theatres" "[I", Cond.methodLink RX10 252 yX10_deeds, Cond.instanceMethod yX10_deeds, Cond.selects RX10 yX10_deeds yX10_deeds, Cond.code yX10_deeds cX10_deeds 1 (some .int), Cond.fieldLink RX10 29 "ClapBankModel" "books" "[I", Cond.methodLink RX10 329 yX10_play, Cond.instanceMethod yX10_play, Cond.selects RX10 yX10_play yX10_play, Cond.code yX10_play cX10_play 3 (some .int), Cond.methodLink RX10 323 yX10_begin, Cond.instanceMethod yX10_begin, Cond.selects RX10 yX10_begin yX10_begin, Cond.code yX10_begin cX10_begin 2 none]
def wsX10_feast_r3 : List Cond := [Cond.fieldLink RX10 258 "ClapBankModel" "chest" "I", Cond.fieldLink RX10 261 "ClapBankModel" "encores" "I", Cond.fieldLink RX10 264 "ClapBankModel" "nights" "I", Cond.fieldLink RX10 270 "ClapBankModel" "claps" "I", Cond.fieldLink RX10 273 "ClapBankModel" "echoFor" "I", Cond.fieldLink RX10 44 "ClapBankModel" "owes" "[I", Cond.fieldLink RX10 47 "ClapBankModel" "got" "[I", Cond.fieldLink RX10 50 "ClapBankModel" "saved" "[I", Cond.fieldLink RX10 53 "ClapBankModel" "storms" "[I", Cond.fieldLink RX10 56 "ClapBankModel" "starved" "[I", Cond.methodLink RX10 276 yX10_morning, Cond.instanceMethod yX10_morning, Cond.selects RX10 yX10_morning yX10_morning, Cond.code yX10_morning cX10_morning 2 none, Cond.fieldLink RX10 41 "ClapBankModel" "left" "[I", Cond.fieldLink RX10 279 "ClapBankModel" "hushed" "I", Cond.methodLink RX10 326 yX10_doesNext, Cond.instanceMethod yX10_doesNext, Cond.selects RX10 yX10_doesNext yX10_doesNext, Cond.code yX10_doesNext cX10_doesNext 2 (some .boolean), Cond.methodLink RX10 320 yX10_does, Cond.instanceMethod yX10_does, Cond.selects RX10 yX10_does yX10_does, Cond.code yX10_does cX10_does 5 (some .boolean)]
def wsX10_feast_r4 : List Cond := [Cond.methodLink RX10 255 yX10_deedOf, Cond.instanceMethod yX10_deedOf, Cond.selects RX10 yX10_deedOf yX10_deedOf, Cond.code yX10_deedOf cX10_deedOf 3 (some .int), Cond.methodLink RX10 307 yX10_clapsFor, Cond.instanceMethod yX10_clapsFor, Cond.selects RX10 yX10_clapsFor yX10_clapsFor, Cond.code yX10_clapsFor cX10_clapsFor 5 (some .boolean), Cond.methodLink RX10 240 yX10_isPalm, Cond.instanceMethod yX10_isPalm, Cond.selects RX10 yX10_isPalm yX10_isPalm, Cond.code yX10_isPalm cX10_isPalm 2 (some .boolean), Cond.methodLink RX10 285 yX10_isLiving, Cond.instanceMethod yX10_isLiving, Cond.selects RX10 yX10_isLiving yX10_isLiving, Cond.code yX10_isLiving cX10_isLiving 2 (some .boolean), Cond.methodLink RX10 243 yX10_isActor, Cond.instanceMethod yX10_isActor, Cond.selects RX10 yX10_isActor yX10_isActor, Cond.code yX10_isActor cX10_isActor 2 (some .boolean), Cond.methodLink RX10 84 yX10_has, Cond.static yX10_has, Cond.code yX10_has cX10_has 2 (some .boolean), Cond.methodLink RX10 288 yX10_handsOf]
def wsX10_feast_r5 : List Cond := [Cond.instanceMethod yX10_handsOf, Cond.selects RX10 yX10_handsOf yX10_handsOf, Cond.code yX10_handsOf cX10_handsOf 2 (some .int), Cond.methodLink RX10 291 yX10_gets, Cond.instanceMethod yX10_gets, Cond.selects RX10 yX10_gets yX10_gets, Cond.code yX10_gets cX10_gets 3 none, Cond.methodLink RX10 310 yX10_gives, Cond.instanceMethod yX10_gives, Cond.selects RX10 yX10_gives yX10_gives, Cond.code yX10_gives cX10_gives 5 (some .boolean), Cond.methodLink RX10 314 yX10_hushes, Cond.instanceMethod yX10_hushes, Cond.selects RX10 yX10_hushes yX10_hushes, Cond.code yX10_hushes cX10_hushes 4 (some .boolean), Cond.methodLink RX10 317 yX10_night, Cond.instanceMethod yX10_night, Cond.selects RX10 yX10_night yX10_night, Cond.code yX10_night cX10_night 2 none, Cond.constantLong RX10 300 (100), Cond.fieldLink RX10 302 "ClapBankModel" "capped" "Z", Cond.constant RX10 306 (1000000), Cond.methodLink RX10 297 yX10_eatsNow, Cond.instanceMethod yX10_eatsNow]
def wsX10_feast_r6 : List Cond := [Cond.selects RX10 yX10_eatsNow yX10_eatsNow, Cond.code yX10_eatsNow cX10_eatsNow 3 (some .boolean), Cond.methodLink RX10 294 yX10_eats, Cond.instanceMethod yX10_eats, Cond.selects RX10 yX10_eats yX10_eats, Cond.code yX10_eats cX10_eats 3 (some .int), Cond.methodLink RX10 282 yX10_hungerOf, Cond.instanceMethod yX10_hungerOf, Cond.selects RX10 yX10_hungerOf yX10_hungerOf, Cond.code yX10_hungerOf cX10_hungerOf 2 (some .int), Cond.methodLink RX10 170 yX10_lesser, Cond.static yX10_lesser, Cond.code yX10_lesser cX10_lesser 2 (some .int), Cond.methodLink RX10 365 yX10_canFeed, Cond.instanceMethod yX10_canFeed, Cond.selects RX10 yX10_canFeed yX10_canFeed, Cond.code yX10_canFeed cX10_canFeed 9 (some .boolean), Cond.methodLink RX10 341 yX10_needOf, Cond.instanceMethod yX10_needOf, Cond.selects RX10 yX10_needOf yX10_needOf, Cond.code yX10_needOf cX10_needOf 2 (some .int), Cond.methodLink RX10 338 yX10_greater, Cond.static yX10_greater, Cond.code yX10_greater cX10_greater 2 (some .int)]
def wsX10_feast_r7 : List Cond := [Cond.methodLink RX10 356 yX10_leftOf, Cond.instanceMethod yX10_leftOf, Cond.selects RX10 yX10_leftOf yX10_leftOf, Cond.code yX10_leftOf cX10_leftOf 4 (some .int), Cond.methodLink RX10 368 yX10_ones, Cond.static yX10_ones, Cond.code yX10_ones cX10_ones 3 (some .int)]
def wsX10_feast : List Cond := .code yX10_feast cX10_feast 11 (some .int) :: ((wsX10_feast_r1 ++ (wsX10_feast_r2 ++ (wsX10_feast_r3 ++ (wsX10_feast_r4 ++ (wsX10_feast_r5 ++ (wsX10_feast_r6 ++ wsX10_feast_r7)))))) ++ wsX100)
theorem dX10_in_0 : decode cX10_in 0 = .ok (.iload_n 0, 1) := by decide +kernel
theorem dX10_in_1 : decode cX10_in 1 = .ok (.iload_n 1, 1) := by decide +kernel
theorem dX10_in_2 : decode cX10_in 2 = .ok (.if_icmp .lt 12, 3) := by decide +kernel
theorem dX10_in_5 : decode cX10_in 5 = .ok (.iload_n 0, 1) := by decide +kernel
theorem dX10_in_6 : decode cX10_in 6 = .ok (.iload_n 2, 1) := by decide +kernel
theorem dX10_in_7 : decode cX10_in 7 = .ok (.if_icmp .gt 7, 3) := by decide +kernel
theorem dX10_in_10 : decode cX10_in 10 = .ok (.iconst 1, 1) := by decide +kernel
theorem dX10_in_11 : decode cX10_in 11 = .ok (.goto 4, 3) := by decide +kernel
theorem dX10_in_14 : decode cX10_in 14 = .ok (.iconst 0, 1) := by decide +kernel
theorem dX10_in_15 : decode cX10_in 15 = .ok (.ireturn, 1) := by decide +kernel
theorem dX10_has_0 : decode cX10_has 0 = .ok (.iload_n 0, 1) := by decide +kernel
theorem dX10_has_1 : decode cX10_has 1 = .ok (.iload_n 1, 1) := by decide +kernel
theorem dX10_has_2 : decode cX10_has 2 = .ok (.ishr, 1) := by decide +kernel
theorem dX10_has_3 : decode cX10_has 3 = .ok (.iconst 1, 1) := by decide +kernel
theorem dX10_has_4 : decode cX10_has 4 = .ok (.iand, 1) := by decide +kernel
theorem dX10_has_5 : decode cX10_has 5 = .ok (.iconst 1, 1) := by decide +kernel
theorem dX10_has_6 : decode cX10_has 6 = .ok (.if_icmp .ne 7, 3) := by decide +kernel
theorem dX10_has_9 : decode cX10_has 9 = .ok (.iconst 1, 1) := by decide +kernel
theorem dX10_has_10 : decode cX10_has 10 = .ok (.goto 4, 3) := by decide +kernel
theorem dX10_has_13 : decode cX10_has 13 = .ok (.iconst 0, 1) := by decide +kernel
theorem dX10_has_14 : decode cX10_has 14 = .ok (.ireturn, 1) := by decide +kernel
set_option maxRecDepth 20000 in
theorem ggX10_ones_X10_has : GoodIn wsX10_ones wsX10_has := goodIn_r _ [4] (by decide +kernel) (by decide +kernel)
set_option maxRecDepth 20000 in
theorem gX10_ones_X10_has : GoodIn wsX10_ones (va_wsS RX10 84 yX10_has wsX10_has) := goodIn_app (goodIn_of _ (by decide +kernel)) ggX10_ones_X10_has
theorem dX10_ones_0 : decode cX10_ones 0 = .ok (.iconst 0, 1) := by decide +kernel
theorem dX10_ones_1 : decode cX10_ones 1 = .ok (.istore_n 1, 1) := by decide +kernel
theorem dX10_ones_2 : decode cX10_ones 2 = .ok (.iconst 0, 1) := by decide +kernel
theorem dX10_ones_3 : decode cX10_ones 3 = .ok (.istore_n 2, 1) := by decide +kernel
theorem dX10_ones_4 : decode cX10_ones 4 = .ok (.iload_n 2, 1) := by decide +kernel
theorem dX10_ones_5 : decode cX10_ones 5 = .ok (.bipush 6, 2) := by decide +kernel
theorem dX10_ones_7 : decode cX10_ones 7 = .ok (.if_icmp .ge 25, 3) := by decide +kernel
theorem dX10_ones_10 : decode cX10_ones 10 = .ok (.iload_n 1, 1) := by decide +kernel
theorem dX10_ones_11 : decode cX10_ones 11 = .ok (.iload_n 0, 1) := by decide +kernel
theorem dX10_ones_12 : decode cX10_ones 12 = .ok (.iload_n 2, 1) := by decide +kernel
theorem dX10_ones_13 : decode cX10_ones 13 = .ok (.invokestatic 84, 3) := by decide +kernel
theorem dX10_ones_16 : decode cX10_ones 16 = .ok (.ifCond .eq 7, 3) := by decide +kernel
theorem dX10_ones_19 : decode cX10_ones 19 = .ok (.iconst 1, 1) := by decide +kernel
theorem dX10_ones_20 : decode cX10_ones 20 = .ok (.goto 4, 3) := by decide +kernel
theorem dX10_ones_23 : decode cX10_ones 23 = .ok (.iconst 0, 1) := by decide +kernel
theorem dX10_ones_24 : decode cX10_ones 24 = .ok (.iadd, 1) := by decide +kernel
theorem dX10_ones_25 : decode cX10_ones 25 = .ok (.istore_n 1, 1) := by decide +kernel
theorem dX10_ones_26 : decode cX10_ones 26 = .ok (.iinc 2 1, 3) := by decide +kernel
theorem dX10_ones_29 : decode cX10_ones 29 = .ok (.goto (-25), 3) := by decide +kernel
theorem dX10_ones_32 : decode cX10_ones 32 = .ok (.iload_n 1, 1) := by decide +kernel
theorem dX10_ones_33 : decode cX10_ones 33 = .ok (.ireturn, 1) := by decide +kernel
theorem dX10_greater_0 : decode cX10_greater 0 = .ok (.iload_n 0, 1) := by decide +kernel
theorem dX10_greater_1 : decode cX10_greater 1 = .ok (.iload_n 1, 1) := by decide +kernel
theorem dX10_greater_2 : decode cX10_greater 2 = .ok (.if_icmp .le 7, 3) := by decide +kernel
theorem dX10_greater_5 : decode cX10_greater 5 = .ok (.iload_n 0, 1) := by decide +kernel
theorem dX10_greater_6 : decode cX10_greater 6 = .ok (.goto 4, 3) := by decide +kernel
theorem dX10_greater_9 : decode cX10_greater 9 = .ok (.iload_n 1, 1) := by decide +kernel
theorem dX10_greater_10 : decode cX10_greater 10 = .ok (.ireturn, 1) := by decide +kernel
theorem dX10_lesser_0 : decode cX10_lesser 0 = .ok (.iload_n 0, 1) := by decide +kernel
theorem dX10_lesser_1 : decode cX10_lesser 1 = .ok (.iload_n 1, 1) := by decide +kernel
theorem dX10_lesser_2 : decode cX10_lesser 2 = .ok (.if_icmp .ge 7, 3) := by decide +kernel
theorem dX10_lesser_5 : decode cX10_lesser 5 = .ok (.iload_n 0, 1) := by decide +kernel
theorem dX10_lesser_6 : decode cX10_lesser 6 = .ok (.goto 4, 3) := by decide +kernel
theorem dX10_lesser_9 : decode cX10_lesser 9 = .ok (.iload_n 1, 1) := by decide +kernel
theorem dX10_lesser_10 : decode cX10_lesser 10 = .ok (.ireturn, 1) := by decide +kernel
set_option maxRecDepth 20000 in
theorem ggX10_is_X10_in : GoodIn wsX10_is wsX10_in := goodIn_r _ [5] (by decide +kernel) (by decide +kernel)
set_option maxRecDepth 20000 in
theorem gX10_is_X10_in : GoodIn wsX10_is (va_wsS RX10 92 yX10_in wsX10_in) := goodIn_app (goodIn_of _ (by decide +kernel)) ggX10_is_X10_in
theorem dX10_is_0 : decode cX10_is 0 = .ok (.iload_n 2, 1) := by decide +kernel
theorem dX10_is_1 : decode cX10_is 1 = .ok (.iconst 0, 1) := by decide +kernel
theorem dX10_is_2 : decode cX10_is 2 = .ok (.aload_n 0, 1) := by decide +kernel
theorem dX10_is_3 : decode cX10_is 3 = .ok (.getfield 23, 3) := by decide +kernel
theorem dX10_is_6 : decode cX10_is 6 = .ok (.iload_n 1, 1) := by decide +kernel
theorem dX10_is_7 : decode cX10_is 7 = .ok (.iaload, 1) := by decide +kernel
theorem dX10_is_8 : decode cX10_is 8 = .ok (.iconst 1, 1) := by decide +kernel
theorem dX10_is_9 : decode cX10_is 9 = .ok (.isub, 1) := by decide +kernel
theorem dX10_is_10 : decode cX10_is 10 = .ok (.invokestatic 92, 3) := by decide +kernel
theorem dX10_is_13 : decode cX10_is 13 = .ok (.ireturn, 1) := by decide +kernel
theorem dX10_of_0 : decode cX10_of 0 = .ok (.aload_n 0, 1) := by decide +kernel
theorem dX10_of_1 : decode cX10_of 1 = .ok (.getfield 26, 3) := by decide +kernel
theorem dX10_of_4 : decode cX10_of 4 = .ok (.bipush 36, 2) := by decide +kernel
theorem dX10_of_6 : decode cX10_of 6 = .ok (.aload_n 0, 1) := by decide +kernel
theorem dX10_of_7 : decode cX10_of 7 = .ok (.getfield 221, 3) := by decide +kernel
theorem dX10_of_10 : decode cX10_of 10 = .ok (.imul, 1) := by decide +kernel
theorem dX10_of_11 : decode cX10_of 11 = .ok (.iload_n 1, 1) := by decide +kernel
theorem dX10_of_12 : decode cX10_of 12 = .ok (.iadd, 1) := by decide +kernel
theorem dX10_of_13 : decode cX10_of 13 = .ok (.iaload, 1) := by decide +kernel
theorem dX10_of_14 : decode cX10_of 14 = .ok (.ireturn, 1) := by decide +kernel
set_option maxRecDepth 20000 in
theorem ggX10_hand_X10_is : GoodIn wsX10_hand wsX10_is := goodIn_r _ [9, 10, 11, 12, 8, 13, 19, 20, 21, 22, 23, 24, 25, 26, 27, 28, 29, 30, 31, 32, 33, 34, 35, 36, 37, 38, 39, 40, 41, 42, 43, 44, 45, 46, 47, 48, 49, 50, 51, 52, 53, 54, 55, 56, 57, 58, 59, 60, 61, 62, 63, 64, 65, 66, 67, 68] (by decide +kernel) (by decide +kernel)
set_option maxRecDepth 20000 in
theorem gX10_hand_X10_is : GoodIn wsX10_hand (wsV RX10 211 RX10 yX10_is wsX10_is) := goodIn_app (goodIn_of _ (by decide +kernel)) ggX10_hand_X10_is
set_option maxRecDepth 20000 in
theorem ggX10_hand_X10_of : GoodIn wsX10_hand wsX10_of := goodIn_r _ [17, 18, 1, 19, 20, 21, 22, 23, 24, 25, 26, 27, 28, 29, 30, 31, 32, 33, 34, 35, 36, 37, 38, 39, 40, 41, 42, 43, 44, 45, 46, 47, 48, 49, 50, 51, 52, 53, 54, 55, 56, 57, 58, 59, 60, 61, 62, 63, 64, 65, 66, 67, 68] (by decide +kernel) (by decide +kernel)
set_option maxRecDepth 20000 in
theorem gX10_hand_X10_of : GoodIn wsX10_hand (wsV RX10 224 RX10 yX10_of wsX10_of) := goodIn_app (goodIn_of _ (by decide +kernel)) ggX10_hand_X10_of
theorem dX10_hand_0 : decode cX10_hand 0 = .ok (.aload_n 0, 1) := by decide +kernel
theorem dX10_hand_1 : decode cX10_hand 1 = .ok (.iconst 0, 1) := by decide +kernel
theorem dX10_hand_2 : decode cX10_hand 2 = .ok (.iload_n 1, 1) := by decide +kernel
theorem dX10_hand_3 : decode cX10_hand 3 = .ok (.invokevirtual 211, 3) := by decide +kernel
theorem dX10_hand_6 : decode cX10_hand 6 = .ok (.ifCond .ne 5, 3) := by decide +kernel
theorem dX10_hand_9 : decode cX10_hand 9 = .ok (.iconst 0, 1) := by decide +kernel
theorem dX10_hand_10 : decode cX10_hand 10 = .ok (.ireturn, 1) := by decide +kernel
theorem dX10_hand_11 : decode cX10_hand 11 = .ok (.aload_n 0, 1) := by decide +kernel
theorem dX10_hand_12 : decode cX10_hand 12 = .ok (.iload_n 1, 1) := by decide +kernel
theorem dX10_hand_13 : decode cX10_hand 13 = .ok (.putfield 221, 3) := by decide +kernel
theorem dX10_hand_16 : decode cX10_hand 16 = .ok (.aload_n 0, 1) := by decide +kernel
theorem dX10_hand_17 : decode cX10_hand 17 = .ok (.aload_n 0, 1) := by decide +kernel
theorem dX10_hand_18 : decode cX10_hand 18 = .ok (.iconst 0, 1) := by decide +kernel
theorem dX10_hand_19 : decode cX10_hand 19 = .ok (.invokevirtual 224, 3) := by decide +kernel
theorem dX10_hand_22 : decode cX10_hand 22 = .ok (.putfield 228, 3) := by decide +kernel
theorem dX10_hand_25 : decode cX10_hand 25 = .ok (.aload_n 0, 1) := by decide +kernel
theorem dX10_hand_26 : decode cX10_hand 26 = .ok (.aload_n 0, 1) := by decide +kernel
theorem dX10_hand_27 : decode cX10_hand 27 = .ok (.iconst 1, 1) := by decide +kernel
theorem dX10_hand_28 : decode cX10_hand 28 = .ok (.invokevirtual 224, 3) := by decide +kernel
theorem dX10_hand_31 : decode cX10_hand 31 = .ok (.putfield 231, 3) := by decide +kernel
theorem dX10_hand_34 : decode cX10_hand 34 = .ok (.aload_n 0, 1) := by decide +kernel
theorem dX10_hand_35 : decode cX10_hand 35 = .ok (.aload_n 0, 1) := by decide +kernel
theorem dX10_hand_36 : decode cX10_hand 36 = .ok (.iconst 2, 1) := by decide +kernel
theorem dX10_hand_37 : decode cX10_hand 37 = .ok (.invokevirtual 224, 3) := by decide +kernel
theorem dX10_hand_40 : decode cX10_hand 40 = .ok (.putfield 234, 3) := by decide +kernel
theorem dX10_hand_43 : decode cX10_hand 43 = .ok (.iconst 1, 1) := by decide +kernel
theorem dX10_hand_44 : decode cX10_hand 44 = .ok (.ireturn, 1) := by decide +kernel
set_option maxRecDepth 20000 in
theorem ggX10_isPalm_X10_in : GoodIn wsX10_isPalm wsX10_in := goodIn_r _ [5] (by decide +kernel) (by decide +kernel)
set_option maxRecDepth 20000 in
theorem gX10_isPalm_X10_in : GoodIn wsX10_isPalm (va_wsS RX10 92 yX10_in wsX10_in) := goodIn_app (goodIn_of _ (by decide +kernel)) ggX10_isPalm_X10_in
theorem dX10_isPalm_0 : decode cX10_isPalm 0 = .ok (.iload_n 1, 1) := by decide +kernel
theorem dX10_isPalm_1 : decode cX10_isPalm 1 = .ok (.iconst 0, 1) := by decide +kernel
theorem dX10_isPalm_2 : decode cX10_isPalm 2 = .ok (.aload_n 0, 1) := by decide +kernel
theorem dX10_isPalm_3 : decode cX10_isPalm 3 = .ok (.getfield 228, 3) := by decide +kernel
theorem dX10_isPalm_6 : decode cX10_isPalm 6 = .ok (.iconst 1, 1) := by decide +kernel
theorem dX10_isPalm_7 : decode cX10_isPalm 7 = .ok (.isub, 1) := by decide +kernel
theorem dX10_isPalm_8 : decode cX10_isPalm 8 = .ok (.invokestatic 92, 3) := by decide +kernel
theorem dX10_isPalm_11 : decode cX10_isPalm 11 = .ok (.ireturn, 1) := by decide +kernel
set_option maxRecDepth 20000 in
theorem ggX10_isActor_X10_in : GoodIn wsX10_isActor wsX10_in := goodIn_r _ [5] (by decide +kernel) (by decide +kernel)
set_option maxRecDepth 20000 in
theorem gX10_isActor_X10_in : GoodIn wsX10_isActor (va_wsS RX10 92 yX10_in wsX10_in) := goodIn_app (goodIn_of _ (by decide +kernel)) ggX10_isActor_X10_in
theorem dX10_isActor_0 : decode cX10_isActor 0 = .ok (.iload_n 1, 1) := by decide +kernel
theorem dX10_isActor_1 : decode cX10_isActor 1 = .ok (.iconst 0, 1) := by decide +kernel
theorem dX10_isActor_2 : decode cX10_isActor 2 = .ok (.aload_n 0, 1) := by decide +kernel
theorem dX10_isActor_3 : decode cX10_isActor 3 = .ok (.getfield 231, 3) := by decide +kernel
theorem dX10_isActor_6 : decode cX10_isActor 6 = .ok (.iconst 1, 1) := by decide +kernel
theorem dX10_isActor_7 : decode cX10_isActor 7 = .ok (.isub, 1) := by decide +kernel
theorem dX10_isActor_8 : decode cX10_isActor 8 = .ok (.invokestatic 92, 3) := by decide +kernel
theorem dX10_isActor_11 : decode cX10_isActor 11 = .ok (.ireturn, 1) := by decide +kernel
set_option maxRecDepth 20000 in
theorem ggX10_handsOf_X10_of : GoodIn wsX10_handsOf wsX10_of := goodIn_r _ [5, 6, 7, 8, 9, 10, 11, 12, 13, 14, 15, 16, 17, 18, 19, 20, 21, 22, 23, 24, 25, 26, 27, 28, 29, 30, 31, 32, 33, 34, 35, 36, 37, 38, 39, 40, 41, 42, 43, 44, 45, 46, 47, 48, 49, 50, 51, 52, 53, 54, 55, 56, 57] (by decide +kernel) (by decide +kernel)
set_option maxRecDepth 20000 in
theorem gX10_handsOf_X10_of : GoodIn wsX10_handsOf (wsV RX10 224 RX10 yX10_of wsX10_of) := goodIn_app (goodIn_of _ (by decide +kernel)) ggX10_handsOf_X10_of
theorem dX10_handsOf_0 : decode cX10_handsOf 0 = .ok (.aload_n 0, 1) := by decide +kernel
theorem dX10_handsOf_1 : decode cX10_handsOf 1 = .ok (.bipush 6, 2) := by decide +kernel
theorem dX10_handsOf_3 : decode cX10_handsOf 3 = .ok (.iconst 2, 1) := by decide +kernel
theorem dX10_handsOf_4 : decode cX10_handsOf 4 = .ok (.iload_n 1, 1) := by decide +kernel
theorem dX10_handsOf_5 : decode cX10_handsOf 5 = .ok (.imul, 1) := by decide +kernel
theorem dX10_handsOf_6 : decode cX10_handsOf 6 = .ok (.iadd, 1) := by decide +kernel
theorem dX10_handsOf_7 : decode cX10_handsOf 7 = .ok (.iconst 1, 1) := by decide +kernel
theorem dX10_handsOf_8 : decode cX10_handsOf 8 = .ok (.iadd, 1) := by decide +kernel
theorem dX10_handsOf_9 : decode cX10_handsOf 9 = .ok (.invokevirtual 224, 3) := by decide +kernel
theorem dX10_handsOf_12 : decode cX10_handsOf 12 = .ok (.ireturn, 1) := by decide +kernel
set_option maxRecDepth 20000 in
theorem ggX10_hungerOf_X10_of : GoodIn wsX10_hungerOf wsX10_of := goodIn_r _ [5, 6, 7, 8, 9, 10, 11, 12, 13, 14, 15, 16, 17, 18, 19, 20, 21, 22, 23, 24, 25, 26, 27, 28, 29, 30, 31, 32, 33, 34, 35, 36, 37, 38, 39, 40, 41, 42, 43, 44, 45, 46, 47, 48, 49, 50, 51, 52, 53, 54, 55, 56, 57] (by decide +kernel) (by decide +kernel)
set_option maxRecDepth 20000 in
theorem gX10_hungerOf_X10_of : GoodIn wsX10_hungerOf (wsV RX10 224 RX10 yX10_of wsX10_of) := goodIn_app (goodIn_of _ (by decide +kernel)) ggX10_hungerOf_X10_of
theorem dX10_hungerOf_0 : decode cX10_hungerOf 0 = .ok (.aload_n 0, 1) := by decide +kernel
theorem dX10_hungerOf_1 : decode cX10_hungerOf 1 = .ok (.bipush 16, 2) := by decide +kernel
theorem dX10_hungerOf_3 : decode cX10_hungerOf 3 = .ok (.iconst 2, 1) := by decide +kernel
theorem dX10_hungerOf_4 : decode cX10_hungerOf 4 = .ok (.iload_n 1, 1) := by decide +kernel
theorem dX10_hungerOf_5 : decode cX10_hungerOf 5 = .ok (.imul, 1) := by decide +kernel
theorem dX10_hungerOf_6 : decode cX10_hungerOf 6 = .ok (.iadd, 1) := by decide +kernel
theorem dX10_hungerOf_7 : decode cX10_hungerOf 7 = .ok (.invokevirtual 224, 3) := by decide +kernel
theorem dX10_hungerOf_10 : decode cX10_hungerOf 10 = .ok (.ireturn, 1) := by decide +kernel
set_option maxRecDepth 20000 in
theorem ggX10_theatre_X10_hand : GoodIn wsX10_theatre wsX10_hand := goodIn_r _ [6, 7, 8, 9, 10, 11, 12, 13, 5, 14, 15, 16, 17, 18, 19, 20, 21, 22, 23, 32, 33, 34, 35, 36, 37, 38, 39, 40, 41, 42, 43, 44, 45, 46, 47, 48, 49, 50, 51, 52, 53, 54, 55, 56, 57, 58, 59, 60, 61, 62, 63, 64, 65, 66, 67, 68, 69, 70, 71, 72, 73, 74, 75, 76, 77, 78, 79, 80, 81] (by decide +kernel) (by decide +kernel)
set_option maxRecDepth 20000 in
theorem gX10_theatre_X10_hand : GoodIn wsX10_theatre (wsV RX10 237 RX10 yX10_hand wsX10_hand) := goodIn_app (goodIn_of _ (by decide +kernel)) ggX10_theatre_X10_hand
set_option maxRecDepth 20000 in
theorem ggX10_theatre_X10_in : GoodIn wsX10_theatre wsX10_in := goodIn_r _ [18] (by decide +kernel) (by decide +kernel)
set_option maxRecDepth 20000 in
theorem gX10_theatre_X10_in : GoodIn wsX10_theatre (va_wsS RX10 92 yX10_in wsX10_in) := goodIn_app (goodIn_of _ (by decide +kernel)) ggX10_theatre_X10_in
set_option maxRecDepth 20000 in
theorem ggX10_theatre_X10_of : GoodIn wsX10_theatre wsX10_of := goodIn_r _ [22, 23, 7, 32, 33, 34, 35, 36, 37, 38, 39, 40, 41, 42, 43, 44, 45, 46, 47, 48, 49, 50, 51, 52, 53, 54, 55, 56, 57, 58, 59, 60, 61, 62, 63, 64, 65, 66, 67, 68, 69, 70, 71, 72, 73, 74, 75, 76, 77, 78, 79, 80, 81] (by decide +kernel) (by decide +kernel)
set_option maxRecDepth 20000 in
theorem gX10_theatre_X10_of : GoodIn wsX10_theatre (wsV RX10 224 RX10 yX10_of wsX10_of) := goodIn_app (goodIn_of _ (by decide +kernel)) ggX10_theatre_X10_of
set_option maxRecDepth 20000 in
theorem ggX10_theatre_X10_isPalm : GoodIn wsX10_theatre wsX10_isPalm := goodIn_r _ [27, 8, 16, 17, 5, 18, 32, 33, 34, 35, 36, 37, 38, 39, 40, 41, 42, 43, 44, 45, 46, 47, 48, 49, 50, 51, 52, 53, 54, 55, 56, 57, 58, 59, 60, 61, 62, 63, 64, 65, 66, 67, 68, 69, 70, 71, 72, 73, 74, 75, 76, 77, 78, 79, 80, 81] (by decide +kernel) (by decide +kernel)
set_option maxRecDepth 20000 in
theorem gX10_theatre_X10_isPalm : GoodIn wsX10_theatre (wsV RX10 240 RX10 yX10_isPalm wsX10_isPalm) := goodIn_app (goodIn_of _ (by decide +kernel)) ggX10_theatre_X10_isPalm
set_option maxRecDepth 20000 in
theorem ggX10_theatre_X10_isActor : GoodIn wsX10_theatre wsX10_isActor := goodIn_r _ [31, 9, 16, 17, 5, 18, 32, 33, 34, 35, 36, 37, 38, 39, 40, 41, 42, 43, 44, 45, 46, 47, 48, 49, 50, 51, 52, 53, 54, 55, 56, 57, 58, 59, 60, 61, 62, 63, 64, 65, 66, 67, 68, 69, 70, 71, 72, 73, 74, 75, 76, 77, 78, 79, 80, 81] (by decide +kernel) (by decide +kernel)
set_option maxRecDepth 20000 in
theorem gX10_theatre_X10_isActor : GoodIn wsX10_theatre (wsV RX10 243 RX10 yX10_isActor wsX10_isActor) := goodIn_app (goodIn_of _ (by decide +kernel)) ggX10_theatre_X10_isActor
theorem dX10_theatre_0 : decode cX10_theatre 0 = .ok (.aload_n 0, 1) := by decide +kernel
theorem dX10_theatre_1 : decode cX10_theatre 1 = .ok (.iconst 0, 1) := by decide +kernel
theorem dX10_theatre_2 : decode cX10_theatre 2 = .ok (.putfield 80, 3) := by decide +kernel
theorem dX10_theatre_5 : decode cX10_theatre 5 = .ok (.aload_n 0, 1) := by decide +kernel
theorem dX10_theatre_6 : decode cX10_theatre 6 = .ok (.iload_n 1, 1) := by decide +kernel
theorem dX10_theatre_7 : decode cX10_theatre 7 = .ok (.invokevirtual 237, 3) := by decide +kernel
theorem dX10_theatre_10 : decode cX10_theatre 10 = .ok (.ifCond .ne 5, 3) := by decide +kernel
theorem dX10_theatre_13 : decode cX10_theatre 13 = .ok (.iconst (-1), 1) := by decide +kernel
theorem dX10_theatre_14 : decode cX10_theatre 14 = .ok (.ireturn, 1) := by decide +kernel
theorem dX10_theatre_15 : decode cX10_theatre 15 = .ok (.iload_n 2, 1) := by decide +kernel
theorem dX10_theatre_16 : decode cX10_theatre 16 = .ok (.iconst 0, 1) := by decide +kernel
theorem dX10_theatre_17 : decode cX10_theatre 17 = .ok (.iconst 5, 1) := by decide +kernel
theorem dX10_theatre_18 : decode cX10_theatre 18 = .ok (.invokestatic 92, 3) := by decide +kernel
theorem dX10_theatre_21 : decode cX10_theatre 21 = .ok (.ifCond .eq 9, 3) := by decide +kernel
theorem dX10_theatre_24 : decode cX10_theatre 24 = .ok (.aload_n 0, 1) := by decide +kernel
theorem dX10_theatre_25 : decode cX10_theatre 25 = .ok (.iload_n 2, 1) := by decide +kernel
theorem dX10_theatre_26 : decode cX10_theatre 26 = .ok (.invokevirtual 224, 3) := by decide +kernel
theorem dX10_theatre_29 : decode cX10_theatre 29 = .ok (.ireturn, 1) := by decide +kernel
theorem dX10_theatre_30 : decode cX10_theatre 30 = .ok (.iload_n 2, 1) := by decide +kernel
theorem dX10_theatre_31 : decode cX10_theatre 31 = .ok (.bipush 10, 2) := by decide +kernel
theorem dX10_theatre_33 : decode cX10_theatre 33 = .ok (.irem, 1) := by decide +kernel
theorem dX10_theatre_34 : decode cX10_theatre 34 = .ok (.istore_n 3, 1) := by decide +kernel
theorem dX10_theatre_35 : decode cX10_theatre 35 = .ok (.iload_n 2, 1) := by decide +kernel
theorem dX10_theatre_36 : decode cX10_theatre 36 = .ok (.bipush 10, 2) := by decide +kernel
theorem dX10_theatre_38 : decode cX10_theatre 38 = .ok (.idiv, 1) := by decide +kernel
theorem dX10_theatre_39 : decode cX10_theatre 39 = .ok (.tableswitch 134 1 6 #[37, 37, 67, 67, 97, 97], 37) := by decide +kernel
theorem dX10_theatre_76 : decode cX10_theatre 76 = .ok (.aload_n 0, 1) := by decide +kernel
theorem dX10_theatre_77 : decode cX10_theatre 77 = .ok (.iload_n 3, 1) := by decide +kernel
theorem dX10_theatre_78 : decode cX10_theatre 78 = .ok (.invokevirtual 240, 3) := by decide +kernel
theorem dX10_theatre_81 : decode cX10_theatre 81 = .ok (.ifCond .eq 23, 3) := by decide +kernel
theorem dX10_theatre_84 : decode cX10_theatre 84 = .ok (.aload_n 0, 1) := by decide +kernel
theorem dX10_theatre_85 : decode cX10_theatre 85 = .ok (.bipush 6, 2) := by decide +kernel
theorem dX10_theatre_87 : decode cX10_theatre 87 = .ok (.iconst 2, 1) := by decide +kernel
theorem dX10_theatre_88 : decode cX10_theatre 88 = .ok (.iload_n 3, 1) := by decide +kernel
theorem dX10_theatre_89 : decode cX10_theatre 89 = .ok (.imul, 1) := by decide +kernel
theorem dX10_theatre_90 : decode cX10_theatre 90 = .ok (.iadd, 1) := by decide +kernel
theorem dX10_theatre_91 : decode cX10_theatre 91 = .ok (.iload_n 2, 1) := by decide +kernel
theorem dX10_theatre_92 : decode cX10_theatre 92 = .ok (.bipush 10, 2) := by decide +kernel
theorem dX10_theatre_94 : decode cX10_theatre 94 = .ok (.idiv, 1) := by decide +kernel
theorem dX10_theatre_95 : decode cX10_theatre 95 = .ok (.iadd, 1) := by decide +kernel
theorem dX10_theatre_96 : decode cX10_theatre 96 = .ok (.iconst 1, 1) := by decide +kernel
theorem dX10_theatre_97 : decode cX10_theatre 97 = .ok (.isub, 1) := by decide +kernel
theorem dX10_theatre_98 : decode cX10_theatre 98 = .ok (.invokevirtual 224, 3) := by decide +kernel
theorem dX10_theatre_101 : decode cX10_theatre 101 = .ok (.goto 4, 3) := by decide +kernel
theorem dX10_theatre_104 : decode cX10_theatre 104 = .ok (.iconst (-1), 1) := by decide +kernel
theorem dX10_theatre_105 : decode cX10_theatre 105 = .ok (.ireturn, 1) := by decide +kernel
theorem dX10_theatre_106 : decode cX10_theatre 106 = .ok (.aload_n 0, 1) := by decide +kernel
theorem dX10_theatre_107 : decode cX10_theatre 107 = .ok (.iload_n 3, 1) := by decide +kernel
theorem dX10_theatre_108 : decode cX10_theatre 108 = .ok (.invokevirtual 243, 3) := by decide +kernel
theorem dX10_theatre_111 : decode cX10_theatre 111 = .ok (.ifCond .eq 23, 3) := by decide +kernel
theorem dX10_theatre_114 : decode cX10_theatre 114 = .ok (.aload_n 0, 1) := by decide +kernel
theorem dX10_theatre_115 : decode cX10_theatre 115 = .ok (.bipush 16, 2) := by decide +kernel
theorem dX10_theatre_117 : decode cX10_theatre 117 = .ok (.iconst 2, 1) := by decide +kernel
theorem dX10_theatre_118 : decode cX10_theatre 118 = .ok (.iload_n 3, 1) := by decide +kernel
theorem dX10_theatre_119 : decode cX10_theatre 119 = .ok (.imul, 1) := by decide +kernel
theorem dX10_theatre_120 : decode cX10_theatre 120 = .ok (.iadd, 1) := by decide +kernel
theorem dX10_theatre_121 : decode cX10_theatre 121 = .ok (.iload_n 2, 1) := by decide +kernel
theorem dX10_theatre_122 : decode cX10_theatre 122 = .ok (.bipush 10, 2) := by decide +kernel
theorem dX10_theatre_124 : decode cX10_theatre 124 = .ok (.idiv, 1) := by decide +kernel
theorem dX10_theatre_125 : decode cX10_theatre 125 = .ok (.iadd, 1) := by decide +kernel
theorem dX10_theatre_126 : decode cX10_theatre 126 = .ok (.iconst 3, 1) := by decide +kernel
theorem dX10_theatre_127 : decode cX10_theatre 127 = .ok (.isub, 1) := by decide +kernel
theorem dX10_theatre_128 : decode cX10_theatre 128 = .ok (.invokevirtual 224, 3) := by decide +kernel
theorem dX10_theatre_131 : decode cX10_theatre 131 = .ok (.goto 4, 3) := by decide +kernel
theorem dX10_theatre_134 : decode cX10_theatre 134 = .ok (.iconst (-1), 1) := by decide +kernel
theorem dX10_theatre_135 : decode cX10_theatre 135 = .ok (.ireturn, 1) := by decide +kernel
theorem dX10_theatre_136 : decode cX10_theatre 136 = .ok (.iload_n 3, 1) := by decide +kernel
theorem dX10_theatre_137 : decode cX10_theatre 137 = .ok (.iconst 0, 1) := by decide +kernel
theorem dX10_theatre_138 : decode cX10_theatre 138 = .ok (.aload_n 0, 1) := by decide +kernel
theorem dX10_theatre_139 : decode cX10_theatre 139 = .ok (.iconst 4, 1) := by decide +kernel
theorem dX10_theatre_140 : decode cX10_theatre 140 = .ok (.invokevirtual 224, 3) := by decide +kernel
theorem dX10_theatre_143 : decode cX10_theatre 143 = .ok (.iconst 1, 1) := by decide +kernel
theorem dX10_theatre_144 : decode cX10_theatre 144 = .ok (.isub, 1) := by decide +kernel
theorem dX10_theatre_145 : decode cX10_theatre 145 = .ok (.invokestatic 92, 3) := by decide +kernel
theorem dX10_theatre_148 : decode cX10_theatre 148 = .ok (.ifCond .eq 23, 3) := by decide +kernel
theorem dX10_theatre_151 : decode cX10_theatre 151 = .ok (.aload_n 0, 1) := by decide +kernel
theorem dX10_theatre_152 : decode cX10_theatre 152 = .ok (.bipush 28, 2) := by decide +kernel
theorem dX10_theatre_154 : decode cX10_theatre 154 = .ok (.iconst 2, 1) := by decide +kernel
theorem dX10_theatre_155 : decode cX10_theatre 155 = .ok (.iload_n 3, 1) := by decide +kernel
theorem dX10_theatre_156 : decode cX10_theatre 156 = .ok (.imul, 1) := by decide +kernel
theorem dX10_theatre_157 : decode cX10_theatre 157 = .ok (.iadd, 1) := by decide +kernel
theorem dX10_theatre_158 : decode cX10_theatre 158 = .ok (.iload_n 2, 1) := by decide +kernel
theorem dX10_theatre_159 : decode cX10_theatre 159 = .ok (.bipush 10, 2) := by decide +kernel
theorem dX10_theatre_161 : decode cX10_theatre 161 = .ok (.idiv, 1) := by decide +kernel
theorem dX10_theatre_162 : decode cX10_theatre 162 = .ok (.iadd, 1) := by decide +kernel
theorem dX10_theatre_163 : decode cX10_theatre 163 = .ok (.iconst 5, 1) := by decide +kernel
theorem dX10_theatre_164 : decode cX10_theatre 164 = .ok (.isub, 1) := by decide +kernel
theorem dX10_theatre_165 : decode cX10_theatre 165 = .ok (.invokevirtual 224, 3) := by decide +kernel
theorem dX10_theatre_168 : decode cX10_theatre 168 = .ok (.goto 4, 3) := by decide +kernel
theorem dX10_theatre_171 : decode cX10_theatre 171 = .ok (.iconst (-1), 1) := by decide +kernel
theorem dX10_theatre_172 : decode cX10_theatre 172 = .ok (.ireturn, 1) := by decide +kernel
theorem dX10_theatre_173 : decode cX10_theatre 173 = .ok (.iconst (-1), 1) := by decide +kernel
theorem dX10_theatre_174 : decode cX10_theatre 174 = .ok (.ireturn, 1) := by decide +kernel
theorem dX10_deeds_0 : decode cX10_deeds 0 = .ok (.aload_n 0, 1) := by decide +kernel
theorem dX10_deeds_1 : decode cX10_deeds 1 = .ok (.getfield 29, 3) := by decide +kernel
theorem dX10_deeds_4 : decode cX10_deeds 4 = .ok (.bipush 121, 2) := by decide +kernel
theorem dX10_deeds_6 : decode cX10_deeds 6 = .ok (.aload_n 0, 1) := by decide +kernel
theorem dX10_deeds_7 : decode cX10_deeds 7 = .ok (.getfield 246, 3) := by decide +kernel
theorem dX10_deeds_10 : decode cX10_deeds 10 = .ok (.imul, 1) := by decide +kernel
theorem dX10_deeds_11 : decode cX10_deeds 11 = .ok (.iaload, 1) := by decide +kernel
theorem dX10_deeds_12 : decode cX10_deeds 12 = .ok (.ireturn, 1) := by decide +kernel
theorem dX10_deedOf_0 : decode cX10_deedOf 0 = .ok (.aload_n 0, 1) := by decide +kernel
theorem dX10_deedOf_1 : decode cX10_deedOf 1 = .ok (.getfield 29, 3) := by decide +kernel
theorem dX10_deedOf_4 : decode cX10_deedOf 4 = .ok (.bipush 121, 2) := by decide +kernel
theorem dX10_deedOf_6 : decode cX10_deedOf 6 = .ok (.aload_n 0, 1) := by decide +kernel
theorem dX10_deedOf_7 : decode cX10_deedOf 7 = .ok (.getfield 246, 3) := by decide +kernel
theorem dX10_deedOf_10 : decode cX10_deedOf 10 = .ok (.imul, 1) := by decide +kernel
theorem dX10_deedOf_11 : decode cX10_deedOf 11 = .ok (.iconst 1, 1) := by decide +kernel
theorem dX10_deedOf_12 : decode cX10_deedOf 12 = .ok (.iadd, 1) := by decide +kernel
theorem dX10_deedOf_13 : decode cX10_deedOf 13 = .ok (.iconst 4, 1) := by decide +kernel
theorem dX10_deedOf_14 : decode cX10_deedOf 14 = .ok (.iload_n 1, 1) := by decide +kernel
theorem dX10_deedOf_15 : decode cX10_deedOf 15 = .ok (.imul, 1) := by decide +kernel
theorem dX10_deedOf_16 : decode cX10_deedOf 16 = .ok (.iadd, 1) := by decide +kernel
theorem dX10_deedOf_17 : decode cX10_deedOf 17 = .ok (.iload_n 2, 1) := by decide +kernel
theorem dX10_deedOf_18 : decode cX10_deedOf 18 = .ok (.iadd, 1) := by decide +kernel
theorem dX10_deedOf_19 : decode cX10_deedOf 19 = .ok (.iaload, 1) := by decide +kernel
theorem dX10_deedOf_20 : decode cX10_deedOf 20 = .ok (.ireturn, 1) := by decide +kernel
set_option maxRecDepth 20000 in
theorem ggX10_hasBook_X10_is : GoodIn wsX10_hasBook wsX10_is := goodIn_r _ [6, 7, 8, 9, 5, 10, 11, 12, 13, 14, 15, 16, 17, 18, 19, 20, 21, 22, 23, 24, 25, 26, 27, 28, 29, 30, 31, 32, 33, 34, 35, 36, 37, 38, 39, 40, 41, 42, 43, 44, 45, 46, 47, 48, 49, 50, 51, 52, 53, 54, 55, 56, 57, 58, 59, 60] (by decide +kernel) (by decide +kernel)
set_option maxRecDepth 20000 in
theorem gX10_hasBook_X10_is : GoodIn wsX10_hasBook (wsV RX10 211 RX10 yX10_is wsX10_is) := goodIn_app (goodIn_of _ (by decide +kernel)) ggX10_hasBook_X10_is
theorem dX10_hasBook_0 : decode cX10_hasBook 0 = .ok (.aload_n 0, 1) := by decide +kernel
theorem dX10_hasBook_1 : decode cX10_hasBook 1 = .ok (.iload_n 1, 1) := by decide +kernel
theorem dX10_hasBook_2 : decode cX10_hasBook 2 = .ok (.putfield 246, 3) := by decide +kernel
theorem dX10_hasBook_5 : decode cX10_hasBook 5 = .ok (.aload_n 0, 1) := by decide +kernel
theorem dX10_hasBook_6 : decode cX10_hasBook 6 = .ok (.iconst 1, 1) := by decide +kernel
theorem dX10_hasBook_7 : decode cX10_hasBook 7 = .ok (.iload_n 1, 1) := by decide +kernel
theorem dX10_hasBook_8 : decode cX10_hasBook 8 = .ok (.invokevirtual 211, 3) := by decide +kernel
theorem dX10_hasBook_11 : decode cX10_hasBook 11 = .ok (.ireturn, 1) := by decide +kernel
set_option maxRecDepth 20000 in
theorem ggX10_deed_X10_hasBook : GoodIn wsX10_deed wsX10_hasBook := goodIn_r _ [6, 7, 8, 9, 10, 5, 11, 12, 13, 14, 15, 25, 26, 27, 28, 29, 30, 31, 32, 33, 34, 35, 36, 37, 38, 39, 40, 41, 42, 43, 44, 45, 46, 47, 48, 49, 50, 51, 52, 53, 54, 55, 56, 57, 58, 59, 60, 61, 62, 63, 64, 65, 66, 67, 68, 69, 70, 71, 72, 73, 74] (by decide +kernel) (by decide +kernel)
set_option maxRecDepth 20000 in
theorem gX10_deed_X10_hasBook : GoodIn wsX10_deed (wsV RX10 249 RX10 yX10_hasBook wsX10_hasBook) := goodIn_app (goodIn_of _ (by decide +kernel)) ggX10_deed_X10_hasBook
set_option maxRecDepth 20000 in
theorem ggX10_deed_X10_deeds : GoodIn wsX10_deed wsX10_deeds := goodIn_r _ [19, 20, 7, 25, 26, 27, 28, 29, 30, 31, 32, 33, 34, 35, 36, 37, 38, 39, 40, 41, 42, 43, 44, 45, 46, 47, 48, 49, 50, 51, 52, 53, 54, 55, 56, 57, 58, 59, 60, 61, 62, 63, 64, 65, 66, 67, 68, 69, 70, 71, 72, 73, 74] (by decide +kernel) (by decide +kernel)
set_option maxRecDepth 20000 in
theorem gX10_deed_X10_deeds : GoodIn wsX10_deed (wsV RX10 252 RX10 yX10_deeds wsX10_deeds) := goodIn_app (goodIn_of _ (by decide +kernel)) ggX10_deed_X10_deeds
set_option maxRecDepth 20000 in
theorem ggX10_deed_X10_in : GoodIn wsX10_deed wsX10_in := goodIn_r _ [15] (by decide +kernel) (by decide +kernel)
set_option maxRecDepth 20000 in
theorem gX10_deed_X10_in : GoodIn wsX10_deed (va_wsS RX10 92 yX10_in wsX10_in) := goodIn_app (goodIn_of _ (by decide +kernel)) ggX10_deed_X10_in
set_option maxRecDepth 20000 in
theorem ggX10_deed_X10_deedOf : GoodIn wsX10_deed wsX10_deedOf := goodIn_r _ [24, 20, 7, 25, 26, 27, 28, 29, 30, 31, 32, 33, 34, 35, 36, 37, 38, 39, 40, 41, 42, 43, 44, 45, 46, 47, 48, 49, 50, 51, 52, 53, 54, 55, 56, 57, 58, 59, 60, 61, 62, 63, 64, 65, 66, 67, 68, 69, 70, 71, 72, 73, 74] (by decide +kernel) (by decide +kernel)
set_option maxRecDepth 20000 in
theorem gX10_deed_X10_deedOf : GoodIn wsX10_deed (wsV RX10 255 RX10 yX10_deedOf wsX10_deedOf) := goodIn_app (goodIn_of _ (by decide +kernel)) ggX10_deed_X10_deedOf
theorem dX10_deed_0 : decode cX10_deed 0 = .ok (.aload_n 0, 1) := by decide +kernel
theorem dX10_deed_1 : decode cX10_deed 1 = .ok (.iconst 0, 1) := by decide +kernel
theorem dX10_deed_2 : decode cX10_deed 2 = .ok (.putfield 80, 3) := by decide +kernel
theorem dX10_deed_5 : decode cX10_deed 5 = .ok (.aload_n 0, 1) := by decide +kernel
theorem dX10_deed_6 : decode cX10_deed 6 = .ok (.iload_n 1, 1) := by decide +kernel
theorem dX10_deed_7 : decode cX10_deed 7 = .ok (.invokevirtual 249, 3) := by decide +kernel
theorem dX10_deed_10 : decode cX10_deed 10 = .ok (.ifCond .ne 6, 3) := by decide +kernel
theorem dX10_deed_13 : decode cX10_deed 13 = .ok (.bipush (-2), 2) := by decide +kernel
theorem dX10_deed_15 : decode cX10_deed 15 = .ok (.ireturn, 1) := by decide +kernel
theorem dX10_deed_16 : decode cX10_deed 16 = .ok (.iload_n 2, 1) := by decide +kernel
theorem dX10_deed_17 : decode cX10_deed 17 = .ok (.iconst (-1), 1) := by decide +kernel
theorem dX10_deed_18 : decode cX10_deed 18 = .ok (.if_icmp .ne 17, 3) := by decide +kernel
theorem dX10_deed_21 : decode cX10_deed 21 = .ok (.iload_n 3, 1) := by decide +kernel
theorem dX10_deed_22 : decode cX10_deed 22 = .ok (.ifCond .ne 10, 3) := by decide +kernel
theorem dX10_deed_25 : decode cX10_deed 25 = .ok (.aload_n 0, 1) := by decide +kernel
theorem dX10_deed_26 : decode cX10_deed 26 = .ok (.invokevirtual 252, 3) := by decide +kernel
theorem dX10_deed_29 : decode cX10_deed 29 = .ok (.goto 5, 3) := by decide +kernel
theorem dX10_deed_32 : decode cX10_deed 32 = .ok (.bipush (-2), 2) := by decide +kernel
theorem dX10_deed_34 : decode cX10_deed 34 = .ok (.ireturn, 1) := by decide +kernel
theorem dX10_deed_35 : decode cX10_deed 35 = .ok (.iload_n 2, 1) := by decide +kernel
theorem dX10_deed_36 : decode cX10_deed 36 = .ok (.iconst 0, 1) := by decide +kernel
theorem dX10_deed_37 : decode cX10_deed 37 = .ok (.aload_n 0, 1) := by decide +kernel
theorem dX10_deed_38 : decode cX10_deed 38 = .ok (.invokevirtual 252, 3) := by decide +kernel
theorem dX10_deed_41 : decode cX10_deed 41 = .ok (.iconst 1, 1) := by decide +kernel
theorem dX10_deed_42 : decode cX10_deed 42 = .ok (.isub, 1) := by decide +kernel
theorem dX10_deed_43 : decode cX10_deed 43 = .ok (.invokestatic 92, 3) := by decide +kernel
theorem dX10_deed_46 : decode cX10_deed 46 = .ok (.ifCond .eq 21, 3) := by decide +kernel
theorem dX10_deed_49 : decode cX10_deed 49 = .ok (.iload_n 3, 1) := by decide +kernel
theorem dX10_deed_50 : decode cX10_deed 50 = .ok (.iconst 0, 1) := by decide +kernel
theorem dX10_deed_51 : decode cX10_deed 51 = .ok (.iconst 3, 1) := by decide +kernel
theorem dX10_deed_52 : decode cX10_deed 52 = .ok (.invokestatic 92, 3) := by decide +kernel
theorem dX10_deed_55 : decode cX10_deed 55 = .ok (.ifCond .eq 12, 3) := by decide +kernel
theorem dX10_deed_58 : decode cX10_deed 58 = .ok (.aload_n 0, 1) := by decide +kernel
theorem dX10_deed_59 : decode cX10_deed 59 = .ok (.iload_n 2, 1) := by decide +kernel
theorem dX10_deed_60 : decode cX10_deed 60 = .ok (.iload_n 3, 1) := by decide +kernel
theorem dX10_deed_61 : decode cX10_deed 61 = .ok (.invokevirtual 255, 3) := by decide +kernel
theorem dX10_deed_64 : decode cX10_deed 64 = .ok (.goto 5, 3) := by decide +kernel
theorem dX10_deed_67 : decode cX10_deed 67 = .ok (.bipush (-2), 2) := by decide +kernel
theorem dX10_deed_69 : decode cX10_deed 69 = .ok (.ireturn, 1) := by decide +kernel
set_option maxRecDepth 20000 in
theorem ggX10_begin_X10_of : GoodIn wsX10_begin wsX10_of := goodIn_r _ [17, 18, 19, 27, 28, 29, 30, 31, 32, 33, 34, 35, 36, 37, 38, 39, 40, 41, 42, 43, 44, 45, 46, 47, 48, 49, 50, 51, 52, 53, 54, 55, 56, 57, 58, 59, 60, 61, 62, 63, 64, 65, 66, 67, 68, 69, 70, 71, 72, 73, 74, 75, 76] (by decide +kernel) (by decide +kernel)
set_option maxRecDepth 20000 in
theorem gX10_begin_X10_of : GoodIn wsX10_begin (wsV RX10 224 RX10 yX10_of wsX10_of) := goodIn_app (goodIn_of _ (by decide +kernel)) ggX10_begin_X10_of
set_option maxRecDepth 20000 in
theorem ggX10_begin_X10_morning : GoodIn wsX10_begin wsX10_morning := goodIn_r _ [23, 24, 25, 26, 13, 14, 15, 16, 17, 18, 19, 27, 28, 29, 30, 31, 32, 33, 34, 35, 36, 37, 38, 39, 40, 41, 42, 43, 44, 45, 46, 47, 48, 49, 50, 51, 52, 53, 54, 55, 56, 57, 58, 59, 60, 61, 62, 63, 64, 65, 66, 67, 68, 69, 70, 71, 72, 73, 74, 75, 76] (by decide +kernel) (by decide +kernel)
set_option maxRecDepth 20000 in
theorem gX10_begin_X10_morning : GoodIn wsX10_begin (wsV RX10 276 RX10 yX10_morning wsX10_morning) := goodIn_app (goodIn_of _ (by decide +kernel)) ggX10_begin_X10_morning
theorem dX10_begin_0 : decode cX10_begin 0 = .ok (.aload_n 0, 1) := by decide +kernel
theorem dX10_begin_1 : decode cX10_begin 1 = .ok (.aload_n 0, 1) := by decide +kernel
theorem dX10_begin_2 : decode cX10_begin 2 = .ok (.iconst 3, 1) := by decide +kernel
theorem dX10_begin_3 : decode cX10_begin 3 = .ok (.invokevirtual 224, 3) := by decide +kernel
theorem dX10_begin_6 : decode cX10_begin 6 = .ok (.putfield 258, 3) := by decide +kernel
theorem dX10_begin_9 : decode cX10_begin 9 = .ok (.aload_n 0, 1) := by decide +kernel
theorem dX10_begin_10 : decode cX10_begin 10 = .ok (.iconst 0, 1) := by decide +kernel
theorem dX10_begin_11 : decode cX10_begin 11 = .ok (.putfield 261, 3) := by decide +kernel
theorem dX10_begin_14 : decode cX10_begin 14 = .ok (.aload_n 0, 1) := by decide +kernel
theorem dX10_begin_15 : decode cX10_begin 15 = .ok (.iconst 0, 1) := by decide +kernel
theorem dX10_begin_16 : decode cX10_begin 16 = .ok (.putfield 264, 3) := by decide +kernel
theorem dX10_begin_19 : decode cX10_begin 19 = .ok (.aload_n 0, 1) := by decide +kernel
theorem dX10_begin_20 : decode cX10_begin 20 = .ok (.iconst 1, 1) := by decide +kernel
theorem dX10_begin_21 : decode cX10_begin 21 = .ok (.aload_n 0, 1) := by decide +kernel
theorem dX10_begin_22 : decode cX10_begin 22 = .ok (.getfield 231, 3) := by decide +kernel
theorem dX10_begin_25 : decode cX10_begin 25 = .ok (.ishl, 1) := by decide +kernel
theorem dX10_begin_26 : decode cX10_begin 26 = .ok (.iconst 1, 1) := by decide +kernel
theorem dX10_begin_27 : decode cX10_begin 27 = .ok (.isub, 1) := by decide +kernel
theorem dX10_begin_28 : decode cX10_begin 28 = .ok (.putfield 267, 3) := by decide +kernel
theorem dX10_begin_31 : decode cX10_begin 31 = .ok (.aload_n 0, 1) := by decide +kernel
theorem dX10_begin_32 : decode cX10_begin 32 = .ok (.iconst 0, 1) := by decide +kernel
theorem dX10_begin_33 : decode cX10_begin 33 = .ok (.putfield 270, 3) := by decide +kernel
theorem dX10_begin_36 : decode cX10_begin 36 = .ok (.aload_n 0, 1) := by decide +kernel
theorem dX10_begin_37 : decode cX10_begin 37 = .ok (.iconst (-1), 1) := by decide +kernel
theorem dX10_begin_38 : decode cX10_begin 38 = .ok (.putfield 273, 3) := by decide +kernel
theorem dX10_begin_41 : decode cX10_begin 41 = .ok (.aload_n 0, 1) := by decide +kernel
theorem dX10_begin_42 : decode cX10_begin 42 = .ok (.invokevirtual 276, 3) := by decide +kernel
theorem dX10_begin_45 : decode cX10_begin 45 = .ok (.iconst 0, 1) := by decide +kernel
theorem dX10_begin_46 : decode cX10_begin 46 = .ok (.istore_n 1, 1) := by decide +kernel
theorem dX10_begin_47 : decode cX10_begin 47 = .ok (.iload_n 1, 1) := by decide +kernel
theorem dX10_begin_48 : decode cX10_begin 48 = .ok (.bipush 25, 2) := by decide +kernel
theorem dX10_begin_50 : decode cX10_begin 50 = .ok (.if_icmp .ge 16, 3) := by decide +kernel
theorem dX10_begin_53 : decode cX10_begin 53 = .ok (.aload_n 0, 1) := by decide +kernel
theorem dX10_begin_54 : decode cX10_begin 54 = .ok (.getfield 44, 3) := by decide +kernel
theorem dX10_begin_57 : decode cX10_begin 57 = .ok (.iload_n 1, 1) := by decide +kernel
theorem dX10_begin_58 : decode cX10_begin 58 = .ok (.iconst 0, 1) := by decide +kernel
theorem dX10_begin_59 : decode cX10_begin 59 = .ok (.iastore, 1) := by decide +kernel
theorem dX10_begin_60 : decode cX10_begin 60 = .ok (.iinc 1 1, 3) := by decide +kernel
theorem dX10_begin_63 : decode cX10_begin 63 = .ok (.goto (-16), 3) := by decide +kernel
theorem dX10_begin_66 : decode cX10_begin 66 = .ok (.iconst 0, 1) := by decide +kernel
theorem dX10_begin_67 : decode cX10_begin 67 = .ok (.istore_n 1, 1) := by decide +kernel
theorem dX10_begin_68 : decode cX10_begin 68 = .ok (.iload_n 1, 1) := by decide +kernel
theorem dX10_begin_69 : decode cX10_begin 69 = .ok (.bipush 30, 2) := by decide +kernel
theorem dX10_begin_71 : decode cX10_begin 71 = .ok (.if_icmp .ge 16, 3) := by decide +kernel
theorem dX10_begin_74 : decode cX10_begin 74 = .ok (.aload_n 0, 1) := by decide +kernel
theorem dX10_begin_75 : decode cX10_begin 75 = .ok (.getfield 47, 3) := by decide +kernel
theorem dX10_begin_78 : decode cX10_begin 78 = .ok (.iload_n 1, 1) := by decide +kernel
theorem dX10_begin_79 : decode cX10_begin 79 = .ok (.iconst 0, 1) := by decide +kernel
theorem dX10_begin_80 : decode cX10_begin 80 = .ok (.iastore, 1) := by decide +kernel
theorem dX10_begin_81 : decode cX10_begin 81 = .ok (.iinc 1 1, 3) := by decide +kernel
theorem dX10_begin_84 : decode cX10_begin 84 = .ok (.goto (-16), 3) := by decide +kernel
theorem dX10_begin_87 : decode cX10_begin 87 = .ok (.iconst 0, 1) := by decide +kernel
theorem dX10_begin_88 : decode cX10_begin 88 = .ok (.istore_n 1, 1) := by decide +kernel
theorem dX10_begin_89 : decode cX10_begin 89 = .ok (.iload_n 1, 1) := by decide +kernel
theorem dX10_begin_90 : decode cX10_begin 90 = .ok (.bipush 6, 2) := by decide +kernel
theorem dX10_begin_92 : decode cX10_begin 92 = .ok (.if_icmp .ge 53, 3) := by decide +kernel
theorem dX10_begin_95 : decode cX10_begin 95 = .ok (.aload_n 0, 1) := by decide +kernel
theorem dX10_begin_96 : decode cX10_begin 96 = .ok (.getfield 50, 3) := by decide +kernel
theorem dX10_begin_99 : decode cX10_begin 99 = .ok (.iload_n 1, 1) := by decide +kernel
theorem dX10_begin_100 : decode cX10_begin 100 = .ok (.iload_n 1, 1) := by decide +kernel
theorem dX10_begin_101 : decode cX10_begin 101 = .ok (.aload_n 0, 1) := by decide +kernel
theorem dX10_begin_102 : decode cX10_begin 102 = .ok (.getfield 231, 3) := by decide +kernel
theorem dX10_begin_105 : decode cX10_begin 105 = .ok (.if_icmp .ge 18, 3) := by decide +kernel
theorem dX10_begin_108 : decode cX10_begin 108 = .ok (.aload_n 0, 1) := by decide +kernel
theorem dX10_begin_109 : decode cX10_begin 109 = .ok (.bipush 16, 2) := by decide +kernel
theorem dX10_begin_111 : decode cX10_begin 111 = .ok (.iconst 2, 1) := by decide +kernel
theorem dX10_begin_112 : decode cX10_begin 112 = .ok (.iload_n 1, 1) := by decide +kernel
theorem dX10_begin_113 : decode cX10_begin 113 = .ok (.imul, 1) := by decide +kernel
theorem dX10_begin_114 : decode cX10_begin 114 = .ok (.iadd, 1) := by decide +kernel
theorem dX10_begin_115 : decode cX10_begin 115 = .ok (.iconst 1, 1) := by decide +kernel
theorem dX10_begin_116 : decode cX10_begin 116 = .ok (.iadd, 1) := by decide +kernel
theorem dX10_begin_117 : decode cX10_begin 117 = .ok (.invokevirtual 224, 3) := by decide +kernel
theorem dX10_begin_120 : decode cX10_begin 120 = .ok (.goto 4, 3) := by decide +kernel
theorem dX10_begin_123 : decode cX10_begin 123 = .ok (.iconst 0, 1) := by decide +kernel
theorem dX10_begin_124 : decode cX10_begin 124 = .ok (.iastore, 1) := by decide +kernel
theorem dX10_begin_125 : decode cX10_begin 125 = .ok (.aload_n 0, 1) := by decide +kernel
theorem dX10_begin_126 : decode cX10_begin 126 = .ok (.getfield 53, 3) := by decide +kernel
theorem dX10_begin_129 : decode cX10_begin 129 = .ok (.iload_n 1, 1) := by decide +kernel
theorem dX10_begin_130 : decode cX10_begin 130 = .ok (.iconst 0, 1) := by decide +kernel
theorem dX10_begin_131 : decode cX10_begin 131 = .ok (.iastore, 1) := by decide +kernel
theorem dX10_begin_132 : decode cX10_begin 132 = .ok (.aload_n 0, 1) := by decide +kernel
theorem dX10_begin_133 : decode cX10_begin 133 = .ok (.getfield 56, 3) := by decide +kernel
theorem dX10_begin_136 : decode cX10_begin 136 = .ok (.iload_n 1, 1) := by decide +kernel
theorem dX10_begin_137 : decode cX10_begin 137 = .ok (.iconst (-1), 1) := by decide +kernel
theorem dX10_begin_138 : decode cX10_begin 138 = .ok (.iastore, 1) := by decide +kernel
theorem dX10_begin_139 : decode cX10_begin 139 = .ok (.iinc 1 1, 3) := by decide +kernel
theorem dX10_begin_142 : decode cX10_begin 142 = .ok (.goto (-53), 3) := by decide +kernel
theorem dX10_begin_145 : decode cX10_begin 145 = .ok (.return_, 1) := by decide +kernel
set_option maxRecDepth 20000 in
theorem ggX10_morning_X10_of : GoodIn wsX10_morning wsX10_of := goodIn_r _ [8, 9, 10, 11, 12, 13, 14, 15, 16, 17, 18, 19, 20, 21, 22, 23, 24, 25, 26, 27, 28, 29, 30, 31, 32, 33, 34, 35, 36, 37, 38, 39, 40, 41, 42, 43, 44, 45, 46, 47, 48, 49, 50, 51, 52, 53, 54, 55, 56, 57, 58, 59, 60] (by decide +kernel) (by decide +kernel)
set_option maxRecDepth 20000 in
theorem gX10_morning_X10_of : GoodIn wsX10_morning (wsV RX10 224 RX10 yX10_of wsX10_of) := goodIn_app (goodIn_of _ (by decide +kernel)) ggX10_morning_X10_of
theorem dX10_morning_0 : decode cX10_morning 0 = .ok (.iconst 0, 1) := by decide +kernel
theorem dX10_morning_1 : decode cX10_morning 1 = .ok (.istore_n 1, 1) := by decide +kernel
theorem dX10_morning_2 : decode cX10_morning 2 = .ok (.iload_n 1, 1) := by decide +kernel
theorem dX10_morning_3 : decode cX10_morning 3 = .ok (.aload_n 0, 1) := by decide +kernel
theorem dX10_morning_4 : decode cX10_morning 4 = .ok (.getfield 228, 3) := by decide +kernel
theorem dX10_morning_7 : decode cX10_morning 7 = .ok (.if_icmp .ge 25, 3) := by decide +kernel
theorem dX10_morning_10 : decode cX10_morning 10 = .ok (.aload_n 0, 1) := by decide +kernel
theorem dX10_morning_11 : decode cX10_morning 11 = .ok (.getfield 41, 3) := by decide +kernel
theorem dX10_morning_14 : decode cX10_morning 14 = .ok (.iload_n 1, 1) := by decide +kernel
theorem dX10_morning_15 : decode cX10_morning 15 = .ok (.aload_n 0, 1) := by decide +kernel
theorem dX10_morning_16 : decode cX10_morning 16 = .ok (.bipush 6, 2) := by decide +kernel
theorem dX10_morning_18 : decode cX10_morning 18 = .ok (.iconst 2, 1) := by decide +kernel
theorem dX10_morning_19 : decode cX10_morning 19 = .ok (.iload_n 1, 1) := by decide +kernel
theorem dX10_morning_20 : decode cX10_morning 20 = .ok (.imul, 1) := by decide +kernel
theorem dX10_morning_21 : decode cX10_morning 21 = .ok (.iadd, 1) := by decide +kernel
theorem dX10_morning_22 : decode cX10_morning 22 = .ok (.invokevirtual 224, 3) := by decide +kernel
theorem dX10_morning_25 : decode cX10_morning 25 = .ok (.iastore, 1) := by decide +kernel
theorem dX10_morning_26 : decode cX10_morning 26 = .ok (.iinc 1 1, 3) := by decide +kernel
theorem dX10_morning_29 : decode cX10_morning 29 = .ok (.goto (-27), 3) := by decide +kernel
theorem dX10_morning_32 : decode cX10_morning 32 = .ok (.aload_n 0, 1) := by decide +kernel
theorem dX10_morning_33 : decode cX10_morning 33 = .ok (.iconst 0, 1) := by decide +kernel
theorem dX10_morning_34 : decode cX10_morning 34 = .ok (.putfield 279, 3) := by decide +kernel
theorem dX10_morning_37 : decode cX10_morning 37 = .ok (.return_, 1) := by decide +kernel
set_option maxRecDepth 20000 in
theorem ggX10_isLiving_X10_isActor : GoodIn wsX10_isLiving wsX10_isActor := goodIn_r _ [6, 7, 8, 9, 5, 10, 14, 15, 16, 17, 18, 19, 20, 21, 22, 23, 24, 25, 26, 27, 28, 29, 30, 31, 32, 33, 34, 35, 36, 37, 38, 39, 40, 41, 42, 43, 44, 45, 46, 47, 48, 49, 50, 51, 52, 53, 54, 55, 56, 57, 58, 59, 60, 61, 62, 63] (by decide +kernel) (by decide +kernel)
set_option maxRecDepth 20000 in
theorem gX10_isLiving_X10_isActor : GoodIn wsX10_isLiving (wsV RX10 243 RX10 yX10_isActor wsX10_isActor) := goodIn_app (goodIn_of _ (by decide +kernel)) ggX10_isLiving_X10_isActor
set_option maxRecDepth 20000 in
theorem ggX10_isLiving_X10_has : GoodIn wsX10_isLiving wsX10_has := goodIn_r _ [13] (by decide +kernel) (by decide +kernel)
set_option maxRecDepth 20000 in
theorem gX10_isLiving_X10_has : GoodIn wsX10_isLiving (va_wsS RX10 84 yX10_has wsX10_has) := goodIn_app (goodIn_of _ (by decide +kernel)) ggX10_isLiving_X10_has
theorem dX10_isLiving_0 : decode cX10_isLiving 0 = .ok (.aload_n 0, 1) := by decide +kernel
theorem dX10_isLiving_1 : decode cX10_isLiving 1 = .ok (.iload_n 1, 1) := by decide +kernel
theorem dX10_isLiving_2 : decode cX10_isLiving 2 = .ok (.invokevirtual 243, 3) := by decide +kernel
theorem dX10_isLiving_5 : decode cX10_isLiving 5 = .ok (.ifCond .eq 18, 3) := by decide +kernel
theorem dX10_isLiving_8 : decode cX10_isLiving 8 = .ok (.aload_n 0, 1) := by decide +kernel
theorem dX10_isLiving_9 : decode cX10_isLiving 9 = .ok (.getfield 267, 3) := by decide +kernel
theorem dX10_isLiving_12 : decode cX10_isLiving 12 = .ok (.iload_n 1, 1) := by decide +kernel
theorem dX10_isLiving_13 : decode cX10_isLiving 13 = .ok (.invokestatic 84, 3) := by decide +kernel
theorem dX10_isLiving_16 : decode cX10_isLiving 16 = .ok (.ifCond .eq 7, 3) := by decide +kernel
theorem dX10_isLiving_19 : decode cX10_isLiving 19 = .ok (.iconst 1, 1) := by decide +kernel
theorem dX10_isLiving_20 : decode cX10_isLiving 20 = .ok (.goto 4, 3) := by decide +kernel
theorem dX10_isLiving_23 : decode cX10_isLiving 23 = .ok (.iconst 0, 1) := by decide +kernel
theorem dX10_isLiving_24 : decode cX10_isLiving 24 = .ok (.ireturn, 1) := by decide +kernel
set_option maxRecDepth 20000 in
theorem ggX10_eats_X10_hungerOf : GoodIn wsX10_eats wsX10_hungerOf := goodIn_r _ [6, 7, 8, 9, 5, 10, 11, 12, 13, 14, 15, 16, 17, 18, 19, 20, 21, 22, 23, 24, 25, 26, 27, 28, 29, 30, 31, 32, 33, 34, 35, 36, 37, 38, 39, 40, 41, 42, 43, 44, 45, 46, 47, 48, 49, 50, 51, 52, 53, 54, 55, 56, 57, 58, 59, 60, 61, 62] (by decide +kernel) (by decide +kernel)
set_option maxRecDepth 20000 in
theorem gX10_eats_X10_hungerOf : GoodIn wsX10_eats (wsV RX10 282 RX10 yX10_hungerOf wsX10_hungerOf) := goodIn_app (goodIn_of _ (by decide +kernel)) ggX10_eats_X10_hungerOf
theorem dX10_eats_0 : decode cX10_eats 0 = .ok (.aload_n 0, 1) := by decide +kernel
theorem dX10_eats_1 : decode cX10_eats 1 = .ok (.iload_n 1, 1) := by decide +kernel
theorem dX10_eats_2 : decode cX10_eats 2 = .ok (.invokevirtual 282, 3) := by decide +kernel
theorem dX10_eats_5 : decode cX10_eats 5 = .ok (.aload_n 0, 1) := by decide +kernel
theorem dX10_eats_6 : decode cX10_eats 6 = .ok (.iload_n 1, 1) := by decide +kernel
theorem dX10_eats_7 : decode cX10_eats 7 = .ok (.invokevirtual 282, 3) := by decide +kernel
theorem dX10_eats_10 : decode cX10_eats 10 = .ok (.aload_n 0, 1) := by decide +kernel
theorem dX10_eats_11 : decode cX10_eats 11 = .ok (.getfield 261, 3) := by decide +kernel
theorem dX10_eats_14 : decode cX10_eats 14 = .ok (.iload_n 2, 1) := by decide +kernel
theorem dX10_eats_15 : decode cX10_eats 15 = .ok (.iadd, 1) := by decide +kernel
theorem dX10_eats_16 : decode cX10_eats 16 = .ok (.imul, 1) := by decide +kernel
theorem dX10_eats_17 : decode cX10_eats 17 = .ok (.bipush 10, 2) := by decide +kernel
theorem dX10_eats_19 : decode cX10_eats 19 = .ok (.idiv, 1) := by decide +kernel
theorem dX10_eats_20 : decode cX10_eats 20 = .ok (.iadd, 1) := by decide +kernel
theorem dX10_eats_21 : decode cX10_eats 21 = .ok (.ireturn, 1) := by decide +kernel
theorem dX10_gets_0 : decode cX10_gets 0 = .ok (.aload_n 0, 1) := by decide +kernel
theorem dX10_gets_1 : decode cX10_gets 1 = .ok (.getfield 50, 3) := by decide +kernel
theorem dX10_gets_4 : decode cX10_gets 4 = .ok (.iload_n 1, 1) := by decide +kernel
theorem dX10_gets_5 : decode cX10_gets 5 = .ok (.dup2, 1) := by decide +kernel
theorem dX10_gets_6 : decode cX10_gets 6 = .ok (.iaload, 1) := by decide +kernel
theorem dX10_gets_7 : decode cX10_gets 7 = .ok (.iload_n 2, 1) := by decide +kernel
theorem dX10_gets_8 : decode cX10_gets 8 = .ok (.iadd, 1) := by decide +kernel
theorem dX10_gets_9 : decode cX10_gets 9 = .ok (.iastore, 1) := by decide +kernel
theorem dX10_gets_10 : decode cX10_gets 10 = .ok (.aload_n 0, 1) := by decide +kernel
theorem dX10_gets_11 : decode cX10_gets 11 = .ok (.dup, 1) := by decide +kernel
theorem dX10_gets_12 : decode cX10_gets 12 = .ok (.getfield 258, 3) := by decide +kernel
theorem dX10_gets_15 : decode cX10_gets 15 = .ok (.iload_n 2, 1) := by decide +kernel
theorem dX10_gets_16 : decode cX10_gets 16 = .ok (.iadd, 1) := by decide +kernel
theorem dX10_gets_17 : decode cX10_gets 17 = .ok (.putfield 258, 3) := by decide +kernel
theorem dX10_gets_20 : decode cX10_gets 20 = .ok (.return_, 1) := by decide +kernel
set_option maxRecDepth 20000 in
theorem ggX10_clapsFor_X10_isPalm : GoodIn wsX10_clapsFor wsX10_isPalm := goodIn_r _ [10, 11, 12, 13, 9, 14, 44, 45, 46, 47, 48, 49, 50, 51, 52, 53, 54, 55, 56, 57, 58, 59, 60, 61, 62, 63, 64, 65, 66, 67, 68, 69, 70, 71, 72, 73, 74, 75, 76, 77, 78, 79, 80, 81, 82, 83, 84, 85, 86, 87, 88, 89, 90, 91, 92, 93] (by decide +kernel) (by decide +kernel)
set_option maxRecDepth 20000 in
theorem gX10_clapsFor_X10_isPalm : GoodIn wsX10_clapsFor (wsV RX10 240 RX10 yX10_isPalm wsX10_isPalm) := goodIn_app (goodIn_of _ (by decide +kernel)) ggX10_clapsFor_X10_isPalm
set_option maxRecDepth 20000 in
theorem ggX10_clapsFor_X10_isLiving : GoodIn wsX10_clapsFor wsX10_isLiving := goodIn_r _ [18, 19, 20, 21, 22, 9, 23, 24, 12, 13, 14, 25, 26, 27, 44, 45, 46, 47, 48, 49, 50, 51, 52, 53, 54, 55, 56, 57, 58, 59, 60, 61, 62, 63, 64, 65, 66, 67, 68, 69, 70, 71, 72, 73, 74, 75, 76, 77, 78, 79, 80, 81, 82, 83, 84, 85, 86, 87, 88, 89, 90, 91, 92, 93] (by decide +kernel) (by decide +kernel)
set_option maxRecDepth 20000 in
theorem gX10_clapsFor_X10_isLiving : GoodIn wsX10_clapsFor (wsV RX10 285 RX10 yX10_isLiving wsX10_isLiving) := goodIn_app (goodIn_of _ (by decide +kernel)) ggX10_clapsFor_X10_isLiving
set_option maxRecDepth 20000 in
theorem ggX10_clapsFor_X10_has : GoodIn wsX10_clapsFor wsX10_has := goodIn_r _ [27] (by decide +kernel) (by decide +kernel)
set_option maxRecDepth 20000 in
theorem gX10_clapsFor_X10_has : GoodIn wsX10_clapsFor (va_wsS RX10 84 yX10_has wsX10_has) := goodIn_app (goodIn_of _ (by decide +kernel)) ggX10_clapsFor_X10_has
set_option maxRecDepth 20000 in
theorem ggX10_clapsFor_X10_handsOf : GoodIn wsX10_clapsFor wsX10_handsOf := goodIn_r _ [31, 32, 33, 34, 9, 35, 36, 37, 44, 45, 46, 47, 48, 49, 50, 51, 52, 53, 54, 55, 56, 57, 58, 59, 60, 61, 62, 63, 64, 65, 66, 67, 68, 69, 70, 71, 72, 73, 74, 75, 76, 77, 78, 79, 80, 81, 82, 83, 84, 85, 86, 87, 88, 89, 90, 91, 92, 93] (by decide +kernel) (by decide +kernel)
set_option maxRecDepth 20000 in
theorem gX10_clapsFor_X10_handsOf : GoodIn wsX10_clapsFor (wsV RX10 288 RX10 yX10_handsOf wsX10_handsOf) := goodIn_app (goodIn_of _ (by decide +kernel)) ggX10_clapsFor_X10_handsOf
set_option maxRecDepth 20000 in
theorem ggX10_clapsFor_X10_gets : GoodIn wsX10_clapsFor wsX10_gets := goodIn_r _ [41, 42, 43, 44, 45, 46, 47, 48, 49, 50, 51, 52, 53, 54, 55, 56, 57, 58, 59, 60, 61, 62, 63, 64, 65, 66, 67, 68, 69, 70, 71, 72, 73, 74, 75, 76, 77, 78, 79, 80, 81, 82, 83, 84, 85, 86, 87, 88, 89, 90, 91, 92, 93] (by decide +kernel) (by decide +kernel)
set_option maxRecDepth 20000 in
theorem gX10_clapsFor_X10_gets : GoodIn wsX10_clapsFor (wsV RX10 291 RX10 yX10_gets wsX10_gets) := goodIn_app (goodIn_of _ (by decide +kernel)) ggX10_clapsFor_X10_gets
theorem dX10_clapsFor_0 : decode cX10_clapsFor 0 = .ok (.aload_n 0, 1) := by decide +kernel
theorem dX10_clapsFor_1 : decode cX10_clapsFor 1 = .ok (.iload_n 1, 1) := by decide +kernel
theorem dX10_clapsFor_2 : decode cX10_clapsFor 2 = .ok (.invokevirtual 240, 3) := by decide +kernel
theorem dX10_clapsFor_5 : decode cX10_clapsFor 5 = .ok (.ifCond .eq 32, 3) := by decide +kernel
theorem dX10_clapsFor_8 : decode cX10_clapsFor 8 = .ok (.aload_n 0, 1) := by decide +kernel
theorem dX10_clapsFor_9 : decode cX10_clapsFor 9 = .ok (.iload_n 2, 1) := by decide +kernel
theorem dX10_clapsFor_10 : decode cX10_clapsFor 10 = .ok (.invokevirtual 285, 3) := by decide +kernel
theorem dX10_clapsFor_13 : decode cX10_clapsFor 13 = .ok (.ifCond .eq 24, 3) := by decide +kernel
theorem dX10_clapsFor_16 : decode cX10_clapsFor 16 = .ok (.aload_n 0, 1) := by decide +kernel
theorem dX10_clapsFor_17 : decode cX10_clapsFor 17 = .ok (.getfield 279, 3) := by decide +kernel
theorem dX10_clapsFor_20 : decode cX10_clapsFor 20 = .ok (.iload_n 1, 1) := by decide +kernel
theorem dX10_clapsFor_21 : decode cX10_clapsFor 21 = .ok (.invokestatic 84, 3) := by decide +kernel
theorem dX10_clapsFor_24 : decode cX10_clapsFor 24 = .ok (.ifCond .ne 13, 3) := by decide +kernel
theorem dX10_clapsFor_27 : decode cX10_clapsFor 27 = .ok (.aload_n 0, 1) := by decide +kernel
theorem dX10_clapsFor_28 : decode cX10_clapsFor 28 = .ok (.getfield 41, 3) := by decide +kernel
theorem dX10_clapsFor_31 : decode cX10_clapsFor 31 = .ok (.iload_n 1, 1) := by decide +kernel
theorem dX10_clapsFor_32 : decode cX10_clapsFor 32 = .ok (.iaload, 1) := by decide +kernel
theorem dX10_clapsFor_33 : decode cX10_clapsFor 33 = .ok (.iload_n 3, 1) := by decide +kernel
theorem dX10_clapsFor_34 : decode cX10_clapsFor 34 = .ok (.if_icmp .ge 5, 3) := by decide +kernel
theorem dX10_clapsFor_37 : decode cX10_clapsFor 37 = .ok (.iconst 0, 1) := by decide +kernel
theorem dX10_clapsFor_38 : decode cX10_clapsFor 38 = .ok (.ireturn, 1) := by decide +kernel
theorem dX10_clapsFor_39 : decode cX10_clapsFor 39 = .ok (.aload_n 0, 1) := by decide +kernel
theorem dX10_clapsFor_40 : decode cX10_clapsFor 40 = .ok (.getfield 41, 3) := by decide +kernel
theorem dX10_clapsFor_43 : decode cX10_clapsFor 43 = .ok (.iload_n 1, 1) := by decide +kernel
theorem dX10_clapsFor_44 : decode cX10_clapsFor 44 = .ok (.dup2, 1) := by decide +kernel
theorem dX10_clapsFor_45 : decode cX10_clapsFor 45 = .ok (.iaload, 1) := by decide +kernel
theorem dX10_clapsFor_46 : decode cX10_clapsFor 46 = .ok (.iload_n 3, 1) := by decide +kernel
theorem dX10_clapsFor_47 : decode cX10_clapsFor 47 = .ok (.isub, 1) := by decide +kernel
theorem dX10_clapsFor_48 : decode cX10_clapsFor 48 = .ok (.iastore, 1) := by decide +kernel
theorem dX10_clapsFor_49 : decode cX10_clapsFor 49 = .ok (.iload_n 3, 1) := by decide +kernel
theorem dX10_clapsFor_50 : decode cX10_clapsFor 50 = .ok (.aload_n 0, 1) := by decide +kernel
theorem dX10_clapsFor_51 : decode cX10_clapsFor 51 = .ok (.iload_n 1, 1) := by decide +kernel
theorem dX10_clapsFor_52 : decode cX10_clapsFor 52 = .ok (.invokevirtual 288, 3) := by decide +kernel
theorem dX10_clapsFor_55 : decode cX10_clapsFor 55 = .ok (.imul, 1) := by decide +kernel
theorem dX10_clapsFor_56 : decode cX10_clapsFor 56 = .ok (.aload_n 0, 1) := by decide +kernel
theorem dX10_clapsFor_57 : decode cX10_clapsFor 57 = .ok (.getfield 273, 3) := by decide +kernel
theorem dX10_clapsFor_60 : decode cX10_clapsFor 60 = .ok (.iload_n 2, 1) := by decide +kernel
theorem dX10_clapsFor_61 : decode cX10_clapsFor 61 = .ok (.if_icmp .ne 7, 3) := by decide +kernel
theorem dX10_clapsFor_64 : decode cX10_clapsFor 64 = .ok (.iconst 2, 1) := by decide +kernel
theorem dX10_clapsFor_65 : decode cX10_clapsFor 65 = .ok (.goto 4, 3) := by decide +kernel
theorem dX10_clapsFor_68 : decode cX10_clapsFor 68 = .ok (.iconst 1, 1) := by decide +kernel
theorem dX10_clapsFor_69 : decode cX10_clapsFor 69 = .ok (.imul, 1) := by decide +kernel
theorem dX10_clapsFor_70 : decode cX10_clapsFor 70 = .ok (.istore 4, 2) := by decide +kernel
theorem dX10_clapsFor_72 : decode cX10_clapsFor 72 = .ok (.aload_n 0, 1) := by decide +kernel
theorem dX10_clapsFor_73 : decode cX10_clapsFor 73 = .ok (.iload_n 2, 1) := by decide +kernel
theorem dX10_clapsFor_74 : decode cX10_clapsFor 74 = .ok (.iload 4, 2) := by decide +kernel
theorem dX10_clapsFor_76 : decode cX10_clapsFor 76 = .ok (.invokevirtual 291, 3) := by decide +kernel
theorem dX10_clapsFor_79 : decode cX10_clapsFor 79 = .ok (.aload_n 0, 1) := by decide +kernel
theorem dX10_clapsFor_80 : decode cX10_clapsFor 80 = .ok (.getfield 47, 3) := by decide +kernel
theorem dX10_clapsFor_83 : decode cX10_clapsFor 83 = .ok (.bipush 6, 2) := by decide +kernel
theorem dX10_clapsFor_85 : decode cX10_clapsFor 85 = .ok (.iload_n 1, 1) := by decide +kernel
theorem dX10_clapsFor_86 : decode cX10_clapsFor 86 = .ok (.imul, 1) := by decide +kernel
theorem dX10_clapsFor_87 : decode cX10_clapsFor 87 = .ok (.iload_n 2, 1) := by decide +kernel
theorem dX10_clapsFor_88 : decode cX10_clapsFor 88 = .ok (.iadd, 1) := by decide +kernel
theorem dX10_clapsFor_89 : decode cX10_clapsFor 89 = .ok (.dup2, 1) := by decide +kernel
theorem dX10_clapsFor_90 : decode cX10_clapsFor 90 = .ok (.iaload, 1) := by decide +kernel
theorem dX10_clapsFor_91 : decode cX10_clapsFor 91 = .ok (.iload 4, 2) := by decide +kernel
theorem dX10_clapsFor_93 : decode cX10_clapsFor 93 = .ok (.iadd, 1) := by decide +kernel
theorem dX10_clapsFor_94 : decode cX10_clapsFor 94 = .ok (.iastore, 1) := by decide +kernel
theorem dX10_clapsFor_95 : decode cX10_clapsFor 95 = .ok (.aload_n 0, 1) := by decide +kernel
theorem dX10_clapsFor_96 : decode cX10_clapsFor 96 = .ok (.dup, 1) := by decide +kernel
theorem dX10_clapsFor_97 : decode cX10_clapsFor 97 = .ok (.getfield 270, 3) := by decide +kernel
theorem dX10_clapsFor_100 : decode cX10_clapsFor 100 = .ok (.iload_n 3, 1) := by decide +kernel
theorem dX10_clapsFor_101 : decode cX10_clapsFor 101 = .ok (.iadd, 1) := by decide +kernel
theorem dX10_clapsFor_102 : decode cX10_clapsFor 102 = .ok (.putfield 270, 3) := by decide +kernel
theorem dX10_clapsFor_105 : decode cX10_clapsFor 105 = .ok (.iconst 1, 1) := by decide +kernel
theorem dX10_clapsFor_106 : decode cX10_clapsFor 106 = .ok (.ireturn, 1) := by decide +kernel
set_option maxRecDepth 20000 in
theorem ggX10_gives_X10_isPalm : GoodIn wsX10_gives wsX10_isPalm := goodIn_r _ [8, 9, 10, 11, 7, 12, 16, 17, 18, 19, 20, 21, 22, 23, 24, 25, 26, 27, 28, 29, 30, 31, 32, 33, 34, 35, 36, 37, 38, 39, 40, 41, 42, 43, 44, 45, 46, 47, 48, 49, 50, 51, 52, 53, 54, 55, 56, 57, 58, 59, 60, 61, 62, 63, 64, 65] (by decide +kernel) (by decide +kernel)
set_option maxRecDepth 20000 in
theorem gX10_gives_X10_isPalm : GoodIn wsX10_gives (wsV RX10 240 RX10 yX10_isPalm wsX10_isPalm) := goodIn_app (goodIn_of _ (by decide +kernel)) ggX10_gives_X10_isPalm
set_option maxRecDepth 20000 in
theorem ggX10_gives_X10_has : GoodIn wsX10_gives wsX10_has := goodIn_r _ [15] (by decide +kernel) (by decide +kernel)
set_option maxRecDepth 20000 in
theorem gX10_gives_X10_has : GoodIn wsX10_gives (va_wsS RX10 84 yX10_has wsX10_has) := goodIn_app (goodIn_of _ (by decide +kernel)) ggX10_gives_X10_has
theorem dX10_gives_0 : decode cX10_gives 0 = .ok (.aload_n 0, 1) := by decide +kernel
theorem dX10_gives_1 : decode cX10_gives 1 = .ok (.iload_n 1, 1) := by decide +kernel
theorem dX10_gives_2 : decode cX10_gives 2 = .ok (.invokevirtual 240, 3) := by decide +kernel
theorem dX10_gives_5 : decode cX10_gives 5 = .ok (.ifCond .eq 51, 3) := by decide +kernel
theorem dX10_gives_8 : decode cX10_gives 8 = .ok (.aload_n 0, 1) := by decide +kernel
theorem dX10_gives_9 : decode cX10_gives 9 = .ok (.iload_n 2, 1) := by decide +kernel
theorem dX10_gives_10 : decode cX10_gives 10 = .ok (.invokevirtual 240, 3) := by decide +kernel
theorem dX10_gives_13 : decode cX10_gives 13 = .ok (.ifCond .eq 43, 3) := by decide +kernel
theorem dX10_gives_16 : decode cX10_gives 16 = .ok (.aload_n 0, 1) := by decide +kernel
theorem dX10_gives_17 : decode cX10_gives 17 = .ok (.getfield 279, 3) := by decide +kernel
theorem dX10_gives_20 : decode cX10_gives 20 = .ok (.iload_n 1, 1) := by decide +kernel
theorem dX10_gives_21 : decode cX10_gives 21 = .ok (.invokestatic 84, 3) := by decide +kernel
theorem dX10_gives_24 : decode cX10_gives 24 = .ok (.ifCond .ne 32, 3) := by decide +kernel
theorem dX10_gives_27 : decode cX10_gives 27 = .ok (.aload_n 0, 1) := by decide +kernel
theorem dX10_gives_28 : decode cX10_gives 28 = .ok (.getfield 41, 3) := by decide +kernel
theorem dX10_gives_31 : decode cX10_gives 31 = .ok (.iload_n 1, 1) := by decide +kernel
theorem dX10_gives_32 : decode cX10_gives 32 = .ok (.iaload, 1) := by decide +kernel
theorem dX10_gives_33 : decode cX10_gives 33 = .ok (.iload_n 3, 1) := by decide +kernel
theorem dX10_gives_34 : decode cX10_gives 34 = .ok (.if_icmp .lt 22, 3) := by decide +kernel
theorem dX10_gives_37 : decode cX10_gives 37 = .ok (.iload 4, 2) := by decide +kernel
theorem dX10_gives_39 : decode cX10_gives 39 = .ok (.ifCond .eq 19, 3) := by decide +kernel
theorem dX10_gives_42 : decode cX10_gives 42 = .ok (.aload_n 0, 1) := by decide +kernel
theorem dX10_gives_43 : decode cX10_gives 43 = .ok (.getfield 44, 3) := by decide +kernel
theorem dX10_gives_46 : decode cX10_gives 46 = .ok (.iconst 5, 1) := by decide +kernel
theorem dX10_gives_47 : decode cX10_gives 47 = .ok (.iload_n 1, 1) := by decide +kernel
theorem dX10_gives_48 : decode cX10_gives 48 = .ok (.imul, 1) := by decide +kernel
theorem dX10_gives_49 : decode cX10_gives 49 = .ok (.iload_n 2, 1) := by decide +kernel
theorem dX10_gives_50 : decode cX10_gives 50 = .ok (.iadd, 1) := by decide +kernel
theorem dX10_gives_51 : decode cX10_gives 51 = .ok (.iaload, 1) := by decide +kernel
theorem dX10_gives_52 : decode cX10_gives 52 = .ok (.iload_n 3, 1) := by decide +kernel
theorem dX10_gives_53 : decode cX10_gives 53 = .ok (.if_icmp .ge 5, 3) := by decide +kernel
theorem dX10_gives_56 : decode cX10_gives 56 = .ok (.iconst 0, 1) := by decide +kernel
theorem dX10_gives_57 : decode cX10_gives 57 = .ok (.ireturn, 1) := by decide +kernel
theorem dX10_gives_58 : decode cX10_gives 58 = .ok (.aload_n 0, 1) := by decide +kernel
theorem dX10_gives_59 : decode cX10_gives 59 = .ok (.getfield 41, 3) := by decide +kernel
theorem dX10_gives_62 : decode cX10_gives 62 = .ok (.iload_n 1, 1) := by decide +kernel
theorem dX10_gives_63 : decode cX10_gives 63 = .ok (.dup2, 1) := by decide +kernel
theorem dX10_gives_64 : decode cX10_gives 64 = .ok (.iaload, 1) := by decide +kernel
theorem dX10_gives_65 : decode cX10_gives 65 = .ok (.iload_n 3, 1) := by decide +kernel
theorem dX10_gives_66 : decode cX10_gives 66 = .ok (.isub, 1) := by decide +kernel
theorem dX10_gives_67 : decode cX10_gives 67 = .ok (.iastore, 1) := by decide +kernel
theorem dX10_gives_68 : decode cX10_gives 68 = .ok (.aload_n 0, 1) := by decide +kernel
theorem dX10_gives_69 : decode cX10_gives 69 = .ok (.getfield 41, 3) := by decide +kernel
theorem dX10_gives_72 : decode cX10_gives 72 = .ok (.iload_n 2, 1) := by decide +kernel
theorem dX10_gives_73 : decode cX10_gives 73 = .ok (.dup2, 1) := by decide +kernel
theorem dX10_gives_74 : decode cX10_gives 74 = .ok (.iaload, 1) := by decide +kernel
theorem dX10_gives_75 : decode cX10_gives 75 = .ok (.iload_n 3, 1) := by decide +kernel
theorem dX10_gives_76 : decode cX10_gives 76 = .ok (.iadd, 1) := by decide +kernel
theorem dX10_gives_77 : decode cX10_gives 77 = .ok (.iastore, 1) := by decide +kernel
theorem dX10_gives_78 : decode cX10_gives 78 = .ok (.iload 4, 2) := by decide +kernel
theorem dX10_gives_80 : decode cX10_gives 80 = .ok (.ifCond .eq 20, 3) := by decide +kernel
theorem dX10_gives_83 : decode cX10_gives 83 = .ok (.aload_n 0, 1) := by decide +kernel
theorem dX10_gives_84 : decode cX10_gives 84 = .ok (.getfield 44, 3) := by decide +kernel
theorem dX10_gives_87 : decode cX10_gives 87 = .ok (.iconst 5, 1) := by decide +kernel
theorem dX10_gives_88 : decode cX10_gives 88 = .ok (.iload_n 1, 1) := by decide +kernel
theorem dX10_gives_89 : decode cX10_gives 89 = .ok (.imul, 1) := by decide +kernel
theorem dX10_gives_90 : decode cX10_gives 90 = .ok (.iload_n 2, 1) := by decide +kernel
theorem dX10_gives_91 : decode cX10_gives 91 = .ok (.iadd, 1) := by decide +kernel
theorem dX10_gives_92 : decode cX10_gives 92 = .ok (.dup2, 1) := by decide +kernel
theorem dX10_gives_93 : decode cX10_gives 93 = .ok (.iaload, 1) := by decide +kernel
theorem dX10_gives_94 : decode cX10_gives 94 = .ok (.iload_n 3, 1) := by decide +kernel
theorem dX10_gives_95 : decode cX10_gives 95 = .ok (.isub, 1) := by decide +kernel
theorem dX10_gives_96 : decode cX10_gives 96 = .ok (.iastore, 1) := by decide +kernel
theorem dX10_gives_97 : decode cX10_gives 97 = .ok (.goto 17, 3) := by decide +kernel
theorem dX10_gives_100 : decode cX10_gives 100 = .ok (.aload_n 0, 1) := by decide +kernel
theorem dX10_gives_101 : decode cX10_gives 101 = .ok (.getfield 44, 3) := by decide +kernel
theorem dX10_gives_104 : decode cX10_gives 104 = .ok (.iconst 5, 1) := by decide +kernel
theorem dX10_gives_105 : decode cX10_gives 105 = .ok (.iload_n 2, 1) := by decide +kernel
theorem dX10_gives_106 : decode cX10_gives 106 = .ok (.imul, 1) := by decide +kernel
theorem dX10_gives_107 : decode cX10_gives 107 = .ok (.iload_n 1, 1) := by decide +kernel
theorem dX10_gives_108 : decode cX10_gives 108 = .ok (.iadd, 1) := by decide +kernel
theorem dX10_gives_109 : decode cX10_gives 109 = .ok (.dup2, 1) := by decide +kernel
theorem dX10_gives_110 : decode cX10_gives 110 = .ok (.iaload, 1) := by decide +kernel
theorem dX10_gives_111 : decode cX10_gives 111 = .ok (.iload_n 3, 1) := by decide +kernel
theorem dX10_gives_112 : decode cX10_gives 112 = .ok (.iadd, 1) := by decide +kernel
theorem dX10_gives_113 : decode cX10_gives 113 = .ok (.iastore, 1) := by decide +kernel
theorem dX10_gives_114 : decode cX10_gives 114 = .ok (.iconst 1, 1) := by decide +kernel
theorem dX10_gives_115 : decode cX10_gives 115 = .ok (.ireturn, 1) := by decide +kernel
set_option maxRecDepth 20000 in
theorem ggX10_hushes_X10_isLiving : GoodIn wsX10_hushes wsX10_isLiving := goodIn_r _ [8, 9, 10, 11, 12, 7, 13, 14, 15, 16, 17, 18, 19, 20, 30, 31, 32, 33, 34, 35, 36, 37, 38, 39, 40, 41, 42, 43, 44, 45, 46, 47, 48, 49, 50, 51, 52, 53, 54, 55, 56, 57, 58, 59, 60, 61, 62, 63, 64, 65, 66, 67, 68, 69, 70, 71, 72, 73, 74, 75, 76, 77, 78, 79] (by decide +kernel) (by decide +kernel)
set_option maxRecDepth 20000 in
theorem gX10_hushes_X10_isLiving : GoodIn wsX10_hushes (wsV RX10 285 RX10 yX10_isLiving wsX10_isLiving) := goodIn_app (goodIn_of _ (by decide +kernel)) ggX10_hushes_X10_isLiving
set_option maxRecDepth 20000 in
theorem ggX10_hushes_X10_isPalm : GoodIn wsX10_hushes wsX10_isPalm := goodIn_r _ [24, 25, 15, 16, 7, 17, 30, 31, 32, 33, 34, 35, 36, 37, 38, 39, 40, 41, 42, 43, 44, 45, 46, 47, 48, 49, 50, 51, 52, 53, 54, 55, 56, 57, 58, 59, 60, 61, 62, 63, 64, 65, 66, 67, 68, 69, 70, 71, 72, 73, 74, 75, 76, 77, 78, 79] (by decide +kernel) (by decide +kernel)
set_option maxRecDepth 20000 in
theorem gX10_hushes_X10_isPalm : GoodIn wsX10_hushes (wsV RX10 240 RX10 yX10_isPalm wsX10_isPalm) := goodIn_app (goodIn_of _ (by decide +kernel)) ggX10_hushes_X10_isPalm
set_option maxRecDepth 20000 in
theorem ggX10_hushes_X10_gets : GoodIn wsX10_hushes wsX10_gets := goodIn_r _ [29, 1, 2, 30, 31, 32, 33, 34, 35, 36, 37, 38, 39, 40, 41, 42, 43, 44, 45, 46, 47, 48, 49, 50, 51, 52, 53, 54, 55, 56, 57, 58, 59, 60, 61, 62, 63, 64, 65, 66, 67, 68, 69, 70, 71, 72, 73, 74, 75, 76, 77, 78, 79] (by decide +kernel) (by decide +kernel)
set_option maxRecDepth 20000 in
theorem gX10_hushes_X10_gets : GoodIn wsX10_hushes (wsV RX10 291 RX10 yX10_gets wsX10_gets) := goodIn_app (goodIn_of _ (by decide +kernel)) ggX10_hushes_X10_gets
theorem dX10_hushes_0 : decode cX10_hushes 0 = .ok (.aload_n 0, 1) := by decide +kernel
theorem dX10_hushes_1 : decode cX10_hushes 1 = .ok (.iload_n 1, 1) := by decide +kernel
theorem dX10_hushes_2 : decode cX10_hushes 2 = .ok (.invokevirtual 285, 3) := by decide +kernel
theorem dX10_hushes_5 : decode cX10_hushes 5 = .ok (.ifCond .eq 29, 3) := by decide +kernel
theorem dX10_hushes_8 : decode cX10_hushes 8 = .ok (.aload_n 0, 1) := by decide +kernel
theorem dX10_hushes_9 : decode cX10_hushes 9 = .ok (.iload_n 2, 1) := by decide +kernel
theorem dX10_hushes_10 : decode cX10_hushes 10 = .ok (.invokevirtual 240, 3) := by decide +kernel
theorem dX10_hushes_13 : decode cX10_hushes 13 = .ok (.ifCond .eq 21, 3) := by decide +kernel
theorem dX10_hushes_16 : decode cX10_hushes 16 = .ok (.aload_n 0, 1) := by decide +kernel
theorem dX10_hushes_17 : decode cX10_hushes 17 = .ok (.getfield 50, 3) := by decide +kernel
theorem dX10_hushes_20 : decode cX10_hushes 20 = .ok (.iload_n 1, 1) := by decide +kernel
theorem dX10_hushes_21 : decode cX10_hushes 21 = .ok (.iaload, 1) := by decide +kernel
theorem dX10_hushes_22 : decode cX10_hushes 22 = .ok (.iload_n 3, 1) := by decide +kernel
theorem dX10_hushes_23 : decode cX10_hushes 23 = .ok (.if_icmp .lt 11, 3) := by decide +kernel
theorem dX10_hushes_26 : decode cX10_hushes 26 = .ok (.aload_n 0, 1) := by decide +kernel
theorem dX10_hushes_27 : decode cX10_hushes 27 = .ok (.getfield 258, 3) := by decide +kernel
theorem dX10_hushes_30 : decode cX10_hushes 30 = .ok (.iload_n 3, 1) := by decide +kernel
theorem dX10_hushes_31 : decode cX10_hushes 31 = .ok (.if_icmp .ge 5, 3) := by decide +kernel
theorem dX10_hushes_34 : decode cX10_hushes 34 = .ok (.iconst 0, 1) := by decide +kernel
theorem dX10_hushes_35 : decode cX10_hushes 35 = .ok (.ireturn, 1) := by decide +kernel
theorem dX10_hushes_36 : decode cX10_hushes 36 = .ok (.aload_n 0, 1) := by decide +kernel
theorem dX10_hushes_37 : decode cX10_hushes 37 = .ok (.iload_n 1, 1) := by decide +kernel
theorem dX10_hushes_38 : decode cX10_hushes 38 = .ok (.iload_n 3, 1) := by decide +kernel
theorem dX10_hushes_39 : decode cX10_hushes 39 = .ok (.ineg, 1) := by decide +kernel
theorem dX10_hushes_40 : decode cX10_hushes 40 = .ok (.invokevirtual 291, 3) := by decide +kernel
theorem dX10_hushes_43 : decode cX10_hushes 43 = .ok (.aload_n 0, 1) := by decide +kernel
theorem dX10_hushes_44 : decode cX10_hushes 44 = .ok (.dup, 1) := by decide +kernel
theorem dX10_hushes_45 : decode cX10_hushes 45 = .ok (.getfield 279, 3) := by decide +kernel
theorem dX10_hushes_48 : decode cX10_hushes 48 = .ok (.iconst 1, 1) := by decide +kernel
theorem dX10_hushes_49 : decode cX10_hushes 49 = .ok (.iload_n 2, 1) := by decide +kernel
theorem dX10_hushes_50 : decode cX10_hushes 50 = .ok (.ishl, 1) := by decide +kernel
theorem dX10_hushes_51 : decode cX10_hushes 51 = .ok (.ior, 1) := by decide +kernel
theorem dX10_hushes_52 : decode cX10_hushes 52 = .ok (.putfield 279, 3) := by decide +kernel
theorem dX10_hushes_55 : decode cX10_hushes 55 = .ok (.iconst 1, 1) := by decide +kernel
theorem dX10_hushes_56 : decode cX10_hushes 56 = .ok (.ireturn, 1) := by decide +kernel
set_option maxRecDepth 20000 in
theorem ggX10_eatsNow_X10_eats : GoodIn wsX10_eatsNow wsX10_eats := goodIn_r _ [7, 8, 9, 10, 11, 6, 12, 13, 14, 15, 16, 17, 18, 23, 24, 25, 26, 27, 28, 29, 30, 31, 32, 33, 34, 35, 36, 37, 38, 39, 40, 41, 42, 43, 44, 45, 46, 47, 48, 49, 50, 51, 52, 53, 54, 55, 56, 57, 58, 59, 60, 61, 62, 63, 64, 65, 66, 67, 68, 69, 70, 71, 72] (by decide +kernel) (by decide +kernel)
set_option maxRecDepth 20000 in
theorem gX10_eatsNow_X10_eats : GoodIn wsX10_eatsNow (wsV RX10 294 RX10 yX10_eats wsX10_eats) := goodIn_app (goodIn_of _ (by decide +kernel)) ggX10_eatsNow_X10_eats
set_option maxRecDepth 20000 in
theorem ggX10_eatsNow_X10_gets : GoodIn wsX10_eatsNow wsX10_gets := goodIn_r _ [22, 1, 2, 23, 24, 25, 26, 27, 28, 29, 30, 31, 32, 33, 34, 35, 36, 37, 38, 39, 40, 41, 42, 43, 44, 45, 46, 47, 48, 49, 50, 51, 52, 53, 54, 55, 56, 57, 58, 59, 60, 61, 62, 63, 64, 65, 66, 67, 68, 69, 70, 71, 72] (by decide +kernel) (by decide +kernel)
set_option maxRecDepth 20000 in
theorem gX10_eatsNow_X10_gets : GoodIn wsX10_eatsNow (wsV RX10 291 RX10 yX10_gets wsX10_gets) := goodIn_app (goodIn_of _ (by decide +kernel)) ggX10_eatsNow_X10_gets
theorem dX10_eatsNow_0 : decode cX10_eatsNow 0 = .ok (.aload_n 0, 1) := by decide +kernel
theorem dX10_eatsNow_1 : decode cX10_eatsNow 1 = .ok (.iload_n 1, 1) := by decide +kernel
theorem dX10_eatsNow_2 : decode cX10_eatsNow 2 = .ok (.iconst 0, 1) := by decide +kernel
theorem dX10_eatsNow_3 : decode cX10_eatsNow 3 = .ok (.invokevirtual 294, 3) := by decide +kernel
theorem dX10_eatsNow_6 : decode cX10_eatsNow 6 = .ok (.istore_n 2, 1) := by decide +kernel
theorem dX10_eatsNow_7 : decode cX10_eatsNow 7 = .ok (.aload_n 0, 1) := by decide +kernel
theorem dX10_eatsNow_8 : decode cX10_eatsNow 8 = .ok (.getfield 50, 3) := by decide +kernel
theorem dX10_eatsNow_11 : decode cX10_eatsNow 11 = .ok (.iload_n 1, 1) := by decide +kernel
theorem dX10_eatsNow_12 : decode cX10_eatsNow 12 = .ok (.iaload, 1) := by decide +kernel
theorem dX10_eatsNow_13 : decode cX10_eatsNow 13 = .ok (.iload_n 2, 1) := by decide +kernel
theorem dX10_eatsNow_14 : decode cX10_eatsNow 14 = .ok (.if_icmp .lt 11, 3) := by decide +kernel
theorem dX10_eatsNow_17 : decode cX10_eatsNow 17 = .ok (.aload_n 0, 1) := by decide +kernel
theorem dX10_eatsNow_18 : decode cX10_eatsNow 18 = .ok (.getfield 258, 3) := by decide +kernel
theorem dX10_eatsNow_21 : decode cX10_eatsNow 21 = .ok (.iload_n 2, 1) := by decide +kernel
theorem dX10_eatsNow_22 : decode cX10_eatsNow 22 = .ok (.if_icmp .ge 5, 3) := by decide +kernel
theorem dX10_eatsNow_25 : decode cX10_eatsNow 25 = .ok (.iconst 0, 1) := by decide +kernel
theorem dX10_eatsNow_26 : decode cX10_eatsNow 26 = .ok (.ireturn, 1) := by decide +kernel
theorem dX10_eatsNow_27 : decode cX10_eatsNow 27 = .ok (.aload_n 0, 1) := by decide +kernel
theorem dX10_eatsNow_28 : decode cX10_eatsNow 28 = .ok (.iload_n 1, 1) := by decide +kernel
theorem dX10_eatsNow_29 : decode cX10_eatsNow 29 = .ok (.iload_n 2, 1) := by decide +kernel
theorem dX10_eatsNow_30 : decode cX10_eatsNow 30 = .ok (.ineg, 1) := by decide +kernel
theorem dX10_eatsNow_31 : decode cX10_eatsNow 31 = .ok (.invokevirtual 291, 3) := by decide +kernel
theorem dX10_eatsNow_34 : decode cX10_eatsNow 34 = .ok (.iconst 1, 1) := by decide +kernel
theorem dX10_eatsNow_35 : decode cX10_eatsNow 35 = .ok (.ireturn, 1) := by decide +kernel
set_option maxRecDepth 20000 in
theorem ggX10_night_X10_has : GoodIn wsX10_night wsX10_has := goodIn_r _ [14] (by decide +kernel) (by decide +kernel)
set_option maxRecDepth 20000 in
theorem gX10_night_X10_has : GoodIn wsX10_night (va_wsS RX10 84 yX10_has wsX10_has) := goodIn_app (goodIn_of _ (by decide +kernel)) ggX10_night_X10_has
set_option maxRecDepth 20000 in
theorem ggX10_night_X10_eatsNow : GoodIn wsX10_night wsX10_eatsNow := goodIn_r _ [18, 5, 19, 20, 21, 22, 13, 23, 24, 25, 26, 27, 28, 29, 30, 31, 32, 33, 34, 35, 36, 37, 38, 49, 50, 51, 52, 53, 54, 55, 56, 57, 58, 59, 60, 61, 62, 63, 64, 65, 66, 67, 68, 69, 70, 71, 72, 73, 74, 75, 76, 77, 78, 79, 80, 81, 82, 83, 84, 85, 86, 87, 88, 89, 90, 91, 92, 93, 94, 95, 96, 97, 98] (by decide +kernel) (by decide +kernel)
set_option maxRecDepth 20000 in
theorem gX10_night_X10_eatsNow : GoodIn wsX10_night (wsV RX10 297 RX10 yX10_eatsNow wsX10_eatsNow) := goodIn_app (goodIn_of _ (by decide +kernel)) ggX10_night_X10_eatsNow
set_option maxRecDepth 20000 in
theorem ggX10_night_X10_lesser : GoodIn wsX10_night wsX10_lesser := goodIn_r _ [41] (by decide +kernel) (by decide +kernel)
set_option maxRecDepth 20000 in
theorem gX10_night_X10_lesser : GoodIn wsX10_night (va_wsS RX10 170 yX10_lesser wsX10_lesser) := goodIn_app (goodIn_of _ (by decide +kernel)) ggX10_night_X10_lesser
set_option maxRecDepth 20000 in
theorem ggX10_night_X10_morning : GoodIn wsX10_night wsX10_morning := goodIn_r _ [45, 46, 47, 48, 29, 30, 31, 13, 32, 33, 34, 49, 50, 51, 52, 53, 54, 55, 56, 57, 58, 59, 60, 61, 62, 63, 64, 65, 66, 67, 68, 69, 70, 71, 72, 73, 74, 75, 76, 77, 78, 79, 80, 81, 82, 83, 84, 85, 86, 87, 88, 89, 90, 91, 92, 93, 94, 95, 96, 97, 98] (by decide +kernel) (by decide +kernel)
set_option maxRecDepth 20000 in
theorem gX10_night_X10_morning : GoodIn wsX10_night (wsV RX10 276 RX10 yX10_morning wsX10_morning) := goodIn_app (goodIn_of _ (by decide +kernel)) ggX10_night_X10_morning
theorem dX10_night_0 : decode cX10_night 0 = .ok (.iconst 0, 1) := by decide +kernel
theorem dX10_night_1 : decode cX10_night 1 = .ok (.istore_n 1, 1) := by decide +kernel
theorem dX10_night_2 : decode cX10_night 2 = .ok (.iload_n 1, 1) := by decide +kernel
theorem dX10_night_3 : decode cX10_night 3 = .ok (.aload_n 0, 1) := by decide +kernel
theorem dX10_night_4 : decode cX10_night 4 = .ok (.getfield 231, 3) := by decide +kernel
theorem dX10_night_7 : decode cX10_night 7 = .ok (.if_icmp .ge 52, 3) := by decide +kernel
theorem dX10_night_10 : decode cX10_night 10 = .ok (.aload_n 0, 1) := by decide +kernel
theorem dX10_night_11 : decode cX10_night 11 = .ok (.getfield 267, 3) := by decide +kernel
theorem dX10_night_14 : decode cX10_night 14 = .ok (.iload_n 1, 1) := by decide +kernel
theorem dX10_night_15 : decode cX10_night 15 = .ok (.invokestatic 84, 3) := by decide +kernel
theorem dX10_night_18 : decode cX10_night 18 = .ok (.ifCond .eq 35, 3) := by decide +kernel
theorem dX10_night_21 : decode cX10_night 21 = .ok (.aload_n 0, 1) := by decide +kernel
theorem dX10_night_22 : decode cX10_night 22 = .ok (.iload_n 1, 1) := by decide +kernel
theorem dX10_night_23 : decode cX10_night 23 = .ok (.invokevirtual 297, 3) := by decide +kernel
theorem dX10_night_26 : decode cX10_night 26 = .ok (.ifCond .ne 27, 3) := by decide +kernel
theorem dX10_night_29 : decode cX10_night 29 = .ok (.aload_n 0, 1) := by decide +kernel
theorem dX10_night_30 : decode cX10_night 30 = .ok (.dup, 1) := by decide +kernel
theorem dX10_night_31 : decode cX10_night 31 = .ok (.getfield 267, 3) := by decide +kernel
theorem dX10_night_34 : decode cX10_night 34 = .ok (.iconst 1, 1) := by decide +kernel
theorem dX10_night_35 : decode cX10_night 35 = .ok (.iload_n 1, 1) := by decide +kernel
theorem dX10_night_36 : decode cX10_night 36 = .ok (.ishl, 1) := by decide +kernel
theorem dX10_night_37 : decode cX10_night 37 = .ok (.iconst (-1), 1) := by decide +kernel
theorem dX10_night_38 : decode cX10_night 38 = .ok (.ixor, 1) := by decide +kernel
theorem dX10_night_39 : decode cX10_night 39 = .ok (.iand, 1) := by decide +kernel
theorem dX10_night_40 : decode cX10_night 40 = .ok (.putfield 267, 3) := by decide +kernel
theorem dX10_night_43 : decode cX10_night 43 = .ok (.aload_n 0, 1) := by decide +kernel
theorem dX10_night_44 : decode cX10_night 44 = .ok (.getfield 56, 3) := by decide +kernel
theorem dX10_night_47 : decode cX10_night 47 = .ok (.iload_n 1, 1) := by decide +kernel
theorem dX10_night_48 : decode cX10_night 48 = .ok (.aload_n 0, 1) := by decide +kernel
theorem dX10_night_49 : decode cX10_night 49 = .ok (.getfield 264, 3) := by decide +kernel
theorem dX10_night_52 : decode cX10_night 52 = .ok (.iastore, 1) := by decide +kernel
theorem dX10_night_53 : decode cX10_night 53 = .ok (.iinc 1 1, 3) := by decide +kernel
theorem dX10_night_56 : decode cX10_night 56 = .ok (.goto (-54), 3) := by decide +kernel
theorem dX10_night_59 : decode cX10_night 59 = .ok (.iconst 0, 1) := by decide +kernel
theorem dX10_night_60 : decode cX10_night 60 = .ok (.istore_n 1, 1) := by decide +kernel
theorem dX10_night_61 : decode cX10_night 61 = .ok (.iload_n 1, 1) := by decide +kernel
theorem dX10_night_62 : decode cX10_night 62 = .ok (.aload_n 0, 1) := by decide +kernel
theorem dX10_night_63 : decode cX10_night 63 = .ok (.getfield 231, 3) := by decide +kernel
theorem dX10_night_66 : decode cX10_night 66 = .ok (.if_icmp .ge 85, 3) := by decide +kernel
theorem dX10_night_69 : decode cX10_night 69 = .ok (.aload_n 0, 1) := by decide +kernel
theorem dX10_night_70 : decode cX10_night 70 = .ok (.getfield 50, 3) := by decide +kernel
theorem dX10_night_73 : decode cX10_night 73 = .ok (.iload_n 1, 1) := by decide +kernel
theorem dX10_night_74 : decode cX10_night 74 = .ok (.dup2, 1) := by decide +kernel
theorem dX10_night_75 : decode cX10_night 75 = .ok (.iaload, 1) := by decide +kernel
theorem dX10_night_76 : decode cX10_night 76 = .ok (.aload_n 0, 1) := by decide +kernel
theorem dX10_night_77 : decode cX10_night 77 = .ok (.getfield 267, 3) := by decide +kernel
theorem dX10_night_80 : decode cX10_night 80 = .ok (.iload_n 1, 1) := by decide +kernel
theorem dX10_night_81 : decode cX10_night 81 = .ok (.invokestatic 84, 3) := by decide +kernel
theorem dX10_night_84 : decode cX10_night 84 = .ok (.ifCond .eq 24, 3) := by decide +kernel
theorem dX10_night_87 : decode cX10_night 87 = .ok (.aload_n 0, 1) := by decide +kernel
theorem dX10_night_88 : decode cX10_night 88 = .ok (.getfield 50, 3) := by decide +kernel
theorem dX10_night_91 : decode cX10_night 91 = .ok (.iload_n 1, 1) := by decide +kernel
theorem dX10_night_92 : decode cX10_night 92 = .ok (.iaload, 1) := by decide +kernel
theorem dX10_night_93 : decode cX10_night 93 = .ok (.i2l, 1) := by decide +kernel
theorem dX10_night_94 : decode cX10_night 94 = .ok (.aload_n 0, 1) := by decide +kernel
theorem dX10_night_95 : decode cX10_night 95 = .ok (.getfield 234, 3) := by decide +kernel
theorem dX10_night_98 : decode cX10_night 98 = .ok (.i2l, 1) := by decide +kernel
theorem dX10_night_99 : decode cX10_night 99 = .ok (.lmul, 1) := by decide +kernel
theorem dX10_night_100 : decode cX10_night 100 = .ok (.ldc2_w 300, 3) := by decide +kernel
theorem dX10_night_103 : decode cX10_night 103 = .ok (.ldiv, 1) := by decide +kernel
theorem dX10_night_104 : decode cX10_night 104 = .ok (.l2i, 1) := by decide +kernel
theorem dX10_night_105 : decode cX10_night 105 = .ok (.goto 4, 3) := by decide +kernel
theorem dX10_night_108 : decode cX10_night 108 = .ok (.iconst 0, 1) := by decide +kernel
theorem dX10_night_109 : decode cX10_night 109 = .ok (.iadd, 1) := by decide +kernel
theorem dX10_night_110 : decode cX10_night 110 = .ok (.iastore, 1) := by decide +kernel
theorem dX10_night_111 : decode cX10_night 111 = .ok (.aload_n 0, 1) := by decide +kernel
theorem dX10_night_112 : decode cX10_night 112 = .ok (.getfield 50, 3) := by decide +kernel
theorem dX10_night_115 : decode cX10_night 115 = .ok (.iload_n 1, 1) := by decide +kernel
theorem dX10_night_116 : decode cX10_night 116 = .ok (.aload_n 0, 1) := by decide +kernel
theorem dX10_night_117 : decode cX10_night 117 = .ok (.getfield 302, 3) := by decide +kernel
theorem dX10_night_120 : decode cX10_night 120 = .ok (.ifCond .eq 18, 3) := by decide +kernel
theorem dX10_night_123 : decode cX10_night 123 = .ok (.aload_n 0, 1) := by decide +kernel
theorem dX10_night_124 : decode cX10_night 124 = .ok (.getfield 50, 3) := by decide +kernel
theorem dX10_night_127 : decode cX10_night 127 = .ok (.iload_n 1, 1) := by decide +kernel
theorem dX10_night_128 : decode cX10_night 128 = .ok (.iaload, 1) := by decide +kernel
theorem dX10_night_129 : decode cX10_night 129 = .ok (.ldc_w 306, 3) := by decide +kernel
theorem dX10_night_132 : decode cX10_night 132 = .ok (.invokestatic 170, 3) := by decide +kernel
theorem dX10_night_135 : decode cX10_night 135 = .ok (.goto 9, 3) := by decide +kernel
theorem dX10_night_138 : decode cX10_night 138 = .ok (.aload_n 0, 1) := by decide +kernel
theorem dX10_night_139 : decode cX10_night 139 = .ok (.getfield 50, 3) := by decide +kernel
theorem dX10_night_142 : decode cX10_night 142 = .ok (.iload_n 1, 1) := by decide +kernel
theorem dX10_night_143 : decode cX10_night 143 = .ok (.iaload, 1) := by decide +kernel
theorem dX10_night_144 : decode cX10_night 144 = .ok (.iastore, 1) := by decide +kernel
theorem dX10_night_145 : decode cX10_night 145 = .ok (.iinc 1 1, 3) := by decide +kernel
theorem dX10_night_148 : decode cX10_night 148 = .ok (.goto (-87), 3) := by decide +kernel
theorem dX10_night_151 : decode cX10_night 151 = .ok (.iconst 0, 1) := by decide +kernel
theorem dX10_night_152 : decode cX10_night 152 = .ok (.istore_n 1, 1) := by decide +kernel
theorem dX10_night_153 : decode cX10_night 153 = .ok (.iload_n 1, 1) := by decide +kernel
theorem dX10_night_154 : decode cX10_night 154 = .ok (.bipush 25, 2) := by decide +kernel
theorem dX10_night_156 : decode cX10_night 156 = .ok (.if_icmp .ge 32, 3) := by decide +kernel
theorem dX10_night_159 : decode cX10_night 159 = .ok (.aload_n 0, 1) := by decide +kernel
theorem dX10_night_160 : decode cX10_night 160 = .ok (.getfield 44, 3) := by decide +kernel
theorem dX10_night_163 : decode cX10_night 163 = .ok (.iload_n 1, 1) := by decide +kernel
theorem dX10_night_164 : decode cX10_night 164 = .ok (.dup2, 1) := by decide +kernel
theorem dX10_night_165 : decode cX10_night 165 = .ok (.iaload, 1) := by decide +kernel
theorem dX10_night_166 : decode cX10_night 166 = .ok (.aload_n 0, 1) := by decide +kernel
theorem dX10_night_167 : decode cX10_night 167 = .ok (.getfield 44, 3) := by decide +kernel
theorem dX10_night_170 : decode cX10_night 170 = .ok (.iload_n 1, 1) := by decide +kernel
theorem dX10_night_171 : decode cX10_night 171 = .ok (.iaload, 1) := by decide +kernel
theorem dX10_night_172 : decode cX10_night 172 = .ok (.aload_n 0, 1) := by decide +kernel
theorem dX10_night_173 : decode cX10_night 173 = .ok (.getfield 234, 3) := by decide +kernel
theorem dX10_night_176 : decode cX10_night 176 = .ok (.imul, 1) := by decide +kernel
theorem dX10_night_177 : decode cX10_night 177 = .ok (.bipush 100, 2) := by decide +kernel
theorem dX10_night_179 : decode cX10_night 179 = .ok (.idiv, 1) := by decide +kernel
theorem dX10_night_180 : decode cX10_night 180 = .ok (.iadd, 1) := by decide +kernel
theorem dX10_night_181 : decode cX10_night 181 = .ok (.iastore, 1) := by decide +kernel
theorem dX10_night_182 : decode cX10_night 182 = .ok (.iinc 1 1, 3) := by decide +kernel
theorem dX10_night_185 : decode cX10_night 185 = .ok (.goto (-32), 3) := by decide +kernel
theorem dX10_night_188 : decode cX10_night 188 = .ok (.aload_n 0, 1) := by decide +kernel
theorem dX10_night_189 : decode cX10_night 189 = .ok (.invokevirtual 276, 3) := by decide +kernel
theorem dX10_night_192 : decode cX10_night 192 = .ok (.aload_n 0, 1) := by decide +kernel
theorem dX10_night_193 : decode cX10_night 193 = .ok (.dup, 1) := by decide +kernel
theorem dX10_night_194 : decode cX10_night 194 = .ok (.getfield 264, 3) := by decide +kernel
theorem dX10_night_197 : decode cX10_night 197 = .ok (.iconst 1, 1) := by decide +kernel
theorem dX10_night_198 : decode cX10_night 198 = .ok (.iadd, 1) := by decide +kernel
theorem dX10_night_199 : decode cX10_night 199 = .ok (.putfield 264, 3) := by decide +kernel
theorem dX10_night_202 : decode cX10_night 202 = .ok (.return_, 1) := by decide +kernel
set_option maxRecDepth 20000 in
theorem ggX10_does_X10_deedOf : GoodIn wsX10_does wsX10_deedOf := goodIn_r _ [7, 8, 9, 94, 95, 96, 97, 98, 99, 100, 101, 102, 103, 104, 105, 106, 107, 108, 109, 110, 111, 112, 113, 114, 115, 116, 117, 118, 119, 120, 121, 122, 123, 124, 125, 126, 127, 128, 129, 130, 131, 132, 133, 134, 135, 136, 137, 138, 139, 140, 141, 142, 143] (by decide +kernel) (by decide +kernel)
set_option maxRecDepth 20000 in
theorem gX10_does_X10_deedOf : GoodIn wsX10_does (wsV RX10 255 RX10 yX10_deedOf wsX10_deedOf) := goodIn_app (goodIn_of _ (by decide +kernel)) ggX10_does_X10_deedOf
set_option maxRecDepth 20000 in
theorem ggX10_does_X10_clapsFor : GoodIn wsX10_does wsX10_clapsFor := goodIn_r _ [13, 14, 15, 16, 17, 18, 19, 20, 21, 6, 22, 23, 24, 25, 26, 27, 28, 29, 30, 31, 32, 33, 34, 35, 36, 37, 38, 39, 40, 41, 42, 43, 44, 45, 46, 47, 48, 49, 50, 51, 52, 53, 54, 55, 94, 95, 96, 97, 98, 99, 100, 101, 102, 103, 104, 105, 106, 107, 108, 109, 110, 111, 112, 113, 114, 115, 116, 117, 118, 119, 120, 121, 122, 123, 124, 125, 126, 127, 128, 129, 130, 131, 132, 133, 134, 135, 136, 137, 138, 139, 140, 141, 142, 143] (by decide +kernel) (by decide +kernel)
set_option maxRecDepth 20000 in
theorem gX10_does_X10_clapsFor : GoodIn wsX10_does (wsV RX10 307 RX10 yX10_clapsFor wsX10_clapsFor) := goodIn_app (goodIn_of _ (by decide +kernel)) ggX10_does_X10_clapsFor
set_option maxRecDepth 20000 in
theorem ggX10_does_X10_gives : GoodIn wsX10_does wsX10_gives := goodIn_r _ [59, 14, 15, 60, 19, 20, 21, 6, 22, 23, 24, 25, 26, 37, 38, 39, 94, 95, 96, 97, 98, 99, 100, 101, 102, 103, 104, 105, 106, 107, 108, 109, 110, 111, 112, 113, 114, 115, 116, 117, 118, 119, 120, 121, 122, 123, 124, 125, 126, 127, 128, 129, 130, 131, 132, 133, 134, 135, 136, 137, 138, 139, 140, 141, 142, 143] (by decide +kernel) (by decide +kernel)
set_option maxRecDepth 20000 in
theorem gX10_does_X10_gives : GoodIn wsX10_does (wsV RX10 310 RX10 yX10_gives wsX10_gives) := goodIn_app (goodIn_of _ (by decide +kernel)) ggX10_does_X10_gives
set_option maxRecDepth 20000 in
theorem ggX10_does_X10_hushes : GoodIn wsX10_does wsX10_hushes := goodIn_r _ [64, 54, 55, 14, 27, 28, 29, 6, 30, 31, 32, 33, 34, 35, 36, 24, 25, 26, 37, 38, 39, 19, 20, 21, 22, 23, 50, 51, 52, 53, 94, 95, 96, 97, 98, 99, 100, 101, 102, 103, 104, 105, 106, 107, 108, 109, 110, 111, 112, 113, 114, 115, 116, 117, 118, 119, 120, 121, 122, 123, 124, 125, 126, 127, 128, 129, 130, 131, 132, 133, 134, 135, 136, 137, 138, 139, 140, 141, 142, 143] (by decide +kernel) (by decide +kernel)
set_option maxRecDepth 20000 in
theorem gX10_does_X10_hushes : GoodIn wsX10_does (wsV RX10 314 RX10 yX10_hushes wsX10_hushes) := goodIn_app (goodIn_of _ (by decide +kernel)) ggX10_does_X10_hushes
set_option maxRecDepth 20000 in
theorem ggX10_does_X10_isLiving : GoodIn wsX10_does wsX10_isLiving := goodIn_r _ [30, 31, 32, 33, 34, 6, 35, 36, 24, 25, 26, 37, 38, 39, 94, 95, 96, 97, 98, 99, 100, 101, 102, 103, 104, 105, 106, 107, 108, 109, 110, 111, 112, 113, 114, 115, 116, 117, 118, 119, 120, 121, 122, 123, 124, 125, 126, 127, 128, 129, 130, 131, 132, 133, 134, 135, 136, 137, 138, 139, 140, 141, 142, 143] (by decide +kernel) (by decide +kernel)
set_option maxRecDepth 20000 in
theorem gX10_does_X10_isLiving : GoodIn wsX10_does (wsV RX10 285 RX10 yX10_isLiving wsX10_isLiving) := goodIn_app (goodIn_of _ (by decide +kernel)) ggX10_does_X10_isLiving
set_option maxRecDepth 20000 in
theorem ggX10_does_X10_gets : GoodIn wsX10_does wsX10_gets := goodIn_r _ [53, 54, 55, 94, 95, 96, 97, 98, 99, 100, 101, 102, 103, 104, 105, 106, 107, 108, 109, 110, 111, 112, 113, 114, 115, 116, 117, 118, 119, 120, 121, 122, 123, 124, 125, 126, 127, 128, 129, 130, 131, 132, 133, 134, 135, 136, 137, 138, 139, 140, 141, 142, 143] (by decide +kernel) (by decide +kernel)
set_option maxRecDepth 20000 in
theorem gX10_does_X10_gets : GoodIn wsX10_does (wsV RX10 291 RX10 yX10_gets wsX10_gets) := goodIn_app (goodIn_of _ (by decide +kernel)) ggX10_does_X10_gets
set_option maxRecDepth 20000 in
theorem ggX10_does_X10_night : GoodIn wsX10_does wsX10_night := goodIn_r _ [68, 36, 31, 69, 70, 54, 71, 72, 73, 74, 60, 37, 38, 6, 39, 75, 76, 77, 78, 55, 79, 80, 81, 82, 2, 83, 84, 85, 86, 44, 45, 46, 47, 48, 49, 50, 51, 52, 53, 87, 88, 89, 90, 91, 92, 93, 23, 15, 14, 94, 95, 96, 97, 98, 99, 100, 101, 102, 103, 104, 105, 106, 107, 108, 109, 110, 111, 112, 113, 114, 115, 116, 117, 118, 119, 120, 121, 122, 123, 124, 125, 126, 127, 128, 129, 130, 131, 132, 133, 134, 135, 136, 137, 138, 139, 140, 141, 142, 143] (by decide +kernel) (by decide +kernel)
set_option maxRecDepth 20000 in
theorem gX10_does_X10_night : GoodIn wsX10_does (wsV RX10 317 RX10 yX10_night wsX10_night) := goodIn_app (goodIn_of _ (by decide +kernel)) ggX10_does_X10_night
theorem dX10_does_0 : decode cX10_does 0 = .ok (.aload_n 0, 1) := by decide +kernel
theorem dX10_does_1 : decode cX10_does 1 = .ok (.iload_n 1, 1) := by decide +kernel
theorem dX10_does_2 : decode cX10_does 2 = .ok (.iconst 1, 1) := by decide +kernel
theorem dX10_does_3 : decode cX10_does 3 = .ok (.invokevirtual 255, 3) := by decide +kernel
theorem dX10_does_6 : decode cX10_does 6 = .ok (.istore_n 2, 1) := by decide +kernel
theorem dX10_does_7 : decode cX10_does 7 = .ok (.aload_n 0, 1) := by decide +kernel
theorem dX10_does_8 : decode cX10_does 8 = .ok (.iload_n 1, 1) := by decide +kernel
theorem dX10_does_9 : decode cX10_does 9 = .ok (.iconst 2, 1) := by decide +kernel
theorem dX10_does_10 : decode cX10_does 10 = .ok (.invokevirtual 255, 3) := by decide +kernel
theorem dX10_does_13 : decode cX10_does 13 = .ok (.istore_n 3, 1) := by decide +kernel
theorem dX10_does_14 : decode cX10_does 14 = .ok (.aload_n 0, 1) := by decide +kernel
theorem dX10_does_15 : decode cX10_does 15 = .ok (.iload_n 1, 1) := by decide +kernel
theorem dX10_does_16 : decode cX10_does 16 = .ok (.iconst 3, 1) := by decide +kernel
theorem dX10_does_17 : decode cX10_does 17 = .ok (.invokevirtual 255, 3) := by decide +kernel
theorem dX10_does_20 : decode cX10_does 20 = .ok (.istore 4, 2) := by decide +kernel
theorem dX10_does_22 : decode cX10_does 22 = .ok (.aload_n 0, 1) := by decide +kernel
theorem dX10_does_23 : decode cX10_does 23 = .ok (.iload_n 1, 1) := by decide +kernel
theorem dX10_does_24 : decode cX10_does 24 = .ok (.iconst 0, 1) := by decide +kernel
theorem dX10_does_25 : decode cX10_does 25 = .ok (.invokevirtual 255, 3) := by decide +kernel
theorem dX10_does_28 : decode cX10_does 28 = .ok (.tableswitch 122 0 5 #[40, 49, 59, 69, 78, 110], 40) := by decide +kernel
theorem dX10_does_68 : decode cX10_does 68 = .ok (.aload_n 0, 1) := by decide +kernel
theorem dX10_does_69 : decode cX10_does 69 = .ok (.iload_n 2, 1) := by decide +kernel
theorem dX10_does_70 : decode cX10_does 70 = .ok (.iload_n 3, 1) := by decide +kernel
theorem dX10_does_71 : decode cX10_does 71 = .ok (.iload 4, 2) := by decide +kernel
theorem dX10_does_73 : decode cX10_does 73 = .ok (.invokevirtual 307, 3) := by decide +kernel
theorem dX10_does_76 : decode cX10_does 76 = .ok (.ireturn, 1) := by decide +kernel
theorem dX10_does_77 : decode cX10_does 77 = .ok (.aload_n 0, 1) := by decide +kernel
theorem dX10_does_78 : decode cX10_does 78 = .ok (.iload_n 2, 1) := by decide +kernel
theorem dX10_does_79 : decode cX10_does 79 = .ok (.iload_n 3, 1) := by decide +kernel
theorem dX10_does_80 : decode cX10_does 80 = .ok (.iload 4, 2) := by decide +kernel
theorem dX10_does_82 : decode cX10_does 82 = .ok (.iconst 0, 1) := by decide +kernel
theorem dX10_does_83 : decode cX10_does 83 = .ok (.invokevirtual 310, 3) := by decide +kernel
theorem dX10_does_86 : decode cX10_does 86 = .ok (.ireturn, 1) := by decide +kernel
theorem dX10_does_87 : decode cX10_does 87 = .ok (.aload_n 0, 1) := by decide +kernel
theorem dX10_does_88 : decode cX10_does 88 = .ok (.iload_n 2, 1) := by decide +kernel
theorem dX10_does_89 : decode cX10_does 89 = .ok (.iload_n 3, 1) := by decide +kernel
theorem dX10_does_90 : decode cX10_does 90 = .ok (.iload 4, 2) := by decide +kernel
theorem dX10_does_92 : decode cX10_does 92 = .ok (.iconst 1, 1) := by decide +kernel
theorem dX10_does_93 : decode cX10_does 93 = .ok (.invokevirtual 310, 3) := by decide +kernel
theorem dX10_does_96 : decode cX10_does 96 = .ok (.ireturn, 1) := by decide +kernel
theorem dX10_does_97 : decode cX10_does 97 = .ok (.aload_n 0, 1) := by decide +kernel
theorem dX10_does_98 : decode cX10_does 98 = .ok (.iload_n 2, 1) := by decide +kernel
theorem dX10_does_99 : decode cX10_does 99 = .ok (.iload_n 3, 1) := by decide +kernel
theorem dX10_does_100 : decode cX10_does 100 = .ok (.iload 4, 2) := by decide +kernel
theorem dX10_does_102 : decode cX10_does 102 = .ok (.invokevirtual 314, 3) := by decide +kernel
theorem dX10_does_105 : decode cX10_does 105 = .ok (.ireturn, 1) := by decide +kernel
theorem dX10_does_106 : decode cX10_does 106 = .ok (.aload_n 0, 1) := by decide +kernel
theorem dX10_does_107 : decode cX10_does 107 = .ok (.iload_n 2, 1) := by decide +kernel
theorem dX10_does_108 : decode cX10_does 108 = .ok (.invokevirtual 285, 3) := by decide +kernel
theorem dX10_does_111 : decode cX10_does 111 = .ok (.ifCond .ne 5, 3) := by decide +kernel
theorem dX10_does_114 : decode cX10_does 114 = .ok (.iconst 0, 1) := by decide +kernel
theorem dX10_does_115 : decode cX10_does 115 = .ok (.ireturn, 1) := by decide +kernel
theorem dX10_does_116 : decode cX10_does 116 = .ok (.aload_n 0, 1) := by decide +kernel
theorem dX10_does_117 : decode cX10_does 117 = .ok (.iload_n 2, 1) := by decide +kernel
theorem dX10_does_118 : decode cX10_does 118 = .ok (.iconst 2, 1) := by decide +kernel
theorem dX10_does_119 : decode cX10_does 119 = .ok (.iload_n 3, 1) := by decide +kernel
theorem dX10_does_120 : decode cX10_does 120 = .ok (.imul, 1) := by decide +kernel
theorem dX10_does_121 : decode cX10_does 121 = .ok (.invokevirtual 291, 3) := by decide +kernel
theorem dX10_does_124 : decode cX10_does 124 = .ok (.aload_n 0, 1) := by decide +kernel
theorem dX10_does_125 : decode cX10_does 125 = .ok (.getfield 53, 3) := by decide +kernel
theorem dX10_does_128 : decode cX10_does 128 = .ok (.iload_n 2, 1) := by decide +kernel
theorem dX10_does_129 : decode cX10_does 129 = .ok (.dup2, 1) := by decide +kernel
theorem dX10_does_130 : decode cX10_does 130 = .ok (.iaload, 1) := by decide +kernel
theorem dX10_does_131 : decode cX10_does 131 = .ok (.iconst 2, 1) := by decide +kernel
theorem dX10_does_132 : decode cX10_does 132 = .ok (.iload_n 3, 1) := by decide +kernel
theorem dX10_does_133 : decode cX10_does 133 = .ok (.imul, 1) := by decide +kernel
theorem dX10_does_134 : decode cX10_does 134 = .ok (.iadd, 1) := by decide +kernel
theorem dX10_does_135 : decode cX10_does 135 = .ok (.iastore, 1) := by decide +kernel
theorem dX10_does_136 : decode cX10_does 136 = .ok (.iconst 1, 1) := by decide +kernel
theorem dX10_does_137 : decode cX10_does 137 = .ok (.ireturn, 1) := by decide +kernel
theorem dX10_does_138 : decode cX10_does 138 = .ok (.aload_n 0, 1) := by decide +kernel
theorem dX10_does_139 : decode cX10_does 139 = .ok (.dup, 1) := by decide +kernel
theorem dX10_does_140 : decode cX10_does 140 = .ok (.getfield 261, 3) := by decide +kernel
theorem dX10_does_143 : decode cX10_does 143 = .ok (.iconst 1, 1) := by decide +kernel
theorem dX10_does_144 : decode cX10_does 144 = .ok (.iadd, 1) := by decide +kernel
theorem dX10_does_145 : decode cX10_does 145 = .ok (.putfield 261, 3) := by decide +kernel
theorem dX10_does_148 : decode cX10_does 148 = .ok (.iconst 1, 1) := by decide +kernel
theorem dX10_does_149 : decode cX10_does 149 = .ok (.ireturn, 1) := by decide +kernel
theorem dX10_does_150 : decode cX10_does 150 = .ok (.aload_n 0, 1) := by decide +kernel
theorem dX10_does_151 : decode cX10_does 151 = .ok (.invokevirtual 317, 3) := by decide +kernel
theorem dX10_does_154 : decode cX10_does 154 = .ok (.iconst 1, 1) := by decide +kernel
theorem dX10_does_155 : decode cX10_does 155 = .ok (.ireturn, 1) := by decide +kernel
set_option maxRecDepth 20000 in
theorem ggX10_doesNext_X10_does : GoodIn wsX10_doesNext wsX10_does := goodIn_r _ [6, 7, 8, 9, 10, 11, 5, 12, 13, 14, 15, 16, 17, 18, 19, 20, 1, 21, 22, 23, 24, 25, 26, 27, 28, 29, 30, 31, 32, 33, 34, 35, 36, 37, 38, 39, 40, 41, 42, 43, 44, 45, 46, 47, 48, 49, 50, 51, 52, 53, 54, 55, 56, 57, 58, 59, 60, 61, 62, 63, 64, 65, 66, 67, 68, 69, 70, 71, 72, 73, 74, 75, 76, 77, 78, 79, 80, 81, 82, 83, 84, 85, 86, 87, 88, 89, 90, 91, 92, 93, 94, 95, 96, 97, 98, 99, 100, 101, 102, 103, 104, 105, 106, 107, 108, 109, 110, 111, 112, 113, 114, 115, 116, 117, 118, 119, 120, 121, 122, 123, 124, 125, 126, 127, 128, 129, 130, 131, 132, 133, 134, 135, 136, 137, 138, 139, 140, 141, 142, 143, 144, 145, 146, 147] (by decide +kernel) (by decide +kernel)
set_option maxRecDepth 20000 in
theorem gX10_doesNext_X10_does : GoodIn wsX10_doesNext (wsV RX10 320 RX10 yX10_does wsX10_does) := goodIn_app (goodIn_of _ (by decide +kernel)) ggX10_doesNext_X10_does
set_option maxRecDepth 20000 in
theorem ggX10_doesNext_X10_deedOf : GoodIn wsX10_doesNext wsX10_deedOf := goodIn_r _ [12, 13, 14, 98, 99, 100, 101, 102, 103, 104, 105, 106, 107, 108, 109, 110, 111, 112, 113, 114, 115, 116, 117, 118, 119, 120, 121, 122, 123, 124, 125, 126, 127, 128, 129, 130, 131, 132, 133, 134, 135, 136, 137, 138, 139, 140, 141, 142, 143, 144, 145, 146, 147] (by decide +kernel) (by decide +kernel)
set_option maxRecDepth 20000 in
theorem gX10_doesNext_X10_deedOf : GoodIn wsX10_doesNext (wsV RX10 255 RX10 yX10_deedOf wsX10_deedOf) := goodIn_app (goodIn_of _ (by decide +kernel)) ggX10_doesNext_X10_deedOf
theorem dX10_doesNext_0 : decode cX10_doesNext 0 = .ok (.aload_n 0, 1) := by decide +kernel
theorem dX10_doesNext_1 : decode cX10_doesNext 1 = .ok (.iload_n 1, 1) := by decide +kernel
theorem dX10_doesNext_2 : decode cX10_doesNext 2 = .ok (.invokevirtual 320, 3) := by decide +kernel
theorem dX10_doesNext_5 : decode cX10_doesNext 5 = .ok (.ifCond .ne 5, 3) := by decide +kernel
theorem dX10_doesNext_8 : decode cX10_doesNext 8 = .ok (.iconst 0, 1) := by decide +kernel
theorem dX10_doesNext_9 : decode cX10_doesNext 9 = .ok (.ireturn, 1) := by decide +kernel
theorem dX10_doesNext_10 : decode cX10_doesNext 10 = .ok (.aload_n 0, 1) := by decide +kernel
theorem dX10_doesNext_11 : decode cX10_doesNext 11 = .ok (.aload_n 0, 1) := by decide +kernel
theorem dX10_doesNext_12 : decode cX10_doesNext 12 = .ok (.iload_n 1, 1) := by decide +kernel
theorem dX10_doesNext_13 : decode cX10_doesNext 13 = .ok (.iconst 0, 1) := by decide +kernel
theorem dX10_doesNext_14 : decode cX10_doesNext 14 = .ok (.invokevirtual 255, 3) := by decide +kernel
theorem dX10_doesNext_17 : decode cX10_doesNext 17 = .ok (.ifCond .ne 12, 3) := by decide +kernel
theorem dX10_doesNext_20 : decode cX10_doesNext 20 = .ok (.aload_n 0, 1) := by decide +kernel
theorem dX10_doesNext_21 : decode cX10_doesNext 21 = .ok (.iload_n 1, 1) := by decide +kernel
theorem dX10_doesNext_22 : decode cX10_doesNext 22 = .ok (.iconst 2, 1) := by decide +kernel
theorem dX10_doesNext_23 : decode cX10_doesNext 23 = .ok (.invokevirtual 255, 3) := by decide +kernel
theorem dX10_doesNext_26 : decode cX10_doesNext 26 = .ok (.goto 4, 3) := by decide +kernel
theorem dX10_doesNext_29 : decode cX10_doesNext 29 = .ok (.iconst (-1), 1) := by decide +kernel
theorem dX10_doesNext_30 : decode cX10_doesNext 30 = .ok (.putfield 273, 3) := by decide +kernel
theorem dX10_doesNext_33 : decode cX10_doesNext 33 = .ok (.iconst 1, 1) := by decide +kernel
theorem dX10_doesNext_34 : decode cX10_doesNext 34 = .ok (.ireturn, 1) := by decide +kernel
set_option maxRecDepth 20000 in
theorem ggX10_play_X10_begin : GoodIn wsX10_play wsX10_begin := goodIn_r _ [5, 6, 7, 8, 9, 10, 11, 12, 13, 14, 15, 16, 17, 18, 19, 20, 4, 21, 22, 23, 24, 25, 26, 27, 28, 29, 30, 106, 107, 108, 109, 110, 111, 112, 113, 114, 115, 116, 117, 118, 119, 120, 121, 122, 123, 124, 125, 126, 127, 128, 129, 130, 131, 132, 133, 134, 135, 136, 137, 138, 139, 140, 141, 142, 143, 144, 145, 146, 147, 148, 149, 150, 151, 152, 153, 154, 155] (by decide +kernel) (by decide +kernel)
set_option maxRecDepth 20000 in
theorem gX10_play_X10_begin : GoodIn wsX10_play (wsV RX10 323 RX10 yX10_begin wsX10_begin) := goodIn_app (goodIn_of _ (by decide +kernel)) ggX10_play_X10_begin
set_option maxRecDepth 20000 in
theorem ggX10_play_X10_doesNext : GoodIn wsX10_play wsX10_doesNext := goodIn_r _ [34, 12, 35, 36, 37, 4, 38, 16, 7, 39, 40, 41, 42, 43, 44, 45, 46, 47, 48, 30, 29, 14, 11, 49, 50, 51, 52, 28, 53, 54, 55, 56, 57, 58, 59, 10, 60, 61, 62, 63, 9, 64, 65, 66, 67, 68, 69, 70, 18, 19, 20, 21, 22, 23, 71, 72, 73, 74, 15, 6, 75, 76, 77, 78, 13, 79, 80, 81, 82, 83, 84, 85, 86, 17, 8, 87, 88, 89, 90, 91, 92, 93, 94, 95, 96, 97, 98, 99, 100, 101, 102, 103, 104, 105, 24, 25, 26, 27, 106, 107, 108, 109, 110, 111, 112, 113, 114, 115, 116, 117, 118, 119, 120, 121, 122, 123, 124, 125, 126, 127, 128, 129, 130, 131, 132, 133, 134, 135, 136, 137, 138, 139, 140, 141, 142, 143, 144, 145, 146, 147, 148, 149, 150, 151, 152, 153, 154, 155] (by decide +kernel) (by decide +kernel)
set_option maxRecDepth 20000 in
theorem gX10_play_X10_doesNext : GoodIn wsX10_play (wsV RX10 326 RX10 yX10_doesNext wsX10_doesNext) := goodIn_app (goodIn_of _ (by decide +kernel)) ggX10_play_X10_doesNext
theorem dX10_play_0 : decode cX10_play 0 = .ok (.aload_n 0, 1) := by decide +kernel
theorem dX10_play_1 : decode cX10_play 1 = .ok (.invokevirtual 323, 3) := by decide +kernel
theorem dX10_play_4 : decode cX10_play 4 = .ok (.iconst 0, 1) := by decide +kernel
theorem dX10_play_5 : decode cX10_play 5 = .ok (.istore_n 2, 1) := by decide +kernel
theorem dX10_play_6 : decode cX10_play 6 = .ok (.iload_n 2, 1) := by decide +kernel
theorem dX10_play_7 : decode cX10_play 7 = .ok (.iload_n 1, 1) := by decide +kernel
theorem dX10_play_8 : decode cX10_play 8 = .ok (.if_icmp .ge 17, 3) := by decide +kernel
theorem dX10_play_11 : decode cX10_play 11 = .ok (.aload_n 0, 1) := by decide +kernel
theorem dX10_play_12 : decode cX10_play 12 = .ok (.iload_n 2, 1) := by decide +kernel
theorem dX10_play_13 : decode cX10_play 13 = .ok (.invokevirtual 326, 3) := by decide +kernel
theorem dX10_play_16 : decode cX10_play 16 = .ok (.ifCond .eq 9, 3) := by decide +kernel
theorem dX10_play_19 : decode cX10_play 19 = .ok (.iinc 2 1, 3) := by decide +kernel
theorem dX10_play_22 : decode cX10_play 22 = .ok (.goto (-16), 3) := by decide +kernel
theorem dX10_play_25 : decode cX10_play 25 = .ok (.iload_n 2, 1) := by decide +kernel
theorem dX10_play_26 : decode cX10_play 26 = .ok (.ireturn, 1) := by decide +kernel
set_option maxRecDepth 20000 in
theorem ggX10_layState_X10_hasBook : GoodIn wsX10_layState wsX10_hasBook := goodIn_r _ [5, 6, 7, 8, 9, 4, 10, 11, 12, 13, 14, 127, 128, 129, 130, 131, 132, 133, 134, 135, 136, 137, 138, 139, 140, 141, 142, 143, 144, 145, 146, 147, 148, 149, 150, 151, 152, 153, 154, 155, 156, 157, 158, 159, 160, 161, 162, 163, 164, 165, 166, 167, 168, 169, 170, 171, 172, 173, 174, 175, 176] (by decide +kernel) (by decide +kernel)
set_option maxRecDepth 20000 in
theorem gX10_layState_X10_hasBook : GoodIn wsX10_layState (wsV RX10 249 RX10 yX10_hasBook wsX10_hasBook) := goodIn_app (goodIn_of _ (by decide +kernel)) ggX10_layState_X10_hasBook
set_option maxRecDepth 20000 in
theorem ggX10_layState_X10_hand : GoodIn wsX10_layState wsX10_hand := goodIn_r _ [18, 19, 20, 21, 22, 7, 8, 9, 4, 10, 11, 12, 13, 14, 23, 24, 25, 26, 27, 127, 128, 129, 130, 131, 132, 133, 134, 135, 136, 137, 138, 139, 140, 141, 142, 143, 144, 145, 146, 147, 148, 149, 150, 151, 152, 153, 154, 155, 156, 157, 158, 159, 160, 161, 162, 163, 164, 165, 166, 167, 168, 169, 170, 171, 172, 173, 174, 175, 176] (by decide +kernel) (by decide +kernel)
set_option maxRecDepth 20000 in
theorem gX10_layState_X10_hand : GoodIn wsX10_layState (wsV RX10 237 RX10 yX10_hand wsX10_hand) := goodIn_app (goodIn_of _ (by decide +kernel)) ggX10_layState_X10_hand
set_option maxRecDepth 20000 in
theorem ggX10_layState_X10_deeds : GoodIn wsX10_layState wsX10_deeds := goodIn_r _ [31, 32, 6, 127, 128, 129, 130, 131, 132, 133, 134, 135, 136, 137, 138, 139, 140, 141, 142, 143, 144, 145, 146, 147, 148, 149, 150, 151, 152, 153, 154, 155, 156, 157, 158, 159, 160, 161, 162, 163, 164, 165, 166, 167, 168, 169, 170, 171, 172, 173, 174, 175, 176] (by decide +kernel) (by decide +kernel)
set_option maxRecDepth 20000 in
theorem gX10_layState_X10_deeds : GoodIn wsX10_layState (wsV RX10 252 RX10 yX10_deeds wsX10_deeds) := goodIn_app (goodIn_of _ (by decide +kernel)) ggX10_layState_X10_deeds
set_option maxRecDepth 20000 in
theorem ggX10_layState_X10_in : GoodIn wsX10_layState wsX10_in := goodIn_r _ [14] (by decide +kernel) (by decide +kernel)
set_option maxRecDepth 20000 in
theorem gX10_layState_X10_in : GoodIn wsX10_layState (va_wsS RX10 92 yX10_in wsX10_in) := goodIn_app (goodIn_of _ (by decide +kernel)) ggX10_layState_X10_in
set_option maxRecDepth 20000 in
theorem ggX10_layState_X10_play : GoodIn wsX10_layState wsX10_play := goodIn_r _ [36, 37, 38, 39, 4, 40, 41, 42, 43, 21, 44, 45, 46, 47, 48, 49, 50, 51, 23, 24, 25, 26, 27, 19, 52, 53, 54, 55, 20, 56, 57, 58, 59, 60, 61, 62, 63, 64, 65, 66, 67, 68, 69, 32, 6, 70, 71, 72, 73, 74, 75, 76, 77, 12, 13, 14, 78, 79, 80, 81, 82, 83, 84, 85, 86, 87, 88, 89, 90, 91, 92, 93, 94, 95, 96, 97, 98, 99, 100, 101, 102, 103, 104, 105, 106, 107, 108, 22, 109, 110, 111, 112, 113, 114, 115, 116, 117, 118, 119, 120, 121, 122, 123, 124, 125, 126, 127, 128, 129, 130, 131, 132, 133, 134, 135, 136, 137, 138, 139, 140, 141, 142, 143, 144, 145, 146, 147, 148, 149, 150, 151, 152, 153, 154, 155, 156, 157, 158, 159, 160, 161, 162, 163, 164, 165, 166, 167, 168, 169, 170, 171, 172, 173, 174, 175, 176] (by decide +kernel) (by decide +kernel)
set_option maxRecDepth 20000 in
theorem gX10_layState_X10_play : GoodIn wsX10_layState (wsV RX10 329 RX10 yX10_play wsX10_play) := goodIn_app (goodIn_of _ (by decide +kernel)) ggX10_layState_X10_play
theorem dX10_layState_0 : decode cX10_layState 0 = .ok (.aload_n 0, 1) := by decide +kernel
theorem dX10_layState_1 : decode cX10_layState 1 = .ok (.iload_n 2, 1) := by decide +kernel
theorem dX10_layState_2 : decode cX10_layState 2 = .ok (.invokevirtual 249, 3) := by decide +kernel
theorem dX10_layState_5 : decode cX10_layState 5 = .ok (.ifCond .eq 36, 3) := by decide +kernel
theorem dX10_layState_8 : decode cX10_layState 8 = .ok (.aload_n 0, 1) := by decide +kernel
theorem dX10_layState_9 : decode cX10_layState 9 = .ok (.iload_n 1, 1) := by decide +kernel
theorem dX10_layState_10 : decode cX10_layState 10 = .ok (.invokevirtual 237, 3) := by decide +kernel
theorem dX10_layState_13 : decode cX10_layState 13 = .ok (.ifCond .eq 28, 3) := by decide +kernel
theorem dX10_layState_16 : decode cX10_layState 16 = .ok (.iload_n 3, 1) := by decide +kernel
theorem dX10_layState_17 : decode cX10_layState 17 = .ok (.iconst 0, 1) := by decide +kernel
theorem dX10_layState_18 : decode cX10_layState 18 = .ok (.aload_n 0, 1) := by decide +kernel
theorem dX10_layState_19 : decode cX10_layState 19 = .ok (.invokevirtual 252, 3) := by decide +kernel
theorem dX10_layState_22 : decode cX10_layState 22 = .ok (.invokestatic 92, 3) := by decide +kernel
theorem dX10_layState_25 : decode cX10_layState 25 = .ok (.ifCond .eq 16, 3) := by decide +kernel
theorem dX10_layState_28 : decode cX10_layState 28 = .ok (.aload_n 0, 1) := by decide +kernel
theorem dX10_layState_29 : decode cX10_layState 29 = .ok (.iload_n 3, 1) := by decide +kernel
theorem dX10_layState_30 : decode cX10_layState 30 = .ok (.invokevirtual 329, 3) := by decide +kernel
theorem dX10_layState_33 : decode cX10_layState 33 = .ok (.iload_n 3, 1) := by decide +kernel
theorem dX10_layState_34 : decode cX10_layState 34 = .ok (.if_icmp .ne 7, 3) := by decide +kernel
theorem dX10_layState_37 : decode cX10_layState 37 = .ok (.iconst 1, 1) := by decide +kernel
theorem dX10_layState_38 : decode cX10_layState 38 = .ok (.goto 4, 3) := by decide +kernel
theorem dX10_layState_41 : decode cX10_layState 41 = .ok (.iconst 0, 1) := by decide +kernel
theorem dX10_layState_42 : decode cX10_layState 42 = .ok (.ireturn, 1) := by decide +kernel
set_option maxRecDepth 20000 in
theorem ggX10_stop_X10_hasBook : GoodIn wsX10_stop wsX10_hasBook := goodIn_r _ [6, 7, 8, 9, 10, 5, 11, 12, 13, 14, 15, 128, 129, 130, 131, 132, 133, 134, 135, 136, 137, 138, 139, 140, 141, 142, 143, 144, 145, 146, 147, 148, 149, 150, 151, 152, 153, 154, 155, 156, 157, 158, 159, 160, 161, 162, 163, 164, 165, 166, 167, 168, 169, 170, 171, 172, 173, 174, 175, 176, 177] (by decide +kernel) (by decide +kernel)
set_option maxRecDepth 20000 in
theorem gX10_stop_X10_hasBook : GoodIn wsX10_stop (wsV RX10 249 RX10 yX10_hasBook wsX10_hasBook) := goodIn_app (goodIn_of _ (by decide +kernel)) ggX10_stop_X10_hasBook
set_option maxRecDepth 20000 in
theorem ggX10_stop_X10_hand : GoodIn wsX10_stop wsX10_hand := goodIn_r _ [19, 20, 21, 22, 23, 8, 9, 10, 5, 11, 12, 13, 14, 15, 24, 25, 26, 27, 28, 128, 129, 130, 131, 132, 133, 134, 135, 136, 137, 138, 139, 140, 141, 142, 143, 144, 145, 146, 147, 148, 149, 150, 151, 152, 153, 154, 155, 156, 157, 158, 159, 160, 161, 162, 163, 164, 165, 166, 167, 168, 169, 170, 171, 172, 173, 174, 175, 176, 177] (by decide +kernel) (by decide +kernel)
set_option maxRecDepth 20000 in
theorem gX10_stop_X10_hand : GoodIn wsX10_stop (wsV RX10 237 RX10 yX10_hand wsX10_hand) := goodIn_app (goodIn_of _ (by decide +kernel)) ggX10_stop_X10_hand
set_option maxRecDepth 20000 in
theorem ggX10_stop_X10_deeds : GoodIn wsX10_stop wsX10_deeds := goodIn_r _ [32, 33, 7, 128, 129, 130, 131, 132, 133, 134, 135, 136, 137, 138, 139, 140, 141, 142, 143, 144, 145, 146, 147, 148, 149, 150, 151, 152, 153, 154, 155, 156, 157, 158, 159, 160, 161, 162, 163, 164, 165, 166, 167, 168, 169, 170, 171, 172, 173, 174, 175, 176, 177] (by decide +kernel) (by decide +kernel)
set_option maxRecDepth 20000 in
theorem gX10_stop_X10_deeds : GoodIn wsX10_stop (wsV RX10 252 RX10 yX10_deeds wsX10_deeds) := goodIn_app (goodIn_of _ (by decide +kernel)) ggX10_stop_X10_deeds
set_option maxRecDepth 20000 in
theorem ggX10_stop_X10_play : GoodIn wsX10_stop wsX10_play := goodIn_r _ [37, 38, 39, 40, 5, 41, 42, 43, 44, 22, 45, 46, 47, 48, 49, 50, 51, 52, 24, 25, 26, 27, 28, 20, 53, 54, 55, 56, 21, 57, 58, 59, 60, 61, 62, 63, 64, 65, 66, 67, 68, 69, 70, 33, 7, 71, 72, 73, 74, 75, 76, 77, 78, 13, 14, 15, 79, 80, 81, 82, 83, 84, 85, 86, 87, 88, 89, 90, 91, 92, 93, 94, 95, 96, 97, 98, 99, 100, 101, 102, 103, 104, 105, 106, 107, 108, 109, 23, 110, 111, 112, 113, 114, 115, 116, 117, 118, 119, 120, 121, 122, 123, 124, 125, 126, 127, 128, 129, 130, 131, 132, 133, 134, 135, 136, 137, 138, 139, 140, 141, 142, 143, 144, 145, 146, 147, 148, 149, 150, 151, 152, 153, 154, 155, 156, 157, 158, 159, 160, 161, 162, 163, 164, 165, 166, 167, 168, 169, 170, 171, 172, 173, 174, 175, 176, 177] (by decide +kernel) (by decide +kernel)
set_option maxRecDepth 20000 in
theorem gX10_stop_X10_play : GoodIn wsX10_stop (wsV RX10 329 RX10 yX10_play wsX10_play) := goodIn_app (goodIn_of _ (by decide +kernel)) ggX10_stop_X10_play
theorem dX10_stop_0 : decode cX10_stop 0 = .ok (.aload_n 0, 1) := by decide +kernel
theorem dX10_stop_1 : decode cX10_stop 1 = .ok (.iconst 0, 1) := by decide +kernel
theorem dX10_stop_2 : decode cX10_stop 2 = .ok (.putfield 80, 3) := by decide +kernel
theorem dX10_stop_5 : decode cX10_stop 5 = .ok (.aload_n 0, 1) := by decide +kernel
theorem dX10_stop_6 : decode cX10_stop 6 = .ok (.iload_n 2, 1) := by decide +kernel
theorem dX10_stop_7 : decode cX10_stop 7 = .ok (.invokevirtual 249, 3) := by decide +kernel
theorem dX10_stop_10 : decode cX10_stop 10 = .ok (.ifCond .eq 22, 3) := by decide +kernel
theorem dX10_stop_13 : decode cX10_stop 13 = .ok (.aload_n 0, 1) := by decide +kernel
theorem dX10_stop_14 : decode cX10_stop 14 = .ok (.iload_n 1, 1) := by decide +kernel
theorem dX10_stop_15 : decode cX10_stop 15 = .ok (.invokevirtual 237, 3) := by decide +kernel
theorem dX10_stop_18 : decode cX10_stop 18 = .ok (.ifCond .eq 14, 3) := by decide +kernel
theorem dX10_stop_21 : decode cX10_stop 21 = .ok (.aload_n 0, 1) := by decide +kernel
theorem dX10_stop_22 : decode cX10_stop 22 = .ok (.aload_n 0, 1) := by decide +kernel
theorem dX10_stop_23 : decode cX10_stop 23 = .ok (.invokevirtual 252, 3) := by decide +kernel
theorem dX10_stop_26 : decode cX10_stop 26 = .ok (.invokevirtual 329, 3) := by decide +kernel
theorem dX10_stop_29 : decode cX10_stop 29 = .ok (.goto 4, 3) := by decide +kernel
theorem dX10_stop_32 : decode cX10_stop 32 = .ok (.iconst (-1), 1) := by decide +kernel
theorem dX10_stop_33 : decode cX10_stop 33 = .ok (.ireturn, 1) := by decide +kernel
set_option maxRecDepth 20000 in
theorem ggX10_allSaved_X10_has : GoodIn wsX10_allSaved wsX10_has := goodIn_r _ [7] (by decide +kernel) (by decide +kernel)
set_option maxRecDepth 20000 in
theorem gX10_allSaved_X10_has : GoodIn wsX10_allSaved (va_wsS RX10 84 yX10_has wsX10_has) := goodIn_app (goodIn_of _ (by decide +kernel)) ggX10_allSaved_X10_has
theorem dX10_allSaved_0 : decode cX10_allSaved 0 = .ok (.iconst 0, 1) := by decide +kernel
theorem dX10_allSaved_1 : decode cX10_allSaved 1 = .ok (.istore_n 1, 1) := by decide +kernel
theorem dX10_allSaved_2 : decode cX10_allSaved 2 = .ok (.iconst 0, 1) := by decide +kernel
theorem dX10_allSaved_3 : decode cX10_allSaved 3 = .ok (.istore_n 2, 1) := by decide +kernel
theorem dX10_allSaved_4 : decode cX10_allSaved 4 = .ok (.iload_n 2, 1) := by decide +kernel
theorem dX10_allSaved_5 : decode cX10_allSaved 5 = .ok (.aload_n 0, 1) := by decide +kernel
theorem dX10_allSaved_6 : decode cX10_allSaved 6 = .ok (.getfield 231, 3) := by decide +kernel
theorem dX10_allSaved_9 : decode cX10_allSaved 9 = .ok (.if_icmp .ge 33, 3) := by decide +kernel
theorem dX10_allSaved_12 : decode cX10_allSaved 12 = .ok (.iload_n 1, 1) := by decide +kernel
theorem dX10_allSaved_13 : decode cX10_allSaved 13 = .ok (.aload_n 0, 1) := by decide +kernel
theorem dX10_allSaved_14 : decode cX10_allSaved 14 = .ok (.getfield 267, 3) := by decide +kernel
theorem dX10_allSaved_17 : decode cX10_allSaved 17 = .ok (.iload_n 2, 1) := by decide +kernel
theorem dX10_allSaved_18 : decode cX10_allSaved 18 = .ok (.invokestatic 84, 3) := by decide +kernel
theorem dX10_allSaved_21 : decode cX10_allSaved 21 = .ok (.ifCond .eq 12, 3) := by decide +kernel
theorem dX10_allSaved_24 : decode cX10_allSaved 24 = .ok (.aload_n 0, 1) := by decide +kernel
theorem dX10_allSaved_25 : decode cX10_allSaved 25 = .ok (.getfield 50, 3) := by decide +kernel
theorem dX10_allSaved_28 : decode cX10_allSaved 28 = .ok (.iload_n 2, 1) := by decide +kernel
theorem dX10_allSaved_29 : decode cX10_allSaved 29 = .ok (.iaload, 1) := by decide +kernel
theorem dX10_allSaved_30 : decode cX10_allSaved 30 = .ok (.goto 4, 3) := by decide +kernel
theorem dX10_allSaved_33 : decode cX10_allSaved 33 = .ok (.iconst 0, 1) := by decide +kernel
theorem dX10_allSaved_34 : decode cX10_allSaved 34 = .ok (.iadd, 1) := by decide +kernel
theorem dX10_allSaved_35 : decode cX10_allSaved 35 = .ok (.istore_n 1, 1) := by decide +kernel
theorem dX10_allSaved_36 : decode cX10_allSaved 36 = .ok (.iinc 2 1, 3) := by decide +kernel
theorem dX10_allSaved_39 : decode cX10_allSaved 39 = .ok (.goto (-35), 3) := by decide +kernel
theorem dX10_allSaved_42 : decode cX10_allSaved 42 = .ok (.iload_n 1, 1) := by decide +kernel
theorem dX10_allSaved_43 : decode cX10_allSaved 43 = .ok (.ireturn, 1) := by decide +kernel
set_option maxRecDepth 20000 in
theorem ggX10_state_X10_layState : GoodIn wsX10_state wsX10_layState := goodIn_r _ [12, 13, 14, 15, 11, 16, 17, 18, 19, 20, 21, 22, 23, 24, 25, 26, 27, 28, 29, 30, 31, 32, 33, 34, 35, 36, 37, 38, 39, 40, 41, 42, 43, 44, 45, 46, 47, 48, 49, 50, 51, 2, 3, 4, 5, 7, 52, 53, 54, 55, 56, 57, 58, 59, 60, 61, 62, 6, 63, 64, 65, 66, 67, 68, 69, 70, 71, 72, 73, 74, 75, 76, 77, 78, 79, 80, 81, 82, 83, 84, 85, 86, 87, 88, 89, 90, 91, 92, 93, 94, 95, 96, 97, 98, 99, 100, 101, 102, 103, 104, 105, 106, 107, 108, 109, 110, 111, 112, 113, 114, 115, 116, 117, 118, 119, 120, 121, 122, 123, 124, 125, 126, 127, 128, 129, 130, 131, 136, 137, 138, 139, 140, 141, 142, 143, 144, 145, 146, 147, 148, 149, 150, 151, 152, 153, 154, 155, 156, 157, 158, 159, 160, 161, 162, 163, 164, 165, 166, 167, 168, 169, 170, 171, 172, 173, 174, 175, 176, 177, 178, 179, 180, 181, 182, 183, 184, 185] (by decide +kernel) (by decide +kernel)
set_option maxRecDepth 20000 in
theorem gX10_state_X10_layState : GoodIn wsX10_state (wsV RX10 332 RX10 yX10_layState wsX10_layState) := goodIn_app (goodIn_of _ (by decide +kernel)) ggX10_state_X10_layState
set_option maxRecDepth 20000 in
theorem ggX10_state_X10_allSaved : GoodIn wsX10_state wsX10_allSaved := goodIn_r _ [135, 32, 5, 55, 91, 92, 11, 93, 136, 137, 138, 139, 140, 141, 142, 143, 144, 145, 146, 147, 148, 149, 150, 151, 152, 153, 154, 155, 156, 157, 158, 159, 160, 161, 162, 163, 164, 165, 166, 167, 168, 169, 170, 171, 172, 173, 174, 175, 176, 177, 178, 179, 180, 181, 182, 183, 184, 185] (by decide +kernel) (by decide +kernel)
set_option maxRecDepth 20000 in
theorem gX10_state_X10_allSaved : GoodIn wsX10_state (wsV RX10 335 RX10 yX10_allSaved wsX10_allSaved) := goodIn_app (goodIn_of _ (by decide +kernel)) ggX10_state_X10_allSaved
theorem dX10_state_0 : decode cX10_state 0 = .ok (.aload_n 0, 1) := by decide +kernel
theorem dX10_state_1 : decode cX10_state 1 = .ok (.iconst 0, 1) := by decide +kernel
theorem dX10_state_2 : decode cX10_state 2 = .ok (.putfield 80, 3) := by decide +kernel
theorem dX10_state_5 : decode cX10_state 5 = .ok (.aload_n 0, 1) := by decide +kernel
theorem dX10_state_6 : decode cX10_state 6 = .ok (.iload_n 1, 1) := by decide +kernel
theorem dX10_state_7 : decode cX10_state 7 = .ok (.iload_n 2, 1) := by decide +kernel
theorem dX10_state_8 : decode cX10_state 8 = .ok (.iload_n 3, 1) := by decide +kernel
theorem dX10_state_9 : decode cX10_state 9 = .ok (.invokevirtual 332, 3) := by decide +kernel
theorem dX10_state_12 : decode cX10_state 12 = .ok (.ifCond .ne 6, 3) := by decide +kernel
theorem dX10_state_15 : decode cX10_state 15 = .ok (.bipush (-2), 2) := by decide +kernel
theorem dX10_state_17 : decode cX10_state 17 = .ok (.ireturn, 1) := by decide +kernel
theorem dX10_state_18 : decode cX10_state 18 = .ok (.iload 4, 2) := by decide +kernel
theorem dX10_state_20 : decode cX10_state 20 = .ok (.tableswitch 79 0 6 #[44, 49, 54, 59, 64, 69, 74], 44) := by decide +kernel
theorem dX10_state_64 : decode cX10_state 64 = .ok (.aload_n 0, 1) := by decide +kernel
theorem dX10_state_65 : decode cX10_state 65 = .ok (.getfield 258, 3) := by decide +kernel
theorem dX10_state_68 : decode cX10_state 68 = .ok (.ireturn, 1) := by decide +kernel
theorem dX10_state_69 : decode cX10_state 69 = .ok (.aload_n 0, 1) := by decide +kernel
theorem dX10_state_70 : decode cX10_state 70 = .ok (.getfield 261, 3) := by decide +kernel
theorem dX10_state_73 : decode cX10_state 73 = .ok (.ireturn, 1) := by decide +kernel
theorem dX10_state_74 : decode cX10_state 74 = .ok (.aload_n 0, 1) := by decide +kernel
theorem dX10_state_75 : decode cX10_state 75 = .ok (.getfield 264, 3) := by decide +kernel
theorem dX10_state_78 : decode cX10_state 78 = .ok (.ireturn, 1) := by decide +kernel
theorem dX10_state_79 : decode cX10_state 79 = .ok (.aload_n 0, 1) := by decide +kernel
theorem dX10_state_80 : decode cX10_state 80 = .ok (.getfield 267, 3) := by decide +kernel
theorem dX10_state_83 : decode cX10_state 83 = .ok (.ireturn, 1) := by decide +kernel
theorem dX10_state_84 : decode cX10_state 84 = .ok (.aload_n 0, 1) := by decide +kernel
theorem dX10_state_85 : decode cX10_state 85 = .ok (.getfield 279, 3) := by decide +kernel
theorem dX10_state_88 : decode cX10_state 88 = .ok (.ireturn, 1) := by decide +kernel
theorem dX10_state_89 : decode cX10_state 89 = .ok (.aload_n 0, 1) := by decide +kernel
theorem dX10_state_90 : decode cX10_state 90 = .ok (.invokevirtual 335, 3) := by decide +kernel
theorem dX10_state_93 : decode cX10_state 93 = .ok (.ireturn, 1) := by decide +kernel
theorem dX10_state_94 : decode cX10_state 94 = .ok (.aload_n 0, 1) := by decide +kernel
theorem dX10_state_95 : decode cX10_state 95 = .ok (.getfield 270, 3) := by decide +kernel
theorem dX10_state_98 : decode cX10_state 98 = .ok (.ireturn, 1) := by decide +kernel
theorem dX10_state_99 : decode cX10_state 99 = .ok (.bipush (-2), 2) := by decide +kernel
theorem dX10_state_101 : decode cX10_state 101 = .ok (.ireturn, 1) := by decide +kernel
set_option maxRecDepth 20000 in
theorem ggX10_palm_X10_layState : GoodIn wsX10_palm wsX10_layState := goodIn_r _ [11, 12, 13, 14, 10, 15, 16, 17, 18, 19, 20, 21, 22, 23, 24, 25, 26, 27, 28, 29, 2, 5, 30, 31, 32, 33, 34, 35, 36, 37, 38, 39, 40, 41, 42, 43, 44, 45, 46, 47, 48, 49, 50, 51, 52, 53, 54, 3, 6, 55, 56, 57, 58, 59, 60, 61, 4, 62, 63, 64, 65, 66, 67, 68, 69, 70, 71, 72, 73, 74, 75, 76, 77, 78, 79, 80, 81, 82, 83, 84, 85, 86, 87, 88, 89, 90, 91, 92, 93, 94, 95, 96, 97, 98, 99, 100, 101, 102, 103, 104, 105, 106, 107, 108, 109, 110, 111, 112, 113, 114, 115, 116, 117, 118, 119, 120, 121, 122, 123, 124, 125, 126, 127, 128, 129, 130, 131, 132, 133, 134, 135, 136, 137, 138, 139, 140, 141, 142, 143, 144, 145, 146, 147, 148, 149, 150, 151, 152, 153, 154, 155, 156, 157, 158, 159, 160, 161, 162, 163, 164, 165, 166, 167, 168, 169, 170, 171, 172, 173, 174, 175, 176, 177, 178, 179, 180, 181] (by decide +kernel) (by decide +kernel)
set_option maxRecDepth 20000 in
theorem gX10_palm_X10_layState : GoodIn wsX10_palm (wsV RX10 332 RX10 yX10_layState wsX10_layState) := goodIn_app (goodIn_of _ (by decide +kernel)) ggX10_palm_X10_layState
set_option maxRecDepth 20000 in
theorem ggX10_palm_X10_isPalm : GoodIn wsX10_palm wsX10_isPalm := goodIn_r _ [82, 2, 22, 23, 10, 24, 132, 133, 134, 135, 136, 137, 138, 139, 140, 141, 142, 143, 144, 145, 146, 147, 148, 149, 150, 151, 152, 153, 154, 155, 156, 157, 158, 159, 160, 161, 162, 163, 164, 165, 166, 167, 168, 169, 170, 171, 172, 173, 174, 175, 176, 177, 178, 179, 180, 181] (by decide +kernel) (by decide +kernel)
set_option maxRecDepth 20000 in
theorem gX10_palm_X10_isPalm : GoodIn wsX10_palm (wsV RX10 240 RX10 yX10_isPalm wsX10_isPalm) := goodIn_app (goodIn_of _ (by decide +kernel)) ggX10_palm_X10_isPalm
set_option maxRecDepth 20000 in
theorem ggX10_palm_X10_in : GoodIn wsX10_palm wsX10_in := goodIn_r _ [24] (by decide +kernel) (by decide +kernel)
set_option maxRecDepth 20000 in
theorem gX10_palm_X10_in : GoodIn wsX10_palm (va_wsS RX10 92 yX10_in wsX10_in) := goodIn_app (goodIn_of _ (by decide +kernel)) ggX10_palm_X10_in
theorem dX10_palm_0 : decode cX10_palm 0 = .ok (.aload_n 0, 1) := by decide +kernel
theorem dX10_palm_1 : decode cX10_palm 1 = .ok (.iconst 0, 1) := by decide +kernel
theorem dX10_palm_2 : decode cX10_palm 2 = .ok (.putfield 80, 3) := by decide +kernel
theorem dX10_palm_5 : decode cX10_palm 5 = .ok (.aload_n 0, 1) := by decide +kernel
theorem dX10_palm_6 : decode cX10_palm 6 = .ok (.iload_n 1, 1) := by decide +kernel
theorem dX10_palm_7 : decode cX10_palm 7 = .ok (.iload_n 2, 1) := by decide +kernel
theorem dX10_palm_8 : decode cX10_palm 8 = .ok (.iload_n 3, 1) := by decide +kernel
theorem dX10_palm_9 : decode cX10_palm 9 = .ok (.invokevirtual 332, 3) := by decide +kernel
theorem dX10_palm_12 : decode cX10_palm 12 = .ok (.ifCond .eq 12, 3) := by decide +kernel
theorem dX10_palm_15 : decode cX10_palm 15 = .ok (.aload_n 0, 1) := by decide +kernel
theorem dX10_palm_16 : decode cX10_palm 16 = .ok (.iload 4, 2) := by decide +kernel
theorem dX10_palm_18 : decode cX10_palm 18 = .ok (.invokevirtual 240, 3) := by decide +kernel
theorem dX10_palm_21 : decode cX10_palm 21 = .ok (.ifCond .ne 6, 3) := by decide +kernel
theorem dX10_palm_24 : decode cX10_palm 24 = .ok (.bipush (-2), 2) := by decide +kernel
theorem dX10_palm_26 : decode cX10_palm 26 = .ok (.ireturn, 1) := by decide +kernel
theorem dX10_palm_27 : decode cX10_palm 27 = .ok (.iload 5, 2) := by decide +kernel
theorem dX10_palm_29 : decode cX10_palm 29 = .ok (.bipush 10, 2) := by decide +kernel
theorem dX10_palm_31 : decode cX10_palm 31 = .ok (.bipush 9, 2) := by decide +kernel
theorem dX10_palm_33 : decode cX10_palm 33 = .ok (.aload_n 0, 1) := by decide +kernel
theorem dX10_palm_34 : decode cX10_palm 34 = .ok (.getfield 228, 3) := by decide +kernel
theorem dX10_palm_37 : decode cX10_palm 37 = .ok (.iadd, 1) := by decide +kernel
theorem dX10_palm_38 : decode cX10_palm 38 = .ok (.invokestatic 92, 3) := by decide +kernel
theorem dX10_palm_41 : decode cX10_palm 41 = .ok (.ifCond .eq 19, 3) := by decide +kernel
theorem dX10_palm_44 : decode cX10_palm 44 = .ok (.aload_n 0, 1) := by decide +kernel
theorem dX10_palm_45 : decode cX10_palm 45 = .ok (.getfield 44, 3) := by decide +kernel
theorem dX10_palm_48 : decode cX10_palm 48 = .ok (.iconst 5, 1) := by decide +kernel
theorem dX10_palm_49 : decode cX10_palm 49 = .ok (.iload 4, 2) := by decide +kernel
theorem dX10_palm_51 : decode cX10_palm 51 = .ok (.imul, 1) := by decide +kernel
theorem dX10_palm_52 : decode cX10_palm 52 = .ok (.iload 5, 2) := by decide +kernel
theorem dX10_palm_54 : decode cX10_palm 54 = .ok (.iadd, 1) := by decide +kernel
theorem dX10_palm_55 : decode cX10_palm 55 = .ok (.bipush 10, 2) := by decide +kernel
theorem dX10_palm_57 : decode cX10_palm 57 = .ok (.isub, 1) := by decide +kernel
theorem dX10_palm_58 : decode cX10_palm 58 = .ok (.iaload, 1) := by decide +kernel
theorem dX10_palm_59 : decode cX10_palm 59 = .ok (.ireturn, 1) := by decide +kernel
theorem dX10_palm_60 : decode cX10_palm 60 = .ok (.iload 5, 2) := by decide +kernel
theorem dX10_palm_62 : decode cX10_palm 62 = .ok (.ifCond .ne 13, 3) := by decide +kernel
theorem dX10_palm_65 : decode cX10_palm 65 = .ok (.aload_n 0, 1) := by decide +kernel
theorem dX10_palm_66 : decode cX10_palm 66 = .ok (.getfield 41, 3) := by decide +kernel
theorem dX10_palm_69 : decode cX10_palm 69 = .ok (.iload 4, 2) := by decide +kernel
theorem dX10_palm_71 : decode cX10_palm 71 = .ok (.iaload, 1) := by decide +kernel
theorem dX10_palm_72 : decode cX10_palm 72 = .ok (.goto 41, 3) := by decide +kernel
theorem dX10_palm_75 : decode cX10_palm 75 = .ok (.iload 5, 2) := by decide +kernel
theorem dX10_palm_77 : decode cX10_palm 77 = .ok (.bipush 20, 2) := by decide +kernel
theorem dX10_palm_79 : decode cX10_palm 79 = .ok (.bipush 19, 2) := by decide +kernel
theorem dX10_palm_81 : decode cX10_palm 81 = .ok (.aload_n 0, 1) := by decide +kernel
theorem dX10_palm_82 : decode cX10_palm 82 = .ok (.getfield 231, 3) := by decide +kernel
theorem dX10_palm_85 : decode cX10_palm 85 = .ok (.iadd, 1) := by decide +kernel
theorem dX10_palm_86 : decode cX10_palm 86 = .ok (.invokestatic 92, 3) := by decide +kernel
theorem dX10_palm_89 : decode cX10_palm 89 = .ok (.ifCond .eq 22, 3) := by decide +kernel
theorem dX10_palm_92 : decode cX10_palm 92 = .ok (.aload_n 0, 1) := by decide +kernel
theorem dX10_palm_93 : decode cX10_palm 93 = .ok (.getfield 47, 3) := by decide +kernel
theorem dX10_palm_96 : decode cX10_palm 96 = .ok (.bipush 6, 2) := by decide +kernel
theorem dX10_palm_98 : decode cX10_palm 98 = .ok (.iload 4, 2) := by decide +kernel
theorem dX10_palm_100 : decode cX10_palm 100 = .ok (.imul, 1) := by decide +kernel
theorem dX10_palm_101 : decode cX10_palm 101 = .ok (.iload 5, 2) := by decide +kernel
theorem dX10_palm_103 : decode cX10_palm 103 = .ok (.iadd, 1) := by decide +kernel
theorem dX10_palm_104 : decode cX10_palm 104 = .ok (.bipush 20, 2) := by decide +kernel
theorem dX10_palm_106 : decode cX10_palm 106 = .ok (.isub, 1) := by decide +kernel
theorem dX10_palm_107 : decode cX10_palm 107 = .ok (.iaload, 1) := by decide +kernel
theorem dX10_palm_108 : decode cX10_palm 108 = .ok (.goto 5, 3) := by decide +kernel
theorem dX10_palm_111 : decode cX10_palm 111 = .ok (.bipush (-2), 2) := by decide +kernel
theorem dX10_palm_113 : decode cX10_palm 113 = .ok (.ireturn, 1) := by decide +kernel
set_option maxRecDepth 20000 in
theorem ggX10_needOf_X10_has : GoodIn wsX10_needOf wsX10_has := goodIn_r _ [6] (by decide +kernel) (by decide +kernel)
set_option maxRecDepth 20000 in
theorem gX10_needOf_X10_has : GoodIn wsX10_needOf (va_wsS RX10 84 yX10_has wsX10_has) := goodIn_app (goodIn_of _ (by decide +kernel)) ggX10_needOf_X10_has
set_option maxRecDepth 20000 in
theorem ggX10_needOf_X10_eats : GoodIn wsX10_needOf wsX10_eats := goodIn_r _ [10, 11, 12, 13, 14, 5, 15, 16, 17, 18, 19, 20, 21, 25, 26, 27, 28, 29, 30, 31, 32, 33, 34, 35, 36, 37, 38, 39, 40, 41, 42, 43, 44, 45, 46, 47, 48, 49, 50, 51, 52, 53, 54, 55, 56, 57, 58, 59, 60, 61, 62, 63, 64, 65, 66, 67, 68, 69, 70, 71, 72, 73, 74] (by decide +kernel) (by decide +kernel)
set_option maxRecDepth 20000 in
theorem gX10_needOf_X10_eats : GoodIn wsX10_needOf (wsV RX10 294 RX10 yX10_eats wsX10_eats) := goodIn_app (goodIn_of _ (by decide +kernel)) ggX10_needOf_X10_eats
set_option maxRecDepth 20000 in
theorem ggX10_needOf_X10_greater : GoodIn wsX10_needOf wsX10_greater := goodIn_r _ [24] (by decide +kernel) (by decide +kernel)
set_option maxRecDepth 20000 in
theorem gX10_needOf_X10_greater : GoodIn wsX10_needOf (va_wsS RX10 338 yX10_greater wsX10_greater) := goodIn_app (goodIn_of _ (by decide +kernel)) ggX10_needOf_X10_greater
theorem dX10_needOf_0 : decode cX10_needOf 0 = .ok (.aload_n 0, 1) := by decide +kernel
theorem dX10_needOf_1 : decode cX10_needOf 1 = .ok (.getfield 267, 3) := by decide +kernel
theorem dX10_needOf_4 : decode cX10_needOf 4 = .ok (.iload_n 1, 1) := by decide +kernel
theorem dX10_needOf_5 : decode cX10_needOf 5 = .ok (.invokestatic 84, 3) := by decide +kernel
theorem dX10_needOf_8 : decode cX10_needOf 8 = .ok (.ifCond .eq 23, 3) := by decide +kernel
theorem dX10_needOf_11 : decode cX10_needOf 11 = .ok (.iconst 0, 1) := by decide +kernel
theorem dX10_needOf_12 : decode cX10_needOf 12 = .ok (.aload_n 0, 1) := by decide +kernel
theorem dX10_needOf_13 : decode cX10_needOf 13 = .ok (.iload_n 1, 1) := by decide +kernel
theorem dX10_needOf_14 : decode cX10_needOf 14 = .ok (.iconst 0, 1) := by decide +kernel
theorem dX10_needOf_15 : decode cX10_needOf 15 = .ok (.invokevirtual 294, 3) := by decide +kernel
theorem dX10_needOf_18 : decode cX10_needOf 18 = .ok (.aload_n 0, 1) := by decide +kernel
theorem dX10_needOf_19 : decode cX10_needOf 19 = .ok (.getfield 50, 3) := by decide +kernel
theorem dX10_needOf_22 : decode cX10_needOf 22 = .ok (.iload_n 1, 1) := by decide +kernel
theorem dX10_needOf_23 : decode cX10_needOf 23 = .ok (.iaload, 1) := by decide +kernel
theorem dX10_needOf_24 : decode cX10_needOf 24 = .ok (.isub, 1) := by decide +kernel
theorem dX10_needOf_25 : decode cX10_needOf 25 = .ok (.invokestatic 338, 3) := by decide +kernel
theorem dX10_needOf_28 : decode cX10_needOf 28 = .ok (.goto 4, 3) := by decide +kernel
theorem dX10_needOf_31 : decode cX10_needOf 31 = .ok (.iconst 0, 1) := by decide +kernel
theorem dX10_needOf_32 : decode cX10_needOf 32 = .ok (.ireturn, 1) := by decide +kernel
set_option maxRecDepth 20000 in
theorem ggX10_star_X10_lesser : GoodIn wsX10_star wsX10_lesser := goodIn_r _ [7] (by decide +kernel) (by decide +kernel)
set_option maxRecDepth 20000 in
theorem gX10_star_X10_lesser : GoodIn wsX10_star (va_wsS RX10 170 yX10_lesser wsX10_lesser) := goodIn_app (goodIn_of _ (by decide +kernel)) ggX10_star_X10_lesser
set_option maxRecDepth 20000 in
theorem ggX10_star_X10_eats : GoodIn wsX10_star wsX10_eats := goodIn_r _ [11, 12, 13, 14, 15, 6, 16, 17, 18, 19, 20, 21, 22, 23, 24, 25, 26, 27, 28, 29, 30, 31, 32, 33, 34, 35, 36, 37, 38, 39, 40, 41, 42, 43, 44, 45, 46, 47, 48, 49, 50, 51, 52, 53, 54, 55, 56, 57, 58, 59, 60, 61, 62, 63, 64, 65, 66, 67, 68, 69, 70, 71, 72] (by decide +kernel) (by decide +kernel)
set_option maxRecDepth 20000 in
theorem gX10_star_X10_eats : GoodIn wsX10_star (wsV RX10 294 RX10 yX10_eats wsX10_eats) := goodIn_app (goodIn_of _ (by decide +kernel)) ggX10_star_X10_eats
theorem dX10_star_0 : decode cX10_star 0 = .ok (.ldc_w 306, 3) := by decide +kernel
theorem dX10_star_3 : decode cX10_star 3 = .ok (.aload_n 0, 1) := by decide +kernel
theorem dX10_star_4 : decode cX10_star 4 = .ok (.getfield 50, 3) := by decide +kernel
theorem dX10_star_7 : decode cX10_star 7 = .ok (.iload_n 1, 1) := by decide +kernel
theorem dX10_star_8 : decode cX10_star 8 = .ok (.iaload, 1) := by decide +kernel
theorem dX10_star_9 : decode cX10_star 9 = .ok (.invokestatic 170, 3) := by decide +kernel
theorem dX10_star_12 : decode cX10_star 12 = .ok (.istore_n 2, 1) := by decide +kernel
theorem dX10_star_13 : decode cX10_star 13 = .ok (.aload_n 0, 1) := by decide +kernel
theorem dX10_star_14 : decode cX10_star 14 = .ok (.iload_n 1, 1) := by decide +kernel
theorem dX10_star_15 : decode cX10_star 15 = .ok (.iconst 0, 1) := by decide +kernel
theorem dX10_star_16 : decode cX10_star 16 = .ok (.invokevirtual 294, 3) := by decide +kernel
theorem dX10_star_19 : decode cX10_star 19 = .ok (.istore_n 3, 1) := by decide +kernel
theorem dX10_star_20 : decode cX10_star 20 = .ok (.iconst 0, 1) := by decide +kernel
theorem dX10_star_21 : decode cX10_star 21 = .ok (.istore 4, 2) := by decide +kernel
theorem dX10_star_23 : decode cX10_star 23 = .ok (.iload 4, 2) := by decide +kernel
theorem dX10_star_25 : decode cX10_star 25 = .ok (.bipush 99, 2) := by decide +kernel
theorem dX10_star_27 : decode cX10_star 27 = .ok (.if_icmp .ge 36, 3) := by decide +kernel
theorem dX10_star_30 : decode cX10_star 30 = .ok (.iload_n 2, 1) := by decide +kernel
theorem dX10_star_31 : decode cX10_star 31 = .ok (.iload_n 3, 1) := by decide +kernel
theorem dX10_star_32 : decode cX10_star 32 = .ok (.if_icmp .lt 31, 3) := by decide +kernel
theorem dX10_star_35 : decode cX10_star 35 = .ok (.iload_n 2, 1) := by decide +kernel
theorem dX10_star_36 : decode cX10_star 36 = .ok (.iload_n 3, 1) := by decide +kernel
theorem dX10_star_37 : decode cX10_star 37 = .ok (.isub, 1) := by decide +kernel
theorem dX10_star_38 : decode cX10_star 38 = .ok (.istore_n 2, 1) := by decide +kernel
theorem dX10_star_39 : decode cX10_star 39 = .ok (.ldc_w 306, 3) := by decide +kernel
theorem dX10_star_42 : decode cX10_star 42 = .ok (.iload_n 2, 1) := by decide +kernel
theorem dX10_star_43 : decode cX10_star 43 = .ok (.iload_n 2, 1) := by decide +kernel
theorem dX10_star_44 : decode cX10_star 44 = .ok (.aload_n 0, 1) := by decide +kernel
theorem dX10_star_45 : decode cX10_star 45 = .ok (.getfield 234, 3) := by decide +kernel
theorem dX10_star_48 : decode cX10_star 48 = .ok (.imul, 1) := by decide +kernel
theorem dX10_star_49 : decode cX10_star 49 = .ok (.bipush 100, 2) := by decide +kernel
theorem dX10_star_51 : decode cX10_star 51 = .ok (.idiv, 1) := by decide +kernel
theorem dX10_star_52 : decode cX10_star 52 = .ok (.iadd, 1) := by decide +kernel
theorem dX10_star_53 : decode cX10_star 53 = .ok (.invokestatic 170, 3) := by decide +kernel
theorem dX10_star_56 : decode cX10_star 56 = .ok (.istore_n 2, 1) := by decide +kernel
theorem dX10_star_57 : decode cX10_star 57 = .ok (.iinc 4 1, 3) := by decide +kernel
theorem dX10_star_60 : decode cX10_star 60 = .ok (.goto (-37), 3) := by decide +kernel
theorem dX10_star_63 : decode cX10_star 63 = .ok (.iload 4, 2) := by decide +kernel
theorem dX10_star_65 : decode cX10_star 65 = .ok (.ireturn, 1) := by decide +kernel
set_option maxRecDepth 20000 in
theorem ggX10_isInDanger_X10_has : GoodIn wsX10_isInDanger wsX10_has := goodIn_r _ [8] (by decide +kernel) (by decide +kernel)
set_option maxRecDepth 20000 in
theorem gX10_isInDanger_X10_has : GoodIn wsX10_isInDanger (va_wsS RX10 84 yX10_has wsX10_has) := goodIn_app (goodIn_of _ (by decide +kernel)) ggX10_isInDanger_X10_has
set_option maxRecDepth 20000 in
theorem ggX10_isInDanger_X10_eats : GoodIn wsX10_isInDanger wsX10_eats := goodIn_r _ [12, 13, 14, 15, 16, 7, 17, 18, 19, 20, 21, 22, 23, 24, 25, 26, 27, 28, 29, 30, 31, 32, 33, 34, 35, 36, 37, 38, 39, 40, 41, 42, 43, 44, 45, 46, 47, 48, 49, 50, 51, 52, 53, 54, 55, 56, 57, 58, 59, 60, 61, 62, 63, 64, 65, 66, 67, 68, 69, 70, 71, 72, 73] (by decide +kernel) (by decide +kernel)
set_option maxRecDepth 20000 in
theorem gX10_isInDanger_X10_eats : GoodIn wsX10_isInDanger (wsV RX10 294 RX10 yX10_eats wsX10_eats) := goodIn_app (goodIn_of _ (by decide +kernel)) ggX10_isInDanger_X10_eats
theorem dX10_isInDanger_0 : decode cX10_isInDanger 0 = .ok (.iconst 0, 1) := by decide +kernel
theorem dX10_isInDanger_1 : decode cX10_isInDanger 1 = .ok (.istore_n 2, 1) := by decide +kernel
theorem dX10_isInDanger_2 : decode cX10_isInDanger 2 = .ok (.iload_n 2, 1) := by decide +kernel
theorem dX10_isInDanger_3 : decode cX10_isInDanger 3 = .ok (.iconst 1, 1) := by decide +kernel
theorem dX10_isInDanger_4 : decode cX10_isInDanger 4 = .ok (.aload_n 0, 1) := by decide +kernel
theorem dX10_isInDanger_5 : decode cX10_isInDanger 5 = .ok (.getfield 231, 3) := by decide +kernel
theorem dX10_isInDanger_8 : decode cX10_isInDanger 8 = .ok (.ishl, 1) := by decide +kernel
theorem dX10_isInDanger_9 : decode cX10_isInDanger 9 = .ok (.if_icmp .ge 147, 3) := by decide +kernel
theorem dX10_isInDanger_12 : decode cX10_isInDanger 12 = .ok (.iconst 0, 1) := by decide +kernel
theorem dX10_isInDanger_13 : decode cX10_isInDanger 13 = .ok (.istore_n 3, 1) := by decide +kernel
theorem dX10_isInDanger_14 : decode cX10_isInDanger 14 = .ok (.iload_n 2, 1) := by decide +kernel
theorem dX10_isInDanger_15 : decode cX10_isInDanger 15 = .ok (.iload_n 1, 1) := by decide +kernel
theorem dX10_isInDanger_16 : decode cX10_isInDanger 16 = .ok (.invokestatic 84, 3) := by decide +kernel
theorem dX10_isInDanger_19 : decode cX10_isInDanger 19 = .ok (.ifCond .ne 7, 3) := by decide +kernel
theorem dX10_isInDanger_22 : decode cX10_isInDanger 22 = .ok (.iconst 1, 1) := by decide +kernel
theorem dX10_isInDanger_23 : decode cX10_isInDanger 23 = .ok (.goto 4, 3) := by decide +kernel
theorem dX10_isInDanger_26 : decode cX10_isInDanger 26 = .ok (.iconst 0, 1) := by decide +kernel
theorem dX10_isInDanger_27 : decode cX10_isInDanger 27 = .ok (.istore 4, 2) := by decide +kernel
theorem dX10_isInDanger_29 : decode cX10_isInDanger 29 = .ok (.iconst 0, 1) := by decide +kernel
theorem dX10_isInDanger_30 : decode cX10_isInDanger 30 = .ok (.istore 5, 2) := by decide +kernel
theorem dX10_isInDanger_32 : decode cX10_isInDanger 32 = .ok (.iload 5, 2) := by decide +kernel
theorem dX10_isInDanger_34 : decode cX10_isInDanger 34 = .ok (.aload_n 0, 1) := by decide +kernel
theorem dX10_isInDanger_35 : decode cX10_isInDanger 35 = .ok (.getfield 231, 3) := by decide +kernel
theorem dX10_isInDanger_38 : decode cX10_isInDanger 38 = .ok (.if_icmp .ge 82, 3) := by decide +kernel
theorem dX10_isInDanger_41 : decode cX10_isInDanger 41 = .ok (.iload 4, 2) := by decide +kernel
theorem dX10_isInDanger_43 : decode cX10_isInDanger 43 = .ok (.ifCond .eq 45, 3) := by decide +kernel
theorem dX10_isInDanger_46 : decode cX10_isInDanger 46 = .ok (.iload_n 2, 1) := by decide +kernel
theorem dX10_isInDanger_47 : decode cX10_isInDanger 47 = .ok (.iload 5, 2) := by decide +kernel
theorem dX10_isInDanger_49 : decode cX10_isInDanger 49 = .ok (.invokestatic 84, 3) := by decide +kernel
theorem dX10_isInDanger_52 : decode cX10_isInDanger 52 = .ok (.ifCond .eq 32, 3) := by decide +kernel
theorem dX10_isInDanger_55 : decode cX10_isInDanger 55 = .ok (.aload_n 0, 1) := by decide +kernel
theorem dX10_isInDanger_56 : decode cX10_isInDanger 56 = .ok (.getfield 267, 3) := by decide +kernel
theorem dX10_isInDanger_59 : decode cX10_isInDanger 59 = .ok (.iload 5, 2) := by decide +kernel
theorem dX10_isInDanger_61 : decode cX10_isInDanger 61 = .ok (.invokestatic 84, 3) := by decide +kernel
theorem dX10_isInDanger_64 : decode cX10_isInDanger 64 = .ok (.ifCond .eq 24, 3) := by decide +kernel
theorem dX10_isInDanger_67 : decode cX10_isInDanger 67 = .ok (.aload_n 0, 1) := by decide +kernel
theorem dX10_isInDanger_68 : decode cX10_isInDanger 68 = .ok (.getfield 50, 3) := by decide +kernel
theorem dX10_isInDanger_71 : decode cX10_isInDanger 71 = .ok (.iload 5, 2) := by decide +kernel
theorem dX10_isInDanger_73 : decode cX10_isInDanger 73 = .ok (.iaload, 1) := by decide +kernel
theorem dX10_isInDanger_74 : decode cX10_isInDanger 74 = .ok (.aload_n 0, 1) := by decide +kernel
theorem dX10_isInDanger_75 : decode cX10_isInDanger 75 = .ok (.iload 5, 2) := by decide +kernel
theorem dX10_isInDanger_77 : decode cX10_isInDanger 77 = .ok (.iconst 0, 1) := by decide +kernel
theorem dX10_isInDanger_78 : decode cX10_isInDanger 78 = .ok (.invokevirtual 294, 3) := by decide +kernel
theorem dX10_isInDanger_81 : decode cX10_isInDanger 81 = .ok (.if_icmp .lt 7, 3) := by decide +kernel
theorem dX10_isInDanger_84 : decode cX10_isInDanger 84 = .ok (.iconst 1, 1) := by decide +kernel
theorem dX10_isInDanger_85 : decode cX10_isInDanger 85 = .ok (.goto 4, 3) := by decide +kernel
theorem dX10_isInDanger_88 : decode cX10_isInDanger 88 = .ok (.iconst 0, 1) := by decide +kernel
theorem dX10_isInDanger_89 : decode cX10_isInDanger 89 = .ok (.istore 4, 2) := by decide +kernel
theorem dX10_isInDanger_91 : decode cX10_isInDanger 91 = .ok (.iload_n 3, 1) := by decide +kernel
theorem dX10_isInDanger_92 : decode cX10_isInDanger 92 = .ok (.iload_n 2, 1) := by decide +kernel
theorem dX10_isInDanger_93 : decode cX10_isInDanger 93 = .ok (.iload 5, 2) := by decide +kernel
theorem dX10_isInDanger_95 : decode cX10_isInDanger 95 = .ok (.invokestatic 84, 3) := by decide +kernel
theorem dX10_isInDanger_98 : decode cX10_isInDanger 98 = .ok (.ifCond .eq 13, 3) := by decide +kernel
theorem dX10_isInDanger_101 : decode cX10_isInDanger 101 = .ok (.aload_n 0, 1) := by decide +kernel
theorem dX10_isInDanger_102 : decode cX10_isInDanger 102 = .ok (.iload 5, 2) := by decide +kernel
theorem dX10_isInDanger_104 : decode cX10_isInDanger 104 = .ok (.iconst 0, 1) := by decide +kernel
theorem dX10_isInDanger_105 : decode cX10_isInDanger 105 = .ok (.invokevirtual 294, 3) := by decide +kernel
theorem dX10_isInDanger_108 : decode cX10_isInDanger 108 = .ok (.goto 4, 3) := by decide +kernel
theorem dX10_isInDanger_111 : decode cX10_isInDanger 111 = .ok (.iconst 0, 1) := by decide +kernel
theorem dX10_isInDanger_112 : decode cX10_isInDanger 112 = .ok (.iadd, 1) := by decide +kernel
theorem dX10_isInDanger_113 : decode cX10_isInDanger 113 = .ok (.istore_n 3, 1) := by decide +kernel
theorem dX10_isInDanger_114 : decode cX10_isInDanger 114 = .ok (.iinc 5 1, 3) := by decide +kernel
theorem dX10_isInDanger_117 : decode cX10_isInDanger 117 = .ok (.goto (-85), 3) := by decide +kernel
theorem dX10_isInDanger_120 : decode cX10_isInDanger 120 = .ok (.iload 4, 2) := by decide +kernel
theorem dX10_isInDanger_122 : decode cX10_isInDanger 122 = .ok (.ifCond .eq 28, 3) := by decide +kernel
theorem dX10_isInDanger_125 : decode cX10_isInDanger 125 = .ok (.iload_n 3, 1) := by decide +kernel
theorem dX10_isInDanger_126 : decode cX10_isInDanger 126 = .ok (.aload_n 0, 1) := by decide +kernel
theorem dX10_isInDanger_127 : decode cX10_isInDanger 127 = .ok (.getfield 258, 3) := by decide +kernel
theorem dX10_isInDanger_130 : decode cX10_isInDanger 130 = .ok (.if_icmp .gt 20, 3) := by decide +kernel
theorem dX10_isInDanger_133 : decode cX10_isInDanger 133 = .ok (.aload_n 0, 1) := by decide +kernel
theorem dX10_isInDanger_134 : decode cX10_isInDanger 134 = .ok (.getfield 258, 3) := by decide +kernel
theorem dX10_isInDanger_137 : decode cX10_isInDanger 137 = .ok (.iload_n 3, 1) := by decide +kernel
theorem dX10_isInDanger_138 : decode cX10_isInDanger 138 = .ok (.isub, 1) := by decide +kernel
theorem dX10_isInDanger_139 : decode cX10_isInDanger 139 = .ok (.aload_n 0, 1) := by decide +kernel
theorem dX10_isInDanger_140 : decode cX10_isInDanger 140 = .ok (.iload_n 1, 1) := by decide +kernel
theorem dX10_isInDanger_141 : decode cX10_isInDanger 141 = .ok (.iconst 0, 1) := by decide +kernel
theorem dX10_isInDanger_142 : decode cX10_isInDanger 142 = .ok (.invokevirtual 294, 3) := by decide +kernel
theorem dX10_isInDanger_145 : decode cX10_isInDanger 145 = .ok (.if_icmp .ge 5, 3) := by decide +kernel
theorem dX10_isInDanger_148 : decode cX10_isInDanger 148 = .ok (.iconst 1, 1) := by decide +kernel
theorem dX10_isInDanger_149 : decode cX10_isInDanger 149 = .ok (.ireturn, 1) := by decide +kernel
theorem dX10_isInDanger_150 : decode cX10_isInDanger 150 = .ok (.iinc 2 1, 3) := by decide +kernel
theorem dX10_isInDanger_153 : decode cX10_isInDanger 153 = .ok (.goto (-151), 3) := by decide +kernel
theorem dX10_isInDanger_156 : decode cX10_isInDanger 156 = .ok (.iconst 0, 1) := by decide +kernel
theorem dX10_isInDanger_157 : decode cX10_isInDanger 157 = .ok (.ireturn, 1) := by decide +kernel
set_option maxRecDepth 20000 in
theorem ggX10_isDoomed_X10_eats : GoodIn wsX10_isDoomed wsX10_eats := goodIn_r _ [7, 8, 9, 10, 11, 6, 12, 13, 14, 15, 16, 17, 18, 19, 20, 21, 22, 23, 24, 25, 26, 27, 28, 29, 30, 31, 32, 33, 34, 35, 36, 37, 38, 39, 40, 41, 42, 43, 44, 45, 46, 47, 48, 49, 50, 51, 52, 53, 54, 55, 56, 57, 58, 59, 60, 61, 62, 63, 64, 65, 66, 67, 68] (by decide +kernel) (by decide +kernel)
set_option maxRecDepth 20000 in
theorem gX10_isDoomed_X10_eats : GoodIn wsX10_isDoomed (wsV RX10 294 RX10 yX10_eats wsX10_eats) := goodIn_app (goodIn_of _ (by decide +kernel)) ggX10_isDoomed_X10_eats
theorem dX10_isDoomed_0 : decode cX10_isDoomed 0 = .ok (.aload_n 0, 1) := by decide +kernel
theorem dX10_isDoomed_1 : decode cX10_isDoomed 1 = .ok (.getfield 50, 3) := by decide +kernel
theorem dX10_isDoomed_4 : decode cX10_isDoomed 4 = .ok (.iload_n 1, 1) := by decide +kernel
theorem dX10_isDoomed_5 : decode cX10_isDoomed 5 = .ok (.iaload, 1) := by decide +kernel
theorem dX10_isDoomed_6 : decode cX10_isDoomed 6 = .ok (.aload_n 0, 1) := by decide +kernel
theorem dX10_isDoomed_7 : decode cX10_isDoomed 7 = .ok (.iload_n 1, 1) := by decide +kernel
theorem dX10_isDoomed_8 : decode cX10_isDoomed 8 = .ok (.iconst 0, 1) := by decide +kernel
theorem dX10_isDoomed_9 : decode cX10_isDoomed 9 = .ok (.invokevirtual 294, 3) := by decide +kernel
theorem dX10_isDoomed_12 : decode cX10_isDoomed 12 = .ok (.if_icmp .lt 16, 3) := by decide +kernel
theorem dX10_isDoomed_15 : decode cX10_isDoomed 15 = .ok (.aload_n 0, 1) := by decide +kernel
theorem dX10_isDoomed_16 : decode cX10_isDoomed 16 = .ok (.getfield 258, 3) := by decide +kernel
theorem dX10_isDoomed_19 : decode cX10_isDoomed 19 = .ok (.aload_n 0, 1) := by decide +kernel
theorem dX10_isDoomed_20 : decode cX10_isDoomed 20 = .ok (.iload_n 1, 1) := by decide +kernel
theorem dX10_isDoomed_21 : decode cX10_isDoomed 21 = .ok (.iconst 0, 1) := by decide +kernel
theorem dX10_isDoomed_22 : decode cX10_isDoomed 22 = .ok (.invokevirtual 294, 3) := by decide +kernel
theorem dX10_isDoomed_25 : decode cX10_isDoomed 25 = .ok (.if_icmp .ge 7, 3) := by decide +kernel
theorem dX10_isDoomed_28 : decode cX10_isDoomed 28 = .ok (.iconst 1, 1) := by decide +kernel
theorem dX10_isDoomed_29 : decode cX10_isDoomed 29 = .ok (.goto 4, 3) := by decide +kernel
theorem dX10_isDoomed_32 : decode cX10_isDoomed 32 = .ok (.iconst 0, 1) := by decide +kernel
theorem dX10_isDoomed_33 : decode cX10_isDoomed 33 = .ok (.ireturn, 1) := by decide +kernel
set_option maxRecDepth 20000 in
theorem ggX10_run_X10_layState : GoodIn wsX10_run wsX10_layState := goodIn_r _ [8, 9, 10, 11, 7, 12, 13, 14, 15, 16, 17, 18, 19, 20, 21, 22, 23, 24, 25, 26, 27, 2, 28, 29, 30, 31, 32, 33, 34, 35, 36, 37, 38, 39, 40, 41, 42, 43, 44, 45, 46, 47, 48, 49, 3, 50, 51, 52, 53, 54, 55, 56, 57, 58, 59, 60, 61, 62, 63, 64, 65, 66, 67, 68, 69, 70, 71, 72, 73, 74, 75, 76, 77, 78, 79, 80, 81, 82, 83, 84, 85, 86, 87, 88, 89, 90, 91, 92, 93, 94, 95, 96, 97, 98, 99, 100, 101, 102, 103, 104, 105, 106, 107, 108, 109, 110, 111, 112, 113, 114, 115, 116, 117, 118, 119, 120, 121, 122, 123, 124, 125, 126, 127, 128, 129, 130, 131, 140, 141, 142, 143, 144, 145, 146, 147, 148, 149, 150, 151, 152, 153, 154, 155, 156, 157, 158, 159, 160, 161, 162, 163, 164, 165, 166, 167, 168, 169, 170, 171, 172, 173, 174, 175, 176, 177, 178, 179, 180, 181, 182, 183, 184, 185, 186, 187, 188, 189] (by decide +kernel) (by decide +kernel)
set_option maxRecDepth 20000 in
theorem gX10_run_X10_layState : GoodIn wsX10_run (wsV RX10 332 RX10 yX10_layState wsX10_layState) := goodIn_app (goodIn_of _ (by decide +kernel)) ggX10_run_X10_layState
set_option maxRecDepth 20000 in
theorem ggX10_run_X10_in : GoodIn wsX10_run wsX10_in := goodIn_r _ [21] (by decide +kernel) (by decide +kernel)
set_option maxRecDepth 20000 in
theorem gX10_run_X10_in : GoodIn wsX10_run (va_wsS RX10 92 yX10_in wsX10_in) := goodIn_app (goodIn_of _ (by decide +kernel)) ggX10_run_X10_in
set_option maxRecDepth 20000 in
theorem ggX10_run_X10_has : GoodIn wsX10_run wsX10_has := goodIn_r _ [93] (by decide +kernel) (by decide +kernel)
set_option maxRecDepth 20000 in
theorem gX10_run_X10_has : GoodIn wsX10_run (va_wsS RX10 84 yX10_has wsX10_has) := goodIn_app (goodIn_of _ (by decide +kernel)) ggX10_run_X10_has
set_option maxRecDepth 20000 in
theorem ggX10_run_X10_isDoomed : GoodIn wsX10_run wsX10_isDoomed := goodIn_r _ [135, 54, 47, 121, 122, 123, 7, 124, 48, 125, 126, 127, 128, 29, 30, 31, 32, 33, 26, 140, 141, 142, 143, 144, 145, 146, 147, 148, 149, 150, 151, 152, 153, 154, 155, 156, 157, 158, 159, 160, 161, 162, 163, 164, 165, 166, 167, 168, 169, 170, 171, 172, 173, 174, 175, 176, 177, 178, 179, 180, 181, 182, 183, 184, 185, 186, 187, 188, 189] (by decide +kernel) (by decide +kernel)
set_option maxRecDepth 20000 in
theorem gX10_run_X10_isDoomed : GoodIn wsX10_run (wsV RX10 350 RX10 yX10_isDoomed wsX10_isDoomed) := goodIn_app (goodIn_of _ (by decide +kernel)) ggX10_run_X10_isDoomed
set_option maxRecDepth 20000 in
theorem ggX10_run_X10_isInDanger : GoodIn wsX10_run wsX10_isInDanger := goodIn_r _ [139, 2, 3, 54, 47, 91, 92, 7, 93, 121, 122, 123, 124, 48, 125, 126, 127, 128, 29, 30, 31, 32, 33, 26, 140, 141, 142, 143, 144, 145, 146, 147, 148, 149, 150, 151, 152, 153, 154, 155, 156, 157, 158, 159, 160, 161, 162, 163, 164, 165, 166, 167, 168, 169, 170, 171, 172, 173, 174, 175, 176, 177, 178, 179, 180, 181, 182, 183, 184, 185, 186, 187, 188, 189] (by decide +kernel) (by decide +kernel)
set_option maxRecDepth 20000 in
theorem gX10_run_X10_isInDanger : GoodIn wsX10_run (wsV RX10 353 RX10 yX10_isInDanger wsX10_isInDanger) := goodIn_app (goodIn_of _ (by decide +kernel)) ggX10_run_X10_isInDanger
theorem dX10_run_0 : decode cX10_run 0 = .ok (.aload_n 0, 1) := by decide +kernel
theorem dX10_run_1 : decode cX10_run 1 = .ok (.iconst 0, 1) := by decide +kernel
theorem dX10_run_2 : decode cX10_run 2 = .ok (.putfield 80, 3) := by decide +kernel
theorem dX10_run_5 : decode cX10_run 5 = .ok (.aload_n 0, 1) := by decide +kernel
theorem dX10_run_6 : decode cX10_run 6 = .ok (.iload_n 1, 1) := by decide +kernel
theorem dX10_run_7 : decode cX10_run 7 = .ok (.iload_n 2, 1) := by decide +kernel
theorem dX10_run_8 : decode cX10_run 8 = .ok (.iload_n 3, 1) := by decide +kernel
theorem dX10_run_9 : decode cX10_run 9 = .ok (.invokevirtual 332, 3) := by decide +kernel
theorem dX10_run_12 : decode cX10_run 12 = .ok (.ifCond .eq 13, 3) := by decide +kernel
theorem dX10_run_15 : decode cX10_run 15 = .ok (.iload 4, 2) := by decide +kernel
theorem dX10_run_17 : decode cX10_run 17 = .ok (.iconst 0, 1) := by decide +kernel
theorem dX10_run_18 : decode cX10_run 18 = .ok (.iconst 1, 1) := by decide +kernel
theorem dX10_run_19 : decode cX10_run 19 = .ok (.invokestatic 92, 3) := by decide +kernel
theorem dX10_run_22 : decode cX10_run 22 = .ok (.ifCond .ne 6, 3) := by decide +kernel
theorem dX10_run_25 : decode cX10_run 25 = .ok (.bipush (-2), 2) := by decide +kernel
theorem dX10_run_27 : decode cX10_run 27 = .ok (.ireturn, 1) := by decide +kernel
theorem dX10_run_28 : decode cX10_run 28 = .ok (.iconst 0, 1) := by decide +kernel
theorem dX10_run_29 : decode cX10_run 29 = .ok (.istore 5, 2) := by decide +kernel
theorem dX10_run_31 : decode cX10_run 31 = .ok (.iconst 0, 1) := by decide +kernel
theorem dX10_run_32 : decode cX10_run 32 = .ok (.istore 6, 2) := by decide +kernel
theorem dX10_run_34 : decode cX10_run 34 = .ok (.iload 6, 2) := by decide +kernel
theorem dX10_run_36 : decode cX10_run 36 = .ok (.aload_n 0, 1) := by decide +kernel
theorem dX10_run_37 : decode cX10_run 37 = .ok (.getfield 231, 3) := by decide +kernel
theorem dX10_run_40 : decode cX10_run 40 = .ok (.if_icmp .ge 70, 3) := by decide +kernel
theorem dX10_run_43 : decode cX10_run 43 = .ok (.aload_n 0, 1) := by decide +kernel
theorem dX10_run_44 : decode cX10_run 44 = .ok (.getfield 267, 3) := by decide +kernel
theorem dX10_run_47 : decode cX10_run 47 = .ok (.iload 6, 2) := by decide +kernel
theorem dX10_run_49 : decode cX10_run 49 = .ok (.invokestatic 84, 3) := by decide +kernel
theorem dX10_run_52 : decode cX10_run 52 = .ok (.ifCond .eq 31, 3) := by decide +kernel
theorem dX10_run_55 : decode cX10_run 55 = .ok (.aload_n 0, 1) := by decide +kernel
theorem dX10_run_56 : decode cX10_run 56 = .ok (.iload 6, 2) := by decide +kernel
theorem dX10_run_58 : decode cX10_run 58 = .ok (.invokevirtual 350, 3) := by decide +kernel
theorem dX10_run_61 : decode cX10_run 61 = .ok (.ifCond .ne 18, 3) := by decide +kernel
theorem dX10_run_64 : decode cX10_run 64 = .ok (.iload 4, 2) := by decide +kernel
theorem dX10_run_66 : decode cX10_run 66 = .ok (.iconst 1, 1) := by decide +kernel
theorem dX10_run_67 : decode cX10_run 67 = .ok (.if_icmp .ne 16, 3) := by decide +kernel
theorem dX10_run_70 : decode cX10_run 70 = .ok (.aload_n 0, 1) := by decide +kernel
theorem dX10_run_71 : decode cX10_run 71 = .ok (.iload 6, 2) := by decide +kernel
theorem dX10_run_73 : decode cX10_run 73 = .ok (.invokevirtual 353, 3) := by decide +kernel
theorem dX10_run_76 : decode cX10_run 76 = .ok (.ifCond .eq 7, 3) := by decide +kernel
theorem dX10_run_79 : decode cX10_run 79 = .ok (.iconst 1, 1) := by decide +kernel
theorem dX10_run_80 : decode cX10_run 80 = .ok (.goto 4, 3) := by decide +kernel
theorem dX10_run_83 : decode cX10_run 83 = .ok (.iconst 0, 1) := by decide +kernel
theorem dX10_run_84 : decode cX10_run 84 = .ok (.istore 7, 2) := by decide +kernel
theorem dX10_run_86 : decode cX10_run 86 = .ok (.iload 5, 2) := by decide +kernel
theorem dX10_run_88 : decode cX10_run 88 = .ok (.iload 7, 2) := by decide +kernel
theorem dX10_run_90 : decode cX10_run 90 = .ok (.ifCond .eq 10, 3) := by decide +kernel
theorem dX10_run_93 : decode cX10_run 93 = .ok (.iconst 1, 1) := by decide +kernel
theorem dX10_run_94 : decode cX10_run 94 = .ok (.iload 6, 2) := by decide +kernel
theorem dX10_run_96 : decode cX10_run 96 = .ok (.ishl, 1) := by decide +kernel
theorem dX10_run_97 : decode cX10_run 97 = .ok (.goto 4, 3) := by decide +kernel
theorem dX10_run_100 : decode cX10_run 100 = .ok (.iconst 0, 1) := by decide +kernel
theorem dX10_run_101 : decode cX10_run 101 = .ok (.ior, 1) := by decide +kernel
theorem dX10_run_102 : decode cX10_run 102 = .ok (.istore 5, 2) := by decide +kernel
theorem dX10_run_104 : decode cX10_run 104 = .ok (.iinc 6 1, 3) := by decide +kernel
theorem dX10_run_107 : decode cX10_run 107 = .ok (.goto (-73), 3) := by decide +kernel
theorem dX10_run_110 : decode cX10_run 110 = .ok (.iload 5, 2) := by decide +kernel
theorem dX10_run_112 : decode cX10_run 112 = .ok (.ireturn, 1) := by decide +kernel
set_option maxRecDepth 20000 in
theorem ggX10_leftOf_X10_handsOf : GoodIn wsX10_leftOf wsX10_handsOf := goodIn_r _ [8, 9, 10, 11, 7, 12, 13, 14, 18, 19, 20, 21, 22, 23, 24, 25, 26, 27, 28, 29, 30, 31, 32, 33, 34, 35, 36, 37, 38, 39, 40, 41, 42, 43, 44, 45, 46, 47, 48, 49, 50, 51, 52, 53, 54, 55, 56, 57, 58, 59, 60, 61, 62, 63, 64, 65, 66, 67] (by decide +kernel) (by decide +kernel)
set_option maxRecDepth 20000 in
theorem gX10_leftOf_X10_handsOf : GoodIn wsX10_leftOf (wsV RX10 288 RX10 yX10_handsOf wsX10_handsOf) := goodIn_app (goodIn_of _ (by decide +kernel)) ggX10_leftOf_X10_handsOf
set_option maxRecDepth 20000 in
theorem ggX10_leftOf_X10_has : GoodIn wsX10_leftOf wsX10_has := goodIn_r _ [17] (by decide +kernel) (by decide +kernel)
set_option maxRecDepth 20000 in
theorem gX10_leftOf_X10_has : GoodIn wsX10_leftOf (va_wsS RX10 84 yX10_has wsX10_has) := goodIn_app (goodIn_of _ (by decide +kernel)) ggX10_leftOf_X10_has
theorem dX10_leftOf_0 : decode cX10_leftOf 0 = .ok (.iconst 0, 1) := by decide +kernel
theorem dX10_leftOf_1 : decode cX10_leftOf 1 = .ok (.istore_n 2, 1) := by decide +kernel
theorem dX10_leftOf_2 : decode cX10_leftOf 2 = .ok (.iconst 0, 1) := by decide +kernel
theorem dX10_leftOf_3 : decode cX10_leftOf 3 = .ok (.istore_n 3, 1) := by decide +kernel
theorem dX10_leftOf_4 : decode cX10_leftOf 4 = .ok (.iload_n 3, 1) := by decide +kernel
theorem dX10_leftOf_5 : decode cX10_leftOf 5 = .ok (.aload_n 0, 1) := by decide +kernel
theorem dX10_leftOf_6 : decode cX10_leftOf 6 = .ok (.getfield 228, 3) := by decide +kernel
theorem dX10_leftOf_9 : decode cX10_leftOf 9 = .ok (.if_icmp .ge 42, 3) := by decide +kernel
theorem dX10_leftOf_12 : decode cX10_leftOf 12 = .ok (.iload_n 2, 1) := by decide +kernel
theorem dX10_leftOf_13 : decode cX10_leftOf 13 = .ok (.aload_n 0, 1) := by decide +kernel
theorem dX10_leftOf_14 : decode cX10_leftOf 14 = .ok (.iload_n 3, 1) := by decide +kernel
theorem dX10_leftOf_15 : decode cX10_leftOf 15 = .ok (.invokevirtual 288, 3) := by decide +kernel
theorem dX10_leftOf_18 : decode cX10_leftOf 18 = .ok (.iload_n 1, 1) := by decide +kernel
theorem dX10_leftOf_19 : decode cX10_leftOf 19 = .ok (.if_icmp .ne 23, 3) := by decide +kernel
theorem dX10_leftOf_22 : decode cX10_leftOf 22 = .ok (.aload_n 0, 1) := by decide +kernel
theorem dX10_leftOf_23 : decode cX10_leftOf 23 = .ok (.getfield 279, 3) := by decide +kernel
theorem dX10_leftOf_26 : decode cX10_leftOf 26 = .ok (.iload_n 3, 1) := by decide +kernel
theorem dX10_leftOf_27 : decode cX10_leftOf 27 = .ok (.invokestatic 84, 3) := by decide +kernel
theorem dX10_leftOf_30 : decode cX10_leftOf 30 = .ok (.ifCond .ne 12, 3) := by decide +kernel
theorem dX10_leftOf_33 : decode cX10_leftOf 33 = .ok (.aload_n 0, 1) := by decide +kernel
theorem dX10_leftOf_34 : decode cX10_leftOf 34 = .ok (.getfield 41, 3) := by decide +kernel
theorem dX10_leftOf_37 : decode cX10_leftOf 37 = .ok (.iload_n 3, 1) := by decide +kernel
theorem dX10_leftOf_38 : decode cX10_leftOf 38 = .ok (.iaload, 1) := by decide +kernel
theorem dX10_leftOf_39 : decode cX10_leftOf 39 = .ok (.goto 4, 3) := by decide +kernel
theorem dX10_leftOf_42 : decode cX10_leftOf 42 = .ok (.iconst 0, 1) := by decide +kernel
theorem dX10_leftOf_43 : decode cX10_leftOf 43 = .ok (.iadd, 1) := by decide +kernel
theorem dX10_leftOf_44 : decode cX10_leftOf 44 = .ok (.istore_n 2, 1) := by decide +kernel
theorem dX10_leftOf_45 : decode cX10_leftOf 45 = .ok (.iinc 3 1, 3) := by decide +kernel
theorem dX10_leftOf_48 : decode cX10_leftOf 48 = .ok (.goto (-44), 3) := by decide +kernel
theorem dX10_leftOf_51 : decode cX10_leftOf 51 = .ok (.iload_n 2, 1) := by decide +kernel
theorem dX10_leftOf_52 : decode cX10_leftOf 52 = .ok (.ireturn, 1) := by decide +kernel
set_option maxRecDepth 20000 in
theorem ggX10_canFeed_X10_has : GoodIn wsX10_canFeed wsX10_has := goodIn_r _ [7] (by decide +kernel) (by decide +kernel)
set_option maxRecDepth 20000 in
theorem gX10_canFeed_X10_has : GoodIn wsX10_canFeed (va_wsS RX10 84 yX10_has wsX10_has) := goodIn_app (goodIn_of _ (by decide +kernel)) ggX10_canFeed_X10_has
set_option maxRecDepth 20000 in
theorem ggX10_canFeed_X10_needOf : GoodIn wsX10_canFeed wsX10_needOf := goodIn_r _ [11, 12, 13, 4, 5, 6, 7, 14, 15, 16, 17, 18, 19, 20, 21, 22, 23, 24, 25, 26, 27, 28, 29, 30, 31, 46, 47, 48, 49, 50, 51, 52, 53, 54, 55, 56, 57, 58, 59, 60, 61, 62, 63, 64, 65, 66, 67, 68, 69, 70, 71, 72, 73, 74, 75, 76, 77, 78, 79, 80, 81, 82, 83, 84, 85, 86, 87, 88, 89, 90, 91, 92, 93, 94, 95] (by decide +kernel) (by decide +kernel)
set_option maxRecDepth 20000 in
theorem gX10_canFeed_X10_needOf : GoodIn wsX10_canFeed (wsV RX10 341 RX10 yX10_needOf wsX10_needOf) := goodIn_app (goodIn_of _ (by decide +kernel)) ggX10_canFeed_X10_needOf
set_option maxRecDepth 20000 in
theorem ggX10_canFeed_X10_leftOf : GoodIn wsX10_canFeed wsX10_leftOf := goodIn_r _ [35, 36, 37, 38, 39, 40, 41, 6, 42, 23, 24, 25, 26, 27, 28, 4, 5, 7, 46, 47, 48, 49, 50, 51, 52, 53, 54, 55, 56, 57, 58, 59, 60, 61, 62, 63, 64, 65, 66, 67, 68, 69, 70, 71, 72, 73, 74, 75, 76, 77, 78, 79, 80, 81, 82, 83, 84, 85, 86, 87, 88, 89, 90, 91, 92, 93, 94, 95] (by decide +kernel) (by decide +kernel)
set_option maxRecDepth 20000 in
theorem gX10_canFeed_X10_leftOf : GoodIn wsX10_canFeed (wsV RX10 356 RX10 yX10_leftOf wsX10_leftOf) := goodIn_app (goodIn_of _ (by decide +kernel)) ggX10_canFeed_X10_leftOf
set_option maxRecDepth 20000 in
theorem ggX10_canFeed_X10_lesser : GoodIn wsX10_canFeed wsX10_lesser := goodIn_r _ [45] (by decide +kernel) (by decide +kernel)
set_option maxRecDepth 20000 in
theorem gX10_canFeed_X10_lesser : GoodIn wsX10_canFeed (va_wsS RX10 170 yX10_lesser wsX10_lesser) := goodIn_app (goodIn_of _ (by decide +kernel)) ggX10_canFeed_X10_lesser
set_option maxRecDepth 20000 in
theorem ggX10_canFeed_X10_greater : GoodIn wsX10_canFeed wsX10_greater := goodIn_r _ [31] (by decide +kernel) (by decide +kernel)
set_option maxRecDepth 20000 in
theorem gX10_canFeed_X10_greater : GoodIn wsX10_canFeed (va_wsS RX10 338 yX10_greater wsX10_greater) := goodIn_app (goodIn_of _ (by decide +kernel)) ggX10_canFeed_X10_greater
theorem dX10_canFeed_0 : decode cX10_canFeed 0 = .ok (.iconst 0, 1) := by decide +kernel
theorem dX10_canFeed_1 : decode cX10_canFeed 1 = .ok (.istore_n 2, 1) := by decide +kernel
theorem dX10_canFeed_2 : decode cX10_canFeed 2 = .ok (.iconst 0, 1) := by decide +kernel
theorem dX10_canFeed_3 : decode cX10_canFeed 3 = .ok (.istore_n 3, 1) := by decide +kernel
theorem dX10_canFeed_4 : decode cX10_canFeed 4 = .ok (.iconst 0, 1) := by decide +kernel
theorem dX10_canFeed_5 : decode cX10_canFeed 5 = .ok (.istore 4, 2) := by decide +kernel
theorem dX10_canFeed_7 : decode cX10_canFeed 7 = .ok (.iconst 0, 1) := by decide +kernel
theorem dX10_canFeed_8 : decode cX10_canFeed 8 = .ok (.istore 5, 2) := by decide +kernel
theorem dX10_canFeed_10 : decode cX10_canFeed 10 = .ok (.iload 5, 2) := by decide +kernel
theorem dX10_canFeed_12 : decode cX10_canFeed 12 = .ok (.aload_n 0, 1) := by decide +kernel
theorem dX10_canFeed_13 : decode cX10_canFeed 13 = .ok (.getfield 231, 3) := by decide +kernel
theorem dX10_canFeed_16 : decode cX10_canFeed 16 = .ok (.if_icmp .ge 51, 3) := by decide +kernel
theorem dX10_canFeed_19 : decode cX10_canFeed 19 = .ok (.iload_n 1, 1) := by decide +kernel
theorem dX10_canFeed_20 : decode cX10_canFeed 20 = .ok (.iload 5, 2) := by decide +kernel
theorem dX10_canFeed_22 : decode cX10_canFeed 22 = .ok (.invokestatic 84, 3) := by decide +kernel
theorem dX10_canFeed_25 : decode cX10_canFeed 25 = .ok (.ifCond .eq 12, 3) := by decide +kernel
theorem dX10_canFeed_28 : decode cX10_canFeed 28 = .ok (.aload_n 0, 1) := by decide +kernel
theorem dX10_canFeed_29 : decode cX10_canFeed 29 = .ok (.iload 5, 2) := by decide +kernel
theorem dX10_canFeed_31 : decode cX10_canFeed 31 = .ok (.invokevirtual 341, 3) := by decide +kernel
theorem dX10_canFeed_34 : decode cX10_canFeed 34 = .ok (.goto 4, 3) := by decide +kernel
theorem dX10_canFeed_37 : decode cX10_canFeed 37 = .ok (.iconst 0, 1) := by decide +kernel
theorem dX10_canFeed_38 : decode cX10_canFeed 38 = .ok (.istore 6, 2) := by decide +kernel
theorem dX10_canFeed_40 : decode cX10_canFeed 40 = .ok (.iload_n 2, 1) := by decide +kernel
theorem dX10_canFeed_41 : decode cX10_canFeed 41 = .ok (.iload 6, 2) := by decide +kernel
theorem dX10_canFeed_43 : decode cX10_canFeed 43 = .ok (.iadd, 1) := by decide +kernel
theorem dX10_canFeed_44 : decode cX10_canFeed 44 = .ok (.istore_n 2, 1) := by decide +kernel
theorem dX10_canFeed_45 : decode cX10_canFeed 45 = .ok (.iload_n 3, 1) := by decide +kernel
theorem dX10_canFeed_46 : decode cX10_canFeed 46 = .ok (.iload 6, 2) := by decide +kernel
theorem dX10_canFeed_48 : decode cX10_canFeed 48 = .ok (.iconst 2, 1) := by decide +kernel
theorem dX10_canFeed_49 : decode cX10_canFeed 49 = .ok (.idiv, 1) := by decide +kernel
theorem dX10_canFeed_50 : decode cX10_canFeed 50 = .ok (.iadd, 1) := by decide +kernel
theorem dX10_canFeed_51 : decode cX10_canFeed 51 = .ok (.istore_n 3, 1) := by decide +kernel
theorem dX10_canFeed_52 : decode cX10_canFeed 52 = .ok (.iload 4, 2) := by decide +kernel
theorem dX10_canFeed_54 : decode cX10_canFeed 54 = .ok (.iload 6, 2) := by decide +kernel
theorem dX10_canFeed_56 : decode cX10_canFeed 56 = .ok (.iconst 2, 1) := by decide +kernel
theorem dX10_canFeed_57 : decode cX10_canFeed 57 = .ok (.irem, 1) := by decide +kernel
theorem dX10_canFeed_58 : decode cX10_canFeed 58 = .ok (.iadd, 1) := by decide +kernel
theorem dX10_canFeed_59 : decode cX10_canFeed 59 = .ok (.istore 4, 2) := by decide +kernel
theorem dX10_canFeed_61 : decode cX10_canFeed 61 = .ok (.iinc 5 1, 3) := by decide +kernel
theorem dX10_canFeed_64 : decode cX10_canFeed 64 = .ok (.goto (-54), 3) := by decide +kernel
theorem dX10_canFeed_67 : decode cX10_canFeed 67 = .ok (.aload_n 0, 1) := by decide +kernel
theorem dX10_canFeed_68 : decode cX10_canFeed 68 = .ok (.iconst 2, 1) := by decide +kernel
theorem dX10_canFeed_69 : decode cX10_canFeed 69 = .ok (.invokevirtual 356, 3) := by decide +kernel
theorem dX10_canFeed_72 : decode cX10_canFeed 72 = .ok (.istore 5, 2) := by decide +kernel
theorem dX10_canFeed_74 : decode cX10_canFeed 74 = .ok (.aload_n 0, 1) := by decide +kernel
theorem dX10_canFeed_75 : decode cX10_canFeed 75 = .ok (.iconst 1, 1) := by decide +kernel
theorem dX10_canFeed_76 : decode cX10_canFeed 76 = .ok (.invokevirtual 356, 3) := by decide +kernel
theorem dX10_canFeed_79 : decode cX10_canFeed 79 = .ok (.istore 6, 2) := by decide +kernel
theorem dX10_canFeed_81 : decode cX10_canFeed 81 = .ok (.iload 5, 2) := by decide +kernel
theorem dX10_canFeed_83 : decode cX10_canFeed 83 = .ok (.iload_n 3, 1) := by decide +kernel
theorem dX10_canFeed_84 : decode cX10_canFeed 84 = .ok (.invokestatic 170, 3) := by decide +kernel
theorem dX10_canFeed_87 : decode cX10_canFeed 87 = .ok (.istore 7, 2) := by decide +kernel
theorem dX10_canFeed_89 : decode cX10_canFeed 89 = .ok (.iconst 0, 1) := by decide +kernel
theorem dX10_canFeed_90 : decode cX10_canFeed 90 = .ok (.iload_n 2, 1) := by decide +kernel
theorem dX10_canFeed_91 : decode cX10_canFeed 91 = .ok (.iconst 2, 1) := by decide +kernel
theorem dX10_canFeed_92 : decode cX10_canFeed 92 = .ok (.iload 7, 2) := by decide +kernel
theorem dX10_canFeed_94 : decode cX10_canFeed 94 = .ok (.imul, 1) := by decide +kernel
theorem dX10_canFeed_95 : decode cX10_canFeed 95 = .ok (.isub, 1) := by decide +kernel
theorem dX10_canFeed_96 : decode cX10_canFeed 96 = .ok (.iload 6, 2) := by decide +kernel
theorem dX10_canFeed_98 : decode cX10_canFeed 98 = .ok (.isub, 1) := by decide +kernel
theorem dX10_canFeed_99 : decode cX10_canFeed 99 = .ok (.invokestatic 338, 3) := by decide +kernel
theorem dX10_canFeed_102 : decode cX10_canFeed 102 = .ok (.istore 8, 2) := by decide +kernel
theorem dX10_canFeed_104 : decode cX10_canFeed 104 = .ok (.aload_n 0, 1) := by decide +kernel
theorem dX10_canFeed_105 : decode cX10_canFeed 105 = .ok (.iload 7, 2) := by decide +kernel
theorem dX10_canFeed_107 : decode cX10_canFeed 107 = .ok (.iload 8, 2) := by decide +kernel
theorem dX10_canFeed_109 : decode cX10_canFeed 109 = .ok (.iadd, 1) := by decide +kernel
theorem dX10_canFeed_110 : decode cX10_canFeed 110 = .ok (.putfield 359, 3) := by decide +kernel
theorem dX10_canFeed_113 : decode cX10_canFeed 113 = .ok (.aload_n 0, 1) := by decide +kernel
theorem dX10_canFeed_114 : decode cX10_canFeed 114 = .ok (.iload_n 2, 1) := by decide +kernel
theorem dX10_canFeed_115 : decode cX10_canFeed 115 = .ok (.iconst 2, 1) := by decide +kernel
theorem dX10_canFeed_116 : decode cX10_canFeed 116 = .ok (.iload 7, 2) := by decide +kernel
theorem dX10_canFeed_118 : decode cX10_canFeed 118 = .ok (.imul, 1) := by decide +kernel
theorem dX10_canFeed_119 : decode cX10_canFeed 119 = .ok (.isub, 1) := by decide +kernel
theorem dX10_canFeed_120 : decode cX10_canFeed 120 = .ok (.iload 8, 2) := by decide +kernel
theorem dX10_canFeed_122 : decode cX10_canFeed 122 = .ok (.isub, 1) := by decide +kernel
theorem dX10_canFeed_123 : decode cX10_canFeed 123 = .ok (.putfield 362, 3) := by decide +kernel
theorem dX10_canFeed_126 : decode cX10_canFeed 126 = .ok (.iload 8, 2) := by decide +kernel
theorem dX10_canFeed_128 : decode cX10_canFeed 128 = .ok (.iload 4, 2) := by decide +kernel
theorem dX10_canFeed_130 : decode cX10_canFeed 130 = .ok (.iload 5, 2) := by decide +kernel
theorem dX10_canFeed_132 : decode cX10_canFeed 132 = .ok (.iload 7, 2) := by decide +kernel
theorem dX10_canFeed_134 : decode cX10_canFeed 134 = .ok (.isub, 1) := by decide +kernel
theorem dX10_canFeed_135 : decode cX10_canFeed 135 = .ok (.invokestatic 170, 3) := by decide +kernel
theorem dX10_canFeed_138 : decode cX10_canFeed 138 = .ok (.if_icmp .gt 7, 3) := by decide +kernel
theorem dX10_canFeed_141 : decode cX10_canFeed 141 = .ok (.iconst 1, 1) := by decide +kernel
theorem dX10_canFeed_142 : decode cX10_canFeed 142 = .ok (.goto 4, 3) := by decide +kernel
theorem dX10_canFeed_145 : decode cX10_canFeed 145 = .ok (.iconst 0, 1) := by decide +kernel
theorem dX10_canFeed_146 : decode cX10_canFeed 146 = .ok (.ireturn, 1) := by decide +kernel
set_option maxRecDepth 20000 in
theorem ggX10_feast_X10_layState : GoodIn wsX10_feast wsX10_layState := goodIn_r _ [10, 11, 12, 13, 9, 14, 15, 16, 17, 18, 19, 20, 21, 22, 23, 24, 25, 26, 27, 28, 29, 2, 30, 31, 32, 33, 34, 35, 36, 37, 38, 39, 40, 41, 42, 43, 44, 45, 46, 47, 48, 49, 50, 51, 3, 52, 53, 54, 55, 56, 57, 58, 59, 60, 61, 62, 63, 64, 65, 66, 67, 68, 69, 70, 71, 72, 73, 74, 75, 76, 77, 78, 79, 80, 81, 82, 83, 84, 85, 86, 87, 88, 89, 90, 91, 92, 93, 94, 95, 96, 97, 98, 99, 100, 101, 102, 103, 104, 105, 106, 107, 108, 109, 110, 111, 112, 113, 114, 115, 116, 117, 118, 119, 120, 121, 122, 123, 124, 125, 126, 127, 128, 129, 130, 131, 132, 133, 152, 153, 154, 155, 156, 157, 158, 159, 160, 161, 162, 163, 164, 165, 166, 167, 168, 169, 170, 171, 172, 173, 174, 175, 176, 177, 178, 179, 180, 181, 182, 183, 184, 185, 186, 187, 188, 189, 190, 191, 192, 193, 194, 195, 196, 197, 198, 199, 200, 201] (by decide +kernel) (by decide +kernel)
set_option maxRecDepth 20000 in
theorem gX10_feast_X10_layState : GoodIn wsX10_feast (wsV RX10 332 RX10 yX10_layState wsX10_layState) := goodIn_app (goodIn_of _ (by decide +kernel)) ggX10_feast_X10_layState
set_option maxRecDepth 20000 in
theorem ggX10_feast_X10_in : GoodIn wsX10_feast wsX10_in := goodIn_r _ [23] (by decide +kernel) (by decide +kernel)
set_option maxRecDepth 20000 in
theorem gX10_feast_X10_in : GoodIn wsX10_feast (va_wsS RX10 92 yX10_in wsX10_in) := goodIn_app (goodIn_of _ (by decide +kernel)) ggX10_feast_X10_in
set_option maxRecDepth 20000 in
theorem ggX10_feast_X10_canFeed : GoodIn wsX10_feast wsX10_canFeed := goodIn_r _ [137, 2, 4, 5, 93, 94, 9, 95, 138, 139, 140, 141, 3, 56, 123, 124, 125, 126, 50, 127, 128, 129, 130, 31, 32, 33, 34, 35, 28, 142, 143, 144, 145, 146, 147, 148, 29, 64, 63, 96, 97, 98, 99, 131, 132, 133, 152, 153, 154, 155, 156, 157, 158, 159, 160, 161, 162, 163, 164, 165, 166, 167, 168, 169, 170, 171, 172, 173, 174, 175, 176, 177, 178, 179, 180, 181, 182, 183, 184, 185, 186, 187, 188, 189, 190, 191, 192, 193, 194, 195, 196, 197, 198, 199, 200, 201] (by decide +kernel) (by decide +kernel)
set_option maxRecDepth 20000 in
theorem gX10_feast_X10_canFeed : GoodIn wsX10_feast (wsV RX10 365 RX10 yX10_canFeed wsX10_canFeed) := goodIn_app (goodIn_of _ (by decide +kernel)) ggX10_feast_X10_canFeed
set_option maxRecDepth 20000 in
theorem ggX10_feast_X10_ones : GoodIn wsX10_feast wsX10_ones := goodIn_r _ [151, 93, 94, 9, 95] (by decide +kernel) (by decide +kernel)
set_option maxRecDepth 20000 in
theorem gX10_feast_X10_ones : GoodIn wsX10_feast (va_wsS RX10 368 yX10_ones wsX10_ones) := goodIn_app (goodIn_of _ (by decide +kernel)) ggX10_feast_X10_ones
theorem dX10_feast_0 : decode cX10_feast 0 = .ok (.aload_n 0, 1) := by decide +kernel
theorem dX10_feast_1 : decode cX10_feast 1 = .ok (.iconst 0, 1) := by decide +kernel
theorem dX10_feast_2 : decode cX10_feast 2 = .ok (.putfield 80, 3) := by decide +kernel
theorem dX10_feast_5 : decode cX10_feast 5 = .ok (.aload_n 0, 1) := by decide +kernel
theorem dX10_feast_6 : decode cX10_feast 6 = .ok (.iload_n 1, 1) := by decide +kernel
theorem dX10_feast_7 : decode cX10_feast 7 = .ok (.iload_n 2, 1) := by decide +kernel
theorem dX10_feast_8 : decode cX10_feast 8 = .ok (.iload_n 3, 1) := by decide +kernel
theorem dX10_feast_9 : decode cX10_feast 9 = .ok (.invokevirtual 332, 3) := by decide +kernel
theorem dX10_feast_12 : decode cX10_feast 12 = .ok (.ifCond .eq 13, 3) := by decide +kernel
theorem dX10_feast_15 : decode cX10_feast 15 = .ok (.iload 4, 2) := by decide +kernel
theorem dX10_feast_17 : decode cX10_feast 17 = .ok (.iconst 0, 1) := by decide +kernel
theorem dX10_feast_18 : decode cX10_feast 18 = .ok (.iconst 3, 1) := by decide +kernel
theorem dX10_feast_19 : decode cX10_feast 19 = .ok (.invokestatic 92, 3) := by decide +kernel
theorem dX10_feast_22 : decode cX10_feast 22 = .ok (.ifCond .ne 6, 3) := by decide +kernel
theorem dX10_feast_25 : decode cX10_feast 25 = .ok (.bipush (-2), 2) := by decide +kernel
theorem dX10_feast_27 : decode cX10_feast 27 = .ok (.ireturn, 1) := by decide +kernel
theorem dX10_feast_28 : decode cX10_feast 28 = .ok (.iconst 0, 1) := by decide +kernel
theorem dX10_feast_29 : decode cX10_feast 29 = .ok (.istore 5, 2) := by decide +kernel
theorem dX10_feast_31 : decode cX10_feast 31 = .ok (.iconst 0, 1) := by decide +kernel
theorem dX10_feast_32 : decode cX10_feast 32 = .ok (.istore 6, 2) := by decide +kernel
theorem dX10_feast_34 : decode cX10_feast 34 = .ok (.iconst 0, 1) := by decide +kernel
theorem dX10_feast_35 : decode cX10_feast 35 = .ok (.istore 7, 2) := by decide +kernel
theorem dX10_feast_37 : decode cX10_feast 37 = .ok (.iconst 1, 1) := by decide +kernel
theorem dX10_feast_38 : decode cX10_feast 38 = .ok (.istore 8, 2) := by decide +kernel
theorem dX10_feast_40 : decode cX10_feast 40 = .ok (.iload 8, 2) := by decide +kernel
theorem dX10_feast_42 : decode cX10_feast 42 = .ok (.iconst 1, 1) := by decide +kernel
theorem dX10_feast_43 : decode cX10_feast 43 = .ok (.aload_n 0, 1) := by decide +kernel
theorem dX10_feast_44 : decode cX10_feast 44 = .ok (.getfield 231, 3) := by decide +kernel
theorem dX10_feast_47 : decode cX10_feast 47 = .ok (.ishl, 1) := by decide +kernel
theorem dX10_feast_48 : decode cX10_feast 48 = .ok (.if_icmp .ge 105, 3) := by decide +kernel
theorem dX10_feast_51 : decode cX10_feast 51 = .ok (.iload 8, 2) := by decide +kernel
theorem dX10_feast_53 : decode cX10_feast 53 = .ok (.aload_n 0, 1) := by decide +kernel
theorem dX10_feast_54 : decode cX10_feast 54 = .ok (.getfield 267, 3) := by decide +kernel
theorem dX10_feast_57 : decode cX10_feast 57 = .ok (.iconst (-1), 1) := by decide +kernel
theorem dX10_feast_58 : decode cX10_feast 58 = .ok (.ixor, 1) := by decide +kernel
theorem dX10_feast_59 : decode cX10_feast 59 = .ok (.iand, 1) := by decide +kernel
theorem dX10_feast_60 : decode cX10_feast 60 = .ok (.ifCond .ne 87, 3) := by decide +kernel
theorem dX10_feast_63 : decode cX10_feast 63 = .ok (.aload_n 0, 1) := by decide +kernel
theorem dX10_feast_64 : decode cX10_feast 64 = .ok (.iload 8, 2) := by decide +kernel
theorem dX10_feast_66 : decode cX10_feast 66 = .ok (.invokevirtual 365, 3) := by decide +kernel
theorem dX10_feast_69 : decode cX10_feast 69 = .ok (.ifCond .eq 78, 3) := by decide +kernel
theorem dX10_feast_72 : decode cX10_feast 72 = .ok (.iload 8, 2) := by decide +kernel
theorem dX10_feast_74 : decode cX10_feast 74 = .ok (.invokestatic 368, 3) := by decide +kernel
theorem dX10_feast_77 : decode cX10_feast 77 = .ok (.iload 5, 2) := by decide +kernel
theorem dX10_feast_79 : decode cX10_feast 79 = .ok (.invokestatic 368, 3) := by decide +kernel
theorem dX10_feast_82 : decode cX10_feast 82 = .ok (.isub, 1) := by decide +kernel
theorem dX10_feast_83 : decode cX10_feast 83 = .ok (.istore 9, 2) := by decide +kernel
theorem dX10_feast_85 : decode cX10_feast 85 = .ok (.iload 6, 2) := by decide +kernel
theorem dX10_feast_87 : decode cX10_feast 87 = .ok (.iload 7, 2) := by decide +kernel
theorem dX10_feast_89 : decode cX10_feast 89 = .ok (.iadd, 1) := by decide +kernel
theorem dX10_feast_90 : decode cX10_feast 90 = .ok (.aload_n 0, 1) := by decide +kernel
theorem dX10_feast_91 : decode cX10_feast 91 = .ok (.getfield 359, 3) := by decide +kernel
theorem dX10_feast_94 : decode cX10_feast 94 = .ok (.isub, 1) := by decide +kernel
theorem dX10_feast_95 : decode cX10_feast 95 = .ok (.aload_n 0, 1) := by decide +kernel
theorem dX10_feast_96 : decode cX10_feast 96 = .ok (.getfield 362, 3) := by decide +kernel
theorem dX10_feast_99 : decode cX10_feast 99 = .ok (.isub, 1) := by decide +kernel
theorem dX10_feast_100 : decode cX10_feast 100 = .ok (.istore 10, 2) := by decide +kernel
theorem dX10_feast_102 : decode cX10_feast 102 = .ok (.iload 9, 2) := by decide +kernel
theorem dX10_feast_104 : decode cX10_feast 104 = .ok (.ifCond .gt 27, 3) := by decide +kernel
theorem dX10_feast_107 : decode cX10_feast 107 = .ok (.iload 9, 2) := by decide +kernel
theorem dX10_feast_109 : decode cX10_feast 109 = .ok (.ifCond .ne 38, 3) := by decide +kernel
theorem dX10_feast_112 : decode cX10_feast 112 = .ok (.iload 10, 2) := by decide +kernel
theorem dX10_feast_114 : decode cX10_feast 114 = .ok (.ifCond .gt 17, 3) := by decide +kernel
theorem dX10_feast_117 : decode cX10_feast 117 = .ok (.iload 10, 2) := by decide +kernel
theorem dX10_feast_119 : decode cX10_feast 119 = .ok (.ifCond .ne 28, 3) := by decide +kernel
theorem dX10_feast_122 : decode cX10_feast 122 = .ok (.aload_n 0, 1) := by decide +kernel
theorem dX10_feast_123 : decode cX10_feast 123 = .ok (.getfield 359, 3) := by decide +kernel
theorem dX10_feast_126 : decode cX10_feast 126 = .ok (.iload 6, 2) := by decide +kernel
theorem dX10_feast_128 : decode cX10_feast 128 = .ok (.if_icmp .ge 19, 3) := by decide +kernel
theorem dX10_feast_131 : decode cX10_feast 131 = .ok (.iload 8, 2) := by decide +kernel
theorem dX10_feast_133 : decode cX10_feast 133 = .ok (.istore 5, 2) := by decide +kernel
theorem dX10_feast_135 : decode cX10_feast 135 = .ok (.aload_n 0, 1) := by decide +kernel
theorem dX10_feast_136 : decode cX10_feast 136 = .ok (.getfield 359, 3) := by decide +kernel
theorem dX10_feast_139 : decode cX10_feast 139 = .ok (.istore 6, 2) := by decide +kernel
theorem dX10_feast_141 : decode cX10_feast 141 = .ok (.aload_n 0, 1) := by decide +kernel
theorem dX10_feast_142 : decode cX10_feast 142 = .ok (.getfield 362, 3) := by decide +kernel
theorem dX10_feast_145 : decode cX10_feast 145 = .ok (.istore 7, 2) := by decide +kernel
theorem dX10_feast_147 : decode cX10_feast 147 = .ok (.iinc 8 1, 3) := by decide +kernel
theorem dX10_feast_150 : decode cX10_feast 150 = .ok (.goto (-110), 3) := by decide +kernel
theorem dX10_feast_153 : decode cX10_feast 153 = .ok (.iload 4, 2) := by decide +kernel
theorem dX10_feast_155 : decode cX10_feast 155 = .ok (.ifCond .ne 11, 3) := by decide +kernel
theorem dX10_feast_158 : decode cX10_feast 158 = .ok (.iload 5, 2) := by decide +kernel
theorem dX10_feast_160 : decode cX10_feast 160 = .ok (.invokestatic 368, 3) := by decide +kernel
theorem dX10_feast_163 : decode cX10_feast 163 = .ok (.goto 27, 3) := by decide +kernel
theorem dX10_feast_166 : decode cX10_feast 166 = .ok (.iload 4, 2) := by decide +kernel
theorem dX10_feast_168 : decode cX10_feast 168 = .ok (.iconst 1, 1) := by decide +kernel
theorem dX10_feast_169 : decode cX10_feast 169 = .ok (.if_icmp .ne 8, 3) := by decide +kernel
theorem dX10_feast_172 : decode cX10_feast 172 = .ok (.iload 5, 2) := by decide +kernel
theorem dX10_feast_174 : decode cX10_feast 174 = .ok (.goto 16, 3) := by decide +kernel
theorem dX10_feast_177 : decode cX10_feast 177 = .ok (.iload 4, 2) := by decide +kernel
theorem dX10_feast_179 : decode cX10_feast 179 = .ok (.iconst 2, 1) := by decide +kernel
theorem dX10_feast_180 : decode cX10_feast 180 = .ok (.if_icmp .ne 8, 3) := by decide +kernel
theorem dX10_feast_183 : decode cX10_feast 183 = .ok (.iload 6, 2) := by decide +kernel
theorem dX10_feast_185 : decode cX10_feast 185 = .ok (.goto 5, 3) := by decide +kernel
theorem dX10_feast_188 : decode cX10_feast 188 = .ok (.iload 7, 2) := by decide +kernel
theorem dX10_feast_190 : decode cX10_feast 190 = .ok (.ireturn, 1) := by decide +kernel
