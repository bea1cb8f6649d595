abbrev cX10_end : ByteArray := prog_12_method_13_code
def yX10_end : MethodName := ⟨RX10, "end", "(I)I"⟩
abbrev cX10_fault : ByteArray := prog_12_method_31_code
def yX10_fault : MethodName := ⟨RX10, "fault", "(I)I"⟩
abbrev cX10_common : ByteArray := prog_12_method_71_code
def yX10_common : MethodName := ⟨RX10, "common", "(II)I"⟩
abbrev cX10_fair : ByteArray := prog_12_method_72_code
def yX10_fair : MethodName := ⟨RX10, "fair", "(IIIZ)I"⟩
abbrev cX10_usurers : ByteArray := prog_12_method_73_code
def yX10_usurers : MethodName := ⟨RX10, "usurers", "()I"⟩
abbrev cX10_findAsks : ByteArray := prog_12_method_74_code
def yX10_findAsks : MethodName := ⟨RX10, "findAsks", "()V"⟩
abbrev cX10_layUsurer : ByteArray := prog_12_method_75_code
def yX10_layUsurer : MethodName := ⟨RX10, "layUsurer", "(III)Z"⟩
abbrev cX10_ask : ByteArray := prog_12_method_76_code
def yX10_ask : MethodName := ⟨RX10, "ask", "(III)I"⟩
abbrev cX10_taken : ByteArray := prog_12_method_77_code
def yX10_taken : MethodName := ⟨RX10, "taken", "(III)I"⟩
abbrev cX10_areAlike : ByteArray := prog_12_method_78_code
def yX10_areAlike : MethodName := ⟨RX10, "areAlike", "(II)Z"⟩
abbrev cX10_stands : ByteArray := prog_12_method_79_code
def yX10_stands : MethodName := ⟨RX10, "stands", "(II)I"⟩
abbrev cX10_mostOwing : ByteArray := prog_12_method_95_code
def yX10_mostOwing : MethodName := ⟨RX10, "mostOwing", "()I"⟩
abbrev cX10_idol : ByteArray := prog_12_method_96_code
def yX10_idol : MethodName := ⟨RX10, "idol", "()I"⟩
abbrev cX10_eatsBy : ByteArray := prog_12_method_97_code
def yX10_eatsBy : MethodName := ⟨RX10, "eatsBy", "(II)Z"⟩
abbrev cX10_tip : ByteArray := prog_12_method_98_code
def yX10_tip : MethodName := ⟨RX10, "tip", "(I)I"⟩
abbrev cX10_dear : ByteArray := prog_12_method_99_code
def yX10_dear : MethodName := ⟨RX10, "dear", "(I)I"⟩
abbrev cX10_look : ByteArray := prog_12_method_100_code
def yX10_look : MethodName := ⟨RX10, "look", "(IIII)I"⟩
abbrev cX10_names : ByteArray := prog_12_method_101_code
def yX10_names : MethodName := ⟨RX10, "names", "(II)Z"⟩
abbrev cX10_starvedWithout : ByteArray := prog_12_method_102_code
def yX10_starvedWithout : MethodName := ⟨RX10, "starvedWithout", "(II)I"⟩
abbrev cX10_silence : ByteArray := prog_12_method_103_code
def yX10_silence : MethodName := ⟨RX10, "silence", "(IIZ)I"⟩
abbrev cX10_count : ByteArray := prog_12_method_104_code
def yX10_count : MethodName := ⟨RX10, "count", "(I)I"⟩
def wsX10_end : List Cond := .code yX10_end cX10_end 2 (some .int) :: ([.fieldLink RX10 80 "ClapBankModel" "code" "I", .fieldLink RX10 13 "ClapBankModel" "size" "[I", .methodLink RX10 92 yX10_in, .static yX10_in, .initialized RX10, .code yX10_in cX10_in 3 (some .boolean)] ++ wsX100)
def wsX10_fault : List Cond := .code yX10_fault cX10_fault 2 (some .int) :: ([.fieldLink RX10 80 "ClapBankModel" "code" "I", .fieldLink RX10 17 "ClapBankModel" "fault" "[I", .fieldLink RX10 20 "ClapBankModel" "faultPlace" "[I"] ++ wsX100)
def wsX10_common : List Cond := .code yX10_common cX10_common 5 (some .int) :: ([])
def wsX10_fair_r1 : List Cond := [Cond.fieldLink RX10 80 "ClapBankModel" "code" "I", Cond.fieldLink RX10 231 "ClapBankModel" "actors" "I", Cond.fieldLink RX10 228 "ClapBankModel" "palms" "I", Cond.fieldLink RX10 41 "ClapBankModel" "left" "[I", Cond.methodLink RX10 332 yX10_layState, Cond.instanceMethod yX10_layState, Cond.selects RX10 yX10_layState yX10_layState, Cond.initialized RX10, Cond.code yX10_layState cX10_layState 4 (some .boolean), Cond.methodLink RX10 249 yX10_hasBook, Cond.instanceMethod yX10_hasBook, Cond.selects RX10 yX10_hasBook yX10_hasBook, Cond.code yX10_hasBook cX10_hasBook 2 (some .boolean), Cond.fieldLink RX10 246 "ClapBankModel" "book" "I", Cond.methodLink RX10 211 yX10_is, Cond.instanceMethod yX10_is, Cond.selects RX10 yX10_is yX10_is, Cond.code yX10_is cX10_is 3 (some .boolean), Cond.fieldLink RX10 23 "ClapBankModel" "many" "[I", Cond.methodLink RX10 92 yX10_in, Cond.static yX10_in, Cond.code yX10_in cX10_in 3 (some .boolean), Cond.methodLink RX10 237 yX10_hand, Cond.instanceMethod yX10_hand]
def wsX10_fair_r2 : List Cond := [Cond.selects RX10 yX10_hand yX10_hand, Cond.code yX10_hand cX10_hand 2 (some .boolean), Cond.fieldLink RX10 221 "ClapBankModel" "theatre" "I", Cond.fieldLink RX10 234 "ClapBankModel" "rate" "I", Cond.methodLink RX10 224 yX10_of, Cond.instanceMethod yX10_of, Cond.selects RX10 yX10_of yX10_of, Cond.code yX10_of cX10_of 2 (some .int), Cond.fieldLink RX10 26 "ClapBankModel" "theatres" "[I", Cond.methodLink RX10 252 yX10_deeds, Cond.instanceMethod yX10_deeds, Cond.selects RX10 yX10_deeds yX10_deeds, Cond.code yX10_deeds cX10_deeds 1 (some .int), Cond.fieldLink RX10 29 "ClapBankModel" "books" "[I", Cond.methodLink RX10 329 yX10_play, Cond.instanceMethod yX10_play, Cond.selects RX10 yX10_play yX10_play, Cond.code yX10_play cX10_play 3 (some .int), Cond.methodLink RX10 323 yX10_begin, Cond.instanceMethod yX10_begin, Cond.selects RX10 yX10_begin yX10_begin, Cond.code yX10_begin cX10_begin 2 none, Cond.fieldLink RX10 258 "ClapBankModel" "chest" "I", Cond.fieldLink RX10 261 "ClapBankModel" "encores" "I"]
def wsX10_fair_r3 : List Cond := [Cond.fieldLink RX10 264 "ClapBankModel" "nights" "I", Cond.fieldLink RX10 267 "ClapBankModel" "lives" "I", Cond.fieldLink RX10 270 "ClapBankModel" "claps" "I", Cond.fieldLink RX10 273 "ClapBankModel" "echoFor" "I", Cond.fieldLink RX10 44 "ClapBankModel" "owes" "[I", Cond.fieldLink RX10 47 "ClapBankModel" "got" "[I", Cond.fieldLink RX10 50 "ClapBankModel" "saved" "[I", Cond.fieldLink RX10 53 "ClapBankModel" "storms" "[I", Cond.fieldLink RX10 56 "ClapBankModel" "starved" "[I", Cond.methodLink RX10 276 yX10_morning, Cond.instanceMethod yX10_morning, Cond.selects RX10 yX10_morning yX10_morning, Cond.code yX10_morning cX10_morning 2 none, Cond.fieldLink RX10 279 "ClapBankModel" "hushed" "I", Cond.methodLink RX10 326 yX10_doesNext, Cond.instanceMethod yX10_doesNext, Cond.selects RX10 yX10_doesNext yX10_doesNext, Cond.code yX10_doesNext cX10_doesNext 2 (some .boolean), Cond.methodLink RX10 320 yX10_does, Cond.instanceMethod yX10_does, Cond.selects RX10 yX10_does yX10_does, Cond.code yX10_does cX10_does 5 (some .boolean), Cond.methodLink RX10 255 yX10_deedOf, Cond.instanceMethod yX10_deedOf]
def wsX10_fair_r4 : List Cond := [Cond.selects RX10 yX10_deedOf yX10_deedOf, Cond.code yX10_deedOf cX10_deedOf 3 (some .int), Cond.methodLink RX10 307 yX10_clapsFor, Cond.instanceMethod yX10_clapsFor, Cond.selects RX10 yX10_clapsFor yX10_clapsFor, Cond.code yX10_clapsFor cX10_clapsFor 5 (some .boolean), Cond.methodLink RX10 240 yX10_isPalm, Cond.instanceMethod yX10_isPalm, Cond.selects RX10 yX10_isPalm yX10_isPalm, Cond.code yX10_isPalm cX10_isPalm 2 (some .boolean), Cond.methodLink RX10 285 yX10_isLiving, Cond.instanceMethod yX10_isLiving, Cond.selects RX10 yX10_isLiving yX10_isLiving, Cond.code yX10_isLiving cX10_isLiving 2 (some .boolean), Cond.methodLink RX10 243 yX10_isActor, Cond.instanceMethod yX10_isActor, Cond.selects RX10 yX10_isActor yX10_isActor, Cond.code yX10_isActor cX10_isActor 2 (some .boolean), Cond.methodLink RX10 84 yX10_has, Cond.static yX10_has, Cond.code yX10_has cX10_has 2 (some .boolean), Cond.methodLink RX10 288 yX10_handsOf, Cond.instanceMethod yX10_handsOf, Cond.selects RX10 yX10_handsOf yX10_handsOf]
def wsX10_fair_r5 : List Cond := [Cond.code yX10_handsOf cX10_handsOf 2 (some .int), Cond.methodLink RX10 291 yX10_gets, Cond.instanceMethod yX10_gets, Cond.selects RX10 yX10_gets yX10_gets, Cond.code yX10_gets cX10_gets 3 none, Cond.methodLink RX10 310 yX10_gives, Cond.instanceMethod yX10_gives, Cond.selects RX10 yX10_gives yX10_gives, Cond.code yX10_gives cX10_gives 5 (some .boolean), Cond.methodLink RX10 314 yX10_hushes, Cond.instanceMethod yX10_hushes, Cond.selects RX10 yX10_hushes yX10_hushes, Cond.code yX10_hushes cX10_hushes 4 (some .boolean), Cond.methodLink RX10 317 yX10_night, Cond.instanceMethod yX10_night, Cond.selects RX10 yX10_night yX10_night, Cond.code yX10_night cX10_night 2 none, Cond.constantLong RX10 300 (100), Cond.fieldLink RX10 302 "ClapBankModel" "capped" "Z", Cond.constant RX10 306 (1000000), Cond.methodLink RX10 297 yX10_eatsNow, Cond.instanceMethod yX10_eatsNow, Cond.selects RX10 yX10_eatsNow yX10_eatsNow, Cond.code yX10_eatsNow cX10_eatsNow 3 (some .boolean)]
def wsX10_fair_r6 : List Cond := [Cond.methodLink RX10 294 yX10_eats, Cond.instanceMethod yX10_eats, Cond.selects RX10 yX10_eats yX10_eats, Cond.code yX10_eats cX10_eats 3 (some .int), Cond.methodLink RX10 282 yX10_hungerOf, Cond.instanceMethod yX10_hungerOf, Cond.selects RX10 yX10_hungerOf yX10_hungerOf, Cond.code yX10_hungerOf cX10_hungerOf 2 (some .int), Cond.methodLink RX10 170 yX10_lesser, Cond.static yX10_lesser, Cond.code yX10_lesser cX10_lesser 2 (some .int), Cond.methodLink RX10 341 yX10_needOf, Cond.instanceMethod yX10_needOf, Cond.selects RX10 yX10_needOf yX10_needOf, Cond.code yX10_needOf cX10_needOf 2 (some .int), Cond.methodLink RX10 338 yX10_greater, Cond.static yX10_greater, Cond.code yX10_greater cX10_greater 2 (some .int), Cond.methodLink RX10 371 yX10_common, Cond.static yX10_common, Cond.code yX10_common cX10_common 5 (some .int)]
def wsX10_fair : List Cond := .code yX10_fair cX10_fair 8 (some .int) :: ((wsX10_fair_r1 ++ (wsX10_fair_r2 ++ (wsX10_fair_r3 ++ (wsX10_fair_r4 ++ (wsX10_fair_r5 ++ wsX10_fair_r6))))) ++ wsX100)
def wsX10_usurers : List Cond := .code yX10_usurers cX10_usurers 1 (some .int) :: ([.methodLink RX10 224 yX10_of, .instanceMethod yX10_of, .selects RX10 yX10_of yX10_of, .initialized RX10, .code yX10_of cX10_of 2 (some .int), .fieldLink RX10 26 "ClapBankModel" "theatres" "[I", .fieldLink RX10 221 "ClapBankModel" "theatre" "I"] ++ wsX100)
def wsX10_findAsks : List Cond := .code yX10_findAsks cX10_findAsks 5 none :: ([.fieldLink RX10 59 "ClapBankModel" "asks" "[I", .fieldLink RX10 62 "ClapBankModel" "wentTo" "[I", .methodLink RX10 374 yX10_usurers, .instanceMethod yX10_usurers, .selects RX10 yX10_usurers yX10_usurers, .initialized RX10, .code yX10_usurers cX10_usurers 1 (some .int), .methodLink RX10 224 yX10_of, .instanceMethod yX10_of, .selects RX10 yX10_of yX10_of, .code yX10_of cX10_of 2 (some .int), .fieldLink RX10 26 "ClapBankModel" "theatres" "[I", .fieldLink RX10 221 "ClapBankModel" "theatre" "I", .methodLink RX10 170 yX10_lesser, .static yX10_lesser, .code yX10_lesser cX10_lesser 2 (some .int), .methodLink RX10 338 yX10_greater, .static yX10_greater, .code yX10_greater cX10_greater 2 (some .int)] ++ wsX100)
def wsX10_layUsurer_r1 : List Cond := [Cond.methodLink RX10 237 yX10_hand, Cond.instanceMethod yX10_hand, Cond.selects RX10 yX10_hand yX10_hand, Cond.initialized RX10, Cond.code yX10_hand cX10_hand 2 (some .boolean), Cond.fieldLink RX10 221 "ClapBankModel" "theatre" "I", Cond.fieldLink RX10 228 "ClapBankModel" "palms" "I", Cond.fieldLink RX10 231 "ClapBankModel" "actors" "I", Cond.fieldLink RX10 234 "ClapBankModel" "rate" "I", Cond.methodLink RX10 211 yX10_is, Cond.instanceMethod yX10_is, Cond.selects RX10 yX10_is yX10_is, Cond.code yX10_is cX10_is 3 (some .boolean), Cond.fieldLink RX10 23 "ClapBankModel" "many" "[I", Cond.methodLink RX10 92 yX10_in, Cond.static yX10_in, Cond.code yX10_in cX10_in 3 (some .boolean), Cond.methodLink RX10 224 yX10_of, Cond.instanceMethod yX10_of, Cond.selects RX10 yX10_of yX10_of, Cond.code yX10_of cX10_of 2 (some .int), Cond.fieldLink RX10 26 "ClapBankModel" "theatres" "[I", Cond.methodLink RX10 374 yX10_usurers, Cond.instanceMethod yX10_usurers]
def wsX10_layUsurer_r2 : List Cond := [Cond.selects RX10 yX10_usurers yX10_usurers, Cond.code yX10_usurers cX10_usurers 1 (some .int), Cond.methodLink RX10 377 yX10_findAsks, Cond.instanceMethod yX10_findAsks, Cond.selects RX10 yX10_findAsks yX10_findAsks, Cond.code yX10_findAsks cX10_findAsks 5 none, Cond.fieldLink RX10 59 "ClapBankModel" "asks" "[I", Cond.fieldLink RX10 62 "ClapBankModel" "wentTo" "[I", Cond.methodLink RX10 170 yX10_lesser, Cond.static yX10_lesser, Cond.code yX10_lesser cX10_lesser 2 (some .int), Cond.methodLink RX10 338 yX10_greater, Cond.static yX10_greater, Cond.code yX10_greater cX10_greater 2 (some .int)]
def wsX10_layUsurer : List Cond := .code yX10_layUsurer cX10_layUsurer 4 (some .boolean) :: ((wsX10_layUsurer_r1 ++ wsX10_layUsurer_r2) ++ wsX100)
def wsX10_ask_r1 : List Cond := [Cond.fieldLink RX10 80 "ClapBankModel" "code" "I", Cond.fieldLink RX10 59 "ClapBankModel" "asks" "[I", Cond.methodLink RX10 380 yX10_layUsurer, Cond.instanceMethod yX10_layUsurer, Cond.selects RX10 yX10_layUsurer yX10_layUsurer, Cond.initialized RX10, Cond.code yX10_layUsurer cX10_layUsurer 4 (some .boolean), Cond.methodLink RX10 237 yX10_hand, Cond.instanceMethod yX10_hand, Cond.selects RX10 yX10_hand yX10_hand, Cond.code yX10_hand cX10_hand 2 (some .boolean), Cond.fieldLink RX10 221 "ClapBankModel" "theatre" "I", Cond.fieldLink RX10 228 "ClapBankModel" "palms" "I", Cond.fieldLink RX10 231 "ClapBankModel" "actors" "I", Cond.fieldLink RX10 234 "ClapBankModel" "rate" "I", Cond.methodLink RX10 211 yX10_is, Cond.instanceMethod yX10_is, Cond.selects RX10 yX10_is yX10_is, Cond.code yX10_is cX10_is 3 (some .boolean), Cond.fieldLink RX10 23 "ClapBankModel" "many" "[I", Cond.methodLink RX10 92 yX10_in, Cond.static yX10_in, Cond.code yX10_in cX10_in 3 (some .boolean), Cond.methodLink RX10 224 yX10_of]
def wsX10_ask_r2 : List Cond := [Cond.instanceMethod yX10_of, Cond.selects RX10 yX10_of yX10_of, Cond.code yX10_of cX10_of 2 (some .int), Cond.fieldLink RX10 26 "ClapBankModel" "theatres" "[I", Cond.methodLink RX10 374 yX10_usurers, Cond.instanceMethod yX10_usurers, Cond.selects RX10 yX10_usurers yX10_usurers, Cond.code yX10_usurers cX10_usurers 1 (some .int), Cond.methodLink RX10 377 yX10_findAsks, Cond.instanceMethod yX10_findAsks, Cond.selects RX10 yX10_findAsks yX10_findAsks, Cond.code yX10_findAsks cX10_findAsks 5 none, Cond.fieldLink RX10 62 "ClapBankModel" "wentTo" "[I", Cond.methodLink RX10 170 yX10_lesser, Cond.static yX10_lesser, Cond.code yX10_lesser cX10_lesser 2 (some .int), Cond.methodLink RX10 338 yX10_greater, Cond.static yX10_greater, Cond.code yX10_greater cX10_greater 2 (some .int)]
def wsX10_ask : List Cond := .code yX10_ask cX10_ask 4 (some .int) :: ((wsX10_ask_r1 ++ wsX10_ask_r2) ++ wsX100)
def wsX10_taken_r1 : List Cond := [Cond.fieldLink RX10 80 "ClapBankModel" "code" "I", Cond.fieldLink RX10 62 "ClapBankModel" "wentTo" "[I", Cond.fieldLink RX10 59 "ClapBankModel" "asks" "[I", Cond.methodLink RX10 380 yX10_layUsurer, Cond.instanceMethod yX10_layUsurer, Cond.selects RX10 yX10_layUsurer yX10_layUsurer, Cond.initialized RX10, Cond.code yX10_layUsurer cX10_layUsurer 4 (some .boolean), Cond.methodLink RX10 237 yX10_hand, Cond.instanceMethod yX10_hand, Cond.selects RX10 yX10_hand yX10_hand, Cond.code yX10_hand cX10_hand 2 (some .boolean), Cond.fieldLink RX10 221 "ClapBankModel" "theatre" "I", Cond.fieldLink RX10 228 "ClapBankModel" "palms" "I", Cond.fieldLink RX10 231 "ClapBankModel" "actors" "I", Cond.fieldLink RX10 234 "ClapBankModel" "rate" "I", Cond.methodLink RX10 211 yX10_is, Cond.instanceMethod yX10_is, Cond.selects RX10 yX10_is yX10_is, Cond.code yX10_is cX10_is 3 (some .boolean), Cond.fieldLink RX10 23 "ClapBankModel" "many" "[I", Cond.methodLink RX10 92 yX10_in, Cond.static yX10_in, Cond.code yX10_in cX10_in 3 (some .boolean)]
def wsX10_taken_r2 : List Cond := [Cond.methodLink RX10 224 yX10_of, Cond.instanceMethod yX10_of, Cond.selects RX10 yX10_of yX10_of, Cond.code yX10_of cX10_of 2 (some .int), Cond.fieldLink RX10 26 "ClapBankModel" "theatres" "[I", Cond.methodLink RX10 374 yX10_usurers, Cond.instanceMethod yX10_usurers, Cond.selects RX10 yX10_usurers yX10_usurers, Cond.code yX10_usurers cX10_usurers 1 (some .int), Cond.methodLink RX10 377 yX10_findAsks, Cond.instanceMethod yX10_findAsks, Cond.selects RX10 yX10_findAsks yX10_findAsks, Cond.code yX10_findAsks cX10_findAsks 5 none, Cond.methodLink RX10 170 yX10_lesser, Cond.static yX10_lesser, Cond.code yX10_lesser cX10_lesser 2 (some .int), Cond.methodLink RX10 338 yX10_greater, Cond.static yX10_greater, Cond.code yX10_greater cX10_greater 2 (some .int)]
def wsX10_taken : List Cond := .code yX10_taken cX10_taken 6 (some .int) :: ((wsX10_taken_r1 ++ wsX10_taken_r2) ++ wsX100)
def wsX10_areAlike : List Cond := .code yX10_areAlike cX10_areAlike 4 (some .boolean) :: ([.fieldLink RX10 59 "ClapBankModel" "asks" "[I", .methodLink RX10 374 yX10_usurers, .instanceMethod yX10_usurers, .selects RX10 yX10_usurers yX10_usurers, .initialized RX10, .code yX10_usurers cX10_usurers 1 (some .int), .methodLink RX10 224 yX10_of, .instanceMethod yX10_of, .selects RX10 yX10_of yX10_of, .code yX10_of cX10_of 2 (some .int), .fieldLink RX10 26 "ClapBankModel" "theatres" "[I", .fieldLink RX10 221 "ClapBankModel" "theatre" "I"] ++ wsX100)
def wsX10_stands_r1 : List Cond := [Cond.fieldLink RX10 80 "ClapBankModel" "code" "I", Cond.methodLink RX10 92 yX10_in, Cond.static yX10_in, Cond.initialized RX10, Cond.code yX10_in cX10_in 3 (some .boolean), Cond.methodLink RX10 237 yX10_hand, Cond.instanceMethod yX10_hand, Cond.selects RX10 yX10_hand yX10_hand, Cond.code yX10_hand cX10_hand 2 (some .boolean), Cond.fieldLink RX10 221 "ClapBankModel" "theatre" "I", Cond.fieldLink RX10 228 "ClapBankModel" "palms" "I", Cond.fieldLink RX10 231 "ClapBankModel" "actors" "I", Cond.fieldLink RX10 234 "ClapBankModel" "rate" "I", Cond.methodLink RX10 211 yX10_is, Cond.instanceMethod yX10_is, Cond.selects RX10 yX10_is yX10_is, Cond.code yX10_is cX10_is 3 (some .boolean), Cond.fieldLink RX10 23 "ClapBankModel" "many" "[I", Cond.methodLink RX10 224 yX10_of, Cond.instanceMethod yX10_of, Cond.selects RX10 yX10_of yX10_of, Cond.code yX10_of cX10_of 2 (some .int), Cond.fieldLink RX10 26 "ClapBankModel" "theatres" "[I", Cond.methodLink RX10 374 yX10_usurers]
def wsX10_stands_r2 : List Cond := [Cond.instanceMethod yX10_usurers, Cond.selects RX10 yX10_usurers yX10_usurers, Cond.code yX10_usurers cX10_usurers 1 (some .int), Cond.methodLink RX10 377 yX10_findAsks, Cond.instanceMethod yX10_findAsks, Cond.selects RX10 yX10_findAsks yX10_findAsks, Cond.code yX10_findAsks cX10_findAsks 5 none, Cond.fieldLink RX10 59 "ClapBankModel" "asks" "[I", Cond.fieldLink RX10 62 "ClapBankModel" "wentTo" "[I", Cond.methodLink RX10 170 yX10_lesser, Cond.static yX10_lesser, Cond.code yX10_lesser cX10_lesser 2 (some .int), Cond.methodLink RX10 338 yX10_greater, Cond.static yX10_greater, Cond.code yX10_greater cX10_greater 2 (some .int), Cond.methodLink RX10 383 yX10_areAlike, Cond.instanceMethod yX10_areAlike, Cond.selects RX10 yX10_areAlike yX10_areAlike, Cond.code yX10_areAlike cX10_areAlike 4 (some .boolean)]
def wsX10_stands : List Cond := .code yX10_stands cX10_stands 5 (some .int) :: ((wsX10_stands_r1 ++ wsX10_stands_r2) ++ wsX100)
def wsX10_mostOwing : List Cond := .code yX10_mostOwing cX10_mostOwing 6 (some .int) :: ([.fieldLink RX10 228 "ClapBankModel" "palms" "I", .fieldLink RX10 44 "ClapBankModel" "owes" "[I", .methodLink RX10 338 yX10_greater, .static yX10_greater, .initialized RX10, .code yX10_greater cX10_greater 2 (some .int)] ++ wsX100)
def wsX10_idol : List Cond := .code yX10_idol cX10_idol 6 (some .int) :: ([.fieldLink RX10 231 "ClapBankModel" "actors" "I", .fieldLink RX10 228 "ClapBankModel" "palms" "I", .fieldLink RX10 47 "ClapBankModel" "got" "[I", .methodLink RX10 338 yX10_greater, .static yX10_greater, .initialized RX10, .code yX10_greater cX10_greater 2 (some .int)] ++ wsX100)
def wsX10_eatsBy : List Cond := .code yX10_eatsBy cX10_eatsBy 5 (some .boolean) :: ([.fieldLink RX10 258 "ClapBankModel" "chest" "I", .fieldLink RX10 267 "ClapBankModel" "lives" "I", .fieldLink RX10 50 "ClapBankModel" "saved" "[I", .methodLink RX10 84 yX10_has, .static yX10_has, .initialized RX10, .code yX10_has cX10_has 2 (some .boolean), .methodLink RX10 294 yX10_eats, .instanceMethod yX10_eats, .selects RX10 yX10_eats yX10_eats, .code yX10_eats cX10_eats 3 (some .int), .fieldLink RX10 261 "ClapBankModel" "encores" "I", .methodLink RX10 282 yX10_hungerOf, .instanceMethod yX10_hungerOf, .selects RX10 yX10_hungerOf yX10_hungerOf, .code yX10_hungerOf cX10_hungerOf 2 (some .int), .methodLink RX10 224 yX10_of, .instanceMethod yX10_of, .selects RX10 yX10_of yX10_of, .code yX10_of cX10_of 2 (some .int), .fieldLink RX10 26 "ClapBankModel" "theatres" "[I", .fieldLink RX10 221 "ClapBankModel" "theatre" "I"] ++ wsX100)
def wsX10_tip_r1 : List Cond := [Cond.fieldLink RX10 267 "ClapBankModel" "lives" "I", Cond.methodLink RX10 84 yX10_has, Cond.static yX10_has, Cond.initialized RX10, Cond.code yX10_has cX10_has 2 (some .boolean), Cond.methodLink RX10 431 yX10_eatsBy, Cond.instanceMethod yX10_eatsBy, Cond.selects RX10 yX10_eatsBy yX10_eatsBy, Cond.code yX10_eatsBy cX10_eatsBy 5 (some .boolean), Cond.fieldLink RX10 258 "ClapBankModel" "chest" "I", Cond.fieldLink RX10 50 "ClapBankModel" "saved" "[I", Cond.methodLink RX10 294 yX10_eats, Cond.instanceMethod yX10_eats, Cond.selects RX10 yX10_eats yX10_eats, Cond.code yX10_eats cX10_eats 3 (some .int), Cond.fieldLink RX10 261 "ClapBankModel" "encores" "I", Cond.methodLink RX10 282 yX10_hungerOf, Cond.instanceMethod yX10_hungerOf, Cond.selects RX10 yX10_hungerOf yX10_hungerOf, Cond.code yX10_hungerOf cX10_hungerOf 2 (some .int), Cond.methodLink RX10 224 yX10_of, Cond.instanceMethod yX10_of, Cond.selects RX10 yX10_of yX10_of, Cond.code yX10_of cX10_of 2 (some .int)]
def wsX10_tip_r2 : List Cond := [Cond.fieldLink RX10 26 "ClapBankModel" "theatres" "[I", Cond.fieldLink RX10 221 "ClapBankModel" "theatre" "I"]
def wsX10_tip : List Cond := .code yX10_tip cX10_tip 3 (some .int) :: ((wsX10_tip_r1 ++ wsX10_tip_r2) ++ wsX100)
def wsX10_dear : List Cond := .code yX10_dear cX10_dear 3 (some .int) :: ([.fieldLink RX10 267 "ClapBankModel" "lives" "I", .fieldLink RX10 50 "ClapBankModel" "saved" "[I", .methodLink RX10 84 yX10_has, .static yX10_has, .initialized RX10, .code yX10_has cX10_has 2 (some .boolean), .methodLink RX10 294 yX10_eats, .instanceMethod yX10_eats, .selects RX10 yX10_eats yX10_eats, .code yX10_eats cX10_eats 3 (some .int), .fieldLink RX10 261 "ClapBankModel" "encores" "I", .methodLink RX10 282 yX10_hungerOf, .instanceMethod yX10_hungerOf, .selects RX10 yX10_hungerOf yX10_hungerOf, .code yX10_hungerOf cX10_hungerOf 2 (some .int), .methodLink RX10 224 yX10_of, .instanceMethod yX10_of, .selects RX10 yX10_of yX10_of, .code yX10_of cX10_of 2 (some .int), .fieldLink RX10 26 "ClapBankModel" "theatres" "[I", .fieldLink RX10 221 "ClapBankModel" "theatre" "I"] ++ wsX100)
def wsX10_look_r1 : List Cond := [Cond.fieldLink RX10 80 "ClapBankModel" "code" "I", Cond.fieldLink RX10 231 "ClapBankModel" "actors" "I", Cond.methodLink RX10 332 yX10_layState, Cond.instanceMethod yX10_layState, Cond.selects RX10 yX10_layState yX10_layState, Cond.initialized RX10, Cond.code yX10_layState cX10_layState 4 (some .boolean), Cond.methodLink RX10 249 yX10_hasBook, Cond.instanceMethod yX10_hasBook, Cond.selects RX10 yX10_hasBook yX10_hasBook, Cond.code yX10_hasBook cX10_hasBook 2 (some .boolean), Cond.fieldLink RX10 246 "ClapBankModel" "book" "I", Cond.methodLink RX10 211 yX10_is, Cond.instanceMethod yX10_is, Cond.selects RX10 yX10_is yX10_is, Cond.code yX10_is cX10_is 3 (some .boolean), Cond.fieldLink RX10 23 "ClapBankModel" "many" "[I", Cond.methodLink RX10 92 yX10_in, Cond.static yX10_in, Cond.code yX10_in cX10_in 3 (some .boolean), Cond.methodLink RX10 237 yX10_hand, Cond.instanceMethod yX10_hand, Cond.selects RX10 yX10_hand yX10_hand, Cond.code yX10_hand cX10_hand 2 (some .boolean)]
def wsX10_look_r2 : List Cond := [Cond.fieldLink RX10 221 "ClapBankModel" "theatre" "I", Cond.fieldLink RX10 228 "ClapBankModel" "palms" "I", Cond.fieldLink RX10 234 "ClapBankModel" "rate" "I", Cond.methodLink RX10 224 yX10_of, Cond.instanceMethod yX10_of, Cond.selects RX10 yX10_of yX10_of, Cond.code yX10_of cX10_of 2 (some .int), Cond.fieldLink RX10 26 "ClapBankModel" "theatres" "[I", Cond.methodLink RX10 252 yX10_deeds, Cond.instanceMethod yX10_deeds, Cond.selects RX10 yX10_deeds yX10_deeds, Cond.code yX10_deeds cX10_deeds 1 (some .int), Cond.fieldLink RX10 29 "ClapBankModel" "books" "[I", Cond.methodLink RX10 329 yX10_play, Cond.instanceMethod yX10_play, Cond.selects RX10 yX10_play yX10_play, Cond.code yX10_play cX10_play 3 (some .int), Cond.methodLink RX10 323 yX10_begin, Cond.instanceMethod yX10_begin, Cond.selects RX10 yX10_begin yX10_begin, Cond.code yX10_begin cX10_begin 2 none, Cond.fieldLink RX10 258 "ClapBankModel" "chest" "I", Cond.fieldLink RX10 261 "ClapBankModel" "encores" "I", Cond.fieldLink RX10 264 "ClapBankModel" "nights" "I"]
def wsX10_look_r3 : List Cond := [Cond.fieldLink RX10 267 "ClapBankModel" "lives" "I", Cond.fieldLink RX10 270 "ClapBankModel" "claps" "I", Cond.fieldLink RX10 273 "ClapBankModel" "echoFor" "I", Cond.fieldLink RX10 44 "ClapBankModel" "owes" "[I", Cond.fieldLink RX10 47 "ClapBankModel" "got" "[I", Cond.fieldLink RX10 50 "ClapBankModel" "saved" "[I", Cond.fieldLink RX10 53 "ClapBankModel" "storms" "[I", Cond.fieldLink RX10 56 "ClapBankModel" "starved" "[I", Cond.methodLink RX10 276 yX10_morning, Cond.instanceMethod yX10_morning, Cond.selects RX10 yX10_morning yX10_morning, Cond.code yX10_morning cX10_morning 2 none, Cond.fieldLink RX10 41 "ClapBankModel" "left" "[I", Cond.fieldLink RX10 279 "ClapBankModel" "hushed" "I", Cond.methodLink RX10 326 yX10_doesNext, Cond.instanceMethod yX10_doesNext, Cond.selects RX10 yX10_doesNext yX10_doesNext, Cond.code yX10_doesNext cX10_doesNext 2 (some .boolean), Cond.methodLink RX10 320 yX10_does, Cond.instanceMethod yX10_does, Cond.selects RX10 yX10_does yX10_does, Cond.code yX10_does cX10_does 5 (some .boolean), Cond.methodLink RX10 255 yX10_deedOf, Cond.instanceMethod yX10_deedOf]
def wsX10_look_r4 : List Cond := [Cond.selects RX10 yX10_deedOf yX10_deedOf, Cond.code yX10_deedOf cX10_deedOf 3 (some .int), Cond.methodLink RX10 307 yX10_clapsFor, Cond.instanceMethod yX10_clapsFor, Cond.selects RX10 yX10_clapsFor yX10_clapsFor, Cond.code yX10_clapsFor cX10_clapsFor 5 (some .boolean), Cond.methodLink RX10 240 yX10_isPalm, Cond.instanceMethod yX10_isPalm, Cond.selects RX10 yX10_isPalm yX10_isPalm, Cond.code yX10_isPalm cX10_isPalm 2 (some .boolean), Cond.methodLink RX10 285 yX10_isLiving, Cond.instanceMethod yX10_isLiving, Cond.selects RX10 yX10_isLiving yX10_isLiving, Cond.code yX10_isLiving cX10_isLiving 2 (some .boolean), Cond.methodLink RX10 243 yX10_isActor, Cond.instanceMethod yX10_isActor, Cond.selects RX10 yX10_isActor yX10_isActor, Cond.code yX10_isActor cX10_isActor 2 (some .boolean), Cond.methodLink RX10 84 yX10_has, Cond.static yX10_has, Cond.code yX10_has cX10_has 2 (some .boolean), Cond.methodLink RX10 288 yX10_handsOf, Cond.instanceMethod yX10_handsOf, Cond.selects RX10 yX10_handsOf yX10_handsOf]
def wsX10_look_r5 : List Cond := [Cond.code yX10_handsOf cX10_handsOf 2 (some .int), Cond.methodLink RX10 291 yX10_gets, Cond.instanceMethod yX10_gets, Cond.selects RX10 yX10_gets yX10_gets, Cond.code yX10_gets cX10_gets 3 none, Cond.methodLink RX10 310 yX10_gives, Cond.instanceMethod yX10_gives, Cond.selects RX10 yX10_gives yX10_gives, Cond.code yX10_gives cX10_gives 5 (some .boolean), Cond.methodLink RX10 314 yX10_hushes, Cond.instanceMethod yX10_hushes, Cond.selects RX10 yX10_hushes yX10_hushes, Cond.code yX10_hushes cX10_hushes 4 (some .boolean), Cond.methodLink RX10 317 yX10_night, Cond.instanceMethod yX10_night, Cond.selects RX10 yX10_night yX10_night, Cond.code yX10_night cX10_night 2 none, Cond.constantLong RX10 300 (100), Cond.fieldLink RX10 302 "ClapBankModel" "capped" "Z", Cond.constant RX10 306 (1000000), Cond.methodLink RX10 297 yX10_eatsNow, Cond.instanceMethod yX10_eatsNow, Cond.selects RX10 yX10_eatsNow yX10_eatsNow, Cond.code yX10_eatsNow cX10_eatsNow 3 (some .boolean)]
def wsX10_look_r6 : List Cond := [Cond.methodLink RX10 294 yX10_eats, Cond.instanceMethod yX10_eats, Cond.selects RX10 yX10_eats yX10_eats, Cond.code yX10_eats cX10_eats 3 (some .int), Cond.methodLink RX10 282 yX10_hungerOf, Cond.instanceMethod yX10_hungerOf, Cond.selects RX10 yX10_hungerOf yX10_hungerOf, Cond.code yX10_hungerOf cX10_hungerOf 2 (some .int), Cond.methodLink RX10 170 yX10_lesser, Cond.static yX10_lesser, Cond.code yX10_lesser cX10_lesser 2 (some .int), Cond.methodLink RX10 434 yX10_tip, Cond.instanceMethod yX10_tip, Cond.selects RX10 yX10_tip yX10_tip, Cond.code yX10_tip cX10_tip 3 (some .int), Cond.methodLink RX10 431 yX10_eatsBy, Cond.instanceMethod yX10_eatsBy, Cond.selects RX10 yX10_eatsBy yX10_eatsBy, Cond.code yX10_eatsBy cX10_eatsBy 5 (some .boolean), Cond.methodLink RX10 437 yX10_mostOwing, Cond.instanceMethod yX10_mostOwing, Cond.selects RX10 yX10_mostOwing yX10_mostOwing, Cond.code yX10_mostOwing cX10_mostOwing 6 (some .int), Cond.methodLink RX10 338 yX10_greater]
def wsX10_look_r7 : List Cond := [Cond.static yX10_greater, Cond.code yX10_greater cX10_greater 2 (some .int), Cond.methodLink RX10 440 yX10_idol, Cond.instanceMethod yX10_idol, Cond.selects RX10 yX10_idol yX10_idol, Cond.code yX10_idol cX10_idol 6 (some .int), Cond.methodLink RX10 443 yX10_dear, Cond.instanceMethod yX10_dear, Cond.selects RX10 yX10_dear yX10_dear, Cond.code yX10_dear cX10_dear 3 (some .int)]
def wsX10_look : List Cond := .code yX10_look cX10_look 5 (some .int) :: ((wsX10_look_r1 ++ (wsX10_look_r2 ++ (wsX10_look_r3 ++ (wsX10_look_r4 ++ (wsX10_look_r5 ++ (wsX10_look_r6 ++ wsX10_look_r7)))))) ++ wsX100)
def wsX10_names : List Cond := .code yX10_names cX10_names 4 (some .boolean) :: ([.methodLink RX10 255 yX10_deedOf, .instanceMethod yX10_deedOf, .selects RX10 yX10_deedOf yX10_deedOf, .initialized RX10, .code yX10_deedOf cX10_deedOf 3 (some .int), .fieldLink RX10 29 "ClapBankModel" "books" "[I", .fieldLink RX10 246 "ClapBankModel" "book" "I"] ++ wsX100)
def wsX10_starvedWithout_r1 : List Cond := [Cond.fieldLink RX10 231 "ClapBankModel" "actors" "I", Cond.fieldLink RX10 267 "ClapBankModel" "lives" "I", Cond.methodLink RX10 323 yX10_begin, Cond.instanceMethod yX10_begin, Cond.selects RX10 yX10_begin yX10_begin, Cond.initialized RX10, Cond.code yX10_begin cX10_begin 2 none, Cond.fieldLink RX10 258 "ClapBankModel" "chest" "I", Cond.fieldLink RX10 261 "ClapBankModel" "encores" "I", Cond.fieldLink RX10 264 "ClapBankModel" "nights" "I", Cond.fieldLink RX10 270 "ClapBankModel" "claps" "I", Cond.fieldLink RX10 273 "ClapBankModel" "echoFor" "I", Cond.fieldLink RX10 44 "ClapBankModel" "owes" "[I", Cond.fieldLink RX10 47 "ClapBankModel" "got" "[I", Cond.fieldLink RX10 50 "ClapBankModel" "saved" "[I", Cond.fieldLink RX10 53 "ClapBankModel" "storms" "[I", Cond.fieldLink RX10 56 "ClapBankModel" "starved" "[I", Cond.methodLink RX10 224 yX10_of, Cond.instanceMethod yX10_of, Cond.selects RX10 yX10_of yX10_of, Cond.code yX10_of cX10_of 2 (some .int), Cond.fieldLink RX10 26 "ClapBankModel" "theatres" "[I", Cond.fieldLink RX10 221 "ClapBankModel" "theatre" "I", Cond.methodLink RX10 276 yX10_morning]
def wsX10_starvedWithout_r2 : List Cond := [Cond.instanceMethod yX10_morning, Cond.selects RX10 yX10_morning yX10_morning, Cond.code yX10_morning cX10_morning 2 none, Cond.fieldLink RX10 228 "ClapBankModel" "palms" "I", Cond.fieldLink RX10 41 "ClapBankModel" "left" "[I", Cond.fieldLink RX10 279 "ClapBankModel" "hushed" "I", Cond.methodLink RX10 446 yX10_names, Cond.instanceMethod yX10_names, Cond.selects RX10 yX10_names yX10_names, Cond.code yX10_names cX10_names 4 (some .boolean), Cond.methodLink RX10 255 yX10_deedOf, Cond.instanceMethod yX10_deedOf, Cond.selects RX10 yX10_deedOf yX10_deedOf, Cond.code yX10_deedOf cX10_deedOf 3 (some .int), Cond.fieldLink RX10 29 "ClapBankModel" "books" "[I", Cond.fieldLink RX10 246 "ClapBankModel" "book" "I", Cond.methodLink RX10 326 yX10_doesNext, Cond.instanceMethod yX10_doesNext, Cond.selects RX10 yX10_doesNext yX10_doesNext, Cond.code yX10_doesNext cX10_doesNext 2 (some .boolean), Cond.methodLink RX10 320 yX10_does, Cond.instanceMethod yX10_does, Cond.selects RX10 yX10_does yX10_does, Cond.code yX10_does cX10_does 5 (some .boolean)]
def wsX10_starvedWithout_r3 : List Cond := [Cond.methodLink RX10 307 yX10_clapsFor, Cond.instanceMethod yX10_clapsFor, Cond.selects RX10 yX10_clapsFor yX10_clapsFor, Cond.code yX10_clapsFor cX10_clapsFor 5 (some .boolean), Cond.methodLink RX10 240 yX10_isPalm, Cond.instanceMethod yX10_isPalm, Cond.selects RX10 yX10_isPalm yX10_isPalm, Cond.code yX10_isPalm cX10_isPalm 2 (some .boolean), Cond.methodLink RX10 92 yX10_in, Cond.static yX10_in, Cond.code yX10_in cX10_in 3 (some .boolean), Cond.methodLink RX10 285 yX10_isLiving, Cond.instanceMethod yX10_isLiving, Cond.selects RX10 yX10_isLiving yX10_isLiving, Cond.code yX10_isLiving cX10_isLiving 2 (some .boolean), Cond.methodLink RX10 243 yX10_isActor, Cond.instanceMethod yX10_isActor, Cond.selects RX10 yX10_isActor yX10_isActor, Cond.code yX10_isActor cX10_isActor 2 (some .boolean), Cond.methodLink RX10 84 yX10_has, Cond.static yX10_has, Cond.code yX10_has cX10_has 2 (some .boolean), Cond.methodLink RX10 288 yX10_handsOf, Cond.instanceMethod yX10_handsOf]
def wsX10_starvedWithout_r4 : List Cond := [Cond.selects RX10 yX10_handsOf yX10_handsOf, Cond.code yX10_handsOf cX10_handsOf 2 (some .int), Cond.methodLink RX10 291 yX10_gets, Cond.instanceMethod yX10_gets, Cond.selects RX10 yX10_gets yX10_gets, Cond.code yX10_gets cX10_gets 3 none, Cond.methodLink RX10 310 yX10_gives, Cond.instanceMethod yX10_gives, Cond.selects RX10 yX10_gives yX10_gives, Cond.code yX10_gives cX10_gives 5 (some .boolean), Cond.methodLink RX10 314 yX10_hushes, Cond.instanceMethod yX10_hushes, Cond.selects RX10 yX10_hushes yX10_hushes, Cond.code yX10_hushes cX10_hushes 4 (some .boolean), Cond.methodLink RX10 317 yX10_night, Cond.instanceMethod yX10_night, Cond.selects RX10 yX10_night yX10_night, Cond.code yX10_night cX10_night 2 none, Cond.fieldLink RX10 234 "ClapBankModel" "rate" "I", Cond.constantLong RX10 300 (100), Cond.fieldLink RX10 302 "ClapBankModel" "capped" "Z", Cond.constant RX10 306 (1000000), Cond.methodLink RX10 297 yX10_eatsNow, Cond.instanceMethod yX10_eatsNow]
def wsX10_starvedWithout_r5 : List Cond := [Cond.selects RX10 yX10_eatsNow yX10_eatsNow, Cond.code yX10_eatsNow cX10_eatsNow 3 (some .boolean), Cond.methodLink RX10 294 yX10_eats, Cond.instanceMethod yX10_eats, Cond.selects RX10 yX10_eats yX10_eats, Cond.code yX10_eats cX10_eats 3 (some .int), Cond.methodLink RX10 282 yX10_hungerOf, Cond.instanceMethod yX10_hungerOf, Cond.selects RX10 yX10_hungerOf yX10_hungerOf, Cond.code yX10_hungerOf cX10_hungerOf 2 (some .int), Cond.methodLink RX10 170 yX10_lesser, Cond.static yX10_lesser, Cond.code yX10_lesser cX10_lesser 2 (some .int), Cond.methodLink RX10 368 yX10_ones, Cond.static yX10_ones, Cond.code yX10_ones cX10_ones 3 (some .int)]
def wsX10_starvedWithout : List Cond := .code yX10_starvedWithout cX10_starvedWithout 5 (some .int) :: ((wsX10_starvedWithout_r1 ++ (wsX10_starvedWithout_r2 ++ (wsX10_starvedWithout_r3 ++ (wsX10_starvedWithout_r4 ++ wsX10_starvedWithout_r5)))) ++ wsX100)
def wsX10_silence_r1 : List Cond := [Cond.fieldLink RX10 80 "ClapBankModel" "code" "I", Cond.fieldLink RX10 228 "ClapBankModel" "palms" "I", Cond.methodLink RX10 249 yX10_hasBook, Cond.instanceMethod yX10_hasBook, Cond.selects RX10 yX10_hasBook yX10_hasBook, Cond.initialized RX10, Cond.code yX10_hasBook cX10_hasBook 2 (some .boolean), Cond.fieldLink RX10 246 "ClapBankModel" "book" "I", Cond.methodLink RX10 211 yX10_is, Cond.instanceMethod yX10_is, Cond.selects RX10 yX10_is yX10_is, Cond.code yX10_is cX10_is 3 (some .boolean), Cond.fieldLink RX10 23 "ClapBankModel" "many" "[I", Cond.methodLink RX10 92 yX10_in, Cond.static yX10_in, Cond.code yX10_in cX10_in 3 (some .boolean), Cond.methodLink RX10 237 yX10_hand, Cond.instanceMethod yX10_hand, Cond.selects RX10 yX10_hand yX10_hand, Cond.code yX10_hand cX10_hand 2 (some .boolean), Cond.fieldLink RX10 221 "ClapBankModel" "theatre" "I", Cond.fieldLink RX10 231 "ClapBankModel" "actors" "I", Cond.fieldLink RX10 234 "ClapBankModel" "rate" "I", Cond.methodLink RX10 224 yX10_of]
def wsX10_silence_r2 : List Cond := [Cond.instanceMethod yX10_of, Cond.selects RX10 yX10_of yX10_of, Cond.code yX10_of cX10_of 2 (some .int), Cond.fieldLink RX10 26 "ClapBankModel" "theatres" "[I", Cond.methodLink RX10 252 yX10_deeds, Cond.instanceMethod yX10_deeds, Cond.selects RX10 yX10_deeds yX10_deeds, Cond.code yX10_deeds cX10_deeds 1 (some .int), Cond.fieldLink RX10 29 "ClapBankModel" "books" "[I", Cond.methodLink RX10 329 yX10_play, Cond.instanceMethod yX10_play, Cond.selects RX10 yX10_play yX10_play, Cond.code yX10_play cX10_play 3 (some .int), Cond.methodLink RX10 323 yX10_begin, Cond.instanceMethod yX10_begin, Cond.selects RX10 yX10_begin yX10_begin, Cond.code yX10_begin cX10_begin 2 none, Cond.fieldLink RX10 258 "ClapBankModel" "chest" "I", Cond.fieldLink RX10 261 "ClapBankModel" "encores" "I", Cond.fieldLink RX10 264 "ClapBankModel" "nights" "I", Cond.fieldLink RX10 267 "ClapBankModel" "lives" "I", Cond.fieldLink RX10 270 "ClapBankModel" "claps" "I", Cond.fieldLink RX10 273 "ClapBankModel" "echoFor" "I", Cond.fieldLink RX10 44 "ClapBankModel" "owes" "[I"]
def wsX10_silence_r3 : List Cond := [Cond.fieldLink RX10 47 "ClapBankModel" "got" "[I", Cond.fieldLink RX10 50 "ClapBankModel" "saved" "[I", Cond.fieldLink RX10 53 "ClapBankModel" "storms" "[I", Cond.fieldLink RX10 56 "ClapBankModel" "starved" "[I", Cond.methodLink RX10 276 yX10_morning, Cond.instanceMethod yX10_morning, Cond.selects RX10 yX10_morning yX10_morning, Cond.code yX10_morning cX10_morning 2 none, Cond.fieldLink RX10 41 "ClapBankModel" "left" "[I", Cond.fieldLink RX10 279 "ClapBankModel" "hushed" "I", Cond.methodLink RX10 326 yX10_doesNext, Cond.instanceMethod yX10_doesNext, Cond.selects RX10 yX10_doesNext yX10_doesNext, Cond.code yX10_doesNext cX10_doesNext 2 (some .boolean), Cond.methodLink RX10 320 yX10_does, Cond.instanceMethod yX10_does, Cond.selects RX10 yX10_does yX10_does, Cond.code yX10_does cX10_does 5 (some .boolean), Cond.methodLink RX10 255 yX10_deedOf, Cond.instanceMethod yX10_deedOf, Cond.selects RX10 yX10_deedOf yX10_deedOf, Cond.code yX10_deedOf cX10_deedOf 3 (some .int), Cond.methodLink RX10 307 yX10_clapsFor, Cond.instanceMethod yX10_clapsFor]
def wsX10_silence_r4 : List Cond := [Cond.selects RX10 yX10_clapsFor yX10_clapsFor, Cond.code yX10_clapsFor cX10_clapsFor 5 (some .boolean), Cond.methodLink RX10 240 yX10_isPalm, Cond.instanceMethod yX10_isPalm, Cond.selects RX10 yX10_isPalm yX10_isPalm, Cond.code yX10_isPalm cX10_isPalm 2 (some .boolean), Cond.methodLink RX10 285 yX10_isLiving, Cond.instanceMethod yX10_isLiving, Cond.selects RX10 yX10_isLiving yX10_isLiving, Cond.code yX10_isLiving cX10_isLiving 2 (some .boolean), Cond.methodLink RX10 243 yX10_isActor, Cond.instanceMethod yX10_isActor, Cond.selects RX10 yX10_isActor yX10_isActor, Cond.code yX10_isActor cX10_isActor 2 (some .boolean), Cond.methodLink RX10 84 yX10_has, Cond.static yX10_has, Cond.code yX10_has cX10_has 2 (some .boolean), Cond.methodLink RX10 288 yX10_handsOf, Cond.instanceMethod yX10_handsOf, Cond.selects RX10 yX10_handsOf yX10_handsOf, Cond.code yX10_handsOf cX10_handsOf 2 (some .int), Cond.methodLink RX10 291 yX10_gets, Cond.instanceMethod yX10_gets, Cond.selects RX10 yX10_gets yX10_gets]
def wsX10_silence_r5 : List Cond := [Cond.code yX10_gets cX10_gets 3 none, Cond.methodLink RX10 310 yX10_gives, Cond.instanceMethod yX10_gives, Cond.selects RX10 yX10_gives yX10_gives, Cond.code yX10_gives cX10_gives 5 (some .boolean), Cond.methodLink RX10 314 yX10_hushes, Cond.instanceMethod yX10_hushes, Cond.selects RX10 yX10_hushes yX10_hushes, Cond.code yX10_hushes cX10_hushes 4 (some .boolean), Cond.methodLink RX10 317 yX10_night, Cond.instanceMethod yX10_night, Cond.selects RX10 yX10_night yX10_night, Cond.code yX10_night cX10_night 2 none, Cond.constantLong RX10 300 (100), Cond.fieldLink RX10 302 "ClapBankModel" "capped" "Z", Cond.constant RX10 306 (1000000), Cond.methodLink RX10 297 yX10_eatsNow, Cond.instanceMethod yX10_eatsNow, Cond.selects RX10 yX10_eatsNow yX10_eatsNow, Cond.code yX10_eatsNow cX10_eatsNow 3 (some .boolean), Cond.methodLink RX10 294 yX10_eats, Cond.instanceMethod yX10_eats, Cond.selects RX10 yX10_eats yX10_eats, Cond.code yX10_eats cX10_eats 3 (some .int)]
def wsX10_silence_r6 : List Cond := [Cond.methodLink RX10 282 yX10_hungerOf, Cond.instanceMethod yX10_hungerOf, Cond.selects RX10 yX10_hungerOf yX10_hungerOf, Cond.code yX10_hungerOf cX10_hungerOf 2 (some .int), Cond.methodLink RX10 170 yX10_lesser, Cond.static yX10_lesser, Cond.code yX10_lesser cX10_lesser 2 (some .int), Cond.methodLink RX10 449 yX10_starvedWithout, Cond.instanceMethod yX10_starvedWithout, Cond.selects RX10 yX10_starvedWithout yX10_starvedWithout, Cond.code yX10_starvedWithout cX10_starvedWithout 5 (some .int), Cond.methodLink RX10 446 yX10_names, Cond.instanceMethod yX10_names, Cond.selects RX10 yX10_names yX10_names, Cond.code yX10_names cX10_names 4 (some .boolean), Cond.methodLink RX10 368 yX10_ones, Cond.static yX10_ones, Cond.code yX10_ones cX10_ones 3 (some .int), Cond.methodLink RX10 338 yX10_greater, Cond.static yX10_greater, Cond.code yX10_greater cX10_greater 2 (some .int)]
def wsX10_silence : List Cond := .code yX10_silence cX10_silence 9 (some .int) :: ((wsX10_silence_r1 ++ (wsX10_silence_r2 ++ (wsX10_silence_r3 ++ (wsX10_silence_r4 ++ (wsX10_silence_r5 ++ wsX10_silence_r6))))) ++ wsX100)
def wsX10_count : List Cond := .code yX10_count cX10_count 2 (some .int) :: ([.fieldLink RX10 80 "ClapBankModel" "code" "I", .fieldLink RX10 23 "ClapBankModel" "many" "[I", .methodLink RX10 92 yX10_in, .static yX10_in, .initialized RX10, .code yX10_in cX10_in 3 (some .boolean)] ++ wsX100)
set_option maxRecDepth 20000 in
theorem ggX10_end_X10_in : GoodIn wsX10_end wsX10_in := goodIn_r _ [6] (by decide +kernel) (by decide +kernel)
set_option maxRecDepth 20000 in
theorem gX10_end_X10_in : GoodIn wsX10_end (va_wsS RX10 92 yX10_in wsX10_in) := goodIn_app (goodIn_of _ (by decide +kernel)) ggX10_end_X10_in
theorem dX10_end_0 : decode cX10_end 0 = .ok (.aload_n 0, 1) := by decide +kernel
theorem dX10_end_1 : decode cX10_end 1 = .ok (.iconst 0, 1) := by decide +kernel
theorem dX10_end_2 : decode cX10_end 2 = .ok (.putfield 80, 3) := by decide +kernel
theorem dX10_end_5 : decode cX10_end 5 = .ok (.iload_n 1, 1) := by decide +kernel
theorem dX10_end_6 : decode cX10_end 6 = .ok (.iconst 0, 1) := by decide +kernel
theorem dX10_end_7 : decode cX10_end 7 = .ok (.aload_n 0, 1) := by decide +kernel
theorem dX10_end_8 : decode cX10_end 8 = .ok (.getfield 13, 3) := by decide +kernel
theorem dX10_end_11 : decode cX10_end 11 = .ok (.iconst 0, 1) := by decide +kernel
theorem dX10_end_12 : decode cX10_end 12 = .ok (.iaload, 1) := by decide +kernel
theorem dX10_end_13 : decode cX10_end 13 = .ok (.invokestatic 92, 3) := by decide +kernel
theorem dX10_end_16 : decode cX10_end 16 = .ok (.ifCond .ne 5, 3) := by decide +kernel
theorem dX10_end_19 : decode cX10_end 19 = .ok (.iconst (-1), 1) := by decide +kernel
theorem dX10_end_20 : decode cX10_end 20 = .ok (.ireturn, 1) := by decide +kernel
theorem dX10_end_21 : decode cX10_end 21 = .ok (.aload_n 0, 1) := by decide +kernel
theorem dX10_end_22 : decode cX10_end 22 = .ok (.getfield 13, 3) := by decide +kernel
theorem dX10_end_25 : decode cX10_end 25 = .ok (.iconst 0, 1) := by decide +kernel
theorem dX10_end_26 : decode cX10_end 26 = .ok (.iload_n 1, 1) := by decide +kernel
theorem dX10_end_27 : decode cX10_end 27 = .ok (.iastore, 1) := by decide +kernel
theorem dX10_end_28 : decode cX10_end 28 = .ok (.iload_n 1, 1) := by decide +kernel
theorem dX10_end_29 : decode cX10_end 29 = .ok (.ireturn, 1) := by decide +kernel
theorem dX10_fault_0 : decode cX10_fault 0 = .ok (.aload_n 0, 1) := by decide +kernel
theorem dX10_fault_1 : decode cX10_fault 1 = .ok (.iconst 0, 1) := by decide +kernel
theorem dX10_fault_2 : decode cX10_fault 2 = .ok (.putfield 80, 3) := by decide +kernel
theorem dX10_fault_5 : decode cX10_fault 5 = .ok (.iload_n 1, 1) := by decide +kernel
theorem dX10_fault_6 : decode cX10_fault 6 = .ok (.ifCond .ne 12, 3) := by decide +kernel
theorem dX10_fault_9 : decode cX10_fault 9 = .ok (.aload_n 0, 1) := by decide +kernel
theorem dX10_fault_10 : decode cX10_fault 10 = .ok (.getfield 17, 3) := by decide +kernel
theorem dX10_fault_13 : decode cX10_fault 13 = .ok (.iconst 0, 1) := by decide +kernel
theorem dX10_fault_14 : decode cX10_fault 14 = .ok (.iaload, 1) := by decide +kernel
theorem dX10_fault_15 : decode cX10_fault 15 = .ok (.goto 18, 3) := by decide +kernel
theorem dX10_fault_18 : decode cX10_fault 18 = .ok (.iload_n 1, 1) := by decide +kernel
theorem dX10_fault_19 : decode cX10_fault 19 = .ok (.iconst 1, 1) := by decide +kernel
theorem dX10_fault_20 : decode cX10_fault 20 = .ok (.if_icmp .ne 12, 3) := by decide +kernel
theorem dX10_fault_23 : decode cX10_fault 23 = .ok (.aload_n 0, 1) := by decide +kernel
theorem dX10_fault_24 : decode cX10_fault 24 = .ok (.getfield 20, 3) := by decide +kernel
theorem dX10_fault_27 : decode cX10_fault 27 = .ok (.iconst 0, 1) := by decide +kernel
theorem dX10_fault_28 : decode cX10_fault 28 = .ok (.iaload, 1) := by decide +kernel
theorem dX10_fault_29 : decode cX10_fault 29 = .ok (.goto 4, 3) := by decide +kernel
theorem dX10_fault_32 : decode cX10_fault 32 = .ok (.iconst (-1), 1) := by decide +kernel
theorem dX10_fault_33 : decode cX10_fault 33 = .ok (.ireturn, 1) := by decide +kernel
theorem dX10_common_0 : decode cX10_common 0 = .ok (.iload_n 0, 1) := by decide +kernel
theorem dX10_common_1 : decode cX10_common 1 = .ok (.istore_n 2, 1) := by decide +kernel
theorem dX10_common_2 : decode cX10_common 2 = .ok (.iload_n 1, 1) := by decide +kernel
theorem dX10_common_3 : decode cX10_common 3 = .ok (.istore_n 3, 1) := by decide +kernel
theorem dX10_common_4 : decode cX10_common 4 = .ok (.iload_n 3, 1) := by decide +kernel
theorem dX10_common_5 : decode cX10_common 5 = .ok (.ifCond .eq 16, 3) := by decide +kernel
theorem dX10_common_8 : decode cX10_common 8 = .ok (.iload_n 2, 1) := by decide +kernel
theorem dX10_common_9 : decode cX10_common 9 = .ok (.iload_n 3, 1) := by decide +kernel
theorem dX10_common_10 : decode cX10_common 10 = .ok (.irem, 1) := by decide +kernel
theorem dX10_common_11 : decode cX10_common 11 = .ok (.istore 4, 2) := by decide +kernel
theorem dX10_common_13 : decode cX10_common 13 = .ok (.iload_n 3, 1) := by decide +kernel
theorem dX10_common_14 : decode cX10_common 14 = .ok (.istore_n 2, 1) := by decide +kernel
theorem dX10_common_15 : decode cX10_common 15 = .ok (.iload 4, 2) := by decide +kernel
theorem dX10_common_17 : decode cX10_common 17 = .ok (.istore_n 3, 1) := by decide +kernel
theorem dX10_common_18 : decode cX10_common 18 = .ok (.goto (-14), 3) := by decide +kernel
theorem dX10_common_21 : decode cX10_common 21 = .ok (.iload_n 2, 1) := by decide +kernel
theorem dX10_common_22 : decode cX10_common 22 = .ok (.ireturn, 1) := by decide +kernel
set_option maxRecDepth 20000 in
theorem ggX10_fair_X10_layState : GoodIn wsX10_fair wsX10_layState := goodIn_r _ [9, 10, 11, 12, 8, 13, 14, 15, 16, 17, 18, 19, 20, 21, 22, 23, 24, 25, 26, 27, 3, 2, 28, 29, 30, 31, 32, 33, 34, 35, 36, 37, 38, 39, 40, 41, 42, 43, 44, 45, 46, 47, 48, 49, 50, 51, 52, 53, 54, 55, 56, 57, 58, 59, 60, 61, 4, 62, 63, 64, 65, 66, 67, 68, 69, 70, 71, 72, 73, 74, 75, 76, 77, 78, 79, 80, 81, 82, 83, 84, 85, 86, 87, 88, 89, 90, 91, 92, 93, 94, 95, 96, 97, 98, 99, 100, 101, 102, 103, 104, 105, 106, 107, 108, 109, 110, 111, 112, 113, 114, 115, 116, 117, 118, 119, 120, 121, 122, 123, 124, 125, 126, 127, 128, 129, 130, 131, 142, 143, 144, 145, 146, 147, 148, 149, 150, 151, 152, 153, 154, 155, 156, 157, 158, 159, 160, 161, 162, 163, 164, 165, 166, 167, 168, 169, 170, 171, 172, 173, 174, 175, 176, 177, 178, 179, 180, 181, 182, 183, 184, 185, 186, 187, 188, 189, 190, 191] (by decide +kernel) (by decide +kernel)
set_option maxRecDepth 20000 in
theorem gX10_fair_X10_layState : GoodIn wsX10_fair (wsV RX10 332 RX10 yX10_layState wsX10_layState) := goodIn_app (goodIn_of _ (by decide +kernel)) ggX10_fair_X10_layState
set_option maxRecDepth 20000 in
theorem ggX10_fair_X10_needOf : GoodIn wsX10_fair wsX10_needOf := goodIn_r _ [135, 50, 55, 91, 92, 8, 93, 121, 122, 123, 124, 48, 125, 126, 127, 128, 29, 30, 31, 32, 33, 27, 136, 137, 138, 142, 143, 144, 145, 146, 147, 148, 149, 150, 151, 152, 153, 154, 155, 156, 157, 158, 159, 160, 161, 162, 163, 164, 165, 166, 167, 168, 169, 170, 171, 172, 173, 174, 175, 176, 177, 178, 179, 180, 181, 182, 183, 184, 185, 186, 187, 188, 189, 190, 191] (by decide +kernel) (by decide +kernel)
set_option maxRecDepth 20000 in
theorem gX10_fair_X10_needOf : GoodIn wsX10_fair (wsV RX10 341 RX10 yX10_needOf wsX10_needOf) := goodIn_app (goodIn_of _ (by decide +kernel)) ggX10_fair_X10_needOf
set_option maxRecDepth 20000 in
theorem ggX10_fair_X10_common : GoodIn wsX10_fair wsX10_common := goodIn_r _ [141] (by decide +kernel) (by decide +kernel)
set_option maxRecDepth 20000 in
theorem gX10_fair_X10_common : GoodIn wsX10_fair (va_wsS RX10 371 yX10_common wsX10_common) := goodIn_app (goodIn_of _ (by decide +kernel)) ggX10_fair_X10_common
theorem dX10_fair_0 : decode cX10_fair 0 = .ok (.aload_n 0, 1) := by decide +kernel
theorem dX10_fair_1 : decode cX10_fair 1 = .ok (.iconst 0, 1) := by decide +kernel
theorem dX10_fair_2 : decode cX10_fair 2 = .ok (.putfield 80, 3) := by decide +kernel
theorem dX10_fair_5 : decode cX10_fair 5 = .ok (.aload_n 0, 1) := by decide +kernel
theorem dX10_fair_6 : decode cX10_fair 6 = .ok (.iload_n 1, 1) := by decide +kernel
theorem dX10_fair_7 : decode cX10_fair 7 = .ok (.iload_n 2, 1) := by decide +kernel
theorem dX10_fair_8 : decode cX10_fair 8 = .ok (.iload_n 3, 1) := by decide +kernel
theorem dX10_fair_9 : decode cX10_fair 9 = .ok (.invokevirtual 332, 3) := by decide +kernel
theorem dX10_fair_12 : decode cX10_fair 12 = .ok (.ifCond .ne 6, 3) := by decide +kernel
theorem dX10_fair_15 : decode cX10_fair 15 = .ok (.bipush (-2), 2) := by decide +kernel
theorem dX10_fair_17 : decode cX10_fair 17 = .ok (.ireturn, 1) := by decide +kernel
theorem dX10_fair_18 : decode cX10_fair 18 = .ok (.iconst 0, 1) := by decide +kernel
theorem dX10_fair_19 : decode cX10_fair 19 = .ok (.istore 5, 2) := by decide +kernel
theorem dX10_fair_21 : decode cX10_fair 21 = .ok (.iconst 0, 1) := by decide +kernel
theorem dX10_fair_22 : decode cX10_fair 22 = .ok (.istore 6, 2) := by decide +kernel
theorem dX10_fair_24 : decode cX10_fair 24 = .ok (.iconst 0, 1) := by decide +kernel
theorem dX10_fair_25 : decode cX10_fair 25 = .ok (.istore 7, 2) := by decide +kernel
theorem dX10_fair_27 : decode cX10_fair 27 = .ok (.iload 7, 2) := by decide +kernel
theorem dX10_fair_29 : decode cX10_fair 29 = .ok (.aload_n 0, 1) := by decide +kernel
theorem dX10_fair_30 : decode cX10_fair 30 = .ok (.getfield 231, 3) := by decide +kernel
theorem dX10_fair_33 : decode cX10_fair 33 = .ok (.if_icmp .ge 20, 3) := by decide +kernel
theorem dX10_fair_36 : decode cX10_fair 36 = .ok (.iload 5, 2) := by decide +kernel
theorem dX10_fair_38 : decode cX10_fair 38 = .ok (.aload_n 0, 1) := by decide +kernel
theorem dX10_fair_39 : decode cX10_fair 39 = .ok (.iload 7, 2) := by decide +kernel
theorem dX10_fair_41 : decode cX10_fair 41 = .ok (.invokevirtual 341, 3) := by decide +kernel
theorem dX10_fair_44 : decode cX10_fair 44 = .ok (.iadd, 1) := by decide +kernel
theorem dX10_fair_45 : decode cX10_fair 45 = .ok (.istore 5, 2) := by decide +kernel
theorem dX10_fair_47 : decode cX10_fair 47 = .ok (.iinc 7 1, 3) := by decide +kernel
theorem dX10_fair_50 : decode cX10_fair 50 = .ok (.goto (-23), 3) := by decide +kernel
theorem dX10_fair_53 : decode cX10_fair 53 = .ok (.iconst 0, 1) := by decide +kernel
theorem dX10_fair_54 : decode cX10_fair 54 = .ok (.istore 7, 2) := by decide +kernel
theorem dX10_fair_56 : decode cX10_fair 56 = .ok (.iload 7, 2) := by decide +kernel
theorem dX10_fair_58 : decode cX10_fair 58 = .ok (.aload_n 0, 1) := by decide +kernel
theorem dX10_fair_59 : decode cX10_fair 59 = .ok (.getfield 228, 3) := by decide +kernel
theorem dX10_fair_62 : decode cX10_fair 62 = .ok (.if_icmp .ge 21, 3) := by decide +kernel
theorem dX10_fair_65 : decode cX10_fair 65 = .ok (.iload 6, 2) := by decide +kernel
theorem dX10_fair_67 : decode cX10_fair 67 = .ok (.aload_n 0, 1) := by decide +kernel
theorem dX10_fair_68 : decode cX10_fair 68 = .ok (.getfield 41, 3) := by decide +kernel
theorem dX10_fair_71 : decode cX10_fair 71 = .ok (.iload 7, 2) := by decide +kernel
theorem dX10_fair_73 : decode cX10_fair 73 = .ok (.iaload, 1) := by decide +kernel
theorem dX10_fair_74 : decode cX10_fair 74 = .ok (.iadd, 1) := by decide +kernel
theorem dX10_fair_75 : decode cX10_fair 75 = .ok (.istore 6, 2) := by decide +kernel
theorem dX10_fair_77 : decode cX10_fair 77 = .ok (.iinc 7 1, 3) := by decide +kernel
theorem dX10_fair_80 : decode cX10_fair 80 = .ok (.goto (-24), 3) := by decide +kernel
theorem dX10_fair_83 : decode cX10_fair 83 = .ok (.iload 6, 2) := by decide +kernel
theorem dX10_fair_85 : decode cX10_fair 85 = .ok (.ifCond .ne 6, 3) := by decide +kernel
theorem dX10_fair_88 : decode cX10_fair 88 = .ok (.bipush (-2), 2) := by decide +kernel
theorem dX10_fair_90 : decode cX10_fair 90 = .ok (.ireturn, 1) := by decide +kernel
theorem dX10_fair_91 : decode cX10_fair 91 = .ok (.iload 5, 2) := by decide +kernel
theorem dX10_fair_93 : decode cX10_fair 93 = .ok (.iload 6, 2) := by decide +kernel
theorem dX10_fair_95 : decode cX10_fair 95 = .ok (.invokestatic 371, 3) := by decide +kernel
theorem dX10_fair_98 : decode cX10_fair 98 = .ok (.istore 7, 2) := by decide +kernel
theorem dX10_fair_100 : decode cX10_fair 100 = .ok (.iload 4, 2) := by decide +kernel
theorem dX10_fair_102 : decode cX10_fair 102 = .ok (.ifCond .eq 11, 3) := by decide +kernel
theorem dX10_fair_105 : decode cX10_fair 105 = .ok (.iload 6, 2) := by decide +kernel
theorem dX10_fair_107 : decode cX10_fair 107 = .ok (.iload 7, 2) := by decide +kernel
theorem dX10_fair_109 : decode cX10_fair 109 = .ok (.idiv, 1) := by decide +kernel
theorem dX10_fair_110 : decode cX10_fair 110 = .ok (.goto 8, 3) := by decide +kernel
theorem dX10_fair_113 : decode cX10_fair 113 = .ok (.iload 5, 2) := by decide +kernel
theorem dX10_fair_115 : decode cX10_fair 115 = .ok (.iload 7, 2) := by decide +kernel
theorem dX10_fair_117 : decode cX10_fair 117 = .ok (.idiv, 1) := by decide +kernel
theorem dX10_fair_118 : decode cX10_fair 118 = .ok (.ireturn, 1) := by decide +kernel
set_option maxRecDepth 20000 in
theorem ggX10_usurers_X10_of : GoodIn wsX10_usurers wsX10_of := goodIn_r _ [5, 6, 7, 8, 9, 10, 11, 12, 13, 14, 15, 16, 17, 18, 19, 20, 21, 22, 23, 24, 25, 26, 27, 28, 29, 30, 31, 32, 33, 34, 35, 36, 37, 38, 39, 40, 41, 42, 43, 44, 45, 46, 47, 48, 49, 50, 51, 52, 53, 54, 55, 56, 57] (by decide +kernel) (by decide +kernel)
set_option maxRecDepth 20000 in
theorem gX10_usurers_X10_of : GoodIn wsX10_usurers (wsV RX10 224 RX10 yX10_of wsX10_of) := goodIn_app (goodIn_of _ (by decide +kernel)) ggX10_usurers_X10_of
theorem dX10_usurers_0 : decode cX10_usurers 0 = .ok (.aload_n 0, 1) := by decide +kernel
theorem dX10_usurers_1 : decode cX10_usurers 1 = .ok (.iconst 4, 1) := by decide +kernel
theorem dX10_usurers_2 : decode cX10_usurers 2 = .ok (.invokevirtual 224, 3) := by decide +kernel
theorem dX10_usurers_5 : decode cX10_usurers 5 = .ok (.ireturn, 1) := by decide +kernel
set_option maxRecDepth 20000 in
theorem ggX10_findAsks_X10_usurers : GoodIn wsX10_findAsks wsX10_usurers := goodIn_r _ [7, 8, 9, 10, 6, 11, 12, 13, 20, 21, 22, 23, 24, 25, 26, 27, 28, 29, 30, 31, 32, 33, 34, 35, 36, 37, 38, 39, 40, 41, 42, 43, 44, 45, 46, 47, 48, 49, 50, 51, 52, 53, 54, 55, 56, 57, 58, 59, 60, 61, 62, 63, 64, 65, 66, 67, 68, 69] (by decide +kernel) (by decide +kernel)
set_option maxRecDepth 20000 in
theorem gX10_findAsks_X10_usurers : GoodIn wsX10_findAsks (wsV RX10 374 RX10 yX10_usurers wsX10_usurers) := goodIn_app (goodIn_of _ (by decide +kernel)) ggX10_findAsks_X10_usurers
set_option maxRecDepth 20000 in
theorem ggX10_findAsks_X10_of : GoodIn wsX10_findAsks wsX10_of := goodIn_r _ [11, 12, 13, 20, 21, 22, 23, 24, 25, 26, 27, 28, 29, 30, 31, 32, 33, 34, 35, 36, 37, 38, 39, 40, 41, 42, 43, 44, 45, 46, 47, 48, 49, 50, 51, 52, 53, 54, 55, 56, 57, 58, 59, 60, 61, 62, 63, 64, 65, 66, 67, 68, 69] (by decide +kernel) (by decide +kernel)
set_option maxRecDepth 20000 in
theorem gX10_findAsks_X10_of : GoodIn wsX10_findAsks (wsV RX10 224 RX10 yX10_of wsX10_of) := goodIn_app (goodIn_of _ (by decide +kernel)) ggX10_findAsks_X10_of
set_option maxRecDepth 20000 in
theorem ggX10_findAsks_X10_lesser : GoodIn wsX10_findAsks wsX10_lesser := goodIn_r _ [16] (by decide +kernel) (by decide +kernel)
set_option maxRecDepth 20000 in
theorem gX10_findAsks_X10_lesser : GoodIn wsX10_findAsks (va_wsS RX10 170 yX10_lesser wsX10_lesser) := goodIn_app (goodIn_of _ (by decide +kernel)) ggX10_findAsks_X10_lesser
set_option maxRecDepth 20000 in
theorem ggX10_findAsks_X10_greater : GoodIn wsX10_findAsks wsX10_greater := goodIn_r _ [19] (by decide +kernel) (by decide +kernel)
set_option maxRecDepth 20000 in
theorem gX10_findAsks_X10_greater : GoodIn wsX10_findAsks (va_wsS RX10 338 yX10_greater wsX10_greater) := goodIn_app (goodIn_of _ (by decide +kernel)) ggX10_findAsks_X10_greater
theorem dX10_findAsks_0 : decode cX10_findAsks 0 = .ok (.iconst 0, 1) := by decide +kernel
theorem dX10_findAsks_1 : decode cX10_findAsks 1 = .ok (.istore_n 1, 1) := by decide +kernel
theorem dX10_findAsks_2 : decode cX10_findAsks 2 = .ok (.iload_n 1, 1) := by decide +kernel
theorem dX10_findAsks_3 : decode cX10_findAsks 3 = .ok (.aload_n 0, 1) := by decide +kernel
theorem dX10_findAsks_4 : decode cX10_findAsks 4 = .ok (.invokevirtual 374, 3) := by decide +kernel
theorem dX10_findAsks_7 : decode cX10_findAsks 7 = .ok (.if_icmp .ge 25, 3) := by decide +kernel
theorem dX10_findAsks_10 : decode cX10_findAsks 10 = .ok (.aload_n 0, 1) := by decide +kernel
theorem dX10_findAsks_11 : decode cX10_findAsks 11 = .ok (.getfield 59, 3) := by decide +kernel
theorem dX10_findAsks_14 : decode cX10_findAsks 14 = .ok (.iload_n 1, 1) := by decide +kernel
theorem dX10_findAsks_15 : decode cX10_findAsks 15 = .ok (.aload_n 0, 1) := by decide +kernel
theorem dX10_findAsks_16 : decode cX10_findAsks 16 = .ok (.bipush 28, 2) := by decide +kernel
theorem dX10_findAsks_18 : decode cX10_findAsks 18 = .ok (.iconst 2, 1) := by decide +kernel
theorem dX10_findAsks_19 : decode cX10_findAsks 19 = .ok (.iload_n 1, 1) := by decide +kernel
theorem dX10_findAsks_20 : decode cX10_findAsks 20 = .ok (.imul, 1) := by decide +kernel
theorem dX10_findAsks_21 : decode cX10_findAsks 21 = .ok (.iadd, 1) := by decide +kernel
theorem dX10_findAsks_22 : decode cX10_findAsks 22 = .ok (.invokevirtual 224, 3) := by decide +kernel
theorem dX10_findAsks_25 : decode cX10_findAsks 25 = .ok (.iastore, 1) := by decide +kernel
theorem dX10_findAsks_26 : decode cX10_findAsks 26 = .ok (.iinc 1 1, 3) := by decide +kernel
theorem dX10_findAsks_29 : decode cX10_findAsks 29 = .ok (.goto (-27), 3) := by decide +kernel
theorem dX10_findAsks_32 : decode cX10_findAsks 32 = .ok (.iconst 0, 1) := by decide +kernel
theorem dX10_findAsks_33 : decode cX10_findAsks 33 = .ok (.istore_n 1, 1) := by decide +kernel
theorem dX10_findAsks_34 : decode cX10_findAsks 34 = .ok (.iload_n 1, 1) := by decide +kernel
theorem dX10_findAsks_35 : decode cX10_findAsks 35 = .ok (.sipush 200, 3) := by decide +kernel
theorem dX10_findAsks_38 : decode cX10_findAsks 38 = .ok (.if_icmp .ge 156, 3) := by decide +kernel
theorem dX10_findAsks_41 : decode cX10_findAsks 41 = .ok (.iconst 0, 1) := by decide +kernel
theorem dX10_findAsks_42 : decode cX10_findAsks 42 = .ok (.istore_n 2, 1) := by decide +kernel
theorem dX10_findAsks_43 : decode cX10_findAsks 43 = .ok (.iconst 1, 1) := by decide +kernel
theorem dX10_findAsks_44 : decode cX10_findAsks 44 = .ok (.istore_n 3, 1) := by decide +kernel
theorem dX10_findAsks_45 : decode cX10_findAsks 45 = .ok (.iload_n 3, 1) := by decide +kernel
theorem dX10_findAsks_46 : decode cX10_findAsks 46 = .ok (.aload_n 0, 1) := by decide +kernel
theorem dX10_findAsks_47 : decode cX10_findAsks 47 = .ok (.invokevirtual 374, 3) := by decide +kernel
theorem dX10_findAsks_50 : decode cX10_findAsks 50 = .ok (.if_icmp .ge 38, 3) := by decide +kernel
theorem dX10_findAsks_53 : decode cX10_findAsks 53 = .ok (.aload_n 0, 1) := by decide +kernel
theorem dX10_findAsks_54 : decode cX10_findAsks 54 = .ok (.getfield 59, 3) := by decide +kernel
theorem dX10_findAsks_57 : decode cX10_findAsks 57 = .ok (.iconst 4, 1) := by decide +kernel
theorem dX10_findAsks_58 : decode cX10_findAsks 58 = .ok (.iload_n 1, 1) := by decide +kernel
theorem dX10_findAsks_59 : decode cX10_findAsks 59 = .ok (.imul, 1) := by decide +kernel
theorem dX10_findAsks_60 : decode cX10_findAsks 60 = .ok (.iload_n 3, 1) := by decide +kernel
theorem dX10_findAsks_61 : decode cX10_findAsks 61 = .ok (.iadd, 1) := by decide +kernel
theorem dX10_findAsks_62 : decode cX10_findAsks 62 = .ok (.iaload, 1) := by decide +kernel
theorem dX10_findAsks_63 : decode cX10_findAsks 63 = .ok (.aload_n 0, 1) := by decide +kernel
theorem dX10_findAsks_64 : decode cX10_findAsks 64 = .ok (.getfield 59, 3) := by decide +kernel
theorem dX10_findAsks_67 : decode cX10_findAsks 67 = .ok (.iconst 4, 1) := by decide +kernel
theorem dX10_findAsks_68 : decode cX10_findAsks 68 = .ok (.iload_n 1, 1) := by decide +kernel
theorem dX10_findAsks_69 : decode cX10_findAsks 69 = .ok (.imul, 1) := by decide +kernel
theorem dX10_findAsks_70 : decode cX10_findAsks 70 = .ok (.iload_n 2, 1) := by decide +kernel
theorem dX10_findAsks_71 : decode cX10_findAsks 71 = .ok (.iadd, 1) := by decide +kernel
theorem dX10_findAsks_72 : decode cX10_findAsks 72 = .ok (.iaload, 1) := by decide +kernel
theorem dX10_findAsks_73 : decode cX10_findAsks 73 = .ok (.if_icmp .ge 7, 3) := by decide +kernel
theorem dX10_findAsks_76 : decode cX10_findAsks 76 = .ok (.iload_n 3, 1) := by decide +kernel
theorem dX10_findAsks_77 : decode cX10_findAsks 77 = .ok (.goto 4, 3) := by decide +kernel
theorem dX10_findAsks_80 : decode cX10_findAsks 80 = .ok (.iload_n 2, 1) := by decide +kernel
theorem dX10_findAsks_81 : decode cX10_findAsks 81 = .ok (.istore_n 2, 1) := by decide +kernel
theorem dX10_findAsks_82 : decode cX10_findAsks 82 = .ok (.iinc 3 1, 3) := by decide +kernel
theorem dX10_findAsks_85 : decode cX10_findAsks 85 = .ok (.goto (-40), 3) := by decide +kernel
theorem dX10_findAsks_88 : decode cX10_findAsks 88 = .ok (.aload_n 0, 1) := by decide +kernel
theorem dX10_findAsks_89 : decode cX10_findAsks 89 = .ok (.getfield 62, 3) := by decide +kernel
theorem dX10_findAsks_92 : decode cX10_findAsks 92 = .ok (.iload_n 1, 1) := by decide +kernel
theorem dX10_findAsks_93 : decode cX10_findAsks 93 = .ok (.aload_n 0, 1) := by decide +kernel
theorem dX10_findAsks_94 : decode cX10_findAsks 94 = .ok (.iconst 5, 1) := by decide +kernel
theorem dX10_findAsks_95 : decode cX10_findAsks 95 = .ok (.invokevirtual 224, 3) := by decide +kernel
theorem dX10_findAsks_98 : decode cX10_findAsks 98 = .ok (.ifCond .le 7, 3) := by decide +kernel
theorem dX10_findAsks_101 : decode cX10_findAsks 101 = .ok (.iload_n 2, 1) := by decide +kernel
theorem dX10_findAsks_102 : decode cX10_findAsks 102 = .ok (.goto 4, 3) := by decide +kernel
theorem dX10_findAsks_105 : decode cX10_findAsks 105 = .ok (.iconst (-1), 1) := by decide +kernel
theorem dX10_findAsks_106 : decode cX10_findAsks 106 = .ok (.iastore, 1) := by decide +kernel
theorem dX10_findAsks_107 : decode cX10_findAsks 107 = .ok (.iconst 0, 1) := by decide +kernel
theorem dX10_findAsks_108 : decode cX10_findAsks 108 = .ok (.istore_n 3, 1) := by decide +kernel
theorem dX10_findAsks_109 : decode cX10_findAsks 109 = .ok (.iload_n 3, 1) := by decide +kernel
theorem dX10_findAsks_110 : decode cX10_findAsks 110 = .ok (.aload_n 0, 1) := by decide +kernel
theorem dX10_findAsks_111 : decode cX10_findAsks 111 = .ok (.invokevirtual 374, 3) := by decide +kernel
theorem dX10_findAsks_114 : decode cX10_findAsks 114 = .ok (.if_icmp .ge 74, 3) := by decide +kernel
theorem dX10_findAsks_117 : decode cX10_findAsks 117 = .ok (.aload_n 0, 1) := by decide +kernel
theorem dX10_findAsks_118 : decode cX10_findAsks 118 = .ok (.getfield 59, 3) := by decide +kernel
theorem dX10_findAsks_121 : decode cX10_findAsks 121 = .ok (.iconst 4, 1) := by decide +kernel
theorem dX10_findAsks_122 : decode cX10_findAsks 122 = .ok (.iload_n 1, 1) := by decide +kernel
theorem dX10_findAsks_123 : decode cX10_findAsks 123 = .ok (.imul, 1) := by decide +kernel
theorem dX10_findAsks_124 : decode cX10_findAsks 124 = .ok (.iload_n 3, 1) := by decide +kernel
theorem dX10_findAsks_125 : decode cX10_findAsks 125 = .ok (.iadd, 1) := by decide +kernel
theorem dX10_findAsks_126 : decode cX10_findAsks 126 = .ok (.iaload, 1) := by decide +kernel
theorem dX10_findAsks_127 : decode cX10_findAsks 127 = .ok (.istore 4, 2) := by decide +kernel
theorem dX10_findAsks_129 : decode cX10_findAsks 129 = .ok (.aload_n 0, 1) := by decide +kernel
theorem dX10_findAsks_130 : decode cX10_findAsks 130 = .ok (.getfield 59, 3) := by decide +kernel
theorem dX10_findAsks_133 : decode cX10_findAsks 133 = .ok (.iconst 4, 1) := by decide +kernel
theorem dX10_findAsks_134 : decode cX10_findAsks 134 = .ok (.iload_n 1, 1) := by decide +kernel
theorem dX10_findAsks_135 : decode cX10_findAsks 135 = .ok (.iconst 1, 1) := by decide +kernel
theorem dX10_findAsks_136 : decode cX10_findAsks 136 = .ok (.iadd, 1) := by decide +kernel
theorem dX10_findAsks_137 : decode cX10_findAsks 137 = .ok (.imul, 1) := by decide +kernel
theorem dX10_findAsks_138 : decode cX10_findAsks 138 = .ok (.iload_n 3, 1) := by decide +kernel
theorem dX10_findAsks_139 : decode cX10_findAsks 139 = .ok (.iadd, 1) := by decide +kernel
theorem dX10_findAsks_140 : decode cX10_findAsks 140 = .ok (.iload_n 3, 1) := by decide +kernel
theorem dX10_findAsks_141 : decode cX10_findAsks 141 = .ok (.aload_n 0, 1) := by decide +kernel
theorem dX10_findAsks_142 : decode cX10_findAsks 142 = .ok (.getfield 62, 3) := by decide +kernel
theorem dX10_findAsks_145 : decode cX10_findAsks 145 = .ok (.iload_n 1, 1) := by decide +kernel
theorem dX10_findAsks_146 : decode cX10_findAsks 146 = .ok (.iaload, 1) := by decide +kernel
theorem dX10_findAsks_147 : decode cX10_findAsks 147 = .ok (.if_icmp .ne 15, 3) := by decide +kernel
theorem dX10_findAsks_150 : decode cX10_findAsks 150 = .ok (.bipush 30, 2) := by decide +kernel
theorem dX10_findAsks_152 : decode cX10_findAsks 152 = .ok (.iload 4, 2) := by decide +kernel
theorem dX10_findAsks_154 : decode cX10_findAsks 154 = .ok (.iconst 1, 1) := by decide +kernel
theorem dX10_findAsks_155 : decode cX10_findAsks 155 = .ok (.iadd, 1) := by decide +kernel
theorem dX10_findAsks_156 : decode cX10_findAsks 156 = .ok (.invokestatic 170, 3) := by decide +kernel
theorem dX10_findAsks_159 : decode cX10_findAsks 159 = .ok (.goto 22, 3) := by decide +kernel
theorem dX10_findAsks_162 : decode cX10_findAsks 162 = .ok (.aload_n 0, 1) := by decide +kernel
theorem dX10_findAsks_163 : decode cX10_findAsks 163 = .ok (.bipush 28, 2) := by decide +kernel
theorem dX10_findAsks_165 : decode cX10_findAsks 165 = .ok (.iconst 2, 1) := by decide +kernel
theorem dX10_findAsks_166 : decode cX10_findAsks 166 = .ok (.iload_n 3, 1) := by decide +kernel
theorem dX10_findAsks_167 : decode cX10_findAsks 167 = .ok (.imul, 1) := by decide +kernel
theorem dX10_findAsks_168 : decode cX10_findAsks 168 = .ok (.iadd, 1) := by decide +kernel
theorem dX10_findAsks_169 : decode cX10_findAsks 169 = .ok (.iconst 1, 1) := by decide +kernel
theorem dX10_findAsks_170 : decode cX10_findAsks 170 = .ok (.iadd, 1) := by decide +kernel
theorem dX10_findAsks_171 : decode cX10_findAsks 171 = .ok (.invokevirtual 224, 3) := by decide +kernel
theorem dX10_findAsks_174 : decode cX10_findAsks 174 = .ok (.iload 4, 2) := by decide +kernel
theorem dX10_findAsks_176 : decode cX10_findAsks 176 = .ok (.iconst 1, 1) := by decide +kernel
theorem dX10_findAsks_177 : decode cX10_findAsks 177 = .ok (.isub, 1) := by decide +kernel
theorem dX10_findAsks_178 : decode cX10_findAsks 178 = .ok (.invokestatic 338, 3) := by decide +kernel
theorem dX10_findAsks_181 : decode cX10_findAsks 181 = .ok (.iastore, 1) := by decide +kernel
theorem dX10_findAsks_182 : decode cX10_findAsks 182 = .ok (.iinc 3 1, 3) := by decide +kernel
theorem dX10_findAsks_185 : decode cX10_findAsks 185 = .ok (.goto (-76), 3) := by decide +kernel
theorem dX10_findAsks_188 : decode cX10_findAsks 188 = .ok (.iinc 1 1, 3) := by decide +kernel
theorem dX10_findAsks_191 : decode cX10_findAsks 191 = .ok (.goto (-157), 3) := by decide +kernel
theorem dX10_findAsks_194 : decode cX10_findAsks 194 = .ok (.return_, 1) := by decide +kernel
set_option maxRecDepth 20000 in
theorem ggX10_layUsurer_X10_hand : GoodIn wsX10_layUsurer wsX10_hand := goodIn_r _ [5, 6, 7, 8, 9, 10, 11, 12, 4, 13, 14, 15, 16, 17, 18, 19, 20, 21, 22, 39, 40, 41, 42, 43, 44, 45, 46, 47, 48, 49, 50, 51, 52, 53, 54, 55, 56, 57, 58, 59, 60, 61, 62, 63, 64, 65, 66, 67, 68, 69, 70, 71, 72, 73, 74, 75, 76, 77, 78, 79, 80, 81, 82, 83, 84, 85, 86, 87, 88] (by decide +kernel) (by decide +kernel)
set_option maxRecDepth 20000 in
theorem gX10_layUsurer_X10_hand : GoodIn wsX10_layUsurer (wsV RX10 237 RX10 yX10_hand wsX10_hand) := goodIn_app (goodIn_of _ (by decide +kernel)) ggX10_layUsurer_X10_hand
set_option maxRecDepth 20000 in
theorem ggX10_layUsurer_X10_usurers : GoodIn wsX10_layUsurer wsX10_usurers := goodIn_r _ [26, 18, 19, 20, 4, 21, 22, 6, 39, 40, 41, 42, 43, 44, 45, 46, 47, 48, 49, 50, 51, 52, 53, 54, 55, 56, 57, 58, 59, 60, 61, 62, 63, 64, 65, 66, 67, 68, 69, 70, 71, 72, 73, 74, 75, 76, 77, 78, 79, 80, 81, 82, 83, 84, 85, 86, 87, 88] (by decide +kernel) (by decide +kernel)
set_option maxRecDepth 20000 in
theorem gX10_layUsurer_X10_usurers : GoodIn wsX10_layUsurer (wsV RX10 374 RX10 yX10_usurers wsX10_usurers) := goodIn_app (goodIn_of _ (by decide +kernel)) ggX10_layUsurer_X10_usurers
set_option maxRecDepth 20000 in
theorem ggX10_layUsurer_X10_in : GoodIn wsX10_layUsurer wsX10_in := goodIn_r _ [17] (by decide +kernel) (by decide +kernel)
set_option maxRecDepth 20000 in
theorem gX10_layUsurer_X10_in : GoodIn wsX10_layUsurer (va_wsS RX10 92 yX10_in wsX10_in) := goodIn_app (goodIn_of _ (by decide +kernel)) ggX10_layUsurer_X10_in
set_option maxRecDepth 20000 in
theorem ggX10_layUsurer_X10_findAsks : GoodIn wsX10_layUsurer wsX10_findAsks := goodIn_r _ [30, 31, 32, 23, 24, 25, 4, 26, 18, 19, 20, 21, 22, 6, 33, 34, 35, 36, 37, 38, 39, 40, 41, 42, 43, 44, 45, 46, 47, 48, 49, 50, 51, 52, 53, 54, 55, 56, 57, 58, 59, 60, 61, 62, 63, 64, 65, 66, 67, 68, 69, 70, 71, 72, 73, 74, 75, 76, 77, 78, 79, 80, 81, 82, 83, 84, 85, 86, 87, 88] (by decide +kernel) (by decide +kernel)
set_option maxRecDepth 20000 in
theorem gX10_layUsurer_X10_findAsks : GoodIn wsX10_layUsurer (wsV RX10 377 RX10 yX10_findAsks wsX10_findAsks) := goodIn_app (goodIn_of _ (by decide +kernel)) ggX10_layUsurer_X10_findAsks
theorem dX10_layUsurer_0 : decode cX10_layUsurer 0 = .ok (.aload_n 0, 1) := by decide +kernel
theorem dX10_layUsurer_1 : decode cX10_layUsurer 1 = .ok (.iload_n 1, 1) := by decide +kernel
theorem dX10_layUsurer_2 : decode cX10_layUsurer 2 = .ok (.invokevirtual 237, 3) := by decide +kernel
theorem dX10_layUsurer_5 : decode cX10_layUsurer 5 = .ok (.ifCond .eq 28, 3) := by decide +kernel
theorem dX10_layUsurer_8 : decode cX10_layUsurer 8 = .ok (.iload_n 2, 1) := by decide +kernel
theorem dX10_layUsurer_9 : decode cX10_layUsurer 9 = .ok (.iconst 0, 1) := by decide +kernel
theorem dX10_layUsurer_10 : decode cX10_layUsurer 10 = .ok (.aload_n 0, 1) := by decide +kernel
theorem dX10_layUsurer_11 : decode cX10_layUsurer 11 = .ok (.invokevirtual 374, 3) := by decide +kernel
theorem dX10_layUsurer_14 : decode cX10_layUsurer 14 = .ok (.iconst 1, 1) := by decide +kernel
theorem dX10_layUsurer_15 : decode cX10_layUsurer 15 = .ok (.isub, 1) := by decide +kernel
theorem dX10_layUsurer_16 : decode cX10_layUsurer 16 = .ok (.invokestatic 92, 3) := by decide +kernel
theorem dX10_layUsurer_19 : decode cX10_layUsurer 19 = .ok (.ifCond .eq 14, 3) := by decide +kernel
theorem dX10_layUsurer_22 : decode cX10_layUsurer 22 = .ok (.iload_n 3, 1) := by decide +kernel
theorem dX10_layUsurer_23 : decode cX10_layUsurer 23 = .ok (.iconst 0, 1) := by decide +kernel
theorem dX10_layUsurer_24 : decode cX10_layUsurer 24 = .ok (.sipush 200, 3) := by decide +kernel
theorem dX10_layUsurer_27 : decode cX10_layUsurer 27 = .ok (.invokestatic 92, 3) := by decide +kernel
theorem dX10_layUsurer_30 : decode cX10_layUsurer 30 = .ok (.ifCond .ne 5, 3) := by decide +kernel
theorem dX10_layUsurer_33 : decode cX10_layUsurer 33 = .ok (.iconst 0, 1) := by decide +kernel
theorem dX10_layUsurer_34 : decode cX10_layUsurer 34 = .ok (.ireturn, 1) := by decide +kernel
theorem dX10_layUsurer_35 : decode cX10_layUsurer 35 = .ok (.aload_n 0, 1) := by decide +kernel
theorem dX10_layUsurer_36 : decode cX10_layUsurer 36 = .ok (.invokevirtual 377, 3) := by decide +kernel
theorem dX10_layUsurer_39 : decode cX10_layUsurer 39 = .ok (.iconst 1, 1) := by decide +kernel
theorem dX10_layUsurer_40 : decode cX10_layUsurer 40 = .ok (.ireturn, 1) := by decide +kernel
set_option maxRecDepth 20000 in
theorem ggX10_ask_X10_layUsurer : GoodIn wsX10_ask wsX10_layUsurer := goodIn_r _ [7, 8, 9, 10, 6, 11, 12, 13, 14, 15, 16, 17, 18, 19, 20, 21, 22, 23, 24, 25, 26, 27, 28, 29, 30, 31, 32, 33, 34, 35, 36, 2, 37, 38, 39, 40, 41, 42, 43, 44, 45, 46, 47, 48, 49, 50, 51, 52, 53, 54, 55, 56, 57, 58, 59, 60, 61, 62, 63, 64, 65, 66, 67, 68, 69, 70, 71, 72, 73, 74, 75, 76, 77, 78, 79, 80, 81, 82, 83, 84, 85, 86, 87, 88, 89, 90, 91, 92, 93] (by decide +kernel) (by decide +kernel)
set_option maxRecDepth 20000 in
theorem gX10_ask_X10_layUsurer : GoodIn wsX10_ask (wsV RX10 380 RX10 yX10_layUsurer wsX10_layUsurer) := goodIn_app (goodIn_of _ (by decide +kernel)) ggX10_ask_X10_layUsurer
theorem dX10_ask_0 : decode cX10_ask 0 = .ok (.aload_n 0, 1) := by decide +kernel
theorem dX10_ask_1 : decode cX10_ask 1 = .ok (.iconst 0, 1) := by decide +kernel
theorem dX10_ask_2 : decode cX10_ask 2 = .ok (.putfield 80, 3) := by decide +kernel
theorem dX10_ask_5 : decode cX10_ask 5 = .ok (.aload_n 0, 1) := by decide +kernel
theorem dX10_ask_6 : decode cX10_ask 6 = .ok (.iload_n 1, 1) := by decide +kernel
theorem dX10_ask_7 : decode cX10_ask 7 = .ok (.iload_n 2, 1) := by decide +kernel
theorem dX10_ask_8 : decode cX10_ask 8 = .ok (.iload_n 3, 1) := by decide +kernel
theorem dX10_ask_9 : decode cX10_ask 9 = .ok (.invokevirtual 380, 3) := by decide +kernel
theorem dX10_ask_12 : decode cX10_ask 12 = .ok (.ifCond .eq 16, 3) := by decide +kernel
theorem dX10_ask_15 : decode cX10_ask 15 = .ok (.aload_n 0, 1) := by decide +kernel
theorem dX10_ask_16 : decode cX10_ask 16 = .ok (.getfield 59, 3) := by decide +kernel
theorem dX10_ask_19 : decode cX10_ask 19 = .ok (.iconst 4, 1) := by decide +kernel
theorem dX10_ask_20 : decode cX10_ask 20 = .ok (.iload_n 3, 1) := by decide +kernel
theorem dX10_ask_21 : decode cX10_ask 21 = .ok (.imul, 1) := by decide +kernel
theorem dX10_ask_22 : decode cX10_ask 22 = .ok (.iload_n 2, 1) := by decide +kernel
theorem dX10_ask_23 : decode cX10_ask 23 = .ok (.iadd, 1) := by decide +kernel
theorem dX10_ask_24 : decode cX10_ask 24 = .ok (.iaload, 1) := by decide +kernel
theorem dX10_ask_25 : decode cX10_ask 25 = .ok (.goto 4, 3) := by decide +kernel
theorem dX10_ask_28 : decode cX10_ask 28 = .ok (.iconst (-1), 1) := by decide +kernel
theorem dX10_ask_29 : decode cX10_ask 29 = .ok (.ireturn, 1) := by decide +kernel
set_option maxRecDepth 20000 in
theorem ggX10_taken_X10_layUsurer : GoodIn wsX10_taken wsX10_layUsurer := goodIn_r _ [8, 9, 10, 11, 7, 12, 13, 14, 15, 16, 17, 18, 19, 20, 21, 22, 23, 24, 25, 26, 27, 28, 29, 30, 31, 32, 33, 34, 35, 36, 37, 3, 2, 38, 39, 40, 41, 42, 43, 44, 45, 46, 47, 48, 49, 50, 51, 52, 53, 54, 55, 56, 57, 58, 59, 60, 61, 62, 63, 64, 65, 66, 67, 68, 69, 70, 71, 72, 73, 74, 75, 76, 77, 78, 79, 80, 81, 82, 83, 84, 85, 86, 87, 88, 89, 90, 91, 92, 93] (by decide +kernel) (by decide +kernel)
set_option maxRecDepth 20000 in
theorem gX10_taken_X10_layUsurer : GoodIn wsX10_taken (wsV RX10 380 RX10 yX10_layUsurer wsX10_layUsurer) := goodIn_app (goodIn_of _ (by decide +kernel)) ggX10_taken_X10_layUsurer
set_option maxRecDepth 20000 in
theorem ggX10_taken_X10_of : GoodIn wsX10_taken wsX10_of := goodIn_r _ [28, 29, 13, 44, 45, 46, 47, 48, 49, 50, 51, 52, 53, 54, 55, 56, 57, 58, 59, 60, 61, 62, 63, 64, 65, 66, 67, 68, 69, 70, 71, 72, 73, 74, 75, 76, 77, 78, 79, 80, 81, 82, 83, 84, 85, 86, 87, 88, 89, 90, 91, 92, 93] (by decide +kernel) (by decide +kernel)
set_option maxRecDepth 20000 in
theorem gX10_taken_X10_of : GoodIn wsX10_taken (wsV RX10 224 RX10 yX10_of wsX10_of) := goodIn_app (goodIn_of _ (by decide +kernel)) ggX10_taken_X10_of
theorem dX10_taken_0 : decode cX10_taken 0 = .ok (.aload_n 0, 1) := by decide +kernel
theorem dX10_taken_1 : decode cX10_taken 1 = .ok (.iconst 0, 1) := by decide +kernel
theorem dX10_taken_2 : decode cX10_taken 2 = .ok (.putfield 80, 3) := by decide +kernel
theorem dX10_taken_5 : decode cX10_taken 5 = .ok (.aload_n 0, 1) := by decide +kernel
theorem dX10_taken_6 : decode cX10_taken 6 = .ok (.iload_n 1, 1) := by decide +kernel
theorem dX10_taken_7 : decode cX10_taken 7 = .ok (.iload_n 2, 1) := by decide +kernel
theorem dX10_taken_8 : decode cX10_taken 8 = .ok (.iload_n 3, 1) := by decide +kernel
theorem dX10_taken_9 : decode cX10_taken 9 = .ok (.invokevirtual 380, 3) := by decide +kernel
theorem dX10_taken_12 : decode cX10_taken 12 = .ok (.ifCond .ne 5, 3) := by decide +kernel
theorem dX10_taken_15 : decode cX10_taken 15 = .ok (.iconst (-1), 1) := by decide +kernel
theorem dX10_taken_16 : decode cX10_taken 16 = .ok (.ireturn, 1) := by decide +kernel
theorem dX10_taken_17 : decode cX10_taken 17 = .ok (.iconst 0, 1) := by decide +kernel
theorem dX10_taken_18 : decode cX10_taken 18 = .ok (.istore 4, 2) := by decide +kernel
theorem dX10_taken_20 : decode cX10_taken 20 = .ok (.iconst 0, 1) := by decide +kernel
theorem dX10_taken_21 : decode cX10_taken 21 = .ok (.istore 5, 2) := by decide +kernel
theorem dX10_taken_23 : decode cX10_taken 23 = .ok (.iload 5, 2) := by decide +kernel
theorem dX10_taken_25 : decode cX10_taken 25 = .ok (.iload_n 3, 1) := by decide +kernel
theorem dX10_taken_26 : decode cX10_taken 26 = .ok (.if_icmp .ge 46, 3) := by decide +kernel
theorem dX10_taken_29 : decode cX10_taken 29 = .ok (.iload 4, 2) := by decide +kernel
theorem dX10_taken_31 : decode cX10_taken 31 = .ok (.aload_n 0, 1) := by decide +kernel
theorem dX10_taken_32 : decode cX10_taken 32 = .ok (.getfield 62, 3) := by decide +kernel
theorem dX10_taken_35 : decode cX10_taken 35 = .ok (.iload 5, 2) := by decide +kernel
theorem dX10_taken_37 : decode cX10_taken 37 = .ok (.iaload, 1) := by decide +kernel
theorem dX10_taken_38 : decode cX10_taken 38 = .ok (.iload_n 2, 1) := by decide +kernel
theorem dX10_taken_39 : decode cX10_taken 39 = .ok (.if_icmp .ne 23, 3) := by decide +kernel
theorem dX10_taken_42 : decode cX10_taken 42 = .ok (.aload_n 0, 1) := by decide +kernel
theorem dX10_taken_43 : decode cX10_taken 43 = .ok (.iconst 5, 1) := by decide +kernel
theorem dX10_taken_44 : decode cX10_taken 44 = .ok (.invokevirtual 224, 3) := by decide +kernel
theorem dX10_taken_47 : decode cX10_taken 47 = .ok (.aload_n 0, 1) := by decide +kernel
theorem dX10_taken_48 : decode cX10_taken 48 = .ok (.getfield 59, 3) := by decide +kernel
theorem dX10_taken_51 : decode cX10_taken 51 = .ok (.iconst 4, 1) := by decide +kernel
theorem dX10_taken_52 : decode cX10_taken 52 = .ok (.iload 5, 2) := by decide +kernel
theorem dX10_taken_54 : decode cX10_taken 54 = .ok (.imul, 1) := by decide +kernel
theorem dX10_taken_55 : decode cX10_taken 55 = .ok (.iload_n 2, 1) := by decide +kernel
theorem dX10_taken_56 : decode cX10_taken 56 = .ok (.iadd, 1) := by decide +kernel
theorem dX10_taken_57 : decode cX10_taken 57 = .ok (.iaload, 1) := by decide +kernel
theorem dX10_taken_58 : decode cX10_taken 58 = .ok (.imul, 1) := by decide +kernel
theorem dX10_taken_59 : decode cX10_taken 59 = .ok (.goto 4, 3) := by decide +kernel
theorem dX10_taken_62 : decode cX10_taken 62 = .ok (.iconst 0, 1) := by decide +kernel
theorem dX10_taken_63 : decode cX10_taken 63 = .ok (.iadd, 1) := by decide +kernel
theorem dX10_taken_64 : decode cX10_taken 64 = .ok (.istore 4, 2) := by decide +kernel
theorem dX10_taken_66 : decode cX10_taken 66 = .ok (.iinc 5 1, 3) := by decide +kernel
theorem dX10_taken_69 : decode cX10_taken 69 = .ok (.goto (-46), 3) := by decide +kernel
theorem dX10_taken_72 : decode cX10_taken 72 = .ok (.iload 4, 2) := by decide +kernel
theorem dX10_taken_74 : decode cX10_taken 74 = .ok (.ireturn, 1) := by decide +kernel
set_option maxRecDepth 20000 in
theorem ggX10_areAlike_X10_usurers : GoodIn wsX10_areAlike wsX10_usurers := goodIn_r _ [6, 7, 8, 9, 5, 10, 11, 12, 13, 14, 15, 16, 17, 18, 19, 20, 21, 22, 23, 24, 25, 26, 27, 28, 29, 30, 31, 32, 33, 34, 35, 36, 37, 38, 39, 40, 41, 42, 43, 44, 45, 46, 47, 48, 49, 50, 51, 52, 53, 54, 55, 56, 57, 58, 59, 60, 61, 62] (by decide +kernel) (by decide +kernel)
set_option maxRecDepth 20000 in
theorem gX10_areAlike_X10_usurers : GoodIn wsX10_areAlike (wsV RX10 374 RX10 yX10_usurers wsX10_usurers) := goodIn_app (goodIn_of _ (by decide +kernel)) ggX10_areAlike_X10_usurers
theorem dX10_areAlike_0 : decode cX10_areAlike 0 = .ok (.iconst 0, 1) := by decide +kernel
theorem dX10_areAlike_1 : decode cX10_areAlike 1 = .ok (.istore_n 3, 1) := by decide +kernel
theorem dX10_areAlike_2 : decode cX10_areAlike 2 = .ok (.iload_n 3, 1) := by decide +kernel
theorem dX10_areAlike_3 : decode cX10_areAlike 3 = .ok (.aload_n 0, 1) := by decide +kernel
theorem dX10_areAlike_4 : decode cX10_areAlike 4 = .ok (.invokevirtual 374, 3) := by decide +kernel
theorem dX10_areAlike_7 : decode cX10_areAlike 7 = .ok (.if_icmp .ge 34, 3) := by decide +kernel
theorem dX10_areAlike_10 : decode cX10_areAlike 10 = .ok (.aload_n 0, 1) := by decide +kernel
theorem dX10_areAlike_11 : decode cX10_areAlike 11 = .ok (.getfield 59, 3) := by decide +kernel
theorem dX10_areAlike_14 : decode cX10_areAlike 14 = .ok (.iconst 4, 1) := by decide +kernel
theorem dX10_areAlike_15 : decode cX10_areAlike 15 = .ok (.iload_n 1, 1) := by decide +kernel
theorem dX10_areAlike_16 : decode cX10_areAlike 16 = .ok (.imul, 1) := by decide +kernel
theorem dX10_areAlike_17 : decode cX10_areAlike 17 = .ok (.iload_n 3, 1) := by decide +kernel
theorem dX10_areAlike_18 : decode cX10_areAlike 18 = .ok (.iadd, 1) := by decide +kernel
theorem dX10_areAlike_19 : decode cX10_areAlike 19 = .ok (.iaload, 1) := by decide +kernel
theorem dX10_areAlike_20 : decode cX10_areAlike 20 = .ok (.aload_n 0, 1) := by decide +kernel
theorem dX10_areAlike_21 : decode cX10_areAlike 21 = .ok (.getfield 59, 3) := by decide +kernel
theorem dX10_areAlike_24 : decode cX10_areAlike 24 = .ok (.iconst 4, 1) := by decide +kernel
theorem dX10_areAlike_25 : decode cX10_areAlike 25 = .ok (.iload_n 2, 1) := by decide +kernel
theorem dX10_areAlike_26 : decode cX10_areAlike 26 = .ok (.imul, 1) := by decide +kernel
theorem dX10_areAlike_27 : decode cX10_areAlike 27 = .ok (.iload_n 3, 1) := by decide +kernel
theorem dX10_areAlike_28 : decode cX10_areAlike 28 = .ok (.iadd, 1) := by decide +kernel
theorem dX10_areAlike_29 : decode cX10_areAlike 29 = .ok (.iaload, 1) := by decide +kernel
theorem dX10_areAlike_30 : decode cX10_areAlike 30 = .ok (.if_icmp .eq 5, 3) := by decide +kernel
theorem dX10_areAlike_33 : decode cX10_areAlike 33 = .ok (.iconst 0, 1) := by decide +kernel
theorem dX10_areAlike_34 : decode cX10_areAlike 34 = .ok (.ireturn, 1) := by decide +kernel
theorem dX10_areAlike_35 : decode cX10_areAlike 35 = .ok (.iinc 3 1, 3) := by decide +kernel
theorem dX10_areAlike_38 : decode cX10_areAlike 38 = .ok (.goto (-36), 3) := by decide +kernel
theorem dX10_areAlike_41 : decode cX10_areAlike 41 = .ok (.iconst 1, 1) := by decide +kernel
theorem dX10_areAlike_42 : decode cX10_areAlike 42 = .ok (.ireturn, 1) := by decide +kernel
set_option maxRecDepth 20000 in
theorem ggX10_stands_X10_in : GoodIn wsX10_stands wsX10_in := goodIn_r _ [5] (by decide +kernel) (by decide +kernel)
set_option maxRecDepth 20000 in
theorem gX10_stands_X10_in : GoodIn wsX10_stands (va_wsS RX10 92 yX10_in wsX10_in) := goodIn_app (goodIn_of _ (by decide +kernel)) ggX10_stands_X10_in
set_option maxRecDepth 20000 in
theorem ggX10_stands_X10_hand : GoodIn wsX10_stands wsX10_hand := goodIn_r _ [9, 10, 11, 12, 13, 14, 15, 16, 4, 17, 18, 2, 3, 5, 19, 20, 21, 22, 23, 44, 45, 46, 47, 48, 49, 50, 51, 52, 53, 54, 55, 56, 57, 58, 59, 60, 61, 62, 63, 64, 65, 66, 67, 68, 69, 70, 71, 72, 73, 74, 75, 76, 77, 78, 79, 80, 81, 82, 83, 84, 85, 86, 87, 88, 89, 90, 91, 92, 93] (by decide +kernel) (by decide +kernel)
set_option maxRecDepth 20000 in
theorem gX10_stands_X10_hand : GoodIn wsX10_stands (wsV RX10 237 RX10 yX10_hand wsX10_hand) := goodIn_app (goodIn_of _ (by decide +kernel)) ggX10_stands_X10_hand
set_option maxRecDepth 20000 in
theorem ggX10_stands_X10_usurers : GoodIn wsX10_stands wsX10_usurers := goodIn_r _ [27, 19, 20, 21, 4, 22, 23, 10, 44, 45, 46, 47, 48, 49, 50, 51, 52, 53, 54, 55, 56, 57, 58, 59, 60, 61, 62, 63, 64, 65, 66, 67, 68, 69, 70, 71, 72, 73, 74, 75, 76, 77, 78, 79, 80, 81, 82, 83, 84, 85, 86, 87, 88, 89, 90, 91, 92, 93] (by decide +kernel) (by decide +kernel)
set_option maxRecDepth 20000 in
theorem gX10_stands_X10_usurers : GoodIn wsX10_stands (wsV RX10 374 RX10 yX10_usurers wsX10_usurers) := goodIn_app (goodIn_of _ (by decide +kernel)) ggX10_stands_X10_usurers
set_option maxRecDepth 20000 in
theorem ggX10_stands_X10_findAsks : GoodIn wsX10_stands wsX10_findAsks := goodIn_r _ [31, 32, 33, 24, 25, 26, 4, 27, 19, 20, 21, 22, 23, 10, 34, 35, 36, 37, 38, 39, 44, 45, 46, 47, 48, 49, 50, 51, 52, 53, 54, 55, 56, 57, 58, 59, 60, 61, 62, 63, 64, 65, 66, 67, 68, 69, 70, 71, 72, 73, 74, 75, 76, 77, 78, 79, 80, 81, 82, 83, 84, 85, 86, 87, 88, 89, 90, 91, 92, 93] (by decide +kernel) (by decide +kernel)
set_option maxRecDepth 20000 in
theorem gX10_stands_X10_findAsks : GoodIn wsX10_stands (wsV RX10 377 RX10 yX10_findAsks wsX10_findAsks) := goodIn_app (goodIn_of _ (by decide +kernel)) ggX10_stands_X10_findAsks
set_option maxRecDepth 20000 in
theorem ggX10_stands_X10_areAlike : GoodIn wsX10_stands wsX10_areAlike := goodIn_r _ [43, 32, 24, 25, 26, 4, 27, 19, 20, 21, 22, 23, 10, 44, 45, 46, 47, 48, 49, 50, 51, 52, 53, 54, 55, 56, 57, 58, 59, 60, 61, 62, 63, 64, 65, 66, 67, 68, 69, 70, 71, 72, 73, 74, 75, 76, 77, 78, 79, 80, 81, 82, 83, 84, 85, 86, 87, 88, 89, 90, 91, 92, 93] (by decide +kernel) (by decide +kernel)
set_option maxRecDepth 20000 in
theorem gX10_stands_X10_areAlike : GoodIn wsX10_stands (wsV RX10 383 RX10 yX10_areAlike wsX10_areAlike) := goodIn_app (goodIn_of _ (by decide +kernel)) ggX10_stands_X10_areAlike
theorem dX10_stands_0 : decode cX10_stands 0 = .ok (.aload_n 0, 1) := by decide +kernel
theorem dX10_stands_1 : decode cX10_stands 1 = .ok (.iconst 0, 1) := by decide +kernel
theorem dX10_stands_2 : decode cX10_stands 2 = .ok (.putfield 80, 3) := by decide +kernel
theorem dX10_stands_5 : decode cX10_stands 5 = .ok (.iload_n 2, 1) := by decide +kernel
theorem dX10_stands_6 : decode cX10_stands 6 = .ok (.iconst 0, 1) := by decide +kernel
theorem dX10_stands_7 : decode cX10_stands 7 = .ok (.iconst 1, 1) := by decide +kernel
theorem dX10_stands_8 : decode cX10_stands 8 = .ok (.invokestatic 92, 3) := by decide +kernel
theorem dX10_stands_11 : decode cX10_stands 11 = .ok (.ifCond .eq 18, 3) := by decide +kernel
theorem dX10_stands_14 : decode cX10_stands 14 = .ok (.aload_n 0, 1) := by decide +kernel
theorem dX10_stands_15 : decode cX10_stands 15 = .ok (.iload_n 1, 1) := by decide +kernel
theorem dX10_stands_16 : decode cX10_stands 16 = .ok (.invokevirtual 237, 3) := by decide +kernel
theorem dX10_stands_19 : decode cX10_stands 19 = .ok (.ifCond .eq 10, 3) := by decide +kernel
theorem dX10_stands_22 : decode cX10_stands 22 = .ok (.aload_n 0, 1) := by decide +kernel
theorem dX10_stands_23 : decode cX10_stands 23 = .ok (.invokevirtual 374, 3) := by decide +kernel
theorem dX10_stands_26 : decode cX10_stands 26 = .ok (.ifCond .ne 5, 3) := by decide +kernel
theorem dX10_stands_29 : decode cX10_stands 29 = .ok (.iconst (-1), 1) := by decide +kernel
theorem dX10_stands_30 : decode cX10_stands 30 = .ok (.ireturn, 1) := by decide +kernel
theorem dX10_stands_31 : decode cX10_stands 31 = .ok (.aload_n 0, 1) := by decide +kernel
theorem dX10_stands_32 : decode cX10_stands 32 = .ok (.invokevirtual 377, 3) := by decide +kernel
theorem dX10_stands_35 : decode cX10_stands 35 = .ok (.iconst 1, 1) := by decide +kernel
theorem dX10_stands_36 : decode cX10_stands 36 = .ok (.istore_n 3, 1) := by decide +kernel
theorem dX10_stands_37 : decode cX10_stands 37 = .ok (.iload_n 3, 1) := by decide +kernel
theorem dX10_stands_38 : decode cX10_stands 38 = .ok (.sipush 200, 3) := by decide +kernel
theorem dX10_stands_41 : decode cX10_stands 41 = .ok (.if_icmp .gt 48, 3) := by decide +kernel
theorem dX10_stands_44 : decode cX10_stands 44 = .ok (.iload_n 3, 1) := by decide +kernel
theorem dX10_stands_45 : decode cX10_stands 45 = .ok (.iconst 1, 1) := by decide +kernel
theorem dX10_stands_46 : decode cX10_stands 46 = .ok (.isub, 1) := by decide +kernel
theorem dX10_stands_47 : decode cX10_stands 47 = .ok (.istore 4, 2) := by decide +kernel
theorem dX10_stands_49 : decode cX10_stands 49 = .ok (.iload 4, 2) := by decide +kernel
theorem dX10_stands_51 : decode cX10_stands 51 = .ok (.ifCond .lt 32, 3) := by decide +kernel
theorem dX10_stands_54 : decode cX10_stands 54 = .ok (.aload_n 0, 1) := by decide +kernel
theorem dX10_stands_55 : decode cX10_stands 55 = .ok (.iload_n 3, 1) := by decide +kernel
theorem dX10_stands_56 : decode cX10_stands 56 = .ok (.iload 4, 2) := by decide +kernel
theorem dX10_stands_58 : decode cX10_stands 58 = .ok (.invokevirtual 383, 3) := by decide +kernel
theorem dX10_stands_61 : decode cX10_stands 61 = .ok (.ifCond .eq 16, 3) := by decide +kernel
theorem dX10_stands_64 : decode cX10_stands 64 = .ok (.iload_n 2, 1) := by decide +kernel
theorem dX10_stands_65 : decode cX10_stands 65 = .ok (.ifCond .ne 7, 3) := by decide +kernel
theorem dX10_stands_68 : decode cX10_stands 68 = .ok (.iload_n 3, 1) := by decide +kernel
theorem dX10_stands_69 : decode cX10_stands 69 = .ok (.goto 7, 3) := by decide +kernel
theorem dX10_stands_72 : decode cX10_stands 72 = .ok (.iload_n 3, 1) := by decide +kernel
theorem dX10_stands_73 : decode cX10_stands 73 = .ok (.iload 4, 2) := by decide +kernel
theorem dX10_stands_75 : decode cX10_stands 75 = .ok (.isub, 1) := by decide +kernel
theorem dX10_stands_76 : decode cX10_stands 76 = .ok (.ireturn, 1) := by decide +kernel
theorem dX10_stands_77 : decode cX10_stands 77 = .ok (.iinc 4 (-1), 3) := by decide +kernel
theorem dX10_stands_80 : decode cX10_stands 80 = .ok (.goto (-31), 3) := by decide +kernel
theorem dX10_stands_83 : decode cX10_stands 83 = .ok (.iinc 3 1, 3) := by decide +kernel
theorem dX10_stands_86 : decode cX10_stands 86 = .ok (.goto (-49), 3) := by decide +kernel
theorem dX10_stands_89 : decode cX10_stands 89 = .ok (.iconst (-1), 1) := by decide +kernel
theorem dX10_stands_90 : decode cX10_stands 90 = .ok (.ireturn, 1) := by decide +kernel
set_option maxRecDepth 20000 in
theorem ggX10_mostOwing_X10_greater : GoodIn wsX10_mostOwing wsX10_greater := goodIn_r _ [6] (by decide +kernel) (by decide +kernel)
set_option maxRecDepth 20000 in
theorem gX10_mostOwing_X10_greater : GoodIn wsX10_mostOwing (va_wsS RX10 338 yX10_greater wsX10_greater) := goodIn_app (goodIn_of _ (by decide +kernel)) ggX10_mostOwing_X10_greater
theorem dX10_mostOwing_0 : decode cX10_mostOwing 0 = .ok (.iconst (-1), 1) := by decide +kernel
theorem dX10_mostOwing_1 : decode cX10_mostOwing 1 = .ok (.istore_n 1, 1) := by decide +kernel
theorem dX10_mostOwing_2 : decode cX10_mostOwing 2 = .ok (.iconst 0, 1) := by decide +kernel
theorem dX10_mostOwing_3 : decode cX10_mostOwing 3 = .ok (.istore_n 2, 1) := by decide +kernel
theorem dX10_mostOwing_4 : decode cX10_mostOwing 4 = .ok (.iconst 0, 1) := by decide +kernel
theorem dX10_mostOwing_5 : decode cX10_mostOwing 5 = .ok (.istore_n 3, 1) := by decide +kernel
theorem dX10_mostOwing_6 : decode cX10_mostOwing 6 = .ok (.iload_n 3, 1) := by decide +kernel
theorem dX10_mostOwing_7 : decode cX10_mostOwing 7 = .ok (.aload_n 0, 1) := by decide +kernel
theorem dX10_mostOwing_8 : decode cX10_mostOwing 8 = .ok (.getfield 228, 3) := by decide +kernel
theorem dX10_mostOwing_11 : decode cX10_mostOwing 11 = .ok (.if_icmp .ge 65, 3) := by decide +kernel
theorem dX10_mostOwing_14 : decode cX10_mostOwing 14 = .ok (.iconst 0, 1) := by decide +kernel
theorem dX10_mostOwing_15 : decode cX10_mostOwing 15 = .ok (.istore 4, 2) := by decide +kernel
theorem dX10_mostOwing_17 : decode cX10_mostOwing 17 = .ok (.iconst 0, 1) := by decide +kernel
theorem dX10_mostOwing_18 : decode cX10_mostOwing 18 = .ok (.istore 5, 2) := by decide +kernel
theorem dX10_mostOwing_20 : decode cX10_mostOwing 20 = .ok (.iload 5, 2) := by decide +kernel
theorem dX10_mostOwing_22 : decode cX10_mostOwing 22 = .ok (.aload_n 0, 1) := by decide +kernel
theorem dX10_mostOwing_23 : decode cX10_mostOwing 23 = .ok (.getfield 228, 3) := by decide +kernel
theorem dX10_mostOwing_26 : decode cX10_mostOwing 26 = .ok (.if_icmp .ge 25, 3) := by decide +kernel
theorem dX10_mostOwing_29 : decode cX10_mostOwing 29 = .ok (.iload 4, 2) := by decide +kernel
theorem dX10_mostOwing_31 : decode cX10_mostOwing 31 = .ok (.aload_n 0, 1) := by decide +kernel
theorem dX10_mostOwing_32 : decode cX10_mostOwing 32 = .ok (.getfield 44, 3) := by decide +kernel
theorem dX10_mostOwing_35 : decode cX10_mostOwing 35 = .ok (.iconst 5, 1) := by decide +kernel
theorem dX10_mostOwing_36 : decode cX10_mostOwing 36 = .ok (.iload_n 3, 1) := by decide +kernel
theorem dX10_mostOwing_37 : decode cX10_mostOwing 37 = .ok (.imul, 1) := by decide +kernel
theorem dX10_mostOwing_38 : decode cX10_mostOwing 38 = .ok (.iload 5, 2) := by decide +kernel
theorem dX10_mostOwing_40 : decode cX10_mostOwing 40 = .ok (.iadd, 1) := by decide +kernel
theorem dX10_mostOwing_41 : decode cX10_mostOwing 41 = .ok (.iaload, 1) := by decide +kernel
theorem dX10_mostOwing_42 : decode cX10_mostOwing 42 = .ok (.iadd, 1) := by decide +kernel
theorem dX10_mostOwing_43 : decode cX10_mostOwing 43 = .ok (.istore 4, 2) := by decide +kernel
theorem dX10_mostOwing_45 : decode cX10_mostOwing 45 = .ok (.iinc 5 1, 3) := by decide +kernel
theorem dX10_mostOwing_48 : decode cX10_mostOwing 48 = .ok (.goto (-28), 3) := by decide +kernel
theorem dX10_mostOwing_51 : decode cX10_mostOwing 51 = .ok (.iload 4, 2) := by decide +kernel
theorem dX10_mostOwing_53 : decode cX10_mostOwing 53 = .ok (.iload_n 2, 1) := by decide +kernel
theorem dX10_mostOwing_54 : decode cX10_mostOwing 54 = .ok (.if_icmp .le 7, 3) := by decide +kernel
theorem dX10_mostOwing_57 : decode cX10_mostOwing 57 = .ok (.iload_n 3, 1) := by decide +kernel
theorem dX10_mostOwing_58 : decode cX10_mostOwing 58 = .ok (.goto 4, 3) := by decide +kernel
theorem dX10_mostOwing_61 : decode cX10_mostOwing 61 = .ok (.iload_n 1, 1) := by decide +kernel
theorem dX10_mostOwing_62 : decode cX10_mostOwing 62 = .ok (.istore_n 1, 1) := by decide +kernel
theorem dX10_mostOwing_63 : decode cX10_mostOwing 63 = .ok (.iload_n 2, 1) := by decide +kernel
theorem dX10_mostOwing_64 : decode cX10_mostOwing 64 = .ok (.iload 4, 2) := by decide +kernel
theorem dX10_mostOwing_66 : decode cX10_mostOwing 66 = .ok (.invokestatic 338, 3) := by decide +kernel
theorem dX10_mostOwing_69 : decode cX10_mostOwing 69 = .ok (.istore_n 2, 1) := by decide +kernel
theorem dX10_mostOwing_70 : decode cX10_mostOwing 70 = .ok (.iinc 3 1, 3) := by decide +kernel
theorem dX10_mostOwing_73 : decode cX10_mostOwing 73 = .ok (.goto (-67), 3) := by decide +kernel
theorem dX10_mostOwing_76 : decode cX10_mostOwing 76 = .ok (.iload_n 1, 1) := by decide +kernel
theorem dX10_mostOwing_77 : decode cX10_mostOwing 77 = .ok (.ireturn, 1) := by decide +kernel
set_option maxRecDepth 20000 in
theorem ggX10_idol_X10_greater : GoodIn wsX10_idol wsX10_greater := goodIn_r _ [7] (by decide +kernel) (by decide +kernel)
set_option maxRecDepth 20000 in
theorem gX10_idol_X10_greater : GoodIn wsX10_idol (va_wsS RX10 338 yX10_greater wsX10_greater) := goodIn_app (goodIn_of _ (by decide +kernel)) ggX10_idol_X10_greater
theorem dX10_idol_0 : decode cX10_idol 0 = .ok (.iconst (-1), 1) := by decide +kernel
theorem dX10_idol_1 : decode cX10_idol 1 = .ok (.istore_n 1, 1) := by decide +kernel
theorem dX10_idol_2 : decode cX10_idol 2 = .ok (.iconst 0, 1) := by decide +kernel
theorem dX10_idol_3 : decode cX10_idol 3 = .ok (.istore_n 2, 1) := by decide +kernel
theorem dX10_idol_4 : decode cX10_idol 4 = .ok (.iconst 0, 1) := by decide +kernel
theorem dX10_idol_5 : decode cX10_idol 5 = .ok (.istore_n 3, 1) := by decide +kernel
theorem dX10_idol_6 : decode cX10_idol 6 = .ok (.iload_n 3, 1) := by decide +kernel
theorem dX10_idol_7 : decode cX10_idol 7 = .ok (.aload_n 0, 1) := by decide +kernel
theorem dX10_idol_8 : decode cX10_idol 8 = .ok (.getfield 231, 3) := by decide +kernel
theorem dX10_idol_11 : decode cX10_idol 11 = .ok (.if_icmp .ge 66, 3) := by decide +kernel
theorem dX10_idol_14 : decode cX10_idol 14 = .ok (.iconst 0, 1) := by decide +kernel
theorem dX10_idol_15 : decode cX10_idol 15 = .ok (.istore 4, 2) := by decide +kernel
theorem dX10_idol_17 : decode cX10_idol 17 = .ok (.iconst 0, 1) := by decide +kernel
theorem dX10_idol_18 : decode cX10_idol 18 = .ok (.istore 5, 2) := by decide +kernel
theorem dX10_idol_20 : decode cX10_idol 20 = .ok (.iload 5, 2) := by decide +kernel
theorem dX10_idol_22 : decode cX10_idol 22 = .ok (.aload_n 0, 1) := by decide +kernel
theorem dX10_idol_23 : decode cX10_idol 23 = .ok (.getfield 228, 3) := by decide +kernel
theorem dX10_idol_26 : decode cX10_idol 26 = .ok (.if_icmp .ge 26, 3) := by decide +kernel
theorem dX10_idol_29 : decode cX10_idol 29 = .ok (.iload 4, 2) := by decide +kernel
theorem dX10_idol_31 : decode cX10_idol 31 = .ok (.aload_n 0, 1) := by decide +kernel
theorem dX10_idol_32 : decode cX10_idol 32 = .ok (.getfield 47, 3) := by decide +kernel
theorem dX10_idol_35 : decode cX10_idol 35 = .ok (.bipush 6, 2) := by decide +kernel
theorem dX10_idol_37 : decode cX10_idol 37 = .ok (.iload 5, 2) := by decide +kernel
theorem dX10_idol_39 : decode cX10_idol 39 = .ok (.imul, 1) := by decide +kernel
theorem dX10_idol_40 : decode cX10_idol 40 = .ok (.iload_n 3, 1) := by decide +kernel
theorem dX10_idol_41 : decode cX10_idol 41 = .ok (.iadd, 1) := by decide +kernel
theorem dX10_idol_42 : decode cX10_idol 42 = .ok (.iaload, 1) := by decide +kernel
theorem dX10_idol_43 : decode cX10_idol 43 = .ok (.iadd, 1) := by decide +kernel
theorem dX10_idol_44 : decode cX10_idol 44 = .ok (.istore 4, 2) := by decide +kernel
theorem dX10_idol_46 : decode cX10_idol 46 = .ok (.iinc 5 1, 3) := by decide +kernel
theorem dX10_idol_49 : decode cX10_idol 49 = .ok (.goto (-29), 3) := by decide +kernel
theorem dX10_idol_52 : decode cX10_idol 52 = .ok (.iload 4, 2) := by decide +kernel
theorem dX10_idol_54 : decode cX10_idol 54 = .ok (.iload_n 2, 1) := by decide +kernel
theorem dX10_idol_55 : decode cX10_idol 55 = .ok (.if_icmp .le 7, 3) := by decide +kernel
theorem dX10_idol_58 : decode cX10_idol 58 = .ok (.iload_n 3, 1) := by decide +kernel
theorem dX10_idol_59 : decode cX10_idol 59 = .ok (.goto 4, 3) := by decide +kernel
theorem dX10_idol_62 : decode cX10_idol 62 = .ok (.iload_n 1, 1) := by decide +kernel
theorem dX10_idol_63 : decode cX10_idol 63 = .ok (.istore_n 1, 1) := by decide +kernel
theorem dX10_idol_64 : decode cX10_idol 64 = .ok (.iload_n 2, 1) := by decide +kernel
theorem dX10_idol_65 : decode cX10_idol 65 = .ok (.iload 4, 2) := by decide +kernel
theorem dX10_idol_67 : decode cX10_idol 67 = .ok (.invokestatic 338, 3) := by decide +kernel
theorem dX10_idol_70 : decode cX10_idol 70 = .ok (.istore_n 2, 1) := by decide +kernel
theorem dX10_idol_71 : decode cX10_idol 71 = .ok (.iinc 3 1, 3) := by decide +kernel
theorem dX10_idol_74 : decode cX10_idol 74 = .ok (.goto (-68), 3) := by decide +kernel
theorem dX10_idol_77 : decode cX10_idol 77 = .ok (.iload_n 1, 1) := by decide +kernel
theorem dX10_idol_78 : decode cX10_idol 78 = .ok (.ireturn, 1) := by decide +kernel
set_option maxRecDepth 20000 in
theorem ggX10_eatsBy_X10_has : GoodIn wsX10_eatsBy wsX10_has := goodIn_r _ [7] (by decide +kernel) (by decide +kernel)
set_option maxRecDepth 20000 in
theorem gX10_eatsBy_X10_has : GoodIn wsX10_eatsBy (va_wsS RX10 84 yX10_has wsX10_has) := goodIn_app (goodIn_of _ (by decide +kernel)) ggX10_eatsBy_X10_has
set_option maxRecDepth 20000 in
theorem ggX10_eatsBy_X10_eats : GoodIn wsX10_eatsBy wsX10_eats := goodIn_r _ [11, 12, 13, 14, 15, 6, 16, 17, 18, 19, 20, 21, 22, 23, 24, 25, 26, 27, 28, 29, 30, 31, 32, 33, 34, 35, 36, 37, 38, 39, 40, 41, 42, 43, 44, 45, 46, 47, 48, 49, 50, 51, 52, 53, 54, 55, 56, 57, 58, 59, 60, 61, 62, 63, 64, 65, 66, 67, 68, 69, 70, 71, 72] (by decide +kernel) (by decide +kernel)
set_option maxRecDepth 20000 in
theorem gX10_eatsBy_X10_eats : GoodIn wsX10_eatsBy (wsV RX10 294 RX10 yX10_eats wsX10_eats) := goodIn_app (goodIn_of _ (by decide +kernel)) ggX10_eatsBy_X10_eats
theorem dX10_eatsBy_0 : decode cX10_eatsBy 0 = .ok (.aload_n 0, 1) := by decide +kernel
theorem dX10_eatsBy_1 : decode cX10_eatsBy 1 = .ok (.getfield 258, 3) := by decide +kernel
theorem dX10_eatsBy_4 : decode cX10_eatsBy 4 = .ok (.iload_n 2, 1) := by decide +kernel
theorem dX10_eatsBy_5 : decode cX10_eatsBy 5 = .ok (.iadd, 1) := by decide +kernel
theorem dX10_eatsBy_6 : decode cX10_eatsBy 6 = .ok (.istore_n 3, 1) := by decide +kernel
theorem dX10_eatsBy_7 : decode cX10_eatsBy 7 = .ok (.iconst 0, 1) := by decide +kernel
theorem dX10_eatsBy_8 : decode cX10_eatsBy 8 = .ok (.istore 4, 2) := by decide +kernel
theorem dX10_eatsBy_10 : decode cX10_eatsBy 10 = .ok (.iload 4, 2) := by decide +kernel
theorem dX10_eatsBy_12 : decode cX10_eatsBy 12 = .ok (.iload_n 1, 1) := by decide +kernel
theorem dX10_eatsBy_13 : decode cX10_eatsBy 13 = .ok (.if_icmp .ge 63, 3) := by decide +kernel
theorem dX10_eatsBy_16 : decode cX10_eatsBy 16 = .ok (.iload_n 3, 1) := by decide +kernel
theorem dX10_eatsBy_17 : decode cX10_eatsBy 17 = .ok (.aload_n 0, 1) := by decide +kernel
theorem dX10_eatsBy_18 : decode cX10_eatsBy 18 = .ok (.getfield 267, 3) := by decide +kernel
theorem dX10_eatsBy_21 : decode cX10_eatsBy 21 = .ok (.iload 4, 2) := by decide +kernel
theorem dX10_eatsBy_23 : decode cX10_eatsBy 23 = .ok (.invokestatic 84, 3) := by decide +kernel
theorem dX10_eatsBy_26 : decode cX10_eatsBy 26 = .ok (.ifCond .eq 41, 3) := by decide +kernel
theorem dX10_eatsBy_29 : decode cX10_eatsBy 29 = .ok (.aload_n 0, 1) := by decide +kernel
theorem dX10_eatsBy_30 : decode cX10_eatsBy 30 = .ok (.getfield 50, 3) := by decide +kernel
theorem dX10_eatsBy_33 : decode cX10_eatsBy 33 = .ok (.iload 4, 2) := by decide +kernel
theorem dX10_eatsBy_35 : decode cX10_eatsBy 35 = .ok (.iaload, 1) := by decide +kernel
theorem dX10_eatsBy_36 : decode cX10_eatsBy 36 = .ok (.aload_n 0, 1) := by decide +kernel
theorem dX10_eatsBy_37 : decode cX10_eatsBy 37 = .ok (.iload 4, 2) := by decide +kernel
theorem dX10_eatsBy_39 : decode cX10_eatsBy 39 = .ok (.iconst 0, 1) := by decide +kernel
theorem dX10_eatsBy_40 : decode cX10_eatsBy 40 = .ok (.invokevirtual 294, 3) := by decide +kernel
theorem dX10_eatsBy_43 : decode cX10_eatsBy 43 = .ok (.if_icmp .lt 24, 3) := by decide +kernel
theorem dX10_eatsBy_46 : decode cX10_eatsBy 46 = .ok (.iload_n 3, 1) := by decide +kernel
theorem dX10_eatsBy_47 : decode cX10_eatsBy 47 = .ok (.aload_n 0, 1) := by decide +kernel
theorem dX10_eatsBy_48 : decode cX10_eatsBy 48 = .ok (.iload 4, 2) := by decide +kernel
theorem dX10_eatsBy_50 : decode cX10_eatsBy 50 = .ok (.iconst 0, 1) := by decide +kernel
theorem dX10_eatsBy_51 : decode cX10_eatsBy 51 = .ok (.invokevirtual 294, 3) := by decide +kernel
theorem dX10_eatsBy_54 : decode cX10_eatsBy 54 = .ok (.if_icmp .lt 13, 3) := by decide +kernel
theorem dX10_eatsBy_57 : decode cX10_eatsBy 57 = .ok (.aload_n 0, 1) := by decide +kernel
theorem dX10_eatsBy_58 : decode cX10_eatsBy 58 = .ok (.iload 4, 2) := by decide +kernel
theorem dX10_eatsBy_60 : decode cX10_eatsBy 60 = .ok (.iconst 0, 1) := by decide +kernel
theorem dX10_eatsBy_61 : decode cX10_eatsBy 61 = .ok (.invokevirtual 294, 3) := by decide +kernel
theorem dX10_eatsBy_64 : decode cX10_eatsBy 64 = .ok (.goto 4, 3) := by decide +kernel
theorem dX10_eatsBy_67 : decode cX10_eatsBy 67 = .ok (.iconst 0, 1) := by decide +kernel
theorem dX10_eatsBy_68 : decode cX10_eatsBy 68 = .ok (.isub, 1) := by decide +kernel
theorem dX10_eatsBy_69 : decode cX10_eatsBy 69 = .ok (.istore_n 3, 1) := by decide +kernel
theorem dX10_eatsBy_70 : decode cX10_eatsBy 70 = .ok (.iinc 4 1, 3) := by decide +kernel
theorem dX10_eatsBy_73 : decode cX10_eatsBy 73 = .ok (.goto (-63), 3) := by decide +kernel
theorem dX10_eatsBy_76 : decode cX10_eatsBy 76 = .ok (.aload_n 0, 1) := by decide +kernel
theorem dX10_eatsBy_77 : decode cX10_eatsBy 77 = .ok (.getfield 50, 3) := by decide +kernel
theorem dX10_eatsBy_80 : decode cX10_eatsBy 80 = .ok (.iload_n 1, 1) := by decide +kernel
theorem dX10_eatsBy_81 : decode cX10_eatsBy 81 = .ok (.iaload, 1) := by decide +kernel
theorem dX10_eatsBy_82 : decode cX10_eatsBy 82 = .ok (.iload_n 2, 1) := by decide +kernel
theorem dX10_eatsBy_83 : decode cX10_eatsBy 83 = .ok (.iadd, 1) := by decide +kernel
theorem dX10_eatsBy_84 : decode cX10_eatsBy 84 = .ok (.aload_n 0, 1) := by decide +kernel
theorem dX10_eatsBy_85 : decode cX10_eatsBy 85 = .ok (.iload_n 1, 1) := by decide +kernel
theorem dX10_eatsBy_86 : decode cX10_eatsBy 86 = .ok (.iconst 0, 1) := by decide +kernel
theorem dX10_eatsBy_87 : decode cX10_eatsBy 87 = .ok (.invokevirtual 294, 3) := by decide +kernel
theorem dX10_eatsBy_90 : decode cX10_eatsBy 90 = .ok (.if_icmp .lt 17, 3) := by decide +kernel
theorem dX10_eatsBy_93 : decode cX10_eatsBy 93 = .ok (.iload_n 3, 1) := by decide +kernel
theorem dX10_eatsBy_94 : decode cX10_eatsBy 94 = .ok (.aload_n 0, 1) := by decide +kernel
theorem dX10_eatsBy_95 : decode cX10_eatsBy 95 = .ok (.iload_n 1, 1) := by decide +kernel
theorem dX10_eatsBy_96 : decode cX10_eatsBy 96 = .ok (.iconst 0, 1) := by decide +kernel
theorem dX10_eatsBy_97 : decode cX10_eatsBy 97 = .ok (.invokevirtual 294, 3) := by decide +kernel
theorem dX10_eatsBy_100 : decode cX10_eatsBy 100 = .ok (.if_icmp .lt 7, 3) := by decide +kernel
theorem dX10_eatsBy_103 : decode cX10_eatsBy 103 = .ok (.iconst 1, 1) := by decide +kernel
theorem dX10_eatsBy_104 : decode cX10_eatsBy 104 = .ok (.goto 4, 3) := by decide +kernel
theorem dX10_eatsBy_107 : decode cX10_eatsBy 107 = .ok (.iconst 0, 1) := by decide +kernel
theorem dX10_eatsBy_108 : decode cX10_eatsBy 108 = .ok (.ireturn, 1) := by decide +kernel
set_option maxRecDepth 20000 in
theorem ggX10_tip_X10_has : GoodIn wsX10_tip wsX10_has := goodIn_r _ [5] (by decide +kernel) (by decide +kernel)
set_option maxRecDepth 20000 in
theorem gX10_tip_X10_has : GoodIn wsX10_tip (va_wsS RX10 84 yX10_has wsX10_has) := goodIn_app (goodIn_of _ (by decide +kernel)) ggX10_tip_X10_has
set_option maxRecDepth 20000 in
theorem ggX10_tip_X10_eatsBy : GoodIn wsX10_tip wsX10_eatsBy := goodIn_r _ [9, 10, 1, 11, 2, 3, 4, 5, 12, 13, 14, 15, 16, 17, 18, 19, 20, 21, 22, 23, 24, 25, 26, 27, 28, 29, 30, 31, 32, 33, 34, 35, 36, 37, 38, 39, 40, 41, 42, 43, 44, 45, 46, 47, 48, 49, 50, 51, 52, 53, 54, 55, 56, 57, 58, 59, 60, 61, 62, 63, 64, 65, 66, 67, 68, 69, 70, 71, 72, 73, 74, 75, 76] (by decide +kernel) (by decide +kernel)
set_option maxRecDepth 20000 in
theorem gX10_tip_X10_eatsBy : GoodIn wsX10_tip (wsV RX10 431 RX10 yX10_eatsBy wsX10_eatsBy) := goodIn_app (goodIn_of _ (by decide +kernel)) ggX10_tip_X10_eatsBy
theorem dX10_tip_0 : decode cX10_tip 0 = .ok (.iconst 0, 1) := by decide +kernel
theorem dX10_tip_1 : decode cX10_tip 1 = .ok (.istore_n 2, 1) := by decide +kernel
theorem dX10_tip_2 : decode cX10_tip 2 = .ok (.iload_n 2, 1) := by decide +kernel
theorem dX10_tip_3 : decode cX10_tip 3 = .ok (.bipush 99, 2) := by decide +kernel
theorem dX10_tip_5 : decode cX10_tip 5 = .ok (.if_icmp .gt 33, 3) := by decide +kernel
theorem dX10_tip_8 : decode cX10_tip 8 = .ok (.aload_n 0, 1) := by decide +kernel
theorem dX10_tip_9 : decode cX10_tip 9 = .ok (.getfield 267, 3) := by decide +kernel
theorem dX10_tip_12 : decode cX10_tip 12 = .ok (.iload_n 1, 1) := by decide +kernel
theorem dX10_tip_13 : decode cX10_tip 13 = .ok (.invokestatic 84, 3) := by decide +kernel
theorem dX10_tip_16 : decode cX10_tip 16 = .ok (.ifCond .eq 22, 3) := by decide +kernel
theorem dX10_tip_19 : decode cX10_tip 19 = .ok (.aload_n 0, 1) := by decide +kernel
theorem dX10_tip_20 : decode cX10_tip 20 = .ok (.iload_n 1, 1) := by decide +kernel
theorem dX10_tip_21 : decode cX10_tip 21 = .ok (.iconst 2, 1) := by decide +kernel
theorem dX10_tip_22 : decode cX10_tip 22 = .ok (.iload_n 2, 1) := by decide +kernel
theorem dX10_tip_23 : decode cX10_tip 23 = .ok (.imul, 1) := by decide +kernel
theorem dX10_tip_24 : decode cX10_tip 24 = .ok (.invokevirtual 431, 3) := by decide +kernel
theorem dX10_tip_27 : decode cX10_tip 27 = .ok (.ifCond .eq 5, 3) := by decide +kernel
theorem dX10_tip_30 : decode cX10_tip 30 = .ok (.iload_n 2, 1) := by decide +kernel
theorem dX10_tip_31 : decode cX10_tip 31 = .ok (.ireturn, 1) := by decide +kernel
theorem dX10_tip_32 : decode cX10_tip 32 = .ok (.iinc 2 1, 3) := by decide +kernel
theorem dX10_tip_35 : decode cX10_tip 35 = .ok (.goto (-33), 3) := by decide +kernel
theorem dX10_tip_38 : decode cX10_tip 38 = .ok (.iconst (-1), 1) := by decide +kernel
theorem dX10_tip_39 : decode cX10_tip 39 = .ok (.ireturn, 1) := by decide +kernel
set_option maxRecDepth 20000 in
theorem ggX10_dear_X10_has : GoodIn wsX10_dear wsX10_has := goodIn_r _ [6] (by decide +kernel) (by decide +kernel)
set_option maxRecDepth 20000 in
theorem gX10_dear_X10_has : GoodIn wsX10_dear (va_wsS RX10 84 yX10_has wsX10_has) := goodIn_app (goodIn_of _ (by decide +kernel)) ggX10_dear_X10_has
set_option maxRecDepth 20000 in
theorem ggX10_dear_X10_eats : GoodIn wsX10_dear wsX10_eats := goodIn_r _ [10, 11, 12, 13, 14, 5, 15, 16, 17, 18, 19, 20, 21, 22, 23, 24, 25, 26, 27, 28, 29, 30, 31, 32, 33, 34, 35, 36, 37, 38, 39, 40, 41, 42, 43, 44, 45, 46, 47, 48, 49, 50, 51, 52, 53, 54, 55, 56, 57, 58, 59, 60, 61, 62, 63, 64, 65, 66, 67, 68, 69, 70, 71] (by decide +kernel) (by decide +kernel)
set_option maxRecDepth 20000 in
theorem gX10_dear_X10_eats : GoodIn wsX10_dear (wsV RX10 294 RX10 yX10_eats wsX10_eats) := goodIn_app (goodIn_of _ (by decide +kernel)) ggX10_dear_X10_eats
theorem dX10_dear_0 : decode cX10_dear 0 = .ok (.iconst 0, 1) := by decide +kernel
theorem dX10_dear_1 : decode cX10_dear 1 = .ok (.istore_n 2, 1) := by decide +kernel
theorem dX10_dear_2 : decode cX10_dear 2 = .ok (.iload_n 2, 1) := by decide +kernel
theorem dX10_dear_3 : decode cX10_dear 3 = .ok (.bipush 99, 2) := by decide +kernel
theorem dX10_dear_5 : decode cX10_dear 5 = .ok (.if_icmp .ge 35, 3) := by decide +kernel
theorem dX10_dear_8 : decode cX10_dear 8 = .ok (.aload_n 0, 1) := by decide +kernel
theorem dX10_dear_9 : decode cX10_dear 9 = .ok (.getfield 267, 3) := by decide +kernel
theorem dX10_dear_12 : decode cX10_dear 12 = .ok (.iload_n 1, 1) := by decide +kernel
theorem dX10_dear_13 : decode cX10_dear 13 = .ok (.invokestatic 84, 3) := by decide +kernel
theorem dX10_dear_16 : decode cX10_dear 16 = .ok (.ifCond .eq 24, 3) := by decide +kernel
theorem dX10_dear_19 : decode cX10_dear 19 = .ok (.aload_n 0, 1) := by decide +kernel
theorem dX10_dear_20 : decode cX10_dear 20 = .ok (.getfield 50, 3) := by decide +kernel
theorem dX10_dear_23 : decode cX10_dear 23 = .ok (.iload_n 1, 1) := by decide +kernel
theorem dX10_dear_24 : decode cX10_dear 24 = .ok (.iaload, 1) := by decide +kernel
theorem dX10_dear_25 : decode cX10_dear 25 = .ok (.aload_n 0, 1) := by decide +kernel
theorem dX10_dear_26 : decode cX10_dear 26 = .ok (.iload_n 1, 1) := by decide +kernel
theorem dX10_dear_27 : decode cX10_dear 27 = .ok (.iload_n 2, 1) := by decide +kernel
theorem dX10_dear_28 : decode cX10_dear 28 = .ok (.invokevirtual 294, 3) := by decide +kernel
theorem dX10_dear_31 : decode cX10_dear 31 = .ok (.if_icmp .lt 9, 3) := by decide +kernel
theorem dX10_dear_34 : decode cX10_dear 34 = .ok (.iinc 2 1, 3) := by decide +kernel
theorem dX10_dear_37 : decode cX10_dear 37 = .ok (.goto (-35), 3) := by decide +kernel
theorem dX10_dear_40 : decode cX10_dear 40 = .ok (.iload_n 2, 1) := by decide +kernel
theorem dX10_dear_41 : decode cX10_dear 41 = .ok (.ireturn, 1) := by decide +kernel
set_option maxRecDepth 20000 in
theorem ggX10_look_X10_layState : GoodIn wsX10_look wsX10_layState := goodIn_r _ [7, 8, 9, 10, 6, 11, 12, 13, 14, 15, 16, 17, 18, 19, 20, 21, 22, 23, 24, 25, 26, 2, 27, 28, 29, 30, 31, 32, 33, 34, 35, 36, 37, 38, 39, 40, 41, 42, 43, 44, 45, 46, 47, 48, 49, 50, 51, 52, 53, 54, 55, 56, 57, 58, 59, 60, 61, 62, 63, 64, 65, 66, 67, 68, 69, 70, 71, 72, 73, 74, 75, 76, 77, 78, 79, 80, 81, 82, 83, 84, 85, 86, 87, 88, 89, 90, 91, 92, 93, 94, 95, 96, 97, 98, 99, 100, 101, 102, 103, 104, 105, 106, 107, 108, 109, 110, 111, 112, 113, 114, 115, 116, 117, 118, 119, 120, 121, 122, 123, 124, 125, 126, 127, 128, 129, 130, 131, 155, 156, 157, 158, 159, 160, 161, 162, 163, 164, 165, 166, 167, 168, 169, 170, 171, 172, 173, 174, 175, 176, 177, 178, 179, 180, 181, 182, 183, 184, 185, 186, 187, 188, 189, 190, 191, 192, 193, 194, 195, 196, 197, 198, 199, 200, 201, 202, 203, 204] (by decide +kernel) (by decide +kernel)
set_option maxRecDepth 20000 in
theorem gX10_look_X10_layState : GoodIn wsX10_look (wsV RX10 332 RX10 yX10_layState wsX10_layState) := goodIn_app (goodIn_of _ (by decide +kernel)) ggX10_look_X10_layState
set_option maxRecDepth 20000 in
theorem ggX10_look_X10_in : GoodIn wsX10_look wsX10_in := goodIn_r _ [20] (by decide +kernel) (by decide +kernel)
set_option maxRecDepth 20000 in
theorem gX10_look_X10_in : GoodIn wsX10_look (va_wsS RX10 92 yX10_in wsX10_in) := goodIn_app (goodIn_of _ (by decide +kernel)) ggX10_look_X10_in
set_option maxRecDepth 20000 in
theorem ggX10_look_X10_tip : GoodIn wsX10_look wsX10_tip := goodIn_r _ [135, 49, 91, 92, 6, 93, 136, 137, 138, 139, 46, 54, 121, 122, 123, 124, 47, 125, 126, 127, 128, 28, 29, 30, 31, 32, 25, 155, 156, 157, 158, 159, 160, 161, 162, 163, 164, 165, 166, 167, 168, 169, 170, 171, 172, 173, 174, 175, 176, 177, 178, 179, 180, 181, 182, 183, 184, 185, 186, 187, 188, 189, 190, 191, 192, 193, 194, 195, 196, 197, 198, 199, 200, 201, 202, 203, 204] (by decide +kernel) (by decide +kernel)
set_option maxRecDepth 20000 in
theorem gX10_look_X10_tip : GoodIn wsX10_look (wsV RX10 434 RX10 yX10_tip wsX10_tip) := goodIn_app (goodIn_of _ (by decide +kernel)) ggX10_look_X10_tip
set_option maxRecDepth 20000 in
theorem ggX10_look_X10_mostOwing : GoodIn wsX10_look wsX10_mostOwing := goodIn_r _ [143, 26, 52, 144, 145, 6, 146, 155, 156, 157, 158, 159, 160, 161, 162, 163, 164, 165, 166, 167, 168, 169, 170, 171, 172, 173, 174, 175, 176, 177, 178, 179, 180, 181, 182, 183, 184, 185, 186, 187, 188, 189, 190, 191, 192, 193, 194, 195, 196, 197, 198, 199, 200, 201, 202, 203, 204] (by decide +kernel) (by decide +kernel)
set_option maxRecDepth 20000 in
theorem gX10_look_X10_mostOwing : GoodIn wsX10_look (wsV RX10 437 RX10 yX10_mostOwing wsX10_mostOwing) := goodIn_app (goodIn_of _ (by decide +kernel)) ggX10_look_X10_mostOwing
set_option maxRecDepth 20000 in
theorem ggX10_look_X10_idol : GoodIn wsX10_look wsX10_idol := goodIn_r _ [150, 2, 26, 53, 144, 145, 6, 146, 155, 156, 157, 158, 159, 160, 161, 162, 163, 164, 165, 166, 167, 168, 169, 170, 171, 172, 173, 174, 175, 176, 177, 178, 179, 180, 181, 182, 183, 184, 185, 186, 187, 188, 189, 190, 191, 192, 193, 194, 195, 196, 197, 198, 199, 200, 201, 202, 203, 204] (by decide +kernel) (by decide +kernel)
set_option maxRecDepth 20000 in
theorem gX10_look_X10_idol : GoodIn wsX10_look (wsV RX10 440 RX10 yX10_idol wsX10_idol) := goodIn_app (goodIn_of _ (by decide +kernel)) ggX10_look_X10_idol
set_option maxRecDepth 20000 in
theorem ggX10_look_X10_dear : GoodIn wsX10_look wsX10_dear := goodIn_r _ [154, 49, 54, 91, 92, 6, 93, 121, 122, 123, 124, 47, 125, 126, 127, 128, 28, 29, 30, 31, 32, 25, 155, 156, 157, 158, 159, 160, 161, 162, 163, 164, 165, 166, 167, 168, 169, 170, 171, 172, 173, 174, 175, 176, 177, 178, 179, 180, 181, 182, 183, 184, 185, 186, 187, 188, 189, 190, 191, 192, 193, 194, 195, 196, 197, 198, 199, 200, 201, 202, 203, 204] (by decide +kernel) (by decide +kernel)
set_option maxRecDepth 20000 in
theorem gX10_look_X10_dear : GoodIn wsX10_look (wsV RX10 443 RX10 yX10_dear wsX10_dear) := goodIn_app (goodIn_of _ (by decide +kernel)) ggX10_look_X10_dear
theorem dX10_look_0 : decode cX10_look 0 = .ok (.aload_n 0, 1) := by decide +kernel
theorem dX10_look_1 : decode cX10_look 1 = .ok (.iconst 0, 1) := by decide +kernel
theorem dX10_look_2 : decode cX10_look 2 = .ok (.putfield 80, 3) := by decide +kernel
theorem dX10_look_5 : decode cX10_look 5 = .ok (.aload_n 0, 1) := by decide +kernel
theorem dX10_look_6 : decode cX10_look 6 = .ok (.iload_n 1, 1) := by decide +kernel
theorem dX10_look_7 : decode cX10_look 7 = .ok (.iload_n 2, 1) := by decide +kernel
theorem dX10_look_8 : decode cX10_look 8 = .ok (.iload_n 3, 1) := by decide +kernel
theorem dX10_look_9 : decode cX10_look 9 = .ok (.invokevirtual 332, 3) := by decide +kernel
theorem dX10_look_12 : decode cX10_look 12 = .ok (.ifCond .ne 6, 3) := by decide +kernel
theorem dX10_look_15 : decode cX10_look 15 = .ok (.bipush (-2), 2) := by decide +kernel
theorem dX10_look_17 : decode cX10_look 17 = .ok (.ireturn, 1) := by decide +kernel
theorem dX10_look_18 : decode cX10_look 18 = .ok (.iload 4, 2) := by decide +kernel
theorem dX10_look_20 : decode cX10_look 20 = .ok (.bipush 10, 2) := by decide +kernel
theorem dX10_look_22 : decode cX10_look 22 = .ok (.bipush 9, 2) := by decide +kernel
theorem dX10_look_24 : decode cX10_look 24 = .ok (.aload_n 0, 1) := by decide +kernel
theorem dX10_look_25 : decode cX10_look 25 = .ok (.getfield 231, 3) := by decide +kernel
theorem dX10_look_28 : decode cX10_look 28 = .ok (.iadd, 1) := by decide +kernel
theorem dX10_look_29 : decode cX10_look 29 = .ok (.invokestatic 92, 3) := by decide +kernel
theorem dX10_look_32 : decode cX10_look 32 = .ok (.ifCond .eq 13, 3) := by decide +kernel
theorem dX10_look_35 : decode cX10_look 35 = .ok (.aload_n 0, 1) := by decide +kernel
theorem dX10_look_36 : decode cX10_look 36 = .ok (.iload 4, 2) := by decide +kernel
theorem dX10_look_38 : decode cX10_look 38 = .ok (.bipush 10, 2) := by decide +kernel
theorem dX10_look_40 : decode cX10_look 40 = .ok (.isub, 1) := by decide +kernel
theorem dX10_look_41 : decode cX10_look 41 = .ok (.invokevirtual 434, 3) := by decide +kernel
theorem dX10_look_44 : decode cX10_look 44 = .ok (.ireturn, 1) := by decide +kernel
theorem dX10_look_45 : decode cX10_look 45 = .ok (.iload 4, 2) := by decide +kernel
theorem dX10_look_47 : decode cX10_look 47 = .ok (.ifCond .ne 10, 3) := by decide +kernel
theorem dX10_look_50 : decode cX10_look 50 = .ok (.aload_n 0, 1) := by decide +kernel
theorem dX10_look_51 : decode cX10_look 51 = .ok (.invokevirtual 437, 3) := by decide +kernel
theorem dX10_look_54 : decode cX10_look 54 = .ok (.goto 47, 3) := by decide +kernel
theorem dX10_look_57 : decode cX10_look 57 = .ok (.iload 4, 2) := by decide +kernel
theorem dX10_look_59 : decode cX10_look 59 = .ok (.iconst 1, 1) := by decide +kernel
theorem dX10_look_60 : decode cX10_look 60 = .ok (.if_icmp .ne 10, 3) := by decide +kernel
theorem dX10_look_63 : decode cX10_look 63 = .ok (.aload_n 0, 1) := by decide +kernel
theorem dX10_look_64 : decode cX10_look 64 = .ok (.invokevirtual 440, 3) := by decide +kernel
theorem dX10_look_67 : decode cX10_look 67 = .ok (.goto 34, 3) := by decide +kernel
theorem dX10_look_70 : decode cX10_look 70 = .ok (.iload 4, 2) := by decide +kernel
theorem dX10_look_72 : decode cX10_look 72 = .ok (.bipush 20, 2) := by decide +kernel
theorem dX10_look_74 : decode cX10_look 74 = .ok (.bipush 19, 2) := by decide +kernel
theorem dX10_look_76 : decode cX10_look 76 = .ok (.aload_n 0, 1) := by decide +kernel
theorem dX10_look_77 : decode cX10_look 77 = .ok (.getfield 231, 3) := by decide +kernel
theorem dX10_look_80 : decode cX10_look 80 = .ok (.iadd, 1) := by decide +kernel
theorem dX10_look_81 : decode cX10_look 81 = .ok (.invokestatic 92, 3) := by decide +kernel
theorem dX10_look_84 : decode cX10_look 84 = .ok (.ifCond .eq 15, 3) := by decide +kernel
theorem dX10_look_87 : decode cX10_look 87 = .ok (.aload_n 0, 1) := by decide +kernel
theorem dX10_look_88 : decode cX10_look 88 = .ok (.iload 4, 2) := by decide +kernel
theorem dX10_look_90 : decode cX10_look 90 = .ok (.bipush 20, 2) := by decide +kernel
theorem dX10_look_92 : decode cX10_look 92 = .ok (.isub, 1) := by decide +kernel
theorem dX10_look_93 : decode cX10_look 93 = .ok (.invokevirtual 443, 3) := by decide +kernel
theorem dX10_look_96 : decode cX10_look 96 = .ok (.goto 5, 3) := by decide +kernel
theorem dX10_look_99 : decode cX10_look 99 = .ok (.bipush (-2), 2) := by decide +kernel
theorem dX10_look_101 : decode cX10_look 101 = .ok (.ireturn, 1) := by decide +kernel
set_option maxRecDepth 20000 in
theorem ggX10_names_X10_deedOf : GoodIn wsX10_names wsX10_deedOf := goodIn_r _ [5, 6, 7, 8, 9, 10, 11, 12, 13, 14, 15, 16, 17, 18, 19, 20, 21, 22, 23, 24, 25, 26, 27, 28, 29, 30, 31, 32, 33, 34, 35, 36, 37, 38, 39, 40, 41, 42, 43, 44, 45, 46, 47, 48, 49, 50, 51, 52, 53, 54, 55, 56, 57] (by decide +kernel) (by decide +kernel)
set_option maxRecDepth 20000 in
theorem gX10_names_X10_deedOf : GoodIn wsX10_names (wsV RX10 255 RX10 yX10_deedOf wsX10_deedOf) := goodIn_app (goodIn_of _ (by decide +kernel)) ggX10_names_X10_deedOf
theorem dX10_names_0 : decode cX10_names 0 = .ok (.aload_n 0, 1) := by decide +kernel
theorem dX10_names_1 : decode cX10_names 1 = .ok (.iload_n 1, 1) := by decide +kernel
theorem dX10_names_2 : decode cX10_names 2 = .ok (.iconst 0, 1) := by decide +kernel
theorem dX10_names_3 : decode cX10_names 3 = .ok (.invokevirtual 255, 3) := by decide +kernel
theorem dX10_names_6 : decode cX10_names 6 = .ok (.istore_n 3, 1) := by decide +kernel
theorem dX10_names_7 : decode cX10_names 7 = .ok (.iload_n 3, 1) := by decide +kernel
theorem dX10_names_8 : decode cX10_names 8 = .ok (.ifCond .ne 13, 3) := by decide +kernel
theorem dX10_names_11 : decode cX10_names 11 = .ok (.aload_n 0, 1) := by decide +kernel
theorem dX10_names_12 : decode cX10_names 12 = .ok (.iload_n 1, 1) := by decide +kernel
theorem dX10_names_13 : decode cX10_names 13 = .ok (.iconst 1, 1) := by decide +kernel
theorem dX10_names_14 : decode cX10_names 14 = .ok (.invokevirtual 255, 3) := by decide +kernel
theorem dX10_names_17 : decode cX10_names 17 = .ok (.iload_n 2, 1) := by decide +kernel
theorem dX10_names_18 : decode cX10_names 18 = .ok (.if_icmp .eq 33, 3) := by decide +kernel
theorem dX10_names_21 : decode cX10_names 21 = .ok (.iload_n 3, 1) := by decide +kernel
theorem dX10_names_22 : decode cX10_names 22 = .ok (.iconst 1, 1) := by decide +kernel
theorem dX10_names_23 : decode cX10_names 23 = .ok (.if_icmp .eq 8, 3) := by decide +kernel
theorem dX10_names_26 : decode cX10_names 26 = .ok (.iload_n 3, 1) := by decide +kernel
theorem dX10_names_27 : decode cX10_names 27 = .ok (.iconst 2, 1) := by decide +kernel
theorem dX10_names_28 : decode cX10_names 28 = .ok (.if_icmp .ne 27, 3) := by decide +kernel
theorem dX10_names_31 : decode cX10_names 31 = .ok (.aload_n 0, 1) := by decide +kernel
theorem dX10_names_32 : decode cX10_names 32 = .ok (.iload_n 1, 1) := by decide +kernel
theorem dX10_names_33 : decode cX10_names 33 = .ok (.iconst 1, 1) := by decide +kernel
theorem dX10_names_34 : decode cX10_names 34 = .ok (.invokevirtual 255, 3) := by decide +kernel
theorem dX10_names_37 : decode cX10_names 37 = .ok (.iload_n 2, 1) := by decide +kernel
theorem dX10_names_38 : decode cX10_names 38 = .ok (.if_icmp .eq 13, 3) := by decide +kernel
theorem dX10_names_41 : decode cX10_names 41 = .ok (.aload_n 0, 1) := by decide +kernel
theorem dX10_names_42 : decode cX10_names 42 = .ok (.iload_n 1, 1) := by decide +kernel
theorem dX10_names_43 : decode cX10_names 43 = .ok (.iconst 2, 1) := by decide +kernel
theorem dX10_names_44 : decode cX10_names 44 = .ok (.invokevirtual 255, 3) := by decide +kernel
theorem dX10_names_47 : decode cX10_names 47 = .ok (.iload_n 2, 1) := by decide +kernel
theorem dX10_names_48 : decode cX10_names 48 = .ok (.if_icmp .ne 7, 3) := by decide +kernel
theorem dX10_names_51 : decode cX10_names 51 = .ok (.iconst 1, 1) := by decide +kernel
theorem dX10_names_52 : decode cX10_names 52 = .ok (.goto 4, 3) := by decide +kernel
theorem dX10_names_55 : decode cX10_names 55 = .ok (.iconst 0, 1) := by decide +kernel
theorem dX10_names_56 : decode cX10_names 56 = .ok (.ireturn, 1) := by decide +kernel
set_option maxRecDepth 20000 in
theorem ggX10_starvedWithout_X10_begin : GoodIn wsX10_starvedWithout wsX10_begin := goodIn_r _ [7, 8, 9, 10, 1, 2, 11, 12, 13, 14, 15, 16, 17, 18, 19, 20, 6, 21, 22, 23, 24, 25, 26, 27, 28, 29, 30, 113, 114, 115, 116, 117, 118, 119, 120, 121, 122, 123, 124, 125, 126, 127, 128, 129, 130, 131, 132, 133, 134, 135, 136, 137, 138, 139, 140, 141, 142, 143, 144, 145, 146, 147, 148, 149, 150, 151, 152, 153, 154, 155, 156, 157, 158, 159, 160, 161, 162] (by decide +kernel) (by decide +kernel)
set_option maxRecDepth 20000 in
theorem gX10_starvedWithout_X10_begin : GoodIn wsX10_starvedWithout (wsV RX10 323 RX10 yX10_begin wsX10_begin) := goodIn_app (goodIn_of _ (by decide +kernel)) ggX10_starvedWithout_X10_begin
set_option maxRecDepth 20000 in
theorem ggX10_starvedWithout_X10_names : GoodIn wsX10_starvedWithout wsX10_names := goodIn_r _ [34, 35, 36, 37, 6, 38, 39, 40, 113, 114, 115, 116, 117, 118, 119, 120, 121, 122, 123, 124, 125, 126, 127, 128, 129, 130, 131, 132, 133, 134, 135, 136, 137, 138, 139, 140, 141, 142, 143, 144, 145, 146, 147, 148, 149, 150, 151, 152, 153, 154, 155, 156, 157, 158, 159, 160, 161, 162] (by decide +kernel) (by decide +kernel)
set_option maxRecDepth 20000 in
theorem gX10_starvedWithout_X10_names : GoodIn wsX10_starvedWithout (wsV RX10 446 RX10 yX10_names wsX10_names) := goodIn_app (goodIn_of _ (by decide +kernel)) ggX10_starvedWithout_X10_names
set_option maxRecDepth 20000 in
theorem ggX10_starvedWithout_X10_doesNext : GoodIn wsX10_starvedWithout wsX10_doesNext := goodIn_r _ [44, 12, 45, 46, 47, 6, 48, 16, 9, 35, 36, 37, 38, 39, 40, 49, 50, 51, 52, 30, 29, 14, 11, 53, 54, 55, 56, 28, 57, 58, 59, 60, 61, 62, 63, 2, 64, 65, 66, 67, 1, 68, 69, 70, 71, 72, 73, 74, 18, 19, 20, 21, 22, 23, 75, 76, 77, 78, 15, 8, 79, 80, 81, 82, 13, 83, 84, 85, 86, 87, 88, 89, 90, 17, 10, 91, 92, 93, 94, 95, 96, 97, 98, 99, 100, 101, 102, 103, 104, 105, 106, 107, 108, 109, 24, 25, 26, 27, 113, 114, 115, 116, 117, 118, 119, 120, 121, 122, 123, 124, 125, 126, 127, 128, 129, 130, 131, 132, 133, 134, 135, 136, 137, 138, 139, 140, 141, 142, 143, 144, 145, 146, 147, 148, 149, 150, 151, 152, 153, 154, 155, 156, 157, 158, 159, 160, 161, 162] (by decide +kernel) (by decide +kernel)
set_option maxRecDepth 20000 in
theorem gX10_starvedWithout_X10_doesNext : GoodIn wsX10_starvedWithout (wsV RX10 326 RX10 yX10_doesNext wsX10_doesNext) := goodIn_app (goodIn_of _ (by decide +kernel)) ggX10_starvedWithout_X10_doesNext
set_option maxRecDepth 20000 in
theorem ggX10_starvedWithout_X10_ones : GoodIn wsX10_starvedWithout wsX10_ones := goodIn_r _ [112, 68, 69, 6, 70] (by decide +kernel) (by decide +kernel)
set_option maxRecDepth 20000 in
theorem gX10_starvedWithout_X10_ones : GoodIn wsX10_starvedWithout (va_wsS RX10 368 yX10_ones wsX10_ones) := goodIn_app (goodIn_of _ (by decide +kernel)) ggX10_starvedWithout_X10_ones
theorem dX10_starvedWithout_0 : decode cX10_starvedWithout 0 = .ok (.aload_n 0, 1) := by decide +kernel
theorem dX10_starvedWithout_1 : decode cX10_starvedWithout 1 = .ok (.invokevirtual 323, 3) := by decide +kernel
theorem dX10_starvedWithout_4 : decode cX10_starvedWithout 4 = .ok (.iconst 0, 1) := by decide +kernel
theorem dX10_starvedWithout_5 : decode cX10_starvedWithout 5 = .ok (.istore_n 3, 1) := by decide +kernel
theorem dX10_starvedWithout_6 : decode cX10_starvedWithout 6 = .ok (.iload_n 3, 1) := by decide +kernel
theorem dX10_starvedWithout_7 : decode cX10_starvedWithout 7 = .ok (.iload_n 2, 1) := by decide +kernel
theorem dX10_starvedWithout_8 : decode cX10_starvedWithout 8 = .ok (.if_icmp .ge 33, 3) := by decide +kernel
theorem dX10_starvedWithout_11 : decode cX10_starvedWithout 11 = .ok (.aload_n 0, 1) := by decide +kernel
theorem dX10_starvedWithout_12 : decode cX10_starvedWithout 12 = .ok (.iload_n 3, 1) := by decide +kernel
theorem dX10_starvedWithout_13 : decode cX10_starvedWithout 13 = .ok (.iload_n 1, 1) := by decide +kernel
theorem dX10_starvedWithout_14 : decode cX10_starvedWithout 14 = .ok (.invokevirtual 446, 3) := by decide +kernel
theorem dX10_starvedWithout_17 : decode cX10_starvedWithout 17 = .ok (.ifCond .ne 15, 3) := by decide +kernel
theorem dX10_starvedWithout_20 : decode cX10_starvedWithout 20 = .ok (.aload_n 0, 1) := by decide +kernel
theorem dX10_starvedWithout_21 : decode cX10_starvedWithout 21 = .ok (.iload_n 3, 1) := by decide +kernel
theorem dX10_starvedWithout_22 : decode cX10_starvedWithout 22 = .ok (.invokevirtual 326, 3) := by decide +kernel
theorem dX10_starvedWithout_25 : decode cX10_starvedWithout 25 = .ok (.ifCond .eq 7, 3) := by decide +kernel
theorem dX10_starvedWithout_28 : decode cX10_starvedWithout 28 = .ok (.iconst 1, 1) := by decide +kernel
theorem dX10_starvedWithout_29 : decode cX10_starvedWithout 29 = .ok (.goto 4, 3) := by decide +kernel
theorem dX10_starvedWithout_32 : decode cX10_starvedWithout 32 = .ok (.iconst 0, 1) := by decide +kernel
theorem dX10_starvedWithout_33 : decode cX10_starvedWithout 33 = .ok (.istore 4, 2) := by decide +kernel
theorem dX10_starvedWithout_35 : decode cX10_starvedWithout 35 = .ok (.iinc 3 1, 3) := by decide +kernel
theorem dX10_starvedWithout_38 : decode cX10_starvedWithout 38 = .ok (.goto (-32), 3) := by decide +kernel
theorem dX10_starvedWithout_41 : decode cX10_starvedWithout 41 = .ok (.aload_n 0, 1) := by decide +kernel
theorem dX10_starvedWithout_42 : decode cX10_starvedWithout 42 = .ok (.getfield 231, 3) := by decide +kernel
theorem dX10_starvedWithout_45 : decode cX10_starvedWithout 45 = .ok (.aload_n 0, 1) := by decide +kernel
theorem dX10_starvedWithout_46 : decode cX10_starvedWithout 46 = .ok (.getfield 267, 3) := by decide +kernel
theorem dX10_starvedWithout_49 : decode cX10_starvedWithout 49 = .ok (.invokestatic 368, 3) := by decide +kernel
theorem dX10_starvedWithout_52 : decode cX10_starvedWithout 52 = .ok (.isub, 1) := by decide +kernel
theorem dX10_starvedWithout_53 : decode cX10_starvedWithout 53 = .ok (.ireturn, 1) := by decide +kernel
set_option maxRecDepth 20000 in
theorem ggX10_silence_X10_hasBook : GoodIn wsX10_silence wsX10_hasBook := goodIn_r _ [7, 8, 9, 10, 11, 6, 12, 13, 14, 15, 16, 142, 143, 144, 145, 146, 147, 148, 149, 150, 151, 152, 153, 154, 155, 156, 157, 158, 159, 160, 161, 162, 163, 164, 165, 166, 167, 168, 169, 170, 171, 172, 173, 174, 175, 176, 177, 178, 179, 180, 181, 182, 183, 184, 185, 186, 187, 188, 189, 190, 191] (by decide +kernel) (by decide +kernel)
set_option maxRecDepth 20000 in
theorem gX10_silence_X10_hasBook : GoodIn wsX10_silence (wsV RX10 249 RX10 yX10_hasBook wsX10_hasBook) := goodIn_app (goodIn_of _ (by decide +kernel)) ggX10_silence_X10_hasBook
set_option maxRecDepth 20000 in
theorem ggX10_silence_X10_hand : GoodIn wsX10_silence wsX10_hand := goodIn_r _ [20, 21, 2, 22, 23, 9, 10, 11, 6, 12, 13, 14, 15, 16, 24, 25, 26, 27, 28, 142, 143, 144, 145, 146, 147, 148, 149, 150, 151, 152, 153, 154, 155, 156, 157, 158, 159, 160, 161, 162, 163, 164, 165, 166, 167, 168, 169, 170, 171, 172, 173, 174, 175, 176, 177, 178, 179, 180, 181, 182, 183, 184, 185, 186, 187, 188, 189, 190, 191] (by decide +kernel) (by decide +kernel)
set_option maxRecDepth 20000 in
theorem gX10_silence_X10_hand : GoodIn wsX10_silence (wsV RX10 237 RX10 yX10_hand wsX10_hand) := goodIn_app (goodIn_of _ (by decide +kernel)) ggX10_silence_X10_hand
set_option maxRecDepth 20000 in
theorem ggX10_silence_X10_deeds : GoodIn wsX10_silence wsX10_deeds := goodIn_r _ [32, 33, 8, 142, 143, 144, 145, 146, 147, 148, 149, 150, 151, 152, 153, 154, 155, 156, 157, 158, 159, 160, 161, 162, 163, 164, 165, 166, 167, 168, 169, 170, 171, 172, 173, 174, 175, 176, 177, 178, 179, 180, 181, 182, 183, 184, 185, 186, 187, 188, 189, 190, 191] (by decide +kernel) (by decide +kernel)
set_option maxRecDepth 20000 in
theorem gX10_silence_X10_deeds : GoodIn wsX10_silence (wsV RX10 252 RX10 yX10_deeds wsX10_deeds) := goodIn_app (goodIn_of _ (by decide +kernel)) ggX10_silence_X10_deeds
set_option maxRecDepth 20000 in
theorem ggX10_silence_X10_play : GoodIn wsX10_silence wsX10_play := goodIn_r _ [37, 38, 39, 40, 6, 41, 42, 43, 44, 22, 45, 46, 47, 48, 49, 50, 51, 52, 24, 25, 26, 27, 28, 21, 53, 54, 55, 56, 2, 57, 58, 59, 60, 61, 62, 63, 64, 65, 66, 67, 68, 69, 70, 33, 8, 71, 72, 73, 74, 75, 76, 77, 78, 14, 15, 16, 79, 80, 81, 82, 83, 84, 85, 86, 87, 88, 89, 90, 91, 92, 93, 94, 95, 96, 97, 98, 99, 100, 101, 102, 103, 104, 105, 106, 107, 108, 109, 23, 110, 111, 112, 113, 114, 115, 116, 117, 118, 119, 120, 121, 122, 123, 124, 125, 126, 127, 142, 143, 144, 145, 146, 147, 148, 149, 150, 151, 152, 153, 154, 155, 156, 157, 158, 159, 160, 161, 162, 163, 164, 165, 166, 167, 168, 169, 170, 171, 172, 173, 174, 175, 176, 177, 178, 179, 180, 181, 182, 183, 184, 185, 186, 187, 188, 189, 190, 191] (by decide +kernel) (by decide +kernel)
set_option maxRecDepth 20000 in
theorem gX10_silence_X10_play : GoodIn wsX10_silence (wsV RX10 329 RX10 yX10_play wsX10_play) := goodIn_app (goodIn_of _ (by decide +kernel)) ggX10_silence_X10_play
set_option maxRecDepth 20000 in
theorem ggX10_silence_X10_starvedWithout : GoodIn wsX10_silence wsX10_starvedWithout := goodIn_r _ [131, 22, 45, 38, 39, 40, 6, 41, 42, 43, 44, 46, 47, 48, 49, 50, 51, 52, 24, 25, 26, 27, 28, 21, 53, 54, 55, 56, 2, 57, 58, 132, 133, 134, 135, 67, 68, 69, 70, 33, 8, 59, 60, 61, 62, 63, 64, 65, 66, 71, 72, 73, 74, 75, 76, 77, 78, 14, 15, 16, 79, 80, 81, 82, 83, 84, 85, 86, 87, 88, 89, 90, 91, 92, 93, 94, 95, 96, 97, 98, 99, 100, 101, 102, 103, 104, 105, 106, 107, 108, 109, 23, 110, 111, 112, 113, 114, 115, 116, 117, 118, 119, 120, 121, 122, 123, 124, 125, 126, 127, 136, 137, 138, 142, 143, 144, 145, 146, 147, 148, 149, 150, 151, 152, 153, 154, 155, 156, 157, 158, 159, 160, 161, 162, 163, 164, 165, 166, 167, 168, 169, 170, 171, 172, 173, 174, 175, 176, 177, 178, 179, 180, 181, 182, 183, 184, 185, 186, 187, 188, 189, 190, 191] (by decide +kernel) (by decide +kernel)
set_option maxRecDepth 20000 in
theorem gX10_silence_X10_starvedWithout : GoodIn wsX10_silence (wsV RX10 449 RX10 yX10_starvedWithout wsX10_starvedWithout) := goodIn_app (goodIn_of _ (by decide +kernel)) ggX10_silence_X10_starvedWithout
set_option maxRecDepth 20000 in
theorem ggX10_silence_X10_greater : GoodIn wsX10_silence wsX10_greater := goodIn_r _ [141] (by decide +kernel) (by decide +kernel)
set_option maxRecDepth 20000 in
theorem gX10_silence_X10_greater : GoodIn wsX10_silence (va_wsS RX10 338 yX10_greater wsX10_greater) := goodIn_app (goodIn_of _ (by decide +kernel)) ggX10_silence_X10_greater
theorem dX10_silence_0 : decode cX10_silence 0 = .ok (.aload_n 0, 1) := by decide +kernel
theorem dX10_silence_1 : decode cX10_silence 1 = .ok (.iconst 0, 1) := by decide +kernel
theorem dX10_silence_2 : decode cX10_silence 2 = .ok (.putfield 80, 3) := by decide +kernel
theorem dX10_silence_5 : decode cX10_silence 5 = .ok (.aload_n 0, 1) := by decide +kernel
theorem dX10_silence_6 : decode cX10_silence 6 = .ok (.iload_n 2, 1) := by decide +kernel
theorem dX10_silence_7 : decode cX10_silence 7 = .ok (.invokevirtual 249, 3) := by decide +kernel
theorem dX10_silence_10 : decode cX10_silence 10 = .ok (.ifCond .eq 11, 3) := by decide +kernel
theorem dX10_silence_13 : decode cX10_silence 13 = .ok (.aload_n 0, 1) := by decide +kernel
theorem dX10_silence_14 : decode cX10_silence 14 = .ok (.iload_n 1, 1) := by decide +kernel
theorem dX10_silence_15 : decode cX10_silence 15 = .ok (.invokevirtual 237, 3) := by decide +kernel
theorem dX10_silence_18 : decode cX10_silence 18 = .ok (.ifCond .ne 5, 3) := by decide +kernel
theorem dX10_silence_21 : decode cX10_silence 21 = .ok (.iconst (-1), 1) := by decide +kernel
theorem dX10_silence_22 : decode cX10_silence 22 = .ok (.ireturn, 1) := by decide +kernel
theorem dX10_silence_23 : decode cX10_silence 23 = .ok (.aload_n 0, 1) := by decide +kernel
theorem dX10_silence_24 : decode cX10_silence 24 = .ok (.aload_n 0, 1) := by decide +kernel
theorem dX10_silence_25 : decode cX10_silence 25 = .ok (.invokevirtual 252, 3) := by decide +kernel
theorem dX10_silence_28 : decode cX10_silence 28 = .ok (.invokevirtual 329, 3) := by decide +kernel
theorem dX10_silence_31 : decode cX10_silence 31 = .ok (.istore 4, 2) := by decide +kernel
theorem dX10_silence_33 : decode cX10_silence 33 = .ok (.iconst (-1), 1) := by decide +kernel
theorem dX10_silence_34 : decode cX10_silence 34 = .ok (.istore 5, 2) := by decide +kernel
theorem dX10_silence_36 : decode cX10_silence 36 = .ok (.iconst (-1), 1) := by decide +kernel
theorem dX10_silence_37 : decode cX10_silence 37 = .ok (.istore 6, 2) := by decide +kernel
theorem dX10_silence_39 : decode cX10_silence 39 = .ok (.iconst 0, 1) := by decide +kernel
theorem dX10_silence_40 : decode cX10_silence 40 = .ok (.istore 7, 2) := by decide +kernel
theorem dX10_silence_42 : decode cX10_silence 42 = .ok (.iload 7, 2) := by decide +kernel
theorem dX10_silence_44 : decode cX10_silence 44 = .ok (.aload_n 0, 1) := by decide +kernel
theorem dX10_silence_45 : decode cX10_silence 45 = .ok (.getfield 228, 3) := by decide +kernel
theorem dX10_silence_48 : decode cX10_silence 48 = .ok (.if_icmp .ge 44, 3) := by decide +kernel
theorem dX10_silence_51 : decode cX10_silence 51 = .ok (.aload_n 0, 1) := by decide +kernel
theorem dX10_silence_52 : decode cX10_silence 52 = .ok (.iload 7, 2) := by decide +kernel
theorem dX10_silence_54 : decode cX10_silence 54 = .ok (.iload 4, 2) := by decide +kernel
theorem dX10_silence_56 : decode cX10_silence 56 = .ok (.invokevirtual 449, 3) := by decide +kernel
theorem dX10_silence_59 : decode cX10_silence 59 = .ok (.istore 8, 2) := by decide +kernel
theorem dX10_silence_61 : decode cX10_silence 61 = .ok (.iload 8, 2) := by decide +kernel
theorem dX10_silence_63 : decode cX10_silence 63 = .ok (.iload 6, 2) := by decide +kernel
theorem dX10_silence_65 : decode cX10_silence 65 = .ok (.if_icmp .le 8, 3) := by decide +kernel
theorem dX10_silence_68 : decode cX10_silence 68 = .ok (.iload 7, 2) := by decide +kernel
theorem dX10_silence_70 : decode cX10_silence 70 = .ok (.goto 5, 3) := by decide +kernel
theorem dX10_silence_73 : decode cX10_silence 73 = .ok (.iload 5, 2) := by decide +kernel
theorem dX10_silence_75 : decode cX10_silence 75 = .ok (.istore 5, 2) := by decide +kernel
theorem dX10_silence_77 : decode cX10_silence 77 = .ok (.iload 6, 2) := by decide +kernel
theorem dX10_silence_79 : decode cX10_silence 79 = .ok (.iload 8, 2) := by decide +kernel
theorem dX10_silence_81 : decode cX10_silence 81 = .ok (.invokestatic 338, 3) := by decide +kernel
theorem dX10_silence_84 : decode cX10_silence 84 = .ok (.istore 6, 2) := by decide +kernel
theorem dX10_silence_86 : decode cX10_silence 86 = .ok (.iinc 7 1, 3) := by decide +kernel
theorem dX10_silence_89 : decode cX10_silence 89 = .ok (.goto (-47), 3) := by decide +kernel
theorem dX10_silence_92 : decode cX10_silence 92 = .ok (.iload_n 3, 1) := by decide +kernel
theorem dX10_silence_93 : decode cX10_silence 93 = .ok (.ifCond .eq 8, 3) := by decide +kernel
theorem dX10_silence_96 : decode cX10_silence 96 = .ok (.iload 6, 2) := by decide +kernel
theorem dX10_silence_98 : decode cX10_silence 98 = .ok (.goto 5, 3) := by decide +kernel
theorem dX10_silence_101 : decode cX10_silence 101 = .ok (.iload 5, 2) := by decide +kernel
theorem dX10_silence_103 : decode cX10_silence 103 = .ok (.ireturn, 1) := by decide +kernel
set_option maxRecDepth 20000 in
theorem ggX10_count_X10_in : GoodIn wsX10_count wsX10_in := goodIn_r _ [6] (by decide +kernel) (by decide +kernel)
set_option maxRecDepth 20000 in
theorem gX10_count_X10_in : GoodIn wsX10_count (va_wsS RX10 92 yX10_in wsX10_in) := goodIn_app (goodIn_of _ (by decide +kernel)) ggX10_count_X10_in
theorem dX10_count_0 : decode cX10_count 0 = .ok (.aload_n 0, 1) := by decide +kernel
theorem dX10_count_1 : decode cX10_count 1 = .ok (.iconst 0, 1) := by decide +kernel
theorem dX10_count_2 : decode cX10_count 2 = .ok (.putfield 80, 3) := by decide +kernel
theorem dX10_count_5 : decode cX10_count 5 = .ok (.iload_n 1, 1) := by decide +kernel
theorem dX10_count_6 : decode cX10_count 6 = .ok (.iconst 0, 1) := by decide +kernel
theorem dX10_count_7 : decode cX10_count 7 = .ok (.iconst 2, 1) := by decide +kernel
theorem dX10_count_8 : decode cX10_count 8 = .ok (.invokestatic 92, 3) := by decide +kernel
theorem dX10_count_11 : decode cX10_count 11 = .ok (.ifCond .eq 12, 3) := by decide +kernel
theorem dX10_count_14 : decode cX10_count 14 = .ok (.aload_n 0, 1) := by decide +kernel
theorem dX10_count_15 : decode cX10_count 15 = .ok (.getfield 23, 3) := by decide +kernel
theorem dX10_count_18 : decode cX10_count 18 = .ok (.iload_n 1, 1) := by decide +kernel
theorem dX10_count_19 : decode cX10_count 19 = .ok (.iaload, 1) := by decide +kernel
theorem dX10_count_20 : decode cX10_count 20 = .ok (.goto 5, 3) := by decide +kernel
theorem dX10_count_23 : decode cX10_count 23 = .ok (.bipush (-2), 2) := by decide +kernel
theorem dX10_count_25 : decode cX10_count 25 = .ok (.ireturn, 1) := by decide +kernel
