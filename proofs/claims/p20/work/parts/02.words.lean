/-! one list of words for all methods -/
def AW_0 : List Cond := [.code yX0_init cX0_init 1 none, .methodLink RX0 3 objectInit, .instanceMethod objectInit, .code objectInit ⟨#[0xb1]⟩ 1 none, .arrayClass .int, .fieldLink RX0 9 "ClapBank$Book" "parts" "[I", .code yX0_copyFrom cX0_copyFrom 2 none, .fieldLink RX0 15 "ClapBank$Book" "deeds" "I", .methodLink RX0 19 arraycopyName, .native arraycopyName, .static arraycopyName, .initialized "java/lang/System", .code yX0_addDeed cX0_addDeed 6 none, .code yX0_part cX0_part 3 (some .int), .code yX0_isOf cX0_isOf 5 (some .boolean), .methodLink RX0 25 yX0_part, .instanceMethod yX0_part, .selects RX0 yX0_part yX0_part, .initialized RX0, .code yX1_init cX1_init 1 none, .methodLink RX1 3 objectInit, .fieldLink RX1 9 "ClapBank$Dark" "halves" "[I", .code yX1_copyFrom cX1_copyFrom 2 none, .fieldLink RX1 15 "ClapBank$Dark" "minutes" "I"]
def AW_1 : List Cond := [.methodLink RX1 19 arraycopyName, .code yX1_addMinute cX1_addMinute 2 none, .code yX1_hasMinute cX1_hasMinute 2 (some .boolean), .code yX2_init cX2_init 1 none, .methodLink RX2 3 objectInit, .classLink RX2 9 RX7, .instantiable RX7 12, .initialized RX7, .fieldLink RX2 12 "ClapBank$Evening" "house" "LClapBank$Theatre;", .fieldLink RX2 18 "ClapBank$Evening" "left" "[I", .fieldLink RX2 22 "ClapBank$Evening" "owes" "[I", .fieldLink RX2 25 "ClapBank$Evening" "got" "[I", .fieldLink RX2 28 "ClapBank$Evening" "saved" "[I", .fieldLink RX2 31 "ClapBank$Evening" "starved" "[I", .fieldLink RX2 34 "ClapBank$Evening" "storms" "[I", .fieldLink RX2 37 "ClapBank$Evening" "drawnFrom" "[I", .instanceMethod yX7_init, .code yX7_init cX7_init 1 none, .methodLink RX7 3 objectInit, .fieldLink RX7 9 "ClapBank$Theatre" "claps" "[I", .fieldLink RX7 15 "ClapBank$Theatre" "hands" "[I", .fieldLink RX7 18 "ClapBank$Theatre" "hunger" "[I", .fieldLink RX7 21 "ClapBank$Theatre" "saved" "[I", .fieldLink RX7 24 "ClapBank$Theatre" "asks" "[I"]
def AW_2 : List Cond := [.fieldLink RX7 27 "ClapBank$Theatre" "floors" "[I", .code yX2_begin cX2_begin 2 none, .methodLink RX2 43 arraycopyName, .fieldLink RX2 60 "ClapBank$Evening" "chest" "I", .fieldLink RX2 61 "ClapBank$Evening" "encores" "I", .fieldLink RX2 64 "ClapBank$Evening" "nights" "I", .fieldLink RX2 67 "ClapBank$Evening" "claps" "I", .fieldLink RX2 69 "ClapBank$Evening" "hushed" "I", .fieldLink RX2 72 "ClapBank$Evening" "echo" "I", .methodLink RX2 50 yJ7_fill_53178, .static yJ7_fill_53178, .initialized RJ7, .code yJ7_fill_53178 cJ7_fill_53178 4 none, .code yX2_playFirst cX2_playFirst 5 (some .boolean), .methodLink RX2 75 yX2_begin, .instanceMethod yX2_begin, .selects RX2 yX2_begin yX2_begin, .initialized RX2, .methodLink RX2 79 yX2_canBe, .instanceMethod yX2_canBe, .selects RX2 yX2_canBe yX2_canBe, .code yX2_canBe cX2_canBe 6 (some .boolean), .methodLink RX2 120 yX0_part, .methodLink RX2 124 yX2_canGive]
def AW_3 : List Cond := [.instanceMethod yX2_canGive, .selects RX2 yX2_canGive yX2_canGive, .code yX2_canGive cX2_canGive 3 (some .boolean), .methodLink RX2 127 yX2_hasPalm, .instanceMethod yX2_hasPalm, .selects RX2 yX2_hasPalm yX2_hasPalm, .code yX2_hasPalm cX2_hasPalm 2 (some .boolean), .methodLink RX2 130 yX2_isHushed, .instanceMethod yX2_isHushed, .selects RX2 yX2_isHushed yX2_isHushed, .code yX2_isHushed cX2_isHushed 2 (some .boolean), .methodLink RX2 99 yX2_lives, .instanceMethod yX2_lives, .selects RX2 yX2_lives yX2_lives, .code yX2_lives cX2_lives 2 (some .boolean), .methodLink RX2 117 yX2_hasActor, .instanceMethod yX2_hasActor, .selects RX2 yX2_hasActor yX2_hasActor, .code yX2_hasActor cX2_hasActor 2 (some .boolean), .methodLink RX2 83 yX2_act, .instanceMethod yX2_act, .selects RX2 yX2_act yX2_act, .code yX2_act cX2_act 7 none, .methodLink RX2 133 yX2_clapFor]
def AW_4 : List Cond := [.instanceMethod yX2_clapFor, .selects RX2 yX2_clapFor yX2_clapFor, .code yX2_clapFor cX2_clapFor 5 none, .methodLink RX2 110 yX2_give, .instanceMethod yX2_give, .selects RX2 yX2_give yX2_give, .code yX2_give cX2_give 3 none, .methodLink RX2 137 yX2_move, .instanceMethod yX2_move, .selects RX2 yX2_move yX2_move, .code yX2_move cX2_move 4 none, .methodLink RX2 114 yX2_passNight, .instanceMethod yX2_passNight, .selects RX2 yX2_passNight yX2_passNight, .code yX2_passNight cX2_passNight 2 none, .methodLink RX2 166 yX2_dine, .instanceMethod yX2_dine, .selects RX2 yX2_dine yX2_dine, .code yX2_dine cX2_dine 3 none, .methodLink RX2 146 yX2_price, .instanceMethod yX2_price, .selects RX2 yX2_price yX2_price, .code yX2_price cX2_price 2 (some .int), .methodLink RX2 143 yX2_priceBehind]
def AW_5 : List Cond := [.instanceMethod yX2_priceBehind, .selects RX2 yX2_priceBehind yX2_priceBehind, .code yX2_priceBehind cX2_priceBehind 3 (some .int), .methodLink RX2 170 yX2_grown, .instanceMethod yX2_grown, .selects RX2 yX2_grown yX2_grown, .code yX2_grown cX2_grown 4 (some .int), .constantLong RX2 158 (100), .constantLong RX2 160 (1000000000), .methodLink RX2 162 Lib.MathLoose.min_long.x, .static Lib.MathLoose.min_long.x, .initialized "java/lang/Math", .code Lib.MathLoose.min_long.x Lib.MathLoose.min_long.code 4 (some .long), .code yX2_playAll cX2_playAll 4 (some .int), .code yX2_playWithout cX2_playWithout 6 none, .methodLink RX2 92 yX0_isOf, .instanceMethod yX0_isOf, .selects RX0 yX0_isOf yX0_isOf, .code yX2_playDrawn cX2_playDrawn 9 none, .constant RX2 106 (1103515245), .code yX2_need cX2_need 2 (some .int), .methodLink RX2 150 Lib.Math.max.name, .static Lib.Math.max.name, .code Lib.Math.max.name Lib.Math.max.code 2 (some .int)]
def AW_6 : List Cond := [.code yX2_living cX2_living 3 (some .int), .code yX2_allLeft cX2_allLeft 3 (some .int), .code yX2_allNeeds cX2_allNeeds 3 (some .int), .methodLink RX2 173 yX2_need, .instanceMethod yX2_need, .selects RX2 yX2_need yX2_need, .code yX2_allSaved cX2_allSaved 3 (some .int), .code yX2_tell cX2_tell 2 (some .int), .methodLink RX2 176 yX2_living, .instanceMethod yX2_living, .selects RX2 yX2_living yX2_living, .methodLink RX2 180 yX2_allSaved, .instanceMethod yX2_allSaved, .selects RX2 yX2_allSaved yX2_allSaved, .code yX2_tellPalm cX2_tellPalm 3 (some .int), .code yX2_tellActor cX2_tellActor 3 (some .int), .methodLink RX2 183 yX2_friday, .instanceMethod yX2_friday, .selects RX2 yX2_friday yX2_friday, .code yX2_friday cX2_friday 3 (some .int), .methodLink RX2 186 yX2_star, .instanceMethod yX2_star, .selects RX2 yX2_star yX2_star, .code yX2_star cX2_star 5 (some .int)]
def AW_7 : List Cond := [.code yX2_doomed cX2_doomed 3 (some .int), .code yX2_danger cX2_danger 5 (some .int), .methodLink RX2 189 yX2_doomed, .instanceMethod yX2_doomed, .selects RX2 yX2_doomed yX2_doomed, .methodLink RX2 192 yX2_pricesOf, .instanceMethod yX2_pricesOf, .selects RX2 yX2_pricesOf yX2_pricesOf, .code yX2_pricesOf cX2_pricesOf 4 (some .int), .methodLink RX2 195 yX2_dearerThan, .instanceMethod yX2_dearerThan, .selects RX2 yX2_dearerThan yX2_dearerThan, .code yX2_dearerThan cX2_dearerThan 4 (some .int), .code yX2_loan cX2_loan 6 (some .int), .code yX2_idol cX2_idol 6 (some .int), .code yX2_tip cX2_tip 3 (some .int), .methodLink RX2 198 yX2_eatsWith, .instanceMethod yX2_eatsWith, .selects RX2 yX2_eatsWith yX2_eatsWith, .code yX2_eatsWith cX2_eatsWith 5 (some .boolean), .code yX2_dear cX2_dear 3 (some .int), .code yX3_init cX3_init 1 none, .methodLink RX3 3 objectInit, .code yX3_lay cX3_lay 6 none]
def AW_8 : List Cond := [.fieldLink RX3 32 "ClapBank$Feast" "who" "I", .fieldLink RX3 37 "ClapBank$Feast" "two" "I", .fieldLink RX3 40 "ClapBank$Feast" "one" "I", .methodLink RX3 21 yX2_isHushed, .methodLink RX3 43 yX2_living, .methodLink RX3 47 yX3_tryGuests, .instanceMethod yX3_tryGuests, .selects RX3 yX3_tryGuests yX3_tryGuests, .initialized RX3, .code yX3_tryGuests cX3_tryGuests 9 none, .methodLink RX3 55 Lib.Math.min.name, .static Lib.Math.min.name, .code Lib.Math.min.name Lib.Math.min.code 2 (some .int), .methodLink RX3 51 yX2_need, .methodLink RX3 61 yX3_isBetter, .instanceMethod yX3_isBetter, .selects RX3 yX3_isBetter yX3_isBetter, .code yX3_isBetter cX3_isBetter 6 (some .boolean), .methodLink RX3 65 yJ6_bitCount_0f7a4, .static yJ6_bitCount_0f7a4, .initialized RJ6, .code yJ6_bitCount_0f7a4 cJ6_bitCount_0f7a4 1 (some .int), .constant RJ6 265 (1431655765), .constant RJ6 266 (858993459)]
def AW_9 : List Cond := [.constant RJ6 267 (252645135), .code yX3_tell cX3_tell 2 (some .int), .code yX4_init cX4_init 1 none, .methodLink RX4 3 objectInit, .classLink RX4 9 RX7, .fieldLink RX4 12 "ClapBank$Hearing" "house" "LClapBank$Theatre;", .classLink RX4 18 RX1, .instantiable RX1 2, .initialized RX1, .fieldLink RX4 21 "ClapBank$Hearing" "dark" "LClapBank$Dark;", .fieldLink RX4 25 "ClapBank$Hearing" "early" "[I", .fieldLink RX4 29 "ClapBank$Hearing" "late" "[I", .fieldLink RX4 32 "ClapBank$Hearing" "halvesOf" "[I", .fieldLink RX4 35 "ClapBank$Hearing" "onceOf" "[I", .instanceMethod yX1_init, .code yX4_listen cX4_listen 5 none, .fieldLink RX4 38 "ClapBank$Hearing" "sets" "I", .code yX4_tally cX4_tally 7 (some .long), .methodLink RX4 51 Lib.Math.min.name, .methodLink RX4 57 yX4_fill, .instanceMethod yX4_fill, .selects RX4 yX4_fill yX4_fill, .initialized RX4, .code yX4_fill cX4_fill 8 none]
def AW_10 : List Cond := [.methodLink RX4 69 yJ7_fill_53178, .methodLink RX4 77 yX4_spread, .instanceMethod yX4_spread, .selects RX4 yX4_spread yX4_spread, .code yX4_spread cX4_spread 8 none, .methodLink RX4 61 yX4_addUp, .static yX4_addUp, .code yX4_addUp cX4_addUp 3 none, .methodLink RX4 65 yX4_roomBehind, .instanceMethod yX4_roomBehind, .selects RX4 yX4_roomBehind yX4_roomBehind, .code yX4_roomBehind cX4_roomBehind 5 (some .int), .code yX4_compareMinute cX4_compareMinute 3 none, .fieldLink RX4 84 "ClapBank$Hearing" "any" "I", .fieldLink RX4 87 "ClapBank$Hearing" "all" "I", .methodLink RX4 90 yX4_tally, .instanceMethod yX4_tally, .selects RX4 yX4_tally yX4_tally, .code yX5_init cX5_init 1 none, .methodLink RX5 3 objectInit, .classLink RX5 9 RX7, .fieldLink RX5 12 "ClapBank$Reader" "theatre" "LClapBank$Theatre;", .classLink RX5 18 RX0, .instantiable RX0 2]
def AW_11 : List Cond := [.fieldLink RX5 21 "ClapBank$Reader" "book" "LClapBank$Book;", .classLink RX5 25 RX1, .fieldLink RX5 28 "ClapBank$Reader" "dark" "LClapBank$Dark;", .fieldLink RX5 32 "ClapBank$Reader" "numbers" "[I", .instanceMethod yX0_init, .code yX5_read cX5_read 5 none, .fieldLink RX5 46 "ClapBank$Reader" "fault" "I", .fieldLink RX5 49 "ClapBank$Reader" "place" "I", .fieldLink RX5 52 "ClapBank$Reader" "to" "I", .fieldLink RX5 59 "ClapBank$Reader" "token" "I", .methodLink RX5 36 yX7_clear, .instanceMethod yX7_clear, .selects RX7 yX7_clear yX7_clear, .code yX7_clear cX7_clear 1 none, .fieldLink RX7 30 "ClapBank$Theatre" "palms" "I", .fieldLink RX7 34 "ClapBank$Theatre" "actors" "I", .fieldLink RX7 37 "ClapBank$Theatre" "usurers" "I", .fieldLink RX7 40 "ClapBank$Theatre" "rate" "I", .fieldLink RX7 43 "ClapBank$Theatre" "chest" "I", .fieldLink RX7 46 "ClapBank$Theatre" "borrowers" "I", .methodLink RX5 55 yX5_step, .instanceMethod yX5_step, .selects RX5 yX5_step yX5_step, .initialized RX5]
def AW_12 : List Cond := [.code yX5_step cX5_step 4 none, .fieldLink RX5 101 "ClapBank$Reader" "from" "I", .fieldLink RX5 91 "ClapBank$Reader" "value" "I", .methodLink RX5 111 Lib.Math.min.name, .methodLink RX5 104 yX5_isLetter, .static yX5_isLetter, .code yX5_isLetter cX5_isLetter 1 (some .boolean), .methodLink RX5 108 yX5_isDigit, .static yX5_isDigit, .code yX5_isDigit cX5_isDigit 1 (some .boolean), .methodLink RX5 62 yX5_readLine, .instanceMethod yX5_readLine, .selects RX5 yX5_readLine yX5_readLine, .code yX5_readLine cX5_readLine 6 (some .boolean), .fieldLink RX5 88 "ClapBank$Reader" "NUMBERS" "[I", .methodLink RX5 66 yX5_kindOf, .instanceMethod yX5_kindOf, .selects RX5 yX5_kindOf yX5_kindOf, .code yX5_kindOf cX5_kindOf 4 (some .int), .fieldLink RX5 117 "ClapBank$Reader" "FIRST_LINE" "[I", .methodLink RX5 120 yX5_wordOf, .static yX5_wordOf, .code yX5_wordOf cX5_wordOf 1 (some (.object "java/lang/String")), .methodLink RX5 124 yX5_spells]
def AW_13 : List Cond := [.instanceMethod yX5_spells, .selects RX5 yX5_spells yX5_spells, .code yX5_spells cX5_spells 4 (some .boolean), .methodLink RX5 128 yJ0_length_8abf5, .instanceMethod yJ0_length_8abf5, .selects RJ0 yJ0_length_8abf5 yJ0_length_8abf5, .initialized RJ0, .code yJ0_length_8abf5 cJ0_length_8abf5 1 (some .int), .fieldLink RJ0 9 "java/lang/String" "value" "[B", .methodLink RJ0 335 yJ0_coder_7d493, .instanceMethod yJ0_coder_7d493, .selects RJ0 yJ0_coder_7d493 yJ0_coder_7d493, .code yJ0_coder_7d493 cJ0_coder_7d493 1 (some .byte), .fieldLink RJ0 38 "java/lang/String" "COMPACT_STRINGS" "Z", .fieldLink RJ0 15 "java/lang/String" "coder" "B", .methodLink RX5 134 yJ0_charAt_5068e, .instanceMethod yJ0_charAt_5068e, .selects RJ0 yJ0_charAt_5068e yJ0_charAt_5068e, .code yJ0_charAt_5068e cJ0_charAt_5068e 2 (some .char), .methodLink RJ0 492 yJ0_isLatin1_aae02, .instanceMethod yJ0_isLatin1_aae02, .selects RJ0 yJ0_isLatin1_aae02 yJ0_isLatin1_aae02, .code yJ0_isLatin1_aae02 cJ0_isLatin1_aae02 1 (some .boolean), .methodLink RJ0 495 yJ1_charAt_3b067]
def AW_14 : List Cond := [.static yJ1_charAt_3b067, .initialized RJ1, .code yJ1_charAt_3b067 cJ1_charAt_3b067 2 (some .char), .methodLink RJ1 9 yJ0_checkIndex_df160, .static yJ0_checkIndex_df160, .code yJ0_checkIndex_df160 cJ0_checkIndex_df160 2 none, .fieldLink RJ0 1053 "jdk/internal/util/Preconditions" "SIOOBE_FORMATTER" "Ljava/util/function/BiFunction;", .methodLink RJ0 1059 yJ3_checkIndex_8e157, .static yJ3_checkIndex_8e157, .initialized RJ3, .code yJ3_checkIndex_8e157 cJ3_checkIndex_8e157 3 (some .int), .methodLink RJ0 498 yJ2_charAt_3b067, .static yJ2_charAt_3b067, .initialized RJ2, .code yJ2_charAt_3b067 cJ2_charAt_3b067 2 (some .char), .methodLink RJ2 67 yJ2_checkIndex_2214a, .static yJ2_checkIndex_2214a, .code yJ2_checkIndex_2214a cJ2_checkIndex_2214a 2 none, .methodLink RJ2 48 yJ2_length_9d52b, .static yJ2_length_9d52b, .code yJ2_length_9d52b cJ2_length_9d52b 1 (some .int), .methodLink RJ2 414 yJ0_checkIndex_df160, .methodLink RJ2 71 yJ2_getChar_3b067, .static yJ2_getChar_3b067]
def AW_15 : List Cond := [.code yJ2_getChar_3b067 cJ2_getChar_3b067 2 (some .char), .fieldLink RJ2 44 "java/lang/StringUTF16" "$assertionsDisabled" "Z", .fieldLink RJ2 59 "java/lang/StringUTF16" "HI_BYTE_SHIFT" "I", .fieldLink RJ2 63 "java/lang/StringUTF16" "LO_BYTE_SHIFT" "I", .methodLink RX5 70 yX5_refuse, .instanceMethod yX5_refuse, .selects RX5 yX5_refuse yX5_refuse, .code yX5_refuse cX5_refuse 1 (some .boolean), .methodLink RX5 74 yX5_isFull, .instanceMethod yX5_isFull, .selects RX5 yX5_isFull yX5_isFull, .code yX5_isFull cX5_isFull 2 (some .boolean), .methodLink RX5 78 yX5_note, .instanceMethod yX5_note, .selects RX5 yX5_note yX5_note, .code yX5_note cX5_note 2 none, .methodLink RX5 82 yJ7_fill_53178, .methodLink RX5 94 yX5_cannotBe, .instanceMethod yX5_cannotBe, .selects RX5 yX5_cannotBe yX5_cannotBe, .code yX5_cannotBe cX5_cannotBe 5 (some .boolean), .fieldLink RX5 175 "ClapBank$Reader" "LEAST" "[I", .fieldLink RX5 178 "ClapBank$Reader" "HIGHEST" "[I", .methodLink RX5 98 yX5_keepLine]
def AW_16 : List Cond := [.instanceMethod yX5_keepLine, .selects RX5 yX5_keepLine yX5_keepLine, .code yX5_keepLine cX5_keepLine 2 none, .methodLink RX5 181 yX7_addPalm, .instanceMethod yX7_addPalm, .selects RX7 yX7_addPalm yX7_addPalm, .code yX7_addPalm cX7_addPalm 3 none, .methodLink RX5 185 yX7_addActor, .instanceMethod yX7_addActor, .selects RX7 yX7_addActor yX7_addActor, .code yX7_addActor cX7_addActor 3 none, .methodLink RX5 188 yX7_addUsurer, .instanceMethod yX7_addUsurer, .selects RX7 yX7_addUsurer yX7_addUsurer, .code yX7_addUsurer cX7_addUsurer 3 none, .methodLink RX5 198 yX1_addMinute, .instanceMethod yX1_addMinute, .selects RX1 yX1_addMinute yX1_addMinute, .methodLink RX5 201 yX0_addDeed, .instanceMethod yX0_addDeed, .selects RX0 yX0_addDeed yX0_addDeed, .code yX6_init cX6_init 1 none, .methodLink RX6 3 objectInit, .fieldLink RX6 9 "ClapBank$Rounds" "asks" "[I"]
def AW_17 : List Cond := [.fieldLink RX6 15 "ClapBank$Rounds" "floors" "[I", .fieldLink RX6 18 "ClapBank$Rounds" "gains" "[I", .fieldLink RX6 21 "ClapBank$Rounds" "seen" "[I", .code yX6_begin cX6_begin 2 none, .fieldLink RX6 30 "ClapBank$Rounds" "usurers" "I", .fieldLink RX6 34 "ClapBank$Rounds" "borrowers" "I", .methodLink RX6 36 arraycopyName, .methodLink RX6 43 yJ7_fill_53178, .code yX6_goRound cX6_goRound 3 none, .methodLink RX6 53 Lib.Math.min.name, .methodLink RX6 59 Lib.Math.max.name, .methodLink RX6 49 yX6_cheapest, .instanceMethod yX6_cheapest, .selects RX6 yX6_cheapest yX6_cheapest, .initialized RX6, .code yX6_cheapest cX6_cheapest 3 (some .int), .code yX6_findRepeat cX6_findRepeat 4 (some .int), .fieldLink RX6 72 "ClapBank$Rounds" "period" "I", .methodLink RX6 62 yX6_begin, .instanceMethod yX6_begin, .selects RX6 yX6_begin yX6_begin, .methodLink RX6 66 yX6_allAsks, .instanceMethod yX6_allAsks, .selects RX6 yX6_allAsks yX6_allAsks]
def AW_18 : List Cond := [.code yX6_allAsks cX6_allAsks 3 (some .int), .methodLink RX6 69 yX6_goRound, .instanceMethod yX6_goRound, .selects RX6 yX6_goRound yX6_goRound, .code yX7_copyFrom cX7_copyFrom 2 none, .methodLink RX7 49 arraycopyName, .code yX7_tell cX7_tell 3 (some .int), .methodLink RX7 55 yX7_tellWhole, .instanceMethod yX7_tellWhole, .selects RX7 yX7_tellWhole yX7_tellWhole, .code yX7_tellWhole cX7_tellWhole 2 (some .int), .code yX8_init cX8_init 1 none, .methodLink RX8 3 objectInit, .arrayClass .byte, .fieldLink RX8 9 "ClapBank$Told" "tape" "[B", .fieldLink RX8 15 "ClapBank$Told" "place" "I", .classLink RX8 19 RX7, .fieldLink RX8 22 "ClapBank$Told" "firstTheatre" "LClapBank$Theatre;", .fieldLink RX8 26 "ClapBank$Told" "secondTheatre" "LClapBank$Theatre;", .classLink RX8 29 RX0, .fieldLink RX8 32 "ClapBank$Told" "firstBook" "LClapBank$Book;", .fieldLink RX8 36 "ClapBank$Told" "secondBook" "LClapBank$Book;", .classLink RX8 39 RX1, .fieldLink RX8 42 "ClapBank$Told" "firstDark" "LClapBank$Dark;"]
def AW_19 : List Cond := [.fieldLink RX8 46 "ClapBank$Told" "secondDark" "LClapBank$Dark;", .code yX8_append cX8_append 3 none, .fieldLink RX8 49 "ClapBank$Told" "length" "I", .code yX8_howMany cX8_howMany 2 (some .int), .fieldLink RX8 52 "ClapBank$Told" "theatres" "I", .fieldLink RX8 55 "ClapBank$Told" "books" "I", .fieldLink RX8 58 "ClapBank$Told" "darks" "I", .code yX8_theatreAt cX8_theatreAt 2 (some (.object "ClapBank$Theatre")), .code yX8_bookAt cX8_bookAt 2 (some (.object "ClapBank$Book")), .code yX8_darkAt cX8_darkAt 2 (some (.object "ClapBank$Dark")), .code yX8_put cX8_put 4 none, .methodLink RX8 70 Lib.Math.max.name, .methodLink RX8 66 yX7_copyFrom, .instanceMethod yX7_copyFrom, .selects RX7 yX7_copyFrom yX7_copyFrom, .methodLink RX8 79 yX0_copyFrom, .instanceMethod yX0_copyFrom, .selects RX0 yX0_copyFrom yX0_copyFrom, .methodLink RX8 85 yX1_copyFrom, .instanceMethod yX1_copyFrom, .selects RX1 yX1_copyFrom yX1_copyFrom, .code yX8_copyFrom cX8_copyFrom 2 none, .methodLink RX8 88 arraycopyName, .fieldLink RX8 94 "ClapBank$Told" "fault" "I"]
def AW_20 : List Cond := [.code yX9_init cX9_init 1 none, .methodLink RX9 1 objectInit, .classLink RX9 7 RX8, .instantiable RX8 13, .initialized RX8, .fieldLink RX9 10 "ClapBank" "told" "LClapBank$Told;", .fieldLink RX9 16 "ClapBank" "images" "[LClapBank$Told;", .classLink RX9 20 RX5, .instantiable RX5 10, .fieldLink RX9 23 "ClapBank" "reader" "LClapBank$Reader;", .classLink RX9 27 RX2, .instantiable RX2 14, .fieldLink RX9 30 "ClapBank" "evening" "LClapBank$Evening;", .classLink RX9 34 RX3, .instantiable RX3 3, .fieldLink RX9 37 "ClapBank" "table" "LClapBank$Feast;", .classLink RX9 41 RX6, .instantiable RX6 7, .fieldLink RX9 44 "ClapBank" "rounds" "LClapBank$Rounds;", .classLink RX9 48 RX4, .instantiable RX4 9, .fieldLink RX9 51 "ClapBank" "hearing" "LClapBank$Hearing;", .instanceMethod yX8_init, .instanceMethod yX5_init]
def AW_21 : List Cond := [.instanceMethod yX2_init, .instanceMethod yX3_init, .instanceMethod yX6_init, .instanceMethod yX4_init, .code yX9_feed cX9_feed 6 (some .int), .methodLink RX9 59 yX8_append, .instanceMethod yX8_append, .selects RX8 yX8_append yX8_append, .code yX9_end cX9_end 2 (some .int), .code yX9_text cX9_text 7 (some .int), .methodLink RX9 69 yX8_howMany, .instanceMethod yX8_howMany, .selects RX8 yX8_howMany yX8_howMany, .methodLink RX9 77 yX5_read, .instanceMethod yX5_read, .selects RX5 yX5_read yX5_read, .methodLink RX9 83 yX8_put, .instanceMethod yX8_put, .selects RX8 yX8_put yX8_put, .code yX9_fault cX9_fault 2 (some .int), .code yX9_theatre cX9_theatre 4 (some .int), .methodLink RX9 87 yX8_theatreAt, .instanceMethod yX8_theatreAt, .selects RX8 yX8_theatreAt yX8_theatreAt]
def AW_22 : List Cond := [.methodLink RX9 91 yX7_tell, .instanceMethod yX7_tell, .selects RX7 yX7_tell yX7_tell, .code yX9_deed cX9_deed 5 (some .int), .methodLink RX9 96 yX8_bookAt, .instanceMethod yX8_bookAt, .selects RX8 yX8_bookAt yX8_bookAt, .methodLink RX9 105 yX0_part, .code yX9_stop cX9_stop 5 (some .int), .methodLink RX9 109 yX2_playAll, .instanceMethod yX2_playAll, .selects RX2 yX2_playAll yX2_playAll, .code yX9_state cX9_state 5 (some .int), .methodLink RX9 113 yX9_reach, .instanceMethod yX9_reach, .selects RX9 yX9_reach yX9_reach, .initialized RX9, .code yX9_reach cX9_reach 6 (some .boolean), .methodLink RX9 250 yX2_playFirst, .instanceMethod yX2_playFirst, .selects RX2 yX2_playFirst yX2_playFirst, .methodLink RX9 117 yX2_tell, .instanceMethod yX2_tell, .selects RX2 yX2_tell yX2_tell]
def AW_23 : List Cond := [.code yX9_palm cX9_palm 6 (some .int), .methodLink RX9 118 yX2_hasPalm, .methodLink RX9 122 yX2_tellPalm, .instanceMethod yX2_tellPalm, .selects RX2 yX2_tellPalm yX2_tellPalm, .code yX9_actor cX9_actor 6 (some .int), .methodLink RX9 125 yX2_hasActor, .methodLink RX9 128 yX2_tellActor, .instanceMethod yX2_tellActor, .selects RX2 yX2_tellActor yX2_tellActor, .code yX9_run cX9_run 5 (some .int), .methodLink RX9 131 yX2_doomed, .methodLink RX9 135 yX2_danger, .instanceMethod yX2_danger, .selects RX2 yX2_danger yX2_danger, .code yX9_feast cX9_feast 5 (some .int), .methodLink RX9 138 yX3_lay, .instanceMethod yX3_lay, .selects RX3 yX3_lay yX3_lay, .methodLink RX9 142 yX3_tell, .instanceMethod yX3_tell, .selects RX3 yX3_tell yX3_tell, .code yX9_fair cX9_fair 8 (some .int), .methodLink RX9 143 yX2_allLeft]
def AW_24 : List Cond := [.instanceMethod yX2_allLeft, .selects RX2 yX2_allLeft yX2_allLeft, .methodLink RX9 146 yX2_allNeeds, .instanceMethod yX2_allNeeds, .selects RX2 yX2_allNeeds yX2_allNeeds, .methodLink RX9 149 yX9_commonPart, .static yX9_commonPart, .code yX9_commonPart cX9_commonPart 6 (some .int), .code yX9_ask cX9_ask 4 (some .int), .methodLink RX9 152 yX9_lendFor, .instanceMethod yX9_lendFor, .selects RX9 yX9_lendFor yX9_lendFor, .code yX9_lendFor cX9_lendFor 6 (some .boolean), .methodLink RX9 254 yX6_begin, .methodLink RX9 258 yX6_goRound, .code yX9_taken cX9_taken 4 (some .int), .code yX9_stands cX9_stands 5 (some .int), .methodLink RX9 165 yX6_findRepeat, .instanceMethod yX6_findRepeat, .selects RX6 yX6_findRepeat yX6_findRepeat, .code yX9_heard cX9_heard 4 (some .int), .methodLink RX9 172 yX8_darkAt, .instanceMethod yX8_darkAt, .selects RX8 yX8_darkAt yX8_darkAt]
def AW_25 : List Cond := [.methodLink RX9 181 yX1_hasMinute, .instanceMethod yX1_hasMinute, .selects RX1 yX1_hasMinute yX1_hasMinute, .code yX9_ways cX9_ways 5 (some .long), .constantLong RX9 187 (-1), .methodLink RX9 189 yX4_listen, .instanceMethod yX4_listen, .selects RX4 yX4_listen yX4_listen, .methodLink RX9 193 yX4_tally, .code yX9_whose cX9_whose 7 (some .int), .methodLink RX9 197 yX4_compareMinute, .instanceMethod yX4_compareMinute, .selects RX4 yX4_compareMinute yX4_compareMinute, .code yX9_drawn cX9_drawn 7 (some .int), .methodLink RX9 209 yX2_playDrawn, .instanceMethod yX2_playDrawn, .selects RX2 yX2_playDrawn yX2_playDrawn, .methodLink RX9 216 yX2_living, .code yX9_look cX9_look 5 (some .int), .methodLink RX9 222 yX2_loan, .instanceMethod yX2_loan, .selects RX2 yX2_loan yX2_loan, .methodLink RX9 225 yX2_idol, .instanceMethod yX2_idol]
def AW_26 : List Cond := [.selects RX2 yX2_idol yX2_idol, .methodLink RX9 228 yX2_tip, .instanceMethod yX2_tip, .selects RX2 yX2_tip yX2_tip, .methodLink RX9 231 yX2_dear, .instanceMethod yX2_dear, .selects RX2 yX2_dear yX2_dear, .code yX9_silence cX9_silence 11 (some .int), .methodLink RX9 237 yX2_playWithout, .instanceMethod yX2_playWithout, .selects RX2 yX2_playWithout yX2_playWithout, .methodLink RX9 241 yJ6_bitCount_0f7a4, .code yX9_count cX9_count 2 (some .int), .code yX9_image cX9_image 3 (some .boolean), .methodLink RX9 246 yX8_copyFrom, .instanceMethod yX8_copyFrom, .selects RX8 yX8_copyFrom yX8_copyFrom, .code yX9_again cX9_again 3 (some .boolean), .code yX10_init cX10_init 1 none, .methodLink RX10 1 objectInit, .fieldLink RX10 7 "ClapBankModel" "tape" "[B", .fieldLink RX10 13 "ClapBankModel" "size" "[I", .fieldLink RX10 17 "ClapBankModel" "fault" "[I", .fieldLink RX10 20 "ClapBankModel" "faultPlace" "[I"]
def AW_27 : List Cond := [.fieldLink RX10 23 "ClapBankModel" "many" "[I", .fieldLink RX10 26 "ClapBankModel" "theatres" "[I", .fieldLink RX10 29 "ClapBankModel" "books" "[I", .fieldLink RX10 32 "ClapBankModel" "darks" "[I", .fieldLink RX10 35 "ClapBankModel" "told" "[I", .fieldLink RX10 38 "ClapBankModel" "read" "[I", .fieldLink RX10 41 "ClapBankModel" "left" "[I", .fieldLink RX10 44 "ClapBankModel" "owes" "[I", .fieldLink RX10 47 "ClapBankModel" "got" "[I", .fieldLink RX10 50 "ClapBankModel" "saved" "[I", .fieldLink RX10 53 "ClapBankModel" "storms" "[I", .fieldLink RX10 56 "ClapBankModel" "starved" "[I", .fieldLink RX10 59 "ClapBankModel" "asks" "[I", .fieldLink RX10 62 "ClapBankModel" "wentTo" "[I", .constant RX10 65 (117649), .arrayClass .long, .fieldLink RX10 66 "ClapBankModel" "ahead" "[J", .fieldLink RX10 70 "ClapBankModel" "behind" "[J", .fieldLink RX10 73 "ClapBankModel" "unit" "[I", .arrayClass .boolean, .fieldLink RX10 76 "ClapBankModel" "kept" "[Z", .code yX10_in cX10_in 3 (some .boolean), .code yX10_has cX10_has 2 (some .boolean), .code yX10_ones cX10_ones 3 (some .int)]
def AW_28 : List Cond := [.methodLink RX10 84 yX10_has, .static yX10_has, .initialized RX10, .code yX10_greater cX10_greater 2 (some .int), .code yX10_lesser cX10_lesser 2 (some .int), .code yX10_copyRow cX10_copyRow 5 none, .code yX10_copyAll cX10_copyAll 4 none, .methodLink RX10 88 yX10_copyRow, .static yX10_copyRow, .code yX10_is cX10_is 3 (some .boolean), .methodLink RX10 92 yX10_in, .static yX10_in, .code yX10_feed cX10_feed 6 (some .int), .fieldLink RX10 80 "ClapBankModel" "code" "I", .methodLink RX10 96 yX10_four, .instanceMethod yX10_four, .selects RX10 yX10_four yX10_four, .code yX10_four cX10_four 3 none, .code yX10_end cX10_end 2 (some .int), .code yX10_see cX10_see 1 (some .int), .fieldLink RX10 100 "ClapBankModel" "reached" "I", .fieldLink RX10 103 "ClapBankModel" "length" "I", .code yX10_token cX10_token 3 none, .fieldLink RX10 110 "ClapBankModel" "begins" "I"]
def AW_29 : List Cond := [.fieldLink RX10 113 "ClapBankModel" "word" "J", .fieldLink RX10 117 "ClapBankModel" "sort" "I", .fieldLink RX10 120 "ClapBankModel" "value" "I", .methodLink RX10 106 yX10_see, .instanceMethod yX10_see, .selects RX10 yX10_see yX10_see, .code yX10_fails cX10_fails 1 (some .boolean), .fieldLink RX10 123 "ClapBankModel" "wrongAt" "I", .code yX10_later cX10_later 3 none, .fieldLink RX10 126 "ClapBankModel" "laterFault" "I", .fieldLink RX10 129 "ClapBankModel" "laterPlace" "I", .code yX10_takeBut cX10_takeBut 5 (some .boolean), .methodLink RX10 132 yX10_fails, .instanceMethod yX10_fails, .selects RX10 yX10_fails yX10_fails, .methodLink RX10 136 yX10_later, .instanceMethod yX10_later, .selects RX10 yX10_later yX10_later, .methodLink RX10 140 yX10_token, .instanceMethod yX10_token, .selects RX10 yX10_token yX10_token, .code yX10_take cX10_take 4 (some .boolean), .methodLink RX10 143 yX10_takeBut, .instanceMethod yX10_takeBut]
def AW_30 : List Cond := [.selects RX10 yX10_takeBut yX10_takeBut, .code yX10_full cX10_full 4 none, .code yX10_keep cX10_keep 7 none, .code yX10_theatreLine cX10_theatreLine 5 (some .boolean), .constantLong RX10 147 (1918989413), .constantLong RX10 149 (426953241460), .constantLong RX10 151 (108230800994167), .constantLong RX10 153 (1885432941), .constantLong RX10 155 (418280402802), .constantLong RX10 157 (129138752120178), .methodLink RX10 159 yX10_full, .instanceMethod yX10_full, .selects RX10 yX10_full yX10_full, .methodLink RX10 163 yX10_take, .instanceMethod yX10_take, .selects RX10 yX10_take yX10_take, .methodLink RX10 166 yX10_keep, .instanceMethod yX10_keep, .selects RX10 yX10_keep yX10_keep, .methodLink RX10 170 yX10_lesser, .static yX10_lesser, .code yX10_deedBy cX10_deedBy 2 (some .int), .constantLong RX10 174 (1668047216), .constantLong RX10 176 (1818586724)]
def AW_31 : List Cond := [.constantLong RX10 178 (491328135545), .constantLong RX10 180 (1752527720), .constantLong RX10 182 (495874699885), .constantLong RX10 184 (111524789056101), .constantLong RX10 186 (474214787188), .code yX10_deedNumbers cX10_deedNumbers 2 (some .boolean), .code yX10_bookLine cX10_bookLine 5 (some .boolean), .methodLink RX10 188 yX10_deedBy, .static yX10_deedBy, .methodLink RX10 192 yX10_deedNumbers, .instanceMethod yX10_deedNumbers, .selects RX10 yX10_deedNumbers yX10_deedNumbers, .code yX10_darkLine cX10_darkLine 4 (some .boolean), .constantLong RX10 196 (448377483876), .code yX10_lines cX10_lines 6 (some .boolean), .methodLink RX10 198 yX10_theatreLine, .instanceMethod yX10_theatreLine, .selects RX10 yX10_theatreLine yX10_theatreLine, .methodLink RX10 202 yX10_bookLine, .instanceMethod yX10_bookLine, .selects RX10 yX10_bookLine yX10_bookLine, .methodLink RX10 205 yX10_darkLine, .instanceMethod yX10_darkLine, .selects RX10 yX10_darkLine yX10_darkLine]
def AW_32 : List Cond := [.code yX10_readText cX10_readText 3 (some .boolean), .methodLink RX10 208 yX10_lines, .instanceMethod yX10_lines, .selects RX10 yX10_lines yX10_lines, .code yX10_store cX10_store 5 none, .code yX10_text cX10_text 4 (some .int), .methodLink RX10 211 yX10_is, .instanceMethod yX10_is, .selects RX10 yX10_is yX10_is, .methodLink RX10 214 yX10_readText, .instanceMethod yX10_readText, .selects RX10 yX10_readText yX10_readText, .methodLink RX10 217 yX10_store, .instanceMethod yX10_store, .selects RX10 yX10_store yX10_store, .code yX10_fault cX10_fault 2 (some .int), .code yX10_of cX10_of 2 (some .int), .fieldLink RX10 221 "ClapBankModel" "theatre" "I", .code yX10_hand cX10_hand 2 (some .boolean), .fieldLink RX10 228 "ClapBankModel" "palms" "I", .fieldLink RX10 231 "ClapBankModel" "actors" "I", .fieldLink RX10 234 "ClapBankModel" "rate" "I", .methodLink RX10 224 yX10_of, .instanceMethod yX10_of]
def AW_33 : List Cond := [.selects RX10 yX10_of yX10_of, .code yX10_isPalm cX10_isPalm 2 (some .boolean), .code yX10_isActor cX10_isActor 2 (some .boolean), .code yX10_handsOf cX10_handsOf 2 (some .int), .code yX10_hungerOf cX10_hungerOf 2 (some .int), .code yX10_theatre cX10_theatre 4 (some .int), .methodLink RX10 237 yX10_hand, .instanceMethod yX10_hand, .selects RX10 yX10_hand yX10_hand, .methodLink RX10 240 yX10_isPalm, .instanceMethod yX10_isPalm, .selects RX10 yX10_isPalm yX10_isPalm, .methodLink RX10 243 yX10_isActor, .instanceMethod yX10_isActor, .selects RX10 yX10_isActor yX10_isActor, .code yX10_deeds cX10_deeds 1 (some .int), .fieldLink RX10 246 "ClapBankModel" "book" "I", .code yX10_deedOf cX10_deedOf 3 (some .int), .code yX10_hasBook cX10_hasBook 2 (some .boolean), .code yX10_deed cX10_deed 4 (some .int), .methodLink RX10 249 yX10_hasBook, .instanceMethod yX10_hasBook, .selects RX10 yX10_hasBook yX10_hasBook, .methodLink RX10 252 yX10_deeds]
def AW_34 : List Cond := [.instanceMethod yX10_deeds, .selects RX10 yX10_deeds yX10_deeds, .methodLink RX10 255 yX10_deedOf, .instanceMethod yX10_deedOf, .selects RX10 yX10_deedOf yX10_deedOf, .code yX10_begin cX10_begin 2 none, .fieldLink RX10 258 "ClapBankModel" "chest" "I", .fieldLink RX10 261 "ClapBankModel" "encores" "I", .fieldLink RX10 264 "ClapBankModel" "nights" "I", .fieldLink RX10 267 "ClapBankModel" "lives" "I", .fieldLink RX10 270 "ClapBankModel" "claps" "I", .fieldLink RX10 273 "ClapBankModel" "echoFor" "I", .methodLink RX10 276 yX10_morning, .instanceMethod yX10_morning, .selects RX10 yX10_morning yX10_morning, .code yX10_morning cX10_morning 2 none, .fieldLink RX10 279 "ClapBankModel" "hushed" "I", .code yX10_isLiving cX10_isLiving 2 (some .boolean), .code yX10_eats cX10_eats 3 (some .int), .methodLink RX10 282 yX10_hungerOf, .instanceMethod yX10_hungerOf, .selects RX10 yX10_hungerOf yX10_hungerOf, .code yX10_gets cX10_gets 3 none, .code yX10_clapsFor cX10_clapsFor 5 (some .boolean)]
def AW_35 : List Cond := [.methodLink RX10 285 yX10_isLiving, .instanceMethod yX10_isLiving, .selects RX10 yX10_isLiving yX10_isLiving, .methodLink RX10 288 yX10_handsOf, .instanceMethod yX10_handsOf, .selects RX10 yX10_handsOf yX10_handsOf, .methodLink RX10 291 yX10_gets, .instanceMethod yX10_gets, .selects RX10 yX10_gets yX10_gets, .code yX10_gives cX10_gives 5 (some .boolean), .code yX10_hushes cX10_hushes 4 (some .boolean), .code yX10_eatsNow cX10_eatsNow 3 (some .boolean), .methodLink RX10 294 yX10_eats, .instanceMethod yX10_eats, .selects RX10 yX10_eats yX10_eats, .code yX10_night cX10_night 2 none, .constantLong RX10 300 (100), .fieldLink RX10 302 "ClapBankModel" "capped" "Z", .constant RX10 306 (1000000), .methodLink RX10 297 yX10_eatsNow, .instanceMethod yX10_eatsNow, .selects RX10 yX10_eatsNow yX10_eatsNow, .code yX10_does cX10_does 5 (some .boolean), .methodLink RX10 307 yX10_clapsFor]
def AW_36 : List Cond := [.instanceMethod yX10_clapsFor, .selects RX10 yX10_clapsFor yX10_clapsFor, .methodLink RX10 310 yX10_gives, .instanceMethod yX10_gives, .selects RX10 yX10_gives yX10_gives, .methodLink RX10 314 yX10_hushes, .instanceMethod yX10_hushes, .selects RX10 yX10_hushes yX10_hushes, .methodLink RX10 317 yX10_night, .instanceMethod yX10_night, .selects RX10 yX10_night yX10_night, .code yX10_doesNext cX10_doesNext 2 (some .boolean), .methodLink RX10 320 yX10_does, .instanceMethod yX10_does, .selects RX10 yX10_does yX10_does, .code yX10_play cX10_play 3 (some .int), .methodLink RX10 323 yX10_begin, .instanceMethod yX10_begin, .selects RX10 yX10_begin yX10_begin, .methodLink RX10 326 yX10_doesNext, .instanceMethod yX10_doesNext, .selects RX10 yX10_doesNext yX10_doesNext, .code yX10_layState cX10_layState 4 (some .boolean), .methodLink RX10 329 yX10_play]
def AW_37 : List Cond := [.instanceMethod yX10_play, .selects RX10 yX10_play yX10_play, .code yX10_stop cX10_stop 3 (some .int), .code yX10_allSaved cX10_allSaved 3 (some .int), .code yX10_state cX10_state 5 (some .int), .methodLink RX10 332 yX10_layState, .instanceMethod yX10_layState, .selects RX10 yX10_layState yX10_layState, .methodLink RX10 335 yX10_allSaved, .instanceMethod yX10_allSaved, .selects RX10 yX10_allSaved yX10_allSaved, .code yX10_palm cX10_palm 6 (some .int), .code yX10_needOf cX10_needOf 2 (some .int), .methodLink RX10 338 yX10_greater, .static yX10_greater, .code yX10_friday cX10_friday 3 (some .int), .code yX10_star cX10_star 5 (some .int), .code yX10_actor cX10_actor 7 (some .int), .methodLink RX10 341 yX10_needOf, .instanceMethod yX10_needOf, .selects RX10 yX10_needOf yX10_needOf, .methodLink RX10 344 yX10_friday, .instanceMethod yX10_friday, .selects RX10 yX10_friday yX10_friday]
def AW_38 : List Cond := [.methodLink RX10 347 yX10_star, .instanceMethod yX10_star, .selects RX10 yX10_star yX10_star, .code yX10_isInDanger cX10_isInDanger 6 (some .boolean), .code yX10_isDoomed cX10_isDoomed 2 (some .boolean), .code yX10_run cX10_run 8 (some .int), .methodLink RX10 350 yX10_isDoomed, .instanceMethod yX10_isDoomed, .selects RX10 yX10_isDoomed yX10_isDoomed, .methodLink RX10 353 yX10_isInDanger, .instanceMethod yX10_isInDanger, .selects RX10 yX10_isInDanger yX10_isInDanger, .code yX10_leftOf cX10_leftOf 4 (some .int), .code yX10_canFeed cX10_canFeed 9 (some .boolean), .fieldLink RX10 359 "ClapBankModel" "twoHands" "I", .fieldLink RX10 362 "ClapBankModel" "oneHand" "I", .methodLink RX10 356 yX10_leftOf, .instanceMethod yX10_leftOf, .selects RX10 yX10_leftOf yX10_leftOf, .code yX10_feast cX10_feast 11 (some .int), .methodLink RX10 365 yX10_canFeed, .instanceMethod yX10_canFeed, .selects RX10 yX10_canFeed yX10_canFeed, .methodLink RX10 368 yX10_ones]
def AW_39 : List Cond := [.static yX10_ones, .code yX10_common cX10_common 5 (some .int), .code yX10_fair cX10_fair 8 (some .int), .methodLink RX10 371 yX10_common, .static yX10_common, .code yX10_usurers cX10_usurers 1 (some .int), .code yX10_findAsks cX10_findAsks 5 none, .methodLink RX10 374 yX10_usurers, .instanceMethod yX10_usurers, .selects RX10 yX10_usurers yX10_usurers, .code yX10_layUsurer cX10_layUsurer 4 (some .boolean), .methodLink RX10 377 yX10_findAsks, .instanceMethod yX10_findAsks, .selects RX10 yX10_findAsks yX10_findAsks, .code yX10_ask cX10_ask 4 (some .int), .methodLink RX10 380 yX10_layUsurer, .instanceMethod yX10_layUsurer, .selects RX10 yX10_layUsurer yX10_layUsurer, .code yX10_taken cX10_taken 6 (some .int), .code yX10_areAlike cX10_areAlike 4 (some .boolean), .code yX10_stands cX10_stands 5 (some .int), .methodLink RX10 383 yX10_areAlike, .instanceMethod yX10_areAlike, .selects RX10 yX10_areAlike yX10_areAlike]
def AW_40 : List Cond := [.code yX10_hasDark cX10_hasDark 2 (some .boolean), .fieldLink RX10 386 "ClapBankModel" "dark" "I", .fieldLink RX10 389 "ClapBankModel" "minutes" "I", .code yX10_heardOf cX10_heardOf 2 (some .int), .code yX10_heard cX10_heard 3 (some .int), .methodLink RX10 392 yX10_hasDark, .instanceMethod yX10_hasDark, .selects RX10 yX10_hasDark yX10_hasDark, .methodLink RX10 395 yX10_heardOf, .instanceMethod yX10_heardOf, .selects RX10 yX10_heardOf yX10_heardOf, .code yX10_after cX10_after 5 (some .int), .code yX10_halvesOf cX10_halvesOf 4 (some .int), .code yX10_states cX10_states 3 (some .int), .code yX10_findDark cX10_findDark 3 none, .methodLink RX10 398 yX10_states, .instanceMethod yX10_states, .selects RX10 yX10_states yX10_states, .methodLink RX10 401 yX10_goOn, .instanceMethod yX10_goOn, .selects RX10 yX10_goOn yX10_goOn, .code yX10_goOn cX10_goOn 6 none, .methodLink RX10 407 yX10_halvesOf, .instanceMethod yX10_halvesOf]
def AW_41 : List Cond := [.selects RX10 yX10_halvesOf yX10_halvesOf, .methodLink RX10 410 yX10_after, .instanceMethod yX10_after, .selects RX10 yX10_after yX10_after, .methodLink RX10 404 yX10_goBack, .instanceMethod yX10_goBack, .selects RX10 yX10_goBack yX10_goBack, .code yX10_goBack cX10_goBack 6 none, .code yX10_ways cX10_ways 3 (some .long), .constantLong RX10 413 (-1), .methodLink RX10 415 yX10_findDark, .instanceMethod yX10_findDark, .selects RX10 yX10_findDark yX10_findDark, .code yX10_mayBe cX10_mayBe 5 (some .boolean), .code yX10_whose cX10_whose 8 (some .int), .methodLink RX10 418 yX10_mayBe, .instanceMethod yX10_mayBe, .selects RX10 yX10_mayBe yX10_mayBe, .code yX10_draw cX10_draw 2 (some .int), .fieldLink RX10 421 "ClapBankModel" "seed" "I", .constant RX10 424 (1103515245), .code yX10_livingOne cX10_livingOne 4 (some .int), .code yX10_drawn cX10_drawn 8 (some .int), .methodLink RX10 425 yX10_draw]
def AW_42 : List Cond := [.instanceMethod yX10_draw, .selects RX10 yX10_draw yX10_draw, .methodLink RX10 428 yX10_livingOne, .instanceMethod yX10_livingOne, .selects RX10 yX10_livingOne yX10_livingOne, .code yX10_mostOwing cX10_mostOwing 6 (some .int), .code yX10_idol cX10_idol 6 (some .int), .code yX10_eatsBy cX10_eatsBy 5 (some .boolean), .code yX10_tip cX10_tip 3 (some .int), .methodLink RX10 431 yX10_eatsBy, .instanceMethod yX10_eatsBy, .selects RX10 yX10_eatsBy yX10_eatsBy, .code yX10_dear cX10_dear 3 (some .int), .code yX10_look cX10_look 5 (some .int), .methodLink RX10 434 yX10_tip, .instanceMethod yX10_tip, .selects RX10 yX10_tip yX10_tip, .methodLink RX10 437 yX10_mostOwing, .instanceMethod yX10_mostOwing, .selects RX10 yX10_mostOwing yX10_mostOwing, .methodLink RX10 440 yX10_idol, .instanceMethod yX10_idol, .selects RX10 yX10_idol yX10_idol, .methodLink RX10 443 yX10_dear]
def AW_43 : List Cond := [.instanceMethod yX10_dear, .selects RX10 yX10_dear yX10_dear, .code yX10_names cX10_names 4 (some .boolean), .code yX10_starvedWithout cX10_starvedWithout 5 (some .int), .methodLink RX10 446 yX10_names, .instanceMethod yX10_names, .selects RX10 yX10_names yX10_names, .code yX10_silence cX10_silence 9 (some .int), .methodLink RX10 449 yX10_starvedWithout, .instanceMethod yX10_starvedWithout, .selects RX10 yX10_starvedWithout yX10_starvedWithout, .code yX10_count cX10_count 2 (some .int), .code yX10_image cX10_image 2 (some .boolean), .methodLink RX10 452 yX10_copyAll, .instanceMethod yX10_copyAll, .selects RX10 yX10_copyAll yX10_copyAll, .code yX10_again cX10_again 2 (some .boolean), .code yJ9_max_7cf53 cJ9_max_7cf53 2 (some .int), .code yJ9_min_7cf53 cJ9_min_7cf53 2 (some .int), .code yJ9_min_f86c9 cJ9_min_f86c9 4 (some .long)]
def AT_54 : List Cond := AW_43
def AT_53 : List Cond := AW_42 ++ AT_54
def AT_52 : List Cond := AW_41 ++ AT_53
def AT_51 : List Cond := AW_40 ++ AT_52
def AT_50 : List Cond := AW_39 ++ AT_51
def AT_49 : List Cond := AW_38 ++ AT_50
def AT_48 : List Cond := AW_37 ++ AT_49
def AT_47 : List Cond := AW_36 ++ AT_48
def AT_46 : List Cond := AW_35 ++ AT_47
def AT_45 : List Cond := AW_34 ++ AT_46
def AT_44 : List Cond := AW_33 ++ AT_45
def AT_43 : List Cond := AW_32 ++ AT_44
def AT_42 : List Cond := AW_31 ++ AT_43
def AT_41 : List Cond := AW_30 ++ AT_42
def AT_40 : List Cond := AW_29 ++ AT_41
def AT_39 : List Cond := AW_28 ++ AT_40
def AT_38 : List Cond := AW_27 ++ AT_39
def AT_37 : List Cond := AW_26 ++ AT_38
def AT_36 : List Cond := AW_25 ++ AT_37
def AT_35 : List Cond := AW_24 ++ AT_36
def AT_34 : List Cond := AW_23 ++ AT_35
def AT_33 : List Cond := AW_22 ++ AT_34
def AT_32 : List Cond := AW_21 ++ AT_33
def AT_31 : List Cond := AW_20 ++ AT_32
def AT_30 : List Cond := AW_19 ++ AT_31
def AT_29 : List Cond := AW_18 ++ AT_30
def AT_28 : List Cond := AW_17 ++ AT_29
def AT_27 : List Cond := AW_16 ++ AT_28
def AT_26 : List Cond := AW_15 ++ AT_27
def AT_25 : List Cond := AW_14 ++ AT_26
def AT_24 : List Cond := AW_13 ++ AT_25
def AT_23 : List Cond := AW_12 ++ AT_24
def AT_22 : List Cond := AW_11 ++ AT_23
def AT_21 : List Cond := AW_10 ++ AT_22
def AT_20 : List Cond := AW_9 ++ AT_21
def AT_19 : List Cond := AW_8 ++ AT_20
def AT_18 : List Cond := AW_7 ++ AT_19
def AT_17 : List Cond := AW_6 ++ AT_18
def AT_16 : List Cond := AW_5 ++ AT_17
def AT_15 : List Cond := AW_4 ++ AT_16
def AT_14 : List Cond := AW_3 ++ AT_15
def AT_13 : List Cond := AW_2 ++ AT_14
def AT_12 : List Cond := AW_1 ++ AT_13
def AT_11 : List Cond := AW_0 ++ AT_12
def AT_10 : List Cond := wsX100 ++ AT_11
def AT_9 : List Cond := wsX90 ++ AT_10
def AT_8 : List Cond := wsX80 ++ AT_9
def AT_7 : List Cond := wsX70 ++ AT_8
def AT_6 : List Cond := wsX60 ++ AT_7
def AT_5 : List Cond := wsX50 ++ AT_6
def AT_4 : List Cond := wsX40 ++ AT_5
def AT_3 : List Cond := wsX30 ++ AT_4
def AT_2 : List Cond := wsX20 ++ AT_3
def AT_1 : List Cond := wsX10 ++ AT_2
def AT_0 : List Cond := wsX00 ++ AT_1
def ALLW : List Cond := AT_0
theorem at_0 {w : Cond} (h : w ∈ AT_0) : w ∈ ALLW := h
theorem at_1 {w : Cond} (h : w ∈ AT_1) : w ∈ ALLW := at_0 (show w ∈ wsX00 ++ AT_1 from List.mem_append_right _ h)
theorem at_2 {w : Cond} (h : w ∈ AT_2) : w ∈ ALLW := at_1 (show w ∈ wsX10 ++ AT_2 from List.mem_append_right _ h)
theorem at_3 {w : Cond} (h : w ∈ AT_3) : w ∈ ALLW := at_2 (show w ∈ wsX20 ++ AT_3 from List.mem_append_right _ h)
theorem at_4 {w : Cond} (h : w ∈ AT_4) : w ∈ ALLW := at_3 (show w ∈ wsX30 ++ AT_4 from List.mem_append_right _ h)
theorem at_5 {w : Cond} (h : w ∈ AT_5) : w ∈ ALLW := at_4 (show w ∈ wsX40 ++ AT_5 from List.mem_append_right _ h)
theorem at_6 {w : Cond} (h : w ∈ AT_6) : w ∈ ALLW := at_5 (show w ∈ wsX50 ++ AT_6 from List.mem_append_right _ h)
theorem at_7 {w : Cond} (h : w ∈ AT_7) : w ∈ ALLW := at_6 (show w ∈ wsX60 ++ AT_7 from List.mem_append_right _ h)
theorem at_8 {w : Cond} (h : w ∈ AT_8) : w ∈ ALLW := at_7 (show w ∈ wsX70 ++ AT_8 from List.mem_append_right _ h)
theorem at_9 {w : Cond} (h : w ∈ AT_9) : w ∈ ALLW := at_8 (show w ∈ wsX80 ++ AT_9 from List.mem_append_right _ h)
theorem at_10 {w : Cond} (h : w ∈ AT_10) : w ∈ ALLW := at_9 (show w ∈ wsX90 ++ AT_10 from List.mem_append_right _ h)
theorem at_11 {w : Cond} (h : w ∈ AT_11) : w ∈ ALLW := at_10 (show w ∈ wsX100 ++ AT_11 from List.mem_append_right _ h)
theorem at_12 {w : Cond} (h : w ∈ AT_12) : w ∈ ALLW := at_11 (show w ∈ AW_0 ++ AT_12 from List.mem_append_right _ h)
theorem at_13 {w : Cond} (h : w ∈ AT_13) : w ∈ ALLW := at_12 (show w ∈ AW_1 ++ AT_13 from List.mem_append_right _ h)
theorem at_14 {w : Cond} (h : w ∈ AT_14) : w ∈ ALLW := at_13 (show w ∈ AW_2 ++ AT_14 from List.mem_append_right _ h)
theorem at_15 {w : Cond} (h : w ∈ AT_15) : w ∈ ALLW := at_14 (show w ∈ AW_3 ++ AT_15 from List.mem_append_right _ h)
theorem at_16 {w : Cond} (h : w ∈ AT_16) : w ∈ ALLW := at_15 (show w ∈ AW_4 ++ AT_16 from List.mem_append_right _ h)
theorem at_17 {w : Cond} (h : w ∈ AT_17) : w ∈ ALLW := at_16 (show w ∈ AW_5 ++ AT_17 from List.mem_append_right _ h)
theorem at_18 {w : Cond} (h : w ∈ AT_18) : w ∈ ALLW := at_17 (show w ∈ AW_6 ++ AT_18 from List.mem_append_right _ h)
theorem at_19 {w : Cond} (h : w ∈ AT_19) : w ∈ ALLW := at_18 (show w ∈ AW_7 ++ AT_19 from List.mem_append_right _ h)
theorem at_20 {w : Cond} (h : w ∈ AT_20) : w ∈ ALLW := at_19 (show w ∈ AW_8 ++ AT_20 from List.mem_append_right _ h)
theorem at_21 {w : Cond} (h : w ∈ AT_21) : w ∈ ALLW := at_20 (show w ∈ AW_9 ++ AT_21 from List.mem_append_right _ h)
theorem at_22 {w : Cond} (h : w ∈ AT_22) : w ∈ ALLW := at_21 (show w ∈ AW_10 ++ AT_22 from List.mem_append_right _ h)
theorem at_23 {w : Cond} (h : w ∈ AT_23) : w ∈ ALLW := at_22 (show w ∈ AW_11 ++ AT_23 from List.mem_append_right _ h)
theorem at_24 {w : Cond} (h : w ∈ AT_24) : w ∈ ALLW := at_23 (show w ∈ AW_12 ++ AT_24 from List.mem_append_right _ h)
theorem at_25 {w : Cond} (h : w ∈ AT_25) : w ∈ ALLW := at_24 (show w ∈ AW_13 ++ AT_25 from List.mem_append_right _ h)
theorem at_26 {w : Cond} (h : w ∈ AT_26) : w ∈ ALLW := at_25 (show w ∈ AW_14 ++ AT_26 from List.mem_append_right _ h)
theorem at_27 {w : Cond} (h : w ∈ AT_27) : w ∈ ALLW := at_26 (show w ∈ AW_15 ++ AT_27 from List.mem_append_right _ h)
theorem at_28 {w : Cond} (h : w ∈ AT_28) : w ∈ ALLW := at_27 (show w ∈ AW_16 ++ AT_28 from List.mem_append_right _ h)
theorem at_29 {w : Cond} (h : w ∈ AT_29) : w ∈ ALLW := at_28 (show w ∈ AW_17 ++ AT_29 from List.mem_append_right _ h)
theorem at_30 {w : Cond} (h : w ∈ AT_30) : w ∈ ALLW := at_29 (show w ∈ AW_18 ++ AT_30 from List.mem_append_right _ h)
theorem at_31 {w : Cond} (h : w ∈ AT_31) : w ∈ ALLW := at_30 (show w ∈ AW_19 ++ AT_31 from List.mem_append_right _ h)
theorem at_32 {w : Cond} (h : w ∈ AT_32) : w ∈ ALLW := at_31 (show w ∈ AW_20 ++ AT_32 from List.mem_append_right _ h)
theorem at_33 {w : Cond} (h : w ∈ AT_33) : w ∈ ALLW := at_32 (show w ∈ AW_21 ++ AT_33 from List.mem_append_right _ h)
theorem at_34 {w : Cond} (h : w ∈ AT_34) : w ∈ ALLW := at_33 (show w ∈ AW_22 ++ AT_34 from List.mem_append_right _ h)
theorem at_35 {w : Cond} (h : w ∈ AT_35) : w ∈ ALLW := at_34 (show w ∈ AW_23 ++ AT_35 from List.mem_append_right _ h)
theorem at_36 {w : Cond} (h : w ∈ AT_36) : w ∈ ALLW := at_35 (show w ∈ AW_24 ++ AT_36 from List.mem_append_right _ h)
theorem at_37 {w : Cond} (h : w ∈ AT_37) : w ∈ ALLW := at_36 (show w ∈ AW_25 ++ AT_37 from List.mem_append_right _ h)
theorem at_38 {w : Cond} (h : w ∈ AT_38) : w ∈ ALLW := at_37 (show w ∈ AW_26 ++ AT_38 from List.mem_append_right _ h)
theorem at_39 {w : Cond} (h : w ∈ AT_39) : w ∈ ALLW := at_38 (show w ∈ AW_27 ++ AT_39 from List.mem_append_right _ h)
theorem at_40 {w : Cond} (h : w ∈ AT_40) : w ∈ ALLW := at_39 (show w ∈ AW_28 ++ AT_40 from List.mem_append_right _ h)
theorem at_41 {w : Cond} (h : w ∈ AT_41) : w ∈ ALLW := at_40 (show w ∈ AW_29 ++ AT_41 from List.mem_append_right _ h)
theorem at_42 {w : Cond} (h : w ∈ AT_42) : w ∈ ALLW := at_41 (show w ∈ AW_30 ++ AT_42 from List.mem_append_right _ h)
theorem at_43 {w : Cond} (h : w ∈ AT_43) : w ∈ ALLW := at_42 (show w ∈ AW_31 ++ AT_43 from List.mem_append_right _ h)
theorem at_44 {w : Cond} (h : w ∈ AT_44) : w ∈ ALLW := at_43 (show w ∈ AW_32 ++ AT_44 from List.mem_append_right _ h)
theorem at_45 {w : Cond} (h : w ∈ AT_45) : w ∈ ALLW := at_44 (show w ∈ AW_33 ++ AT_45 from List.mem_append_right _ h)
theorem at_46 {w : Cond} (h : w ∈ AT_46) : w ∈ ALLW := at_45 (show w ∈ AW_34 ++ AT_46 from List.mem_append_right _ h)
theorem at_47 {w : Cond} (h : w ∈ AT_47) : w ∈ ALLW := at_46 (show w ∈ AW_35 ++ AT_47 from List.mem_append_right _ h)
theorem at_48 {w : Cond} (h : w ∈ AT_48) : w ∈ ALLW := at_47 (show w ∈ AW_36 ++ AT_48 from List.mem_append_right _ h)
theorem at_49 {w : Cond} (h : w ∈ AT_49) : w ∈ ALLW := at_48 (show w ∈ AW_37 ++ AT_49 from List.mem_append_right _ h)
theorem at_50 {w : Cond} (h : w ∈ AT_50) : w ∈ ALLW := at_49 (show w ∈ AW_38 ++ AT_50 from List.mem_append_right _ h)
theorem at_51 {w : Cond} (h : w ∈ AT_51) : w ∈ ALLW := at_50 (show w ∈ AW_39 ++ AT_51 from List.mem_append_right _ h)
theorem at_52 {w : Cond} (h : w ∈ AT_52) : w ∈ ALLW := at_51 (show w ∈ AW_40 ++ AT_52 from List.mem_append_right _ h)
theorem at_53 {w : Cond} (h : w ∈ AT_53) : w ∈ ALLW := at_52 (show w ∈ AW_41 ++ AT_53 from List.mem_append_right _ h)
theorem at_54 {w : Cond} (h : w ∈ AT_54) : w ∈ ALLW := at_53 (show w ∈ AW_42 ++ AT_54 from List.mem_append_right _ h)
theorem ap_0 {w : Cond} (h : w ∈ wsX00) : w ∈ ALLW := at_0 (show w ∈ wsX00 ++ AT_1 from List.mem_append_left _ h)
theorem ap_1 {w : Cond} (h : w ∈ wsX10) : w ∈ ALLW := at_1 (show w ∈ wsX10 ++ AT_2 from List.mem_append_left _ h)
theorem ap_2 {w : Cond} (h : w ∈ wsX20) : w ∈ ALLW := at_2 (show w ∈ wsX20 ++ AT_3 from List.mem_append_left _ h)
theorem ap_3 {w : Cond} (h : w ∈ wsX30) : w ∈ ALLW := at_3 (show w ∈ wsX30 ++ AT_4 from List.mem_append_left _ h)
theorem ap_4 {w : Cond} (h : w ∈ wsX40) : w ∈ ALLW := at_4 (show w ∈ wsX40 ++ AT_5 from List.mem_append_left _ h)
theorem ap_5 {w : Cond} (h : w ∈ wsX50) : w ∈ ALLW := at_5 (show w ∈ wsX50 ++ AT_6 from List.mem_append_left _ h)
theorem ap_6 {w : Cond} (h : w ∈ wsX60) : w ∈ ALLW := at_6 (show w ∈ wsX60 ++ AT_7 from List.mem_append_left _ h)
theorem ap_7 {w : Cond} (h : w ∈ wsX70) : w ∈ ALLW := at_7 (show w ∈ wsX70 ++ AT_8 from List.mem_append_left _ h)
theorem ap_8 {w : Cond} (h : w ∈ wsX80) : w ∈ ALLW := at_8 (show w ∈ wsX80 ++ AT_9 from List.mem_append_left _ h)
theorem ap_9 {w : Cond} (h : w ∈ wsX90) : w ∈ ALLW := at_9 (show w ∈ wsX90 ++ AT_10 from List.mem_append_left _ h)
theorem ap_10 {w : Cond} (h : w ∈ wsX100) : w ∈ ALLW := at_10 (show w ∈ wsX100 ++ AT_11 from List.mem_append_left _ h)
theorem ap_11 {w : Cond} (h : w ∈ AW_0) : w ∈ ALLW := at_11 (show w ∈ AW_0 ++ AT_12 from List.mem_append_left _ h)
theorem ap_12 {w : Cond} (h : w ∈ AW_1) : w ∈ ALLW := at_12 (show w ∈ AW_1 ++ AT_13 from List.mem_append_left _ h)
theorem ap_13 {w : Cond} (h : w ∈ AW_2) : w ∈ ALLW := at_13 (show w ∈ AW_2 ++ AT_14 from List.mem_append_left _ h)
theorem ap_14 {w : Cond} (h : w ∈ AW_3) : w ∈ ALLW := at_14 (show w ∈ AW_3 ++ AT_15 from List.mem_append_left _ h)
theorem ap_15 {w : Cond} (h : w ∈ AW_4) : w ∈ ALLW := at_15 (show w ∈ AW_4 ++ AT_16 from List.mem_append_left _ h)
theorem ap_16 {w : Cond} (h : w ∈ AW_5) : w ∈ ALLW := at_16 (show w ∈ AW_5 ++ AT_17 from List.mem_append_left _ h)
theorem ap_17 {w : Cond} (h : w ∈ AW_6) : w ∈ ALLW := at_17 (show w ∈ AW_6 ++ AT_18 from List.mem_append_left _ h)
theorem ap_18 {w : Cond} (h : w ∈ AW_7) : w ∈ ALLW := at_18 (show w ∈ AW_7 ++ AT_19 from List.mem_append_left _ h)
theorem ap_19 {w : Cond} (h : w ∈ AW_8) : w ∈ ALLW := at_19 (show w ∈ AW_8 ++ AT_20 from List.mem_append_left _ h)
theorem ap_20 {w : Cond} (h : w ∈ AW_9) : w ∈ ALLW := at_20 (show w ∈ AW_9 ++ AT_21 from List.mem_append_left _ h)
theorem ap_21 {w : Cond} (h : w ∈ AW_10) : w ∈ ALLW := at_21 (show w ∈ AW_10 ++ AT_22 from List.mem_append_left _ h)
theorem ap_22 {w : Cond} (h : w ∈ AW_11) : w ∈ ALLW := at_22 (show w ∈ AW_11 ++ AT_23 from List.mem_append_left _ h)
theorem ap_23 {w : Cond} (h : w ∈ AW_12) : w ∈ ALLW := at_23 (show w ∈ AW_12 ++ AT_24 from List.mem_append_left _ h)
theorem ap_24 {w : Cond} (h : w ∈ AW_13) : w ∈ ALLW := at_24 (show w ∈ AW_13 ++ AT_25 from List.mem_append_left _ h)
theorem ap_25 {w : Cond} (h : w ∈ AW_14) : w ∈ ALLW := at_25 (show w ∈ AW_14 ++ AT_26 from List.mem_append_left _ h)
theorem ap_26 {w : Cond} (h : w ∈ AW_15) : w ∈ ALLW := at_26 (show w ∈ AW_15 ++ AT_27 from List.mem_append_left _ h)
theorem ap_27 {w : Cond} (h : w ∈ AW_16) : w ∈ ALLW := at_27 (show w ∈ AW_16 ++ AT_28 from List.mem_append_left _ h)
theorem ap_28 {w : Cond} (h : w ∈ AW_17) : w ∈ ALLW := at_28 (show w ∈ AW_17 ++ AT_29 from List.mem_append_left _ h)
theorem ap_29 {w : Cond} (h : w ∈ AW_18) : w ∈ ALLW := at_29 (show w ∈ AW_18 ++ AT_30 from List.mem_append_left _ h)
theorem ap_30 {w : Cond} (h : w ∈ AW_19) : w ∈ ALLW := at_30 (show w ∈ AW_19 ++ AT_31 from List.mem_append_left _ h)
theorem ap_31 {w : Cond} (h : w ∈ AW_20) : w ∈ ALLW := at_31 (show w ∈ AW_20 ++ AT_32 from List.mem_append_left _ h)
theorem ap_32 {w : Cond} (h : w ∈ AW_21) : w ∈ ALLW := at_32 (show w ∈ AW_21 ++ AT_33 from List.mem_append_left _ h)
theorem ap_33 {w : Cond} (h : w ∈ AW_22) : w ∈ ALLW := at_33 (show w ∈ AW_22 ++ AT_34 from List.mem_append_left _ h)
theorem ap_34 {w : Cond} (h : w ∈ AW_23) : w ∈ ALLW := at_34 (show w ∈ AW_23 ++ AT_35 from List.mem_append_left _ h)
theorem ap_35 {w : Cond} (h : w ∈ AW_24) : w ∈ ALLW := at_35 (show w ∈ AW_24 ++ AT_36 from List.mem_append_left _ h)
theorem ap_36 {w : Cond} (h : w ∈ AW_25) : w ∈ ALLW := at_36 (show w ∈ AW_25 ++ AT_37 from List.mem_append_left _ h)
theorem ap_37 {w : Cond} (h : w ∈ AW_26) : w ∈ ALLW := at_37 (show w ∈ AW_26 ++ AT_38 from List.mem_append_left _ h)
theorem ap_38 {w : Cond} (h : w ∈ AW_27) : w ∈ ALLW := at_38 (show w ∈ AW_27 ++ AT_39 from List.mem_append_left _ h)
theorem ap_39 {w : Cond} (h : w ∈ AW_28) : w ∈ ALLW := at_39 (show w ∈ AW_28 ++ AT_40 from List.mem_append_left _ h)
theorem ap_40 {w : Cond} (h : w ∈ AW_29) : w ∈ ALLW := at_40 (show w ∈ AW_29 ++ AT_41 from List.mem_append_left _ h)
theorem ap_41 {w : Cond} (h : w ∈ AW_30) : w ∈ ALLW := at_41 (show w ∈ AW_30 ++ AT_42 from List.mem_append_left _ h)
theorem ap_42 {w : Cond} (h : w ∈ AW_31) : w ∈ ALLW := at_42 (show w ∈ AW_31 ++ AT_43 from List.mem_append_left _ h)
theorem ap_43 {w : Cond} (h : w ∈ AW_32) : w ∈ ALLW := at_43 (show w ∈ AW_32 ++ AT_44 from List.mem_append_left _ h)
theorem ap_44 {w : Cond} (h : w ∈ AW_33) : w ∈ ALLW := at_44 (show w ∈ AW_33 ++ AT_45 from List.mem_append_left _ h)
theorem ap_45 {w : Cond} (h : w ∈ AW_34) : w ∈ ALLW := at_45 (show w ∈ AW_34 ++ AT_46 from List.mem_append_left _ h)
theorem ap_46 {w : Cond} (h : w ∈ AW_35) : w ∈ ALLW := at_46 (show w ∈ AW_35 ++ AT_47 from List.mem_append_left _ h)
theorem ap_47 {w : Cond} (h : w ∈ AW_36) : w ∈ ALLW := at_47 (show w ∈ AW_36 ++ AT_48 from List.mem_append_left _ h)
theorem ap_48 {w : Cond} (h : w ∈ AW_37) : w ∈ ALLW := at_48 (show w ∈ AW_37 ++ AT_49 from List.mem_append_left _ h)
theorem ap_49 {w : Cond} (h : w ∈ AW_38) : w ∈ ALLW := at_49 (show w ∈ AW_38 ++ AT_50 from List.mem_append_left _ h)
theorem ap_50 {w : Cond} (h : w ∈ AW_39) : w ∈ ALLW := at_50 (show w ∈ AW_39 ++ AT_51 from List.mem_append_left _ h)
theorem ap_51 {w : Cond} (h : w ∈ AW_40) : w ∈ ALLW := at_51 (show w ∈ AW_40 ++ AT_52 from List.mem_append_left _ h)
theorem ap_52 {w : Cond} (h : w ∈ AW_41) : w ∈ ALLW := at_52 (show w ∈ AW_41 ++ AT_53 from List.mem_append_left _ h)
theorem ap_53 {w : Cond} (h : w ∈ AW_42) : w ∈ ALLW := at_53 (show w ∈ AW_42 ++ AT_54 from List.mem_append_left _ h)
theorem ap_54 {w : Cond} (h : w ∈ AW_43) : w ∈ ALLW := at_54 h
theorem inAX0 : ∀ w ∈ wsX00, w ∈ ALLW := fun _ h => ap_0 h
theorem inAX1 : ∀ w ∈ wsX10, w ∈ ALLW := fun _ h => ap_1 h
theorem inAX2 : ∀ w ∈ wsX20, w ∈ ALLW := fun _ h => ap_2 h
theorem inAX3 : ∀ w ∈ wsX30, w ∈ ALLW := fun _ h => ap_3 h
theorem inAX4 : ∀ w ∈ wsX40, w ∈ ALLW := fun _ h => ap_4 h
theorem inAX5 : ∀ w ∈ wsX50, w ∈ ALLW := fun _ h => ap_5 h
theorem inAX6 : ∀ w ∈ wsX60, w ∈ ALLW := fun _ h => ap_6 h
theorem inAX7 : ∀ w ∈ wsX70, w ∈ ALLW := fun _ h => ap_7 h
theorem inAX8 : ∀ w ∈ wsX80, w ∈ ALLW := fun _ h => ap_8 h
theorem inAX9 : ∀ w ∈ wsX90, w ∈ ALLW := fun _ h => ap_9 h
theorem inAX10 : ∀ w ∈ wsX100, w ∈ ALLW := fun _ h => ap_10 h
theorem W_0 : Cond.code yX0_init cX0_init 1 none ∈ ALLW := ap_11 (List.mem_of_getElem? (i := 0) rfl)
theorem W_1 : Cond.methodLink RX0 3 objectInit ∈ ALLW := ap_11 (List.mem_of_getElem? (i := 1) rfl)
theorem W_2 : Cond.instanceMethod objectInit ∈ ALLW := ap_11 (List.mem_of_getElem? (i := 2) rfl)
theorem W_3 : Cond.code objectInit ⟨#[0xb1]⟩ 1 none ∈ ALLW := ap_11 (List.mem_of_getElem? (i := 3) rfl)
theorem W_4 : Cond.arrayClass .int ∈ ALLW := ap_11 (List.mem_of_getElem? (i := 4) rfl)
theorem W_5 : Cond.fieldLink RX0 9 "ClapBank$Book" "parts" "[I" ∈ ALLW := ap_11 (List.mem_of_getElem? (i := 5) rfl)
theorem W_6 : Cond.code yX0_copyFrom cX0_copyFrom 2 none ∈ ALLW := ap_11 (List.mem_of_getElem? (i := 6) rfl)
theorem W_7 : Cond.fieldLink RX0 15 "ClapBank$Book" "deeds" "I" ∈ ALLW := ap_11 (List.mem_of_getElem? (i := 7) rfl)
theorem W_8 : Cond.methodLink RX0 19 arraycopyName ∈ ALLW := ap_11 (List.mem_of_getElem? (i := 8) rfl)
theorem W_9 : Cond.native arraycopyName ∈ ALLW := ap_11 (List.mem_of_getElem? (i := 9) rfl)
theorem W_10 : Cond.static arraycopyName ∈ ALLW := ap_11 (List.mem_of_getElem? (i := 10) rfl)
theorem W_11 : Cond.initialized "java/lang/System" ∈ ALLW := ap_11 (List.mem_of_getElem? (i := 11) rfl)
theorem W_12 : Cond.code yX0_addDeed cX0_addDeed 6 none ∈ ALLW := ap_11 (List.mem_of_getElem? (i := 12) rfl)
theorem W_13 : Cond.code yX0_part cX0_part 3 (some .int) ∈ ALLW := ap_11 (List.mem_of_getElem? (i := 13) rfl)
theorem W_14 : Cond.code yX0_isOf cX0_isOf 5 (some .boolean) ∈ ALLW := ap_11 (List.mem_of_getElem? (i := 14) rfl)
theorem W_15 : Cond.methodLink RX0 25 yX0_part ∈ ALLW := ap_11 (List.mem_of_getElem? (i := 15) rfl)
theorem W_16 : Cond.instanceMethod yX0_part ∈ ALLW := ap_11 (List.mem_of_getElem? (i := 16) rfl)
theorem W_17 : Cond.selects RX0 yX0_part yX0_part ∈ ALLW := ap_11 (List.mem_of_getElem? (i := 17) rfl)
theorem W_18 : Cond.initialized RX0 ∈ ALLW := ap_11 (List.mem_of_getElem? (i := 18) rfl)
theorem W_19 : Cond.code yX1_init cX1_init 1 none ∈ ALLW := ap_11 (List.mem_of_getElem? (i := 19) rfl)
theorem W_20 : Cond.methodLink RX1 3 objectInit ∈ ALLW := ap_11 (List.mem_of_getElem? (i := 20) rfl)
theorem W_21 : Cond.fieldLink RX1 9 "ClapBank$Dark" "halves" "[I" ∈ ALLW := ap_11 (List.mem_of_getElem? (i := 21) rfl)
theorem W_22 : Cond.code yX1_copyFrom cX1_copyFrom 2 none ∈ ALLW := ap_11 (List.mem_of_getElem? (i := 22) rfl)
theorem W_23 : Cond.fieldLink RX1 15 "ClapBank$Dark" "minutes" "I" ∈ ALLW := ap_11 (List.mem_of_getElem? (i := 23) rfl)
theorem W_24 : Cond.methodLink RX1 19 arraycopyName ∈ ALLW := ap_12 (List.mem_of_getElem? (i := 0) rfl)
theorem W_25 : Cond.code yX1_addMinute cX1_addMinute 2 none ∈ ALLW := ap_12 (List.mem_of_getElem? (i := 1) rfl)
theorem W_26 : Cond.code yX1_hasMinute cX1_hasMinute 2 (some .boolean) ∈ ALLW := ap_12 (List.mem_of_getElem? (i := 2) rfl)
theorem W_27 : Cond.code yX2_init cX2_init 1 none ∈ ALLW := ap_12 (List.mem_of_getElem? (i := 3) rfl)
theorem W_28 : Cond.methodLink RX2 3 objectInit ∈ ALLW := ap_12 (List.mem_of_getElem? (i := 4) rfl)
theorem W_29 : Cond.classLink RX2 9 RX7 ∈ ALLW := ap_12 (List.mem_of_getElem? (i := 5) rfl)
theorem W_30 : Cond.instantiable RX7 12 ∈ ALLW := ap_12 (List.mem_of_getElem? (i := 6) rfl)
theorem W_31 : Cond.initialized RX7 ∈ ALLW := ap_12 (List.mem_of_getElem? (i := 7) rfl)
theorem W_32 : Cond.fieldLink RX2 12 "ClapBank$Evening" "house" "LClapBank$Theatre;" ∈ ALLW := ap_12 (List.mem_of_getElem? (i := 8) rfl)
theorem W_33 : Cond.fieldLink RX2 18 "ClapBank$Evening" "left" "[I" ∈ ALLW := ap_12 (List.mem_of_getElem? (i := 9) rfl)
theorem W_34 : Cond.fieldLink RX2 22 "ClapBank$Evening" "owes" "[I" ∈ ALLW := ap_12 (List.mem_of_getElem? (i := 10) rfl)
theorem W_35 : Cond.fieldLink RX2 25 "ClapBank$Evening" "got" "[I" ∈ ALLW := ap_12 (List.mem_of_getElem? (i := 11) rfl)
theorem W_36 : Cond.fieldLink RX2 28 "ClapBank$Evening" "saved" "[I" ∈ ALLW := ap_12 (List.mem_of_getElem? (i := 12) rfl)
theorem W_37 : Cond.fieldLink RX2 31 "ClapBank$Evening" "starved" "[I" ∈ ALLW := ap_12 (List.mem_of_getElem? (i := 13) rfl)
theorem W_38 : Cond.fieldLink RX2 34 "ClapBank$Evening" "storms" "[I" ∈ ALLW := ap_12 (List.mem_of_getElem? (i := 14) rfl)
theorem W_39 : Cond.fieldLink RX2 37 "ClapBank$Evening" "drawnFrom" "[I" ∈ ALLW := ap_12 (List.mem_of_getElem? (i := 15) rfl)
theorem W_40 : Cond.instanceMethod yX7_init ∈ ALLW := ap_12 (List.mem_of_getElem? (i := 16) rfl)
theorem W_41 : Cond.code yX7_init cX7_init 1 none ∈ ALLW := ap_12 (List.mem_of_getElem? (i := 17) rfl)
theorem W_42 : Cond.methodLink RX7 3 objectInit ∈ ALLW := ap_12 (List.mem_of_getElem? (i := 18) rfl)
theorem W_43 : Cond.fieldLink RX7 9 "ClapBank$Theatre" "claps" "[I" ∈ ALLW := ap_12 (List.mem_of_getElem? (i := 19) rfl)
theorem W_44 : Cond.fieldLink RX7 15 "ClapBank$Theatre" "hands" "[I" ∈ ALLW := ap_12 (List.mem_of_getElem? (i := 20) rfl)
theorem W_45 : Cond.fieldLink RX7 18 "ClapBank$Theatre" "hunger" "[I" ∈ ALLW := ap_12 (List.mem_of_getElem? (i := 21) rfl)
theorem W_46 : Cond.fieldLink RX7 21 "ClapBank$Theatre" "saved" "[I" ∈ ALLW := ap_12 (List.mem_of_getElem? (i := 22) rfl)
theorem W_47 : Cond.fieldLink RX7 24 "ClapBank$Theatre" "asks" "[I" ∈ ALLW := ap_12 (List.mem_of_getElem? (i := 23) rfl)
theorem W_48 : Cond.fieldLink RX7 27 "ClapBank$Theatre" "floors" "[I" ∈ ALLW := ap_13 (List.mem_of_getElem? (i := 0) rfl)
theorem W_49 : Cond.code yX2_begin cX2_begin 2 none ∈ ALLW := ap_13 (List.mem_of_getElem? (i := 1) rfl)
theorem W_50 : Cond.methodLink RX2 43 arraycopyName ∈ ALLW := ap_13 (List.mem_of_getElem? (i := 2) rfl)
theorem W_51 : Cond.fieldLink RX2 60 "ClapBank$Evening" "chest" "I" ∈ ALLW := ap_13 (List.mem_of_getElem? (i := 3) rfl)
theorem W_52 : Cond.fieldLink RX2 61 "ClapBank$Evening" "encores" "I" ∈ ALLW := ap_13 (List.mem_of_getElem? (i := 4) rfl)
theorem W_53 : Cond.fieldLink RX2 64 "ClapBank$Evening" "nights" "I" ∈ ALLW := ap_13 (List.mem_of_getElem? (i := 5) rfl)
theorem W_54 : Cond.fieldLink RX2 67 "ClapBank$Evening" "claps" "I" ∈ ALLW := ap_13 (List.mem_of_getElem? (i := 6) rfl)
theorem W_55 : Cond.fieldLink RX2 69 "ClapBank$Evening" "hushed" "I" ∈ ALLW := ap_13 (List.mem_of_getElem? (i := 7) rfl)
theorem W_56 : Cond.fieldLink RX2 72 "ClapBank$Evening" "echo" "I" ∈ ALLW := ap_13 (List.mem_of_getElem? (i := 8) rfl)
theorem W_57 : Cond.methodLink RX2 50 yJ7_fill_53178 ∈ ALLW := ap_13 (List.mem_of_getElem? (i := 9) rfl)
theorem W_58 : Cond.static yJ7_fill_53178 ∈ ALLW := ap_13 (List.mem_of_getElem? (i := 10) rfl)
theorem W_59 : Cond.initialized RJ7 ∈ ALLW := ap_13 (List.mem_of_getElem? (i := 11) rfl)
theorem W_60 : Cond.code yJ7_fill_53178 cJ7_fill_53178 4 none ∈ ALLW := ap_13 (List.mem_of_getElem? (i := 12) rfl)
theorem W_61 : Cond.code yX2_playFirst cX2_playFirst 5 (some .boolean) ∈ ALLW := ap_13 (List.mem_of_getElem? (i := 13) rfl)
theorem W_62 : Cond.methodLink RX2 75 yX2_begin ∈ ALLW := ap_13 (List.mem_of_getElem? (i := 14) rfl)
theorem W_63 : Cond.instanceMethod yX2_begin ∈ ALLW := ap_13 (List.mem_of_getElem? (i := 15) rfl)
theorem W_64 : Cond.selects RX2 yX2_begin yX2_begin ∈ ALLW := ap_13 (List.mem_of_getElem? (i := 16) rfl)
theorem W_65 : Cond.initialized RX2 ∈ ALLW := ap_13 (List.mem_of_getElem? (i := 17) rfl)
theorem W_66 : Cond.methodLink RX2 79 yX2_canBe ∈ ALLW := ap_13 (List.mem_of_getElem? (i := 18) rfl)
theorem W_67 : Cond.instanceMethod yX2_canBe ∈ ALLW := ap_13 (List.mem_of_getElem? (i := 19) rfl)
theorem W_68 : Cond.selects RX2 yX2_canBe yX2_canBe ∈ ALLW := ap_13 (List.mem_of_getElem? (i := 20) rfl)
theorem W_69 : Cond.code yX2_canBe cX2_canBe 6 (some .boolean) ∈ ALLW := ap_13 (List.mem_of_getElem? (i := 21) rfl)
theorem W_70 : Cond.methodLink RX2 120 yX0_part ∈ ALLW := ap_13 (List.mem_of_getElem? (i := 22) rfl)
theorem W_71 : Cond.methodLink RX2 124 yX2_canGive ∈ ALLW := ap_13 (List.mem_of_getElem? (i := 23) rfl)
theorem W_72 : Cond.instanceMethod yX2_canGive ∈ ALLW := ap_14 (List.mem_of_getElem? (i := 0) rfl)
theorem W_73 : Cond.selects RX2 yX2_canGive yX2_canGive ∈ ALLW := ap_14 (List.mem_of_getElem? (i := 1) rfl)
theorem W_74 : Cond.code yX2_canGive cX2_canGive 3 (some .boolean) ∈ ALLW := ap_14 (List.mem_of_getElem? (i := 2) rfl)
theorem W_75 : Cond.methodLink RX2 127 yX2_hasPalm ∈ ALLW := ap_14 (List.mem_of_getElem? (i := 3) rfl)
theorem W_76 : Cond.instanceMethod yX2_hasPalm ∈ ALLW := ap_14 (List.mem_of_getElem? (i := 4) rfl)
theorem W_77 : Cond.selects RX2 yX2_hasPalm yX2_hasPalm ∈ ALLW := ap_14 (List.mem_of_getElem? (i := 5) rfl)
theorem W_78 : Cond.code yX2_hasPalm cX2_hasPalm 2 (some .boolean) ∈ ALLW := ap_14 (List.mem_of_getElem? (i := 6) rfl)
theorem W_79 : Cond.methodLink RX2 130 yX2_isHushed ∈ ALLW := ap_14 (List.mem_of_getElem? (i := 7) rfl)
theorem W_80 : Cond.instanceMethod yX2_isHushed ∈ ALLW := ap_14 (List.mem_of_getElem? (i := 8) rfl)
theorem W_81 : Cond.selects RX2 yX2_isHushed yX2_isHushed ∈ ALLW := ap_14 (List.mem_of_getElem? (i := 9) rfl)
theorem W_82 : Cond.code yX2_isHushed cX2_isHushed 2 (some .boolean) ∈ ALLW := ap_14 (List.mem_of_getElem? (i := 10) rfl)
theorem W_83 : Cond.methodLink RX2 99 yX2_lives ∈ ALLW := ap_14 (List.mem_of_getElem? (i := 11) rfl)
theorem W_84 : Cond.instanceMethod yX2_lives ∈ ALLW := ap_14 (List.mem_of_getElem? (i := 12) rfl)
theorem W_85 : Cond.selects RX2 yX2_lives yX2_lives ∈ ALLW := ap_14 (List.mem_of_getElem? (i := 13) rfl)
theorem W_86 : Cond.code yX2_lives cX2_lives 2 (some .boolean) ∈ ALLW := ap_14 (List.mem_of_getElem? (i := 14) rfl)
theorem W_87 : Cond.methodLink RX2 117 yX2_hasActor ∈ ALLW := ap_14 (List.mem_of_getElem? (i := 15) rfl)
theorem W_88 : Cond.instanceMethod yX2_hasActor ∈ ALLW := ap_14 (List.mem_of_getElem? (i := 16) rfl)
theorem W_89 : Cond.selects RX2 yX2_hasActor yX2_hasActor ∈ ALLW := ap_14 (List.mem_of_getElem? (i := 17) rfl)
theorem W_90 : Cond.code yX2_hasActor cX2_hasActor 2 (some .boolean) ∈ ALLW := ap_14 (List.mem_of_getElem? (i := 18) rfl)
theorem W_91 : Cond.methodLink RX2 83 yX2_act ∈ ALLW := ap_14 (List.mem_of_getElem? (i := 19) rfl)
theorem W_92 : Cond.instanceMethod yX2_act ∈ ALLW := ap_14 (List.mem_of_getElem? (i := 20) rfl)
theorem W_93 : Cond.selects RX2 yX2_act yX2_act ∈ ALLW := ap_14 (List.mem_of_getElem? (i := 21) rfl)
theorem W_94 : Cond.code yX2_act cX2_act 7 none ∈ ALLW := ap_14 (List.mem_of_getElem? (i := 22) rfl)
theorem W_95 : Cond.methodLink RX2 133 yX2_clapFor ∈ ALLW := ap_14 (List.mem_of_getElem? (i := 23) rfl)
theorem W_96 : Cond.instanceMethod yX2_clapFor ∈ ALLW := ap_15 (List.mem_of_getElem? (i := 0) rfl)
theorem W_97 : Cond.selects RX2 yX2_clapFor yX2_clapFor ∈ ALLW := ap_15 (List.mem_of_getElem? (i := 1) rfl)
theorem W_98 : Cond.code yX2_clapFor cX2_clapFor 5 none ∈ ALLW := ap_15 (List.mem_of_getElem? (i := 2) rfl)
theorem W_99 : Cond.methodLink RX2 110 yX2_give ∈ ALLW := ap_15 (List.mem_of_getElem? (i := 3) rfl)
theorem W_100 : Cond.instanceMethod yX2_give ∈ ALLW := ap_15 (List.mem_of_getElem? (i := 4) rfl)
theorem W_101 : Cond.selects RX2 yX2_give yX2_give ∈ ALLW := ap_15 (List.mem_of_getElem? (i := 5) rfl)
theorem W_102 : Cond.code yX2_give cX2_give 3 none ∈ ALLW := ap_15 (List.mem_of_getElem? (i := 6) rfl)
theorem W_103 : Cond.methodLink RX2 137 yX2_move ∈ ALLW := ap_15 (List.mem_of_getElem? (i := 7) rfl)
theorem W_104 : Cond.instanceMethod yX2_move ∈ ALLW := ap_15 (List.mem_of_getElem? (i := 8) rfl)
theorem W_105 : Cond.selects RX2 yX2_move yX2_move ∈ ALLW := ap_15 (List.mem_of_getElem? (i := 9) rfl)
theorem W_106 : Cond.code yX2_move cX2_move 4 none ∈ ALLW := ap_15 (List.mem_of_getElem? (i := 10) rfl)
theorem W_107 : Cond.methodLink RX2 114 yX2_passNight ∈ ALLW := ap_15 (List.mem_of_getElem? (i := 11) rfl)
theorem W_108 : Cond.instanceMethod yX2_passNight ∈ ALLW := ap_15 (List.mem_of_getElem? (i := 12) rfl)
theorem W_109 : Cond.selects RX2 yX2_passNight yX2_passNight ∈ ALLW := ap_15 (List.mem_of_getElem? (i := 13) rfl)
theorem W_110 : Cond.code yX2_passNight cX2_passNight 2 none ∈ ALLW := ap_15 (List.mem_of_getElem? (i := 14) rfl)
theorem W_111 : Cond.methodLink RX2 166 yX2_dine ∈ ALLW := ap_15 (List.mem_of_getElem? (i := 15) rfl)
theorem W_112 : Cond.instanceMethod yX2_dine ∈ ALLW := ap_15 (List.mem_of_getElem? (i := 16) rfl)
theorem W_113 : Cond.selects RX2 yX2_dine yX2_dine ∈ ALLW := ap_15 (List.mem_of_getElem? (i := 17) rfl)
theorem W_114 : Cond.code yX2_dine cX2_dine 3 none ∈ ALLW := ap_15 (List.mem_of_getElem? (i := 18) rfl)
theorem W_115 : Cond.methodLink RX2 146 yX2_price ∈ ALLW := ap_15 (List.mem_of_getElem? (i := 19) rfl)
theorem W_116 : Cond.instanceMethod yX2_price ∈ ALLW := ap_15 (List.mem_of_getElem? (i := 20) rfl)
theorem W_117 : Cond.selects RX2 yX2_price yX2_price ∈ ALLW := ap_15 (List.mem_of_getElem? (i := 21) rfl)
theorem W_118 : Cond.code yX2_price cX2_price 2 (some .int) ∈ ALLW := ap_15 (List.mem_of_getElem? (i := 22) rfl)
theorem W_119 : Cond.methodLink RX2 143 yX2_priceBehind ∈ ALLW := ap_15 (List.mem_of_getElem? (i := 23) rfl)
theorem W_120 : Cond.instanceMethod yX2_priceBehind ∈ ALLW := ap_16 (List.mem_of_getElem? (i := 0) rfl)
theorem W_121 : Cond.selects RX2 yX2_priceBehind yX2_priceBehind ∈ ALLW := ap_16 (List.mem_of_getElem? (i := 1) rfl)
theorem W_122 : Cond.code yX2_priceBehind cX2_priceBehind 3 (some .int) ∈ ALLW := ap_16 (List.mem_of_getElem? (i := 2) rfl)
theorem W_123 : Cond.methodLink RX2 170 yX2_grown ∈ ALLW := ap_16 (List.mem_of_getElem? (i := 3) rfl)
theorem W_124 : Cond.instanceMethod yX2_grown ∈ ALLW := ap_16 (List.mem_of_getElem? (i := 4) rfl)
theorem W_125 : Cond.selects RX2 yX2_grown yX2_grown ∈ ALLW := ap_16 (List.mem_of_getElem? (i := 5) rfl)
theorem W_126 : Cond.code yX2_grown cX2_grown 4 (some .int) ∈ ALLW := ap_16 (List.mem_of_getElem? (i := 6) rfl)
theorem W_127 : Cond.constantLong RX2 158 (100) ∈ ALLW := ap_16 (List.mem_of_getElem? (i := 7) rfl)
theorem W_128 : Cond.constantLong RX2 160 (1000000000) ∈ ALLW := ap_16 (List.mem_of_getElem? (i := 8) rfl)
theorem W_129 : Cond.methodLink RX2 162 Lib.MathLoose.min_long.x ∈ ALLW := ap_16 (List.mem_of_getElem? (i := 9) rfl)
theorem W_130 : Cond.static Lib.MathLoose.min_long.x ∈ ALLW := ap_16 (List.mem_of_getElem? (i := 10) rfl)
theorem W_131 : Cond.initialized "java/lang/Math" ∈ ALLW := ap_16 (List.mem_of_getElem? (i := 11) rfl)
theorem W_132 : Cond.code Lib.MathLoose.min_long.x Lib.MathLoose.min_long.code 4 (some .long) ∈ ALLW := ap_16 (List.mem_of_getElem? (i := 12) rfl)
theorem W_133 : Cond.code yX2_playAll cX2_playAll 4 (some .int) ∈ ALLW := ap_16 (List.mem_of_getElem? (i := 13) rfl)
theorem W_134 : Cond.code yX2_playWithout cX2_playWithout 6 none ∈ ALLW := ap_16 (List.mem_of_getElem? (i := 14) rfl)
theorem W_135 : Cond.methodLink RX2 92 yX0_isOf ∈ ALLW := ap_16 (List.mem_of_getElem? (i := 15) rfl)
theorem W_136 : Cond.instanceMethod yX0_isOf ∈ ALLW := ap_16 (List.mem_of_getElem? (i := 16) rfl)
theorem W_137 : Cond.selects RX0 yX0_isOf yX0_isOf ∈ ALLW := ap_16 (List.mem_of_getElem? (i := 17) rfl)
theorem W_138 : Cond.code yX2_playDrawn cX2_playDrawn 9 none ∈ ALLW := ap_16 (List.mem_of_getElem? (i := 18) rfl)
theorem W_139 : Cond.constant RX2 106 (1103515245) ∈ ALLW := ap_16 (List.mem_of_getElem? (i := 19) rfl)
theorem W_140 : Cond.code yX2_need cX2_need 2 (some .int) ∈ ALLW := ap_16 (List.mem_of_getElem? (i := 20) rfl)
theorem W_141 : Cond.methodLink RX2 150 Lib.Math.max.name ∈ ALLW := ap_16 (List.mem_of_getElem? (i := 21) rfl)
theorem W_142 : Cond.static Lib.Math.max.name ∈ ALLW := ap_16 (List.mem_of_getElem? (i := 22) rfl)
theorem W_143 : Cond.code Lib.Math.max.name Lib.Math.max.code 2 (some .int) ∈ ALLW := ap_16 (List.mem_of_getElem? (i := 23) rfl)
theorem W_144 : Cond.code yX2_living cX2_living 3 (some .int) ∈ ALLW := ap_17 (List.mem_of_getElem? (i := 0) rfl)
theorem W_145 : Cond.code yX2_allLeft cX2_allLeft 3 (some .int) ∈ ALLW := ap_17 (List.mem_of_getElem? (i := 1) rfl)
theorem W_146 : Cond.code yX2_allNeeds cX2_allNeeds 3 (some .int) ∈ ALLW := ap_17 (List.mem_of_getElem? (i := 2) rfl)
theorem W_147 : Cond.methodLink RX2 173 yX2_need ∈ ALLW := ap_17 (List.mem_of_getElem? (i := 3) rfl)
theorem W_148 : Cond.instanceMethod yX2_need ∈ ALLW := ap_17 (List.mem_of_getElem? (i := 4) rfl)
theorem W_149 : Cond.selects RX2 yX2_need yX2_need ∈ ALLW := ap_17 (List.mem_of_getElem? (i := 5) rfl)
theorem W_150 : Cond.code yX2_allSaved cX2_allSaved 3 (some .int) ∈ ALLW := ap_17 (List.mem_of_getElem? (i := 6) rfl)
theorem W_151 : Cond.code yX2_tell cX2_tell 2 (some .int) ∈ ALLW := ap_17 (List.mem_of_getElem? (i := 7) rfl)
theorem W_152 : Cond.methodLink RX2 176 yX2_living ∈ ALLW := ap_17 (List.mem_of_getElem? (i := 8) rfl)
theorem W_153 : Cond.instanceMethod yX2_living ∈ ALLW := ap_17 (List.mem_of_getElem? (i := 9) rfl)
theorem W_154 : Cond.selects RX2 yX2_living yX2_living ∈ ALLW := ap_17 (List.mem_of_getElem? (i := 10) rfl)
theorem W_155 : Cond.methodLink RX2 180 yX2_allSaved ∈ ALLW := ap_17 (List.mem_of_getElem? (i := 11) rfl)
theorem W_156 : Cond.instanceMethod yX2_allSaved ∈ ALLW := ap_17 (List.mem_of_getElem? (i := 12) rfl)
theorem W_157 : Cond.selects RX2 yX2_allSaved yX2_allSaved ∈ ALLW := ap_17 (List.mem_of_getElem? (i := 13) rfl)
theorem W_158 : Cond.code yX2_tellPalm cX2_tellPalm 3 (some .int) ∈ ALLW := ap_17 (List.mem_of_getElem? (i := 14) rfl)
theorem W_159 : Cond.code yX2_tellActor cX2_tellActor 3 (some .int) ∈ ALLW := ap_17 (List.mem_of_getElem? (i := 15) rfl)
theorem W_160 : Cond.methodLink RX2 183 yX2_friday ∈ ALLW := ap_17 (List.mem_of_getElem? (i := 16) rfl)
theorem W_161 : Cond.instanceMethod yX2_friday ∈ ALLW := ap_17 (List.mem_of_getElem? (i := 17) rfl)
theorem W_162 : Cond.selects RX2 yX2_friday yX2_friday ∈ ALLW := ap_17 (List.mem_of_getElem? (i := 18) rfl)
theorem W_163 : Cond.code yX2_friday cX2_friday 3 (some .int) ∈ ALLW := ap_17 (List.mem_of_getElem? (i := 19) rfl)
theorem W_164 : Cond.methodLink RX2 186 yX2_star ∈ ALLW := ap_17 (List.mem_of_getElem? (i := 20) rfl)
theorem W_165 : Cond.instanceMethod yX2_star ∈ ALLW := ap_17 (List.mem_of_getElem? (i := 21) rfl)
theorem W_166 : Cond.selects RX2 yX2_star yX2_star ∈ ALLW := ap_17 (List.mem_of_getElem? (i := 22) rfl)
theorem W_167 : Cond.code yX2_star cX2_star 5 (some .int) ∈ ALLW := ap_17 (List.mem_of_getElem? (i := 23) rfl)
theorem W_168 : Cond.code yX2_doomed cX2_doomed 3 (some .int) ∈ ALLW := ap_18 (List.mem_of_getElem? (i := 0) rfl)
theorem W_169 : Cond.code yX2_danger cX2_danger 5 (some .int) ∈ ALLW := ap_18 (List.mem_of_getElem? (i := 1) rfl)
theorem W_170 : Cond.methodLink RX2 189 yX2_doomed ∈ ALLW := ap_18 (List.mem_of_getElem? (i := 2) rfl)
theorem W_171 : Cond.instanceMethod yX2_doomed ∈ ALLW := ap_18 (List.mem_of_getElem? (i := 3) rfl)
theorem W_172 : Cond.selects RX2 yX2_doomed yX2_doomed ∈ ALLW := ap_18 (List.mem_of_getElem? (i := 4) rfl)
theorem W_173 : Cond.methodLink RX2 192 yX2_pricesOf ∈ ALLW := ap_18 (List.mem_of_getElem? (i := 5) rfl)
theorem W_174 : Cond.instanceMethod yX2_pricesOf ∈ ALLW := ap_18 (List.mem_of_getElem? (i := 6) rfl)
theorem W_175 : Cond.selects RX2 yX2_pricesOf yX2_pricesOf ∈ ALLW := ap_18 (List.mem_of_getElem? (i := 7) rfl)
theorem W_176 : Cond.code yX2_pricesOf cX2_pricesOf 4 (some .int) ∈ ALLW := ap_18 (List.mem_of_getElem? (i := 8) rfl)
theorem W_177 : Cond.methodLink RX2 195 yX2_dearerThan ∈ ALLW := ap_18 (List.mem_of_getElem? (i := 9) rfl)
theorem W_178 : Cond.instanceMethod yX2_dearerThan ∈ ALLW := ap_18 (List.mem_of_getElem? (i := 10) rfl)
theorem W_179 : Cond.selects RX2 yX2_dearerThan yX2_dearerThan ∈ ALLW := ap_18 (List.mem_of_getElem? (i := 11) rfl)
theorem W_180 : Cond.code yX2_dearerThan cX2_dearerThan 4 (some .int) ∈ ALLW := ap_18 (List.mem_of_getElem? (i := 12) rfl)
theorem W_181 : Cond.code yX2_loan cX2_loan 6 (some .int) ∈ ALLW := ap_18 (List.mem_of_getElem? (i := 13) rfl)
theorem W_182 : Cond.code yX2_idol cX2_idol 6 (some .int) ∈ ALLW := ap_18 (List.mem_of_getElem? (i := 14) rfl)
theorem W_183 : Cond.code yX2_tip cX2_tip 3 (some .int) ∈ ALLW := ap_18 (List.mem_of_getElem? (i := 15) rfl)
theorem W_184 : Cond.methodLink RX2 198 yX2_eatsWith ∈ ALLW := ap_18 (List.mem_of_getElem? (i := 16) rfl)
theorem W_185 : Cond.instanceMethod yX2_eatsWith ∈ ALLW := ap_18 (List.mem_of_getElem? (i := 17) rfl)
theorem W_186 : Cond.selects RX2 yX2_eatsWith yX2_eatsWith ∈ ALLW := ap_18 (List.mem_of_getElem? (i := 18) rfl)
theorem W_187 : Cond.code yX2_eatsWith cX2_eatsWith 5 (some .boolean) ∈ ALLW := ap_18 (List.mem_of_getElem? (i := 19) rfl)
theorem W_188 : Cond.code yX2_dear cX2_dear 3 (some .int) ∈ ALLW := ap_18 (List.mem_of_getElem? (i := 20) rfl)
theorem W_189 : Cond.code yX3_init cX3_init 1 none ∈ ALLW := ap_18 (List.mem_of_getElem? (i := 21) rfl)
theorem W_190 : Cond.methodLink RX3 3 objectInit ∈ ALLW := ap_18 (List.mem_of_getElem? (i := 22) rfl)
theorem W_191 : Cond.code yX3_lay cX3_lay 6 none ∈ ALLW := ap_18 (List.mem_of_getElem? (i := 23) rfl)
theorem W_192 : Cond.fieldLink RX3 32 "ClapBank$Feast" "who" "I" ∈ ALLW := ap_19 (List.mem_of_getElem? (i := 0) rfl)
theorem W_193 : Cond.fieldLink RX3 37 "ClapBank$Feast" "two" "I" ∈ ALLW := ap_19 (List.mem_of_getElem? (i := 1) rfl)
theorem W_194 : Cond.fieldLink RX3 40 "ClapBank$Feast" "one" "I" ∈ ALLW := ap_19 (List.mem_of_getElem? (i := 2) rfl)
theorem W_195 : Cond.methodLink RX3 21 yX2_isHushed ∈ ALLW := ap_19 (List.mem_of_getElem? (i := 3) rfl)
theorem W_196 : Cond.methodLink RX3 43 yX2_living ∈ ALLW := ap_19 (List.mem_of_getElem? (i := 4) rfl)
theorem W_197 : Cond.methodLink RX3 47 yX3_tryGuests ∈ ALLW := ap_19 (List.mem_of_getElem? (i := 5) rfl)
theorem W_198 : Cond.instanceMethod yX3_tryGuests ∈ ALLW := ap_19 (List.mem_of_getElem? (i := 6) rfl)
theorem W_199 : Cond.selects RX3 yX3_tryGuests yX3_tryGuests ∈ ALLW := ap_19 (List.mem_of_getElem? (i := 7) rfl)
theorem W_200 : Cond.initialized RX3 ∈ ALLW := ap_19 (List.mem_of_getElem? (i := 8) rfl)
theorem W_201 : Cond.code yX3_tryGuests cX3_tryGuests 9 none ∈ ALLW := ap_19 (List.mem_of_getElem? (i := 9) rfl)
theorem W_202 : Cond.methodLink RX3 55 Lib.Math.min.name ∈ ALLW := ap_19 (List.mem_of_getElem? (i := 10) rfl)
theorem W_203 : Cond.static Lib.Math.min.name ∈ ALLW := ap_19 (List.mem_of_getElem? (i := 11) rfl)
theorem W_204 : Cond.code Lib.Math.min.name Lib.Math.min.code 2 (some .int) ∈ ALLW := ap_19 (List.mem_of_getElem? (i := 12) rfl)
theorem W_205 : Cond.methodLink RX3 51 yX2_need ∈ ALLW := ap_19 (List.mem_of_getElem? (i := 13) rfl)
theorem W_206 : Cond.methodLink RX3 61 yX3_isBetter ∈ ALLW := ap_19 (List.mem_of_getElem? (i := 14) rfl)
theorem W_207 : Cond.instanceMethod yX3_isBetter ∈ ALLW := ap_19 (List.mem_of_getElem? (i := 15) rfl)
theorem W_208 : Cond.selects RX3 yX3_isBetter yX3_isBetter ∈ ALLW := ap_19 (List.mem_of_getElem? (i := 16) rfl)
theorem W_209 : Cond.code yX3_isBetter cX3_isBetter 6 (some .boolean) ∈ ALLW := ap_19 (List.mem_of_getElem? (i := 17) rfl)
theorem W_210 : Cond.methodLink RX3 65 yJ6_bitCount_0f7a4 ∈ ALLW := ap_19 (List.mem_of_getElem? (i := 18) rfl)
theorem W_211 : Cond.static yJ6_bitCount_0f7a4 ∈ ALLW := ap_19 (List.mem_of_getElem? (i := 19) rfl)
theorem W_212 : Cond.initialized RJ6 ∈ ALLW := ap_19 (List.mem_of_getElem? (i := 20) rfl)
theorem W_213 : Cond.code yJ6_bitCount_0f7a4 cJ6_bitCount_0f7a4 1 (some .int) ∈ ALLW := ap_19 (List.mem_of_getElem? (i := 21) rfl)
theorem W_214 : Cond.constant RJ6 265 (1431655765) ∈ ALLW := ap_19 (List.mem_of_getElem? (i := 22) rfl)
theorem W_215 : Cond.constant RJ6 266 (858993459) ∈ ALLW := ap_19 (List.mem_of_getElem? (i := 23) rfl)
theorem W_216 : Cond.constant RJ6 267 (252645135) ∈ ALLW := ap_20 (List.mem_of_getElem? (i := 0) rfl)
theorem W_217 : Cond.code yX3_tell cX3_tell 2 (some .int) ∈ ALLW := ap_20 (List.mem_of_getElem? (i := 1) rfl)
theorem W_218 : Cond.code yX4_init cX4_init 1 none ∈ ALLW := ap_20 (List.mem_of_getElem? (i := 2) rfl)
theorem W_219 : Cond.methodLink RX4 3 objectInit ∈ ALLW := ap_20 (List.mem_of_getElem? (i := 3) rfl)
theorem W_220 : Cond.classLink RX4 9 RX7 ∈ ALLW := ap_20 (List.mem_of_getElem? (i := 4) rfl)
theorem W_221 : Cond.fieldLink RX4 12 "ClapBank$Hearing" "house" "LClapBank$Theatre;" ∈ ALLW := ap_20 (List.mem_of_getElem? (i := 5) rfl)
theorem W_222 : Cond.classLink RX4 18 RX1 ∈ ALLW := ap_20 (List.mem_of_getElem? (i := 6) rfl)
theorem W_223 : Cond.instantiable RX1 2 ∈ ALLW := ap_20 (List.mem_of_getElem? (i := 7) rfl)
theorem W_224 : Cond.initialized RX1 ∈ ALLW := ap_20 (List.mem_of_getElem? (i := 8) rfl)
theorem W_225 : Cond.fieldLink RX4 21 "ClapBank$Hearing" "dark" "LClapBank$Dark;" ∈ ALLW := ap_20 (List.mem_of_getElem? (i := 9) rfl)
theorem W_226 : Cond.fieldLink RX4 25 "ClapBank$Hearing" "early" "[I" ∈ ALLW := ap_20 (List.mem_of_getElem? (i := 10) rfl)
theorem W_227 : Cond.fieldLink RX4 29 "ClapBank$Hearing" "late" "[I" ∈ ALLW := ap_20 (List.mem_of_getElem? (i := 11) rfl)
theorem W_228 : Cond.fieldLink RX4 32 "ClapBank$Hearing" "halvesOf" "[I" ∈ ALLW := ap_20 (List.mem_of_getElem? (i := 12) rfl)
theorem W_229 : Cond.fieldLink RX4 35 "ClapBank$Hearing" "onceOf" "[I" ∈ ALLW := ap_20 (List.mem_of_getElem? (i := 13) rfl)
theorem W_230 : Cond.instanceMethod yX1_init ∈ ALLW := ap_20 (List.mem_of_getElem? (i := 14) rfl)
theorem W_231 : Cond.code yX4_listen cX4_listen 5 none ∈ ALLW := ap_20 (List.mem_of_getElem? (i := 15) rfl)
theorem W_232 : Cond.fieldLink RX4 38 "ClapBank$Hearing" "sets" "I" ∈ ALLW := ap_20 (List.mem_of_getElem? (i := 16) rfl)
theorem W_233 : Cond.code yX4_tally cX4_tally 7 (some .long) ∈ ALLW := ap_20 (List.mem_of_getElem? (i := 17) rfl)
theorem W_234 : Cond.methodLink RX4 51 Lib.Math.min.name ∈ ALLW := ap_20 (List.mem_of_getElem? (i := 18) rfl)
theorem W_235 : Cond.methodLink RX4 57 yX4_fill ∈ ALLW := ap_20 (List.mem_of_getElem? (i := 19) rfl)
theorem W_236 : Cond.instanceMethod yX4_fill ∈ ALLW := ap_20 (List.mem_of_getElem? (i := 20) rfl)
theorem W_237 : Cond.selects RX4 yX4_fill yX4_fill ∈ ALLW := ap_20 (List.mem_of_getElem? (i := 21) rfl)
theorem W_238 : Cond.initialized RX4 ∈ ALLW := ap_20 (List.mem_of_getElem? (i := 22) rfl)
theorem W_239 : Cond.code yX4_fill cX4_fill 8 none ∈ ALLW := ap_20 (List.mem_of_getElem? (i := 23) rfl)
theorem W_240 : Cond.methodLink RX4 69 yJ7_fill_53178 ∈ ALLW := ap_21 (List.mem_of_getElem? (i := 0) rfl)
theorem W_241 : Cond.methodLink RX4 77 yX4_spread ∈ ALLW := ap_21 (List.mem_of_getElem? (i := 1) rfl)
theorem W_242 : Cond.instanceMethod yX4_spread ∈ ALLW := ap_21 (List.mem_of_getElem? (i := 2) rfl)
theorem W_243 : Cond.selects RX4 yX4_spread yX4_spread ∈ ALLW := ap_21 (List.mem_of_getElem? (i := 3) rfl)
theorem W_244 : Cond.code yX4_spread cX4_spread 8 none ∈ ALLW := ap_21 (List.mem_of_getElem? (i := 4) rfl)
theorem W_245 : Cond.methodLink RX4 61 yX4_addUp ∈ ALLW := ap_21 (List.mem_of_getElem? (i := 5) rfl)
theorem W_246 : Cond.static yX4_addUp ∈ ALLW := ap_21 (List.mem_of_getElem? (i := 6) rfl)
theorem W_247 : Cond.code yX4_addUp cX4_addUp 3 none ∈ ALLW := ap_21 (List.mem_of_getElem? (i := 7) rfl)
theorem W_248 : Cond.methodLink RX4 65 yX4_roomBehind ∈ ALLW := ap_21 (List.mem_of_getElem? (i := 8) rfl)
theorem W_249 : Cond.instanceMethod yX4_roomBehind ∈ ALLW := ap_21 (List.mem_of_getElem? (i := 9) rfl)
theorem W_250 : Cond.selects RX4 yX4_roomBehind yX4_roomBehind ∈ ALLW := ap_21 (List.mem_of_getElem? (i := 10) rfl)
theorem W_251 : Cond.code yX4_roomBehind cX4_roomBehind 5 (some .int) ∈ ALLW := ap_21 (List.mem_of_getElem? (i := 11) rfl)
theorem W_252 : Cond.code yX4_compareMinute cX4_compareMinute 3 none ∈ ALLW := ap_21 (List.mem_of_getElem? (i := 12) rfl)
theorem W_253 : Cond.fieldLink RX4 84 "ClapBank$Hearing" "any" "I" ∈ ALLW := ap_21 (List.mem_of_getElem? (i := 13) rfl)
theorem W_254 : Cond.fieldLink RX4 87 "ClapBank$Hearing" "all" "I" ∈ ALLW := ap_21 (List.mem_of_getElem? (i := 14) rfl)
theorem W_255 : Cond.methodLink RX4 90 yX4_tally ∈ ALLW := ap_21 (List.mem_of_getElem? (i := 15) rfl)
theorem W_256 : Cond.instanceMethod yX4_tally ∈ ALLW := ap_21 (List.mem_of_getElem? (i := 16) rfl)
theorem W_257 : Cond.selects RX4 yX4_tally yX4_tally ∈ ALLW := ap_21 (List.mem_of_getElem? (i := 17) rfl)
theorem W_258 : Cond.code yX5_init cX5_init 1 none ∈ ALLW := ap_21 (List.mem_of_getElem? (i := 18) rfl)
theorem W_259 : Cond.methodLink RX5 3 objectInit ∈ ALLW := ap_21 (List.mem_of_getElem? (i := 19) rfl)
theorem W_260 : Cond.classLink RX5 9 RX7 ∈ ALLW := ap_21 (List.mem_of_getElem? (i := 20) rfl)
theorem W_261 : Cond.fieldLink RX5 12 "ClapBank$Reader" "theatre" "LClapBank$Theatre;" ∈ ALLW := ap_21 (List.mem_of_getElem? (i := 21) rfl)
theorem W_262 : Cond.classLink RX5 18 RX0 ∈ ALLW := ap_21 (List.mem_of_getElem? (i := 22) rfl)
theorem W_263 : Cond.instantiable RX0 2 ∈ ALLW := ap_21 (List.mem_of_getElem? (i := 23) rfl)
theorem W_264 : Cond.fieldLink RX5 21 "ClapBank$Reader" "book" "LClapBank$Book;" ∈ ALLW := ap_22 (List.mem_of_getElem? (i := 0) rfl)
theorem W_265 : Cond.classLink RX5 25 RX1 ∈ ALLW := ap_22 (List.mem_of_getElem? (i := 1) rfl)
theorem W_266 : Cond.fieldLink RX5 28 "ClapBank$Reader" "dark" "LClapBank$Dark;" ∈ ALLW := ap_22 (List.mem_of_getElem? (i := 2) rfl)
theorem W_267 : Cond.fieldLink RX5 32 "ClapBank$Reader" "numbers" "[I" ∈ ALLW := ap_22 (List.mem_of_getElem? (i := 3) rfl)
theorem W_268 : Cond.instanceMethod yX0_init ∈ ALLW := ap_22 (List.mem_of_getElem? (i := 4) rfl)
theorem W_269 : Cond.code yX5_read cX5_read 5 none ∈ ALLW := ap_22 (List.mem_of_getElem? (i := 5) rfl)
theorem W_270 : Cond.fieldLink RX5 46 "ClapBank$Reader" "fault" "I" ∈ ALLW := ap_22 (List.mem_of_getElem? (i := 6) rfl)
theorem W_271 : Cond.fieldLink RX5 49 "ClapBank$Reader" "place" "I" ∈ ALLW := ap_22 (List.mem_of_getElem? (i := 7) rfl)
theorem W_272 : Cond.fieldLink RX5 52 "ClapBank$Reader" "to" "I" ∈ ALLW := ap_22 (List.mem_of_getElem? (i := 8) rfl)
theorem W_273 : Cond.fieldLink RX5 59 "ClapBank$Reader" "token" "I" ∈ ALLW := ap_22 (List.mem_of_getElem? (i := 9) rfl)
theorem W_274 : Cond.methodLink RX5 36 yX7_clear ∈ ALLW := ap_22 (List.mem_of_getElem? (i := 10) rfl)
theorem W_275 : Cond.instanceMethod yX7_clear ∈ ALLW := ap_22 (List.mem_of_getElem? (i := 11) rfl)
theorem W_276 : Cond.selects RX7 yX7_clear yX7_clear ∈ ALLW := ap_22 (List.mem_of_getElem? (i := 12) rfl)
theorem W_277 : Cond.code yX7_clear cX7_clear 1 none ∈ ALLW := ap_22 (List.mem_of_getElem? (i := 13) rfl)
theorem W_278 : Cond.fieldLink RX7 30 "ClapBank$Theatre" "palms" "I" ∈ ALLW := ap_22 (List.mem_of_getElem? (i := 14) rfl)
theorem W_279 : Cond.fieldLink RX7 34 "ClapBank$Theatre" "actors" "I" ∈ ALLW := ap_22 (List.mem_of_getElem? (i := 15) rfl)
theorem W_280 : Cond.fieldLink RX7 37 "ClapBank$Theatre" "usurers" "I" ∈ ALLW := ap_22 (List.mem_of_getElem? (i := 16) rfl)
theorem W_281 : Cond.fieldLink RX7 40 "ClapBank$Theatre" "rate" "I" ∈ ALLW := ap_22 (List.mem_of_getElem? (i := 17) rfl)
theorem W_282 : Cond.fieldLink RX7 43 "ClapBank$Theatre" "chest" "I" ∈ ALLW := ap_22 (List.mem_of_getElem? (i := 18) rfl)
theorem W_283 : Cond.fieldLink RX7 46 "ClapBank$Theatre" "borrowers" "I" ∈ ALLW := ap_22 (List.mem_of_getElem? (i := 19) rfl)
theorem W_284 : Cond.methodLink RX5 55 yX5_step ∈ ALLW := ap_22 (List.mem_of_getElem? (i := 20) rfl)
theorem W_285 : Cond.instanceMethod yX5_step ∈ ALLW := ap_22 (List.mem_of_getElem? (i := 21) rfl)
theorem W_286 : Cond.selects RX5 yX5_step yX5_step ∈ ALLW := ap_22 (List.mem_of_getElem? (i := 22) rfl)
theorem W_287 : Cond.initialized RX5 ∈ ALLW := ap_22 (List.mem_of_getElem? (i := 23) rfl)
theorem W_288 : Cond.code yX5_step cX5_step 4 none ∈ ALLW := ap_23 (List.mem_of_getElem? (i := 0) rfl)
theorem W_289 : Cond.fieldLink RX5 101 "ClapBank$Reader" "from" "I" ∈ ALLW := ap_23 (List.mem_of_getElem? (i := 1) rfl)
theorem W_290 : Cond.fieldLink RX5 91 "ClapBank$Reader" "value" "I" ∈ ALLW := ap_23 (List.mem_of_getElem? (i := 2) rfl)
theorem W_291 : Cond.methodLink RX5 111 Lib.Math.min.name ∈ ALLW := ap_23 (List.mem_of_getElem? (i := 3) rfl)
theorem W_292 : Cond.methodLink RX5 104 yX5_isLetter ∈ ALLW := ap_23 (List.mem_of_getElem? (i := 4) rfl)
theorem W_293 : Cond.static yX5_isLetter ∈ ALLW := ap_23 (List.mem_of_getElem? (i := 5) rfl)
theorem W_294 : Cond.code yX5_isLetter cX5_isLetter 1 (some .boolean) ∈ ALLW := ap_23 (List.mem_of_getElem? (i := 6) rfl)
theorem W_295 : Cond.methodLink RX5 108 yX5_isDigit ∈ ALLW := ap_23 (List.mem_of_getElem? (i := 7) rfl)
theorem W_296 : Cond.static yX5_isDigit ∈ ALLW := ap_23 (List.mem_of_getElem? (i := 8) rfl)
theorem W_297 : Cond.code yX5_isDigit cX5_isDigit 1 (some .boolean) ∈ ALLW := ap_23 (List.mem_of_getElem? (i := 9) rfl)
theorem W_298 : Cond.methodLink RX5 62 yX5_readLine ∈ ALLW := ap_23 (List.mem_of_getElem? (i := 10) rfl)
theorem W_299 : Cond.instanceMethod yX5_readLine ∈ ALLW := ap_23 (List.mem_of_getElem? (i := 11) rfl)
theorem W_300 : Cond.selects RX5 yX5_readLine yX5_readLine ∈ ALLW := ap_23 (List.mem_of_getElem? (i := 12) rfl)
theorem W_301 : Cond.code yX5_readLine cX5_readLine 6 (some .boolean) ∈ ALLW := ap_23 (List.mem_of_getElem? (i := 13) rfl)
theorem W_302 : Cond.fieldLink RX5 88 "ClapBank$Reader" "NUMBERS" "[I" ∈ ALLW := ap_23 (List.mem_of_getElem? (i := 14) rfl)
theorem W_303 : Cond.methodLink RX5 66 yX5_kindOf ∈ ALLW := ap_23 (List.mem_of_getElem? (i := 15) rfl)
theorem W_304 : Cond.instanceMethod yX5_kindOf ∈ ALLW := ap_23 (List.mem_of_getElem? (i := 16) rfl)
theorem W_305 : Cond.selects RX5 yX5_kindOf yX5_kindOf ∈ ALLW := ap_23 (List.mem_of_getElem? (i := 17) rfl)
theorem W_306 : Cond.code yX5_kindOf cX5_kindOf 4 (some .int) ∈ ALLW := ap_23 (List.mem_of_getElem? (i := 18) rfl)
theorem W_307 : Cond.fieldLink RX5 117 "ClapBank$Reader" "FIRST_LINE" "[I" ∈ ALLW := ap_23 (List.mem_of_getElem? (i := 19) rfl)
theorem W_308 : Cond.methodLink RX5 120 yX5_wordOf ∈ ALLW := ap_23 (List.mem_of_getElem? (i := 20) rfl)
theorem W_309 : Cond.static yX5_wordOf ∈ ALLW := ap_23 (List.mem_of_getElem? (i := 21) rfl)
theorem W_310 : Cond.code yX5_wordOf cX5_wordOf 1 (some (.object "java/lang/String")) ∈ ALLW := ap_23 (List.mem_of_getElem? (i := 22) rfl)
theorem W_311 : Cond.methodLink RX5 124 yX5_spells ∈ ALLW := ap_23 (List.mem_of_getElem? (i := 23) rfl)
theorem W_312 : Cond.instanceMethod yX5_spells ∈ ALLW := ap_24 (List.mem_of_getElem? (i := 0) rfl)
theorem W_313 : Cond.selects RX5 yX5_spells yX5_spells ∈ ALLW := ap_24 (List.mem_of_getElem? (i := 1) rfl)
theorem W_314 : Cond.code yX5_spells cX5_spells 4 (some .boolean) ∈ ALLW := ap_24 (List.mem_of_getElem? (i := 2) rfl)
theorem W_315 : Cond.methodLink RX5 128 yJ0_length_8abf5 ∈ ALLW := ap_24 (List.mem_of_getElem? (i := 3) rfl)
theorem W_316 : Cond.instanceMethod yJ0_length_8abf5 ∈ ALLW := ap_24 (List.mem_of_getElem? (i := 4) rfl)
theorem W_317 : Cond.selects RJ0 yJ0_length_8abf5 yJ0_length_8abf5 ∈ ALLW := ap_24 (List.mem_of_getElem? (i := 5) rfl)
theorem W_318 : Cond.initialized RJ0 ∈ ALLW := ap_24 (List.mem_of_getElem? (i := 6) rfl)
theorem W_319 : Cond.code yJ0_length_8abf5 cJ0_length_8abf5 1 (some .int) ∈ ALLW := ap_24 (List.mem_of_getElem? (i := 7) rfl)
theorem W_320 : Cond.fieldLink RJ0 9 "java/lang/String" "value" "[B" ∈ ALLW := ap_24 (List.mem_of_getElem? (i := 8) rfl)
theorem W_321 : Cond.methodLink RJ0 335 yJ0_coder_7d493 ∈ ALLW := ap_24 (List.mem_of_getElem? (i := 9) rfl)
theorem W_322 : Cond.instanceMethod yJ0_coder_7d493 ∈ ALLW := ap_24 (List.mem_of_getElem? (i := 10) rfl)
theorem W_323 : Cond.selects RJ0 yJ0_coder_7d493 yJ0_coder_7d493 ∈ ALLW := ap_24 (List.mem_of_getElem? (i := 11) rfl)
theorem W_324 : Cond.code yJ0_coder_7d493 cJ0_coder_7d493 1 (some .byte) ∈ ALLW := ap_24 (List.mem_of_getElem? (i := 12) rfl)
theorem W_325 : Cond.fieldLink RJ0 38 "java/lang/String" "COMPACT_STRINGS" "Z" ∈ ALLW := ap_24 (List.mem_of_getElem? (i := 13) rfl)
theorem W_326 : Cond.fieldLink RJ0 15 "java/lang/String" "coder" "B" ∈ ALLW := ap_24 (List.mem_of_getElem? (i := 14) rfl)
theorem W_327 : Cond.methodLink RX5 134 yJ0_charAt_5068e ∈ ALLW := ap_24 (List.mem_of_getElem? (i := 15) rfl)
theorem W_328 : Cond.instanceMethod yJ0_charAt_5068e ∈ ALLW := ap_24 (List.mem_of_getElem? (i := 16) rfl)
theorem W_329 : Cond.selects RJ0 yJ0_charAt_5068e yJ0_charAt_5068e ∈ ALLW := ap_24 (List.mem_of_getElem? (i := 17) rfl)
theorem W_330 : Cond.code yJ0_charAt_5068e cJ0_charAt_5068e 2 (some .char) ∈ ALLW := ap_24 (List.mem_of_getElem? (i := 18) rfl)
theorem W_331 : Cond.methodLink RJ0 492 yJ0_isLatin1_aae02 ∈ ALLW := ap_24 (List.mem_of_getElem? (i := 19) rfl)
theorem W_332 : Cond.instanceMethod yJ0_isLatin1_aae02 ∈ ALLW := ap_24 (List.mem_of_getElem? (i := 20) rfl)
theorem W_333 : Cond.selects RJ0 yJ0_isLatin1_aae02 yJ0_isLatin1_aae02 ∈ ALLW := ap_24 (List.mem_of_getElem? (i := 21) rfl)
theorem W_334 : Cond.code yJ0_isLatin1_aae02 cJ0_isLatin1_aae02 1 (some .boolean) ∈ ALLW := ap_24 (List.mem_of_getElem? (i := 22) rfl)
theorem W_335 : Cond.methodLink RJ0 495 yJ1_charAt_3b067 ∈ ALLW := ap_24 (List.mem_of_getElem? (i := 23) rfl)
theorem W_336 : Cond.static yJ1_charAt_3b067 ∈ ALLW := ap_25 (List.mem_of_getElem? (i := 0) rfl)
theorem W_337 : Cond.initialized RJ1 ∈ ALLW := ap_25 (List.mem_of_getElem? (i := 1) rfl)
theorem W_338 : Cond.code yJ1_charAt_3b067 cJ1_charAt_3b067 2 (some .char) ∈ ALLW := ap_25 (List.mem_of_getElem? (i := 2) rfl)
theorem W_339 : Cond.methodLink RJ1 9 yJ0_checkIndex_df160 ∈ ALLW := ap_25 (List.mem_of_getElem? (i := 3) rfl)
theorem W_340 : Cond.static yJ0_checkIndex_df160 ∈ ALLW := ap_25 (List.mem_of_getElem? (i := 4) rfl)
theorem W_341 : Cond.code yJ0_checkIndex_df160 cJ0_checkIndex_df160 2 none ∈ ALLW := ap_25 (List.mem_of_getElem? (i := 5) rfl)
theorem W_342 : Cond.fieldLink RJ0 1053 "jdk/internal/util/Preconditions" "SIOOBE_FORMATTER" "Ljava/util/function/BiFunction;" ∈ ALLW := ap_25 (List.mem_of_getElem? (i := 6) rfl)
theorem W_343 : Cond.methodLink RJ0 1059 yJ3_checkIndex_8e157 ∈ ALLW := ap_25 (List.mem_of_getElem? (i := 7) rfl)
theorem W_344 : Cond.static yJ3_checkIndex_8e157 ∈ ALLW := ap_25 (List.mem_of_getElem? (i := 8) rfl)
theorem W_345 : Cond.initialized RJ3 ∈ ALLW := ap_25 (List.mem_of_getElem? (i := 9) rfl)
theorem W_346 : Cond.code yJ3_checkIndex_8e157 cJ3_checkIndex_8e157 3 (some .int) ∈ ALLW := ap_25 (List.mem_of_getElem? (i := 10) rfl)
theorem W_347 : Cond.methodLink RJ0 498 yJ2_charAt_3b067 ∈ ALLW := ap_25 (List.mem_of_getElem? (i := 11) rfl)
theorem W_348 : Cond.static yJ2_charAt_3b067 ∈ ALLW := ap_25 (List.mem_of_getElem? (i := 12) rfl)
theorem W_349 : Cond.initialized RJ2 ∈ ALLW := ap_25 (List.mem_of_getElem? (i := 13) rfl)
theorem W_350 : Cond.code yJ2_charAt_3b067 cJ2_charAt_3b067 2 (some .char) ∈ ALLW := ap_25 (List.mem_of_getElem? (i := 14) rfl)
theorem W_351 : Cond.methodLink RJ2 67 yJ2_checkIndex_2214a ∈ ALLW := ap_25 (List.mem_of_getElem? (i := 15) rfl)
theorem W_352 : Cond.static yJ2_checkIndex_2214a ∈ ALLW := ap_25 (List.mem_of_getElem? (i := 16) rfl)
theorem W_353 : Cond.code yJ2_checkIndex_2214a cJ2_checkIndex_2214a 2 none ∈ ALLW := ap_25 (List.mem_of_getElem? (i := 17) rfl)
theorem W_354 : Cond.methodLink RJ2 48 yJ2_length_9d52b ∈ ALLW := ap_25 (List.mem_of_getElem? (i := 18) rfl)
theorem W_355 : Cond.static yJ2_length_9d52b ∈ ALLW := ap_25 (List.mem_of_getElem? (i := 19) rfl)
theorem W_356 : Cond.code yJ2_length_9d52b cJ2_length_9d52b 1 (some .int) ∈ ALLW := ap_25 (List.mem_of_getElem? (i := 20) rfl)
theorem W_357 : Cond.methodLink RJ2 414 yJ0_checkIndex_df160 ∈ ALLW := ap_25 (List.mem_of_getElem? (i := 21) rfl)
theorem W_358 : Cond.methodLink RJ2 71 yJ2_getChar_3b067 ∈ ALLW := ap_25 (List.mem_of_getElem? (i := 22) rfl)
theorem W_359 : Cond.static yJ2_getChar_3b067 ∈ ALLW := ap_25 (List.mem_of_getElem? (i := 23) rfl)
theorem W_360 : Cond.code yJ2_getChar_3b067 cJ2_getChar_3b067 2 (some .char) ∈ ALLW := ap_26 (List.mem_of_getElem? (i := 0) rfl)
theorem W_361 : Cond.fieldLink RJ2 44 "java/lang/StringUTF16" "$assertionsDisabled" "Z" ∈ ALLW := ap_26 (List.mem_of_getElem? (i := 1) rfl)
theorem W_362 : Cond.fieldLink RJ2 59 "java/lang/StringUTF16" "HI_BYTE_SHIFT" "I" ∈ ALLW := ap_26 (List.mem_of_getElem? (i := 2) rfl)
theorem W_363 : Cond.fieldLink RJ2 63 "java/lang/StringUTF16" "LO_BYTE_SHIFT" "I" ∈ ALLW := ap_26 (List.mem_of_getElem? (i := 3) rfl)
theorem W_364 : Cond.methodLink RX5 70 yX5_refuse ∈ ALLW := ap_26 (List.mem_of_getElem? (i := 4) rfl)
theorem W_365 : Cond.instanceMethod yX5_refuse ∈ ALLW := ap_26 (List.mem_of_getElem? (i := 5) rfl)
theorem W_366 : Cond.selects RX5 yX5_refuse yX5_refuse ∈ ALLW := ap_26 (List.mem_of_getElem? (i := 6) rfl)
theorem W_367 : Cond.code yX5_refuse cX5_refuse 1 (some .boolean) ∈ ALLW := ap_26 (List.mem_of_getElem? (i := 7) rfl)
theorem W_368 : Cond.methodLink RX5 74 yX5_isFull ∈ ALLW := ap_26 (List.mem_of_getElem? (i := 8) rfl)
theorem W_369 : Cond.instanceMethod yX5_isFull ∈ ALLW := ap_26 (List.mem_of_getElem? (i := 9) rfl)
theorem W_370 : Cond.selects RX5 yX5_isFull yX5_isFull ∈ ALLW := ap_26 (List.mem_of_getElem? (i := 10) rfl)
theorem W_371 : Cond.code yX5_isFull cX5_isFull 2 (some .boolean) ∈ ALLW := ap_26 (List.mem_of_getElem? (i := 11) rfl)
theorem W_372 : Cond.methodLink RX5 78 yX5_note ∈ ALLW := ap_26 (List.mem_of_getElem? (i := 12) rfl)
theorem W_373 : Cond.instanceMethod yX5_note ∈ ALLW := ap_26 (List.mem_of_getElem? (i := 13) rfl)
theorem W_374 : Cond.selects RX5 yX5_note yX5_note ∈ ALLW := ap_26 (List.mem_of_getElem? (i := 14) rfl)
theorem W_375 : Cond.code yX5_note cX5_note 2 none ∈ ALLW := ap_26 (List.mem_of_getElem? (i := 15) rfl)
theorem W_376 : Cond.methodLink RX5 82 yJ7_fill_53178 ∈ ALLW := ap_26 (List.mem_of_getElem? (i := 16) rfl)
theorem W_377 : Cond.methodLink RX5 94 yX5_cannotBe ∈ ALLW := ap_26 (List.mem_of_getElem? (i := 17) rfl)
theorem W_378 : Cond.instanceMethod yX5_cannotBe ∈ ALLW := ap_26 (List.mem_of_getElem? (i := 18) rfl)
theorem W_379 : Cond.selects RX5 yX5_cannotBe yX5_cannotBe ∈ ALLW := ap_26 (List.mem_of_getElem? (i := 19) rfl)
theorem W_380 : Cond.code yX5_cannotBe cX5_cannotBe 5 (some .boolean) ∈ ALLW := ap_26 (List.mem_of_getElem? (i := 20) rfl)
theorem W_381 : Cond.fieldLink RX5 175 "ClapBank$Reader" "LEAST" "[I" ∈ ALLW := ap_26 (List.mem_of_getElem? (i := 21) rfl)
theorem W_382 : Cond.fieldLink RX5 178 "ClapBank$Reader" "HIGHEST" "[I" ∈ ALLW := ap_26 (List.mem_of_getElem? (i := 22) rfl)
theorem W_383 : Cond.methodLink RX5 98 yX5_keepLine ∈ ALLW := ap_26 (List.mem_of_getElem? (i := 23) rfl)
theorem W_384 : Cond.instanceMethod yX5_keepLine ∈ ALLW := ap_27 (List.mem_of_getElem? (i := 0) rfl)
theorem W_385 : Cond.selects RX5 yX5_keepLine yX5_keepLine ∈ ALLW := ap_27 (List.mem_of_getElem? (i := 1) rfl)
theorem W_386 : Cond.code yX5_keepLine cX5_keepLine 2 none ∈ ALLW := ap_27 (List.mem_of_getElem? (i := 2) rfl)
theorem W_387 : Cond.methodLink RX5 181 yX7_addPalm ∈ ALLW := ap_27 (List.mem_of_getElem? (i := 3) rfl)
theorem W_388 : Cond.instanceMethod yX7_addPalm ∈ ALLW := ap_27 (List.mem_of_getElem? (i := 4) rfl)
theorem W_389 : Cond.selects RX7 yX7_addPalm yX7_addPalm ∈ ALLW := ap_27 (List.mem_of_getElem? (i := 5) rfl)
theorem W_390 : Cond.code yX7_addPalm cX7_addPalm 3 none ∈ ALLW := ap_27 (List.mem_of_getElem? (i := 6) rfl)
theorem W_391 : Cond.methodLink RX5 185 yX7_addActor ∈ ALLW := ap_27 (List.mem_of_getElem? (i := 7) rfl)
theorem W_392 : Cond.instanceMethod yX7_addActor ∈ ALLW := ap_27 (List.mem_of_getElem? (i := 8) rfl)
theorem W_393 : Cond.selects RX7 yX7_addActor yX7_addActor ∈ ALLW := ap_27 (List.mem_of_getElem? (i := 9) rfl)
theorem W_394 : Cond.code yX7_addActor cX7_addActor 3 none ∈ ALLW := ap_27 (List.mem_of_getElem? (i := 10) rfl)
theorem W_395 : Cond.methodLink RX5 188 yX7_addUsurer ∈ ALLW := ap_27 (List.mem_of_getElem? (i := 11) rfl)
theorem W_396 : Cond.instanceMethod yX7_addUsurer ∈ ALLW := ap_27 (List.mem_of_getElem? (i := 12) rfl)
theorem W_397 : Cond.selects RX7 yX7_addUsurer yX7_addUsurer ∈ ALLW := ap_27 (List.mem_of_getElem? (i := 13) rfl)
theorem W_398 : Cond.code yX7_addUsurer cX7_addUsurer 3 none ∈ ALLW := ap_27 (List.mem_of_getElem? (i := 14) rfl)
theorem W_399 : Cond.methodLink RX5 198 yX1_addMinute ∈ ALLW := ap_27 (List.mem_of_getElem? (i := 15) rfl)
theorem W_400 : Cond.instanceMethod yX1_addMinute ∈ ALLW := ap_27 (List.mem_of_getElem? (i := 16) rfl)
theorem W_401 : Cond.selects RX1 yX1_addMinute yX1_addMinute ∈ ALLW := ap_27 (List.mem_of_getElem? (i := 17) rfl)
theorem W_402 : Cond.methodLink RX5 201 yX0_addDeed ∈ ALLW := ap_27 (List.mem_of_getElem? (i := 18) rfl)
theorem W_403 : Cond.instanceMethod yX0_addDeed ∈ ALLW := ap_27 (List.mem_of_getElem? (i := 19) rfl)
theorem W_404 : Cond.selects RX0 yX0_addDeed yX0_addDeed ∈ ALLW := ap_27 (List.mem_of_getElem? (i := 20) rfl)
theorem W_405 : Cond.code yX6_init cX6_init 1 none ∈ ALLW := ap_27 (List.mem_of_getElem? (i := 21) rfl)
theorem W_406 : Cond.methodLink RX6 3 objectInit ∈ ALLW := ap_27 (List.mem_of_getElem? (i := 22) rfl)
theorem W_407 : Cond.fieldLink RX6 9 "ClapBank$Rounds" "asks" "[I" ∈ ALLW := ap_27 (List.mem_of_getElem? (i := 23) rfl)
theorem W_408 : Cond.fieldLink RX6 15 "ClapBank$Rounds" "floors" "[I" ∈ ALLW := ap_28 (List.mem_of_getElem? (i := 0) rfl)
theorem W_409 : Cond.fieldLink RX6 18 "ClapBank$Rounds" "gains" "[I" ∈ ALLW := ap_28 (List.mem_of_getElem? (i := 1) rfl)
theorem W_410 : Cond.fieldLink RX6 21 "ClapBank$Rounds" "seen" "[I" ∈ ALLW := ap_28 (List.mem_of_getElem? (i := 2) rfl)
theorem W_411 : Cond.code yX6_begin cX6_begin 2 none ∈ ALLW := ap_28 (List.mem_of_getElem? (i := 3) rfl)
theorem W_412 : Cond.fieldLink RX6 30 "ClapBank$Rounds" "usurers" "I" ∈ ALLW := ap_28 (List.mem_of_getElem? (i := 4) rfl)
theorem W_413 : Cond.fieldLink RX6 34 "ClapBank$Rounds" "borrowers" "I" ∈ ALLW := ap_28 (List.mem_of_getElem? (i := 5) rfl)
theorem W_414 : Cond.methodLink RX6 36 arraycopyName ∈ ALLW := ap_28 (List.mem_of_getElem? (i := 6) rfl)
theorem W_415 : Cond.methodLink RX6 43 yJ7_fill_53178 ∈ ALLW := ap_28 (List.mem_of_getElem? (i := 7) rfl)
theorem W_416 : Cond.code yX6_goRound cX6_goRound 3 none ∈ ALLW := ap_28 (List.mem_of_getElem? (i := 8) rfl)
theorem W_417 : Cond.methodLink RX6 53 Lib.Math.min.name ∈ ALLW := ap_28 (List.mem_of_getElem? (i := 9) rfl)
theorem W_418 : Cond.methodLink RX6 59 Lib.Math.max.name ∈ ALLW := ap_28 (List.mem_of_getElem? (i := 10) rfl)
theorem W_419 : Cond.methodLink RX6 49 yX6_cheapest ∈ ALLW := ap_28 (List.mem_of_getElem? (i := 11) rfl)
theorem W_420 : Cond.instanceMethod yX6_cheapest ∈ ALLW := ap_28 (List.mem_of_getElem? (i := 12) rfl)
theorem W_421 : Cond.selects RX6 yX6_cheapest yX6_cheapest ∈ ALLW := ap_28 (List.mem_of_getElem? (i := 13) rfl)
theorem W_422 : Cond.initialized RX6 ∈ ALLW := ap_28 (List.mem_of_getElem? (i := 14) rfl)
theorem W_423 : Cond.code yX6_cheapest cX6_cheapest 3 (some .int) ∈ ALLW := ap_28 (List.mem_of_getElem? (i := 15) rfl)
theorem W_424 : Cond.code yX6_findRepeat cX6_findRepeat 4 (some .int) ∈ ALLW := ap_28 (List.mem_of_getElem? (i := 16) rfl)
theorem W_425 : Cond.fieldLink RX6 72 "ClapBank$Rounds" "period" "I" ∈ ALLW := ap_28 (List.mem_of_getElem? (i := 17) rfl)
theorem W_426 : Cond.methodLink RX6 62 yX6_begin ∈ ALLW := ap_28 (List.mem_of_getElem? (i := 18) rfl)
theorem W_427 : Cond.instanceMethod yX6_begin ∈ ALLW := ap_28 (List.mem_of_getElem? (i := 19) rfl)
theorem W_428 : Cond.selects RX6 yX6_begin yX6_begin ∈ ALLW := ap_28 (List.mem_of_getElem? (i := 20) rfl)
theorem W_429 : Cond.methodLink RX6 66 yX6_allAsks ∈ ALLW := ap_28 (List.mem_of_getElem? (i := 21) rfl)
theorem W_430 : Cond.instanceMethod yX6_allAsks ∈ ALLW := ap_28 (List.mem_of_getElem? (i := 22) rfl)
theorem W_431 : Cond.selects RX6 yX6_allAsks yX6_allAsks ∈ ALLW := ap_28 (List.mem_of_getElem? (i := 23) rfl)
theorem W_432 : Cond.code yX6_allAsks cX6_allAsks 3 (some .int) ∈ ALLW := ap_29 (List.mem_of_getElem? (i := 0) rfl)
theorem W_433 : Cond.methodLink RX6 69 yX6_goRound ∈ ALLW := ap_29 (List.mem_of_getElem? (i := 1) rfl)
theorem W_434 : Cond.instanceMethod yX6_goRound ∈ ALLW := ap_29 (List.mem_of_getElem? (i := 2) rfl)
theorem W_435 : Cond.selects RX6 yX6_goRound yX6_goRound ∈ ALLW := ap_29 (List.mem_of_getElem? (i := 3) rfl)
theorem W_436 : Cond.code yX7_copyFrom cX7_copyFrom 2 none ∈ ALLW := ap_29 (List.mem_of_getElem? (i := 4) rfl)
theorem W_437 : Cond.methodLink RX7 49 arraycopyName ∈ ALLW := ap_29 (List.mem_of_getElem? (i := 5) rfl)
theorem W_438 : Cond.code yX7_tell cX7_tell 3 (some .int) ∈ ALLW := ap_29 (List.mem_of_getElem? (i := 6) rfl)
theorem W_439 : Cond.methodLink RX7 55 yX7_tellWhole ∈ ALLW := ap_29 (List.mem_of_getElem? (i := 7) rfl)
theorem W_440 : Cond.instanceMethod yX7_tellWhole ∈ ALLW := ap_29 (List.mem_of_getElem? (i := 8) rfl)
theorem W_441 : Cond.selects RX7 yX7_tellWhole yX7_tellWhole ∈ ALLW := ap_29 (List.mem_of_getElem? (i := 9) rfl)
theorem W_442 : Cond.code yX7_tellWhole cX7_tellWhole 2 (some .int) ∈ ALLW := ap_29 (List.mem_of_getElem? (i := 10) rfl)
theorem W_443 : Cond.code yX8_init cX8_init 1 none ∈ ALLW := ap_29 (List.mem_of_getElem? (i := 11) rfl)
theorem W_444 : Cond.methodLink RX8 3 objectInit ∈ ALLW := ap_29 (List.mem_of_getElem? (i := 12) rfl)
theorem W_445 : Cond.arrayClass .byte ∈ ALLW := ap_29 (List.mem_of_getElem? (i := 13) rfl)
theorem W_446 : Cond.fieldLink RX8 9 "ClapBank$Told" "tape" "[B" ∈ ALLW := ap_29 (List.mem_of_getElem? (i := 14) rfl)
theorem W_447 : Cond.fieldLink RX8 15 "ClapBank$Told" "place" "I" ∈ ALLW := ap_29 (List.mem_of_getElem? (i := 15) rfl)
theorem W_448 : Cond.classLink RX8 19 RX7 ∈ ALLW := ap_29 (List.mem_of_getElem? (i := 16) rfl)
theorem W_449 : Cond.fieldLink RX8 22 "ClapBank$Told" "firstTheatre" "LClapBank$Theatre;" ∈ ALLW := ap_29 (List.mem_of_getElem? (i := 17) rfl)
theorem W_450 : Cond.fieldLink RX8 26 "ClapBank$Told" "secondTheatre" "LClapBank$Theatre;" ∈ ALLW := ap_29 (List.mem_of_getElem? (i := 18) rfl)
theorem W_451 : Cond.classLink RX8 29 RX0 ∈ ALLW := ap_29 (List.mem_of_getElem? (i := 19) rfl)
theorem W_452 : Cond.fieldLink RX8 32 "ClapBank$Told" "firstBook" "LClapBank$Book;" ∈ ALLW := ap_29 (List.mem_of_getElem? (i := 20) rfl)
theorem W_453 : Cond.fieldLink RX8 36 "ClapBank$Told" "secondBook" "LClapBank$Book;" ∈ ALLW := ap_29 (List.mem_of_getElem? (i := 21) rfl)
theorem W_454 : Cond.classLink RX8 39 RX1 ∈ ALLW := ap_29 (List.mem_of_getElem? (i := 22) rfl)
theorem W_455 : Cond.fieldLink RX8 42 "ClapBank$Told" "firstDark" "LClapBank$Dark;" ∈ ALLW := ap_29 (List.mem_of_getElem? (i := 23) rfl)
theorem W_456 : Cond.fieldLink RX8 46 "ClapBank$Told" "secondDark" "LClapBank$Dark;" ∈ ALLW := ap_30 (List.mem_of_getElem? (i := 0) rfl)
theorem W_457 : Cond.code yX8_append cX8_append 3 none ∈ ALLW := ap_30 (List.mem_of_getElem? (i := 1) rfl)
theorem W_458 : Cond.fieldLink RX8 49 "ClapBank$Told" "length" "I" ∈ ALLW := ap_30 (List.mem_of_getElem? (i := 2) rfl)
theorem W_459 : Cond.code yX8_howMany cX8_howMany 2 (some .int) ∈ ALLW := ap_30 (List.mem_of_getElem? (i := 3) rfl)
theorem W_460 : Cond.fieldLink RX8 52 "ClapBank$Told" "theatres" "I" ∈ ALLW := ap_30 (List.mem_of_getElem? (i := 4) rfl)
theorem W_461 : Cond.fieldLink RX8 55 "ClapBank$Told" "books" "I" ∈ ALLW := ap_30 (List.mem_of_getElem? (i := 5) rfl)
theorem W_462 : Cond.fieldLink RX8 58 "ClapBank$Told" "darks" "I" ∈ ALLW := ap_30 (List.mem_of_getElem? (i := 6) rfl)
theorem W_463 : Cond.code yX8_theatreAt cX8_theatreAt 2 (some (.object "ClapBank$Theatre")) ∈ ALLW := ap_30 (List.mem_of_getElem? (i := 7) rfl)
theorem W_464 : Cond.code yX8_bookAt cX8_bookAt 2 (some (.object "ClapBank$Book")) ∈ ALLW := ap_30 (List.mem_of_getElem? (i := 8) rfl)
theorem W_465 : Cond.code yX8_darkAt cX8_darkAt 2 (some (.object "ClapBank$Dark")) ∈ ALLW := ap_30 (List.mem_of_getElem? (i := 9) rfl)
theorem W_466 : Cond.code yX8_put cX8_put 4 none ∈ ALLW := ap_30 (List.mem_of_getElem? (i := 10) rfl)
theorem W_467 : Cond.methodLink RX8 70 Lib.Math.max.name ∈ ALLW := ap_30 (List.mem_of_getElem? (i := 11) rfl)
theorem W_468 : Cond.methodLink RX8 66 yX7_copyFrom ∈ ALLW := ap_30 (List.mem_of_getElem? (i := 12) rfl)
theorem W_469 : Cond.instanceMethod yX7_copyFrom ∈ ALLW := ap_30 (List.mem_of_getElem? (i := 13) rfl)
theorem W_470 : Cond.selects RX7 yX7_copyFrom yX7_copyFrom ∈ ALLW := ap_30 (List.mem_of_getElem? (i := 14) rfl)
theorem W_471 : Cond.methodLink RX8 79 yX0_copyFrom ∈ ALLW := ap_30 (List.mem_of_getElem? (i := 15) rfl)
theorem W_472 : Cond.instanceMethod yX0_copyFrom ∈ ALLW := ap_30 (List.mem_of_getElem? (i := 16) rfl)
theorem W_473 : Cond.selects RX0 yX0_copyFrom yX0_copyFrom ∈ ALLW := ap_30 (List.mem_of_getElem? (i := 17) rfl)
theorem W_474 : Cond.methodLink RX8 85 yX1_copyFrom ∈ ALLW := ap_30 (List.mem_of_getElem? (i := 18) rfl)
theorem W_475 : Cond.instanceMethod yX1_copyFrom ∈ ALLW := ap_30 (List.mem_of_getElem? (i := 19) rfl)
theorem W_476 : Cond.selects RX1 yX1_copyFrom yX1_copyFrom ∈ ALLW := ap_30 (List.mem_of_getElem? (i := 20) rfl)
theorem W_477 : Cond.code yX8_copyFrom cX8_copyFrom 2 none ∈ ALLW := ap_30 (List.mem_of_getElem? (i := 21) rfl)
theorem W_478 : Cond.methodLink RX8 88 arraycopyName ∈ ALLW := ap_30 (List.mem_of_getElem? (i := 22) rfl)
theorem W_479 : Cond.fieldLink RX8 94 "ClapBank$Told" "fault" "I" ∈ ALLW := ap_30 (List.mem_of_getElem? (i := 23) rfl)
theorem W_480 : Cond.code yX9_init cX9_init 1 none ∈ ALLW := ap_31 (List.mem_of_getElem? (i := 0) rfl)
theorem W_481 : Cond.methodLink RX9 1 objectInit ∈ ALLW := ap_31 (List.mem_of_getElem? (i := 1) rfl)
theorem W_482 : Cond.classLink RX9 7 RX8 ∈ ALLW := ap_31 (List.mem_of_getElem? (i := 2) rfl)
theorem W_483 : Cond.instantiable RX8 13 ∈ ALLW := ap_31 (List.mem_of_getElem? (i := 3) rfl)
theorem W_484 : Cond.initialized RX8 ∈ ALLW := ap_31 (List.mem_of_getElem? (i := 4) rfl)
theorem W_485 : Cond.fieldLink RX9 10 "ClapBank" "told" "LClapBank$Told;" ∈ ALLW := ap_31 (List.mem_of_getElem? (i := 5) rfl)
theorem W_486 : Cond.fieldLink RX9 16 "ClapBank" "images" "[LClapBank$Told;" ∈ ALLW := ap_31 (List.mem_of_getElem? (i := 6) rfl)
theorem W_487 : Cond.classLink RX9 20 RX5 ∈ ALLW := ap_31 (List.mem_of_getElem? (i := 7) rfl)
theorem W_488 : Cond.instantiable RX5 10 ∈ ALLW := ap_31 (List.mem_of_getElem? (i := 8) rfl)
theorem W_489 : Cond.fieldLink RX9 23 "ClapBank" "reader" "LClapBank$Reader;" ∈ ALLW := ap_31 (List.mem_of_getElem? (i := 9) rfl)
theorem W_490 : Cond.classLink RX9 27 RX2 ∈ ALLW := ap_31 (List.mem_of_getElem? (i := 10) rfl)
theorem W_491 : Cond.instantiable RX2 14 ∈ ALLW := ap_31 (List.mem_of_getElem? (i := 11) rfl)
theorem W_492 : Cond.fieldLink RX9 30 "ClapBank" "evening" "LClapBank$Evening;" ∈ ALLW := ap_31 (List.mem_of_getElem? (i := 12) rfl)
theorem W_493 : Cond.classLink RX9 34 RX3 ∈ ALLW := ap_31 (List.mem_of_getElem? (i := 13) rfl)
theorem W_494 : Cond.instantiable RX3 3 ∈ ALLW := ap_31 (List.mem_of_getElem? (i := 14) rfl)
theorem W_495 : Cond.fieldLink RX9 37 "ClapBank" "table" "LClapBank$Feast;" ∈ ALLW := ap_31 (List.mem_of_getElem? (i := 15) rfl)
theorem W_496 : Cond.classLink RX9 41 RX6 ∈ ALLW := ap_31 (List.mem_of_getElem? (i := 16) rfl)
theorem W_497 : Cond.instantiable RX6 7 ∈ ALLW := ap_31 (List.mem_of_getElem? (i := 17) rfl)
theorem W_498 : Cond.fieldLink RX9 44 "ClapBank" "rounds" "LClapBank$Rounds;" ∈ ALLW := ap_31 (List.mem_of_getElem? (i := 18) rfl)
theorem W_499 : Cond.classLink RX9 48 RX4 ∈ ALLW := ap_31 (List.mem_of_getElem? (i := 19) rfl)
theorem W_500 : Cond.instantiable RX4 9 ∈ ALLW := ap_31 (List.mem_of_getElem? (i := 20) rfl)
theorem W_501 : Cond.fieldLink RX9 51 "ClapBank" "hearing" "LClapBank$Hearing;" ∈ ALLW := ap_31 (List.mem_of_getElem? (i := 21) rfl)
theorem W_502 : Cond.instanceMethod yX8_init ∈ ALLW := ap_31 (List.mem_of_getElem? (i := 22) rfl)
theorem W_503 : Cond.instanceMethod yX5_init ∈ ALLW := ap_31 (List.mem_of_getElem? (i := 23) rfl)
theorem W_504 : Cond.instanceMethod yX2_init ∈ ALLW := ap_32 (List.mem_of_getElem? (i := 0) rfl)
theorem W_505 : Cond.instanceMethod yX3_init ∈ ALLW := ap_32 (List.mem_of_getElem? (i := 1) rfl)
theorem W_506 : Cond.instanceMethod yX6_init ∈ ALLW := ap_32 (List.mem_of_getElem? (i := 2) rfl)
theorem W_507 : Cond.instanceMethod yX4_init ∈ ALLW := ap_32 (List.mem_of_getElem? (i := 3) rfl)
theorem W_508 : Cond.code yX9_feed cX9_feed 6 (some .int) ∈ ALLW := ap_32 (List.mem_of_getElem? (i := 4) rfl)
theorem W_509 : Cond.methodLink RX9 59 yX8_append ∈ ALLW := ap_32 (List.mem_of_getElem? (i := 5) rfl)
theorem W_510 : Cond.instanceMethod yX8_append ∈ ALLW := ap_32 (List.mem_of_getElem? (i := 6) rfl)
theorem W_511 : Cond.selects RX8 yX8_append yX8_append ∈ ALLW := ap_32 (List.mem_of_getElem? (i := 7) rfl)
theorem W_512 : Cond.code yX9_end cX9_end 2 (some .int) ∈ ALLW := ap_32 (List.mem_of_getElem? (i := 8) rfl)
theorem W_513 : Cond.code yX9_text cX9_text 7 (some .int) ∈ ALLW := ap_32 (List.mem_of_getElem? (i := 9) rfl)
theorem W_514 : Cond.methodLink RX9 69 yX8_howMany ∈ ALLW := ap_32 (List.mem_of_getElem? (i := 10) rfl)
theorem W_515 : Cond.instanceMethod yX8_howMany ∈ ALLW := ap_32 (List.mem_of_getElem? (i := 11) rfl)
theorem W_516 : Cond.selects RX8 yX8_howMany yX8_howMany ∈ ALLW := ap_32 (List.mem_of_getElem? (i := 12) rfl)
theorem W_517 : Cond.methodLink RX9 77 yX5_read ∈ ALLW := ap_32 (List.mem_of_getElem? (i := 13) rfl)
theorem W_518 : Cond.instanceMethod yX5_read ∈ ALLW := ap_32 (List.mem_of_getElem? (i := 14) rfl)
theorem W_519 : Cond.selects RX5 yX5_read yX5_read ∈ ALLW := ap_32 (List.mem_of_getElem? (i := 15) rfl)
theorem W_520 : Cond.methodLink RX9 83 yX8_put ∈ ALLW := ap_32 (List.mem_of_getElem? (i := 16) rfl)
theorem W_521 : Cond.instanceMethod yX8_put ∈ ALLW := ap_32 (List.mem_of_getElem? (i := 17) rfl)
theorem W_522 : Cond.selects RX8 yX8_put yX8_put ∈ ALLW := ap_32 (List.mem_of_getElem? (i := 18) rfl)
theorem W_523 : Cond.code yX9_fault cX9_fault 2 (some .int) ∈ ALLW := ap_32 (List.mem_of_getElem? (i := 19) rfl)
theorem W_524 : Cond.code yX9_theatre cX9_theatre 4 (some .int) ∈ ALLW := ap_32 (List.mem_of_getElem? (i := 20) rfl)
theorem W_525 : Cond.methodLink RX9 87 yX8_theatreAt ∈ ALLW := ap_32 (List.mem_of_getElem? (i := 21) rfl)
theorem W_526 : Cond.instanceMethod yX8_theatreAt ∈ ALLW := ap_32 (List.mem_of_getElem? (i := 22) rfl)
theorem W_527 : Cond.selects RX8 yX8_theatreAt yX8_theatreAt ∈ ALLW := ap_32 (List.mem_of_getElem? (i := 23) rfl)
theorem W_528 : Cond.methodLink RX9 91 yX7_tell ∈ ALLW := ap_33 (List.mem_of_getElem? (i := 0) rfl)
theorem W_529 : Cond.instanceMethod yX7_tell ∈ ALLW := ap_33 (List.mem_of_getElem? (i := 1) rfl)
theorem W_530 : Cond.selects RX7 yX7_tell yX7_tell ∈ ALLW := ap_33 (List.mem_of_getElem? (i := 2) rfl)
theorem W_531 : Cond.code yX9_deed cX9_deed 5 (some .int) ∈ ALLW := ap_33 (List.mem_of_getElem? (i := 3) rfl)
theorem W_532 : Cond.methodLink RX9 96 yX8_bookAt ∈ ALLW := ap_33 (List.mem_of_getElem? (i := 4) rfl)
theorem W_533 : Cond.instanceMethod yX8_bookAt ∈ ALLW := ap_33 (List.mem_of_getElem? (i := 5) rfl)
theorem W_534 : Cond.selects RX8 yX8_bookAt yX8_bookAt ∈ ALLW := ap_33 (List.mem_of_getElem? (i := 6) rfl)
theorem W_535 : Cond.methodLink RX9 105 yX0_part ∈ ALLW := ap_33 (List.mem_of_getElem? (i := 7) rfl)
theorem W_536 : Cond.code yX9_stop cX9_stop 5 (some .int) ∈ ALLW := ap_33 (List.mem_of_getElem? (i := 8) rfl)
theorem W_537 : Cond.methodLink RX9 109 yX2_playAll ∈ ALLW := ap_33 (List.mem_of_getElem? (i := 9) rfl)
theorem W_538 : Cond.instanceMethod yX2_playAll ∈ ALLW := ap_33 (List.mem_of_getElem? (i := 10) rfl)
theorem W_539 : Cond.selects RX2 yX2_playAll yX2_playAll ∈ ALLW := ap_33 (List.mem_of_getElem? (i := 11) rfl)
theorem W_540 : Cond.code yX9_state cX9_state 5 (some .int) ∈ ALLW := ap_33 (List.mem_of_getElem? (i := 12) rfl)
theorem W_541 : Cond.methodLink RX9 113 yX9_reach ∈ ALLW := ap_33 (List.mem_of_getElem? (i := 13) rfl)
theorem W_542 : Cond.instanceMethod yX9_reach ∈ ALLW := ap_33 (List.mem_of_getElem? (i := 14) rfl)
theorem W_543 : Cond.selects RX9 yX9_reach yX9_reach ∈ ALLW := ap_33 (List.mem_of_getElem? (i := 15) rfl)
theorem W_544 : Cond.initialized RX9 ∈ ALLW := ap_33 (List.mem_of_getElem? (i := 16) rfl)
theorem W_545 : Cond.code yX9_reach cX9_reach 6 (some .boolean) ∈ ALLW := ap_33 (List.mem_of_getElem? (i := 17) rfl)
theorem W_546 : Cond.methodLink RX9 250 yX2_playFirst ∈ ALLW := ap_33 (List.mem_of_getElem? (i := 18) rfl)
theorem W_547 : Cond.instanceMethod yX2_playFirst ∈ ALLW := ap_33 (List.mem_of_getElem? (i := 19) rfl)
theorem W_548 : Cond.selects RX2 yX2_playFirst yX2_playFirst ∈ ALLW := ap_33 (List.mem_of_getElem? (i := 20) rfl)
theorem W_549 : Cond.methodLink RX9 117 yX2_tell ∈ ALLW := ap_33 (List.mem_of_getElem? (i := 21) rfl)
theorem W_550 : Cond.instanceMethod yX2_tell ∈ ALLW := ap_33 (List.mem_of_getElem? (i := 22) rfl)
theorem W_551 : Cond.selects RX2 yX2_tell yX2_tell ∈ ALLW := ap_33 (List.mem_of_getElem? (i := 23) rfl)
theorem W_552 : Cond.code yX9_palm cX9_palm 6 (some .int) ∈ ALLW := ap_34 (List.mem_of_getElem? (i := 0) rfl)
theorem W_553 : Cond.methodLink RX9 118 yX2_hasPalm ∈ ALLW := ap_34 (List.mem_of_getElem? (i := 1) rfl)
theorem W_554 : Cond.methodLink RX9 122 yX2_tellPalm ∈ ALLW := ap_34 (List.mem_of_getElem? (i := 2) rfl)
theorem W_555 : Cond.instanceMethod yX2_tellPalm ∈ ALLW := ap_34 (List.mem_of_getElem? (i := 3) rfl)
theorem W_556 : Cond.selects RX2 yX2_tellPalm yX2_tellPalm ∈ ALLW := ap_34 (List.mem_of_getElem? (i := 4) rfl)
theorem W_557 : Cond.code yX9_actor cX9_actor 6 (some .int) ∈ ALLW := ap_34 (List.mem_of_getElem? (i := 5) rfl)
theorem W_558 : Cond.methodLink RX9 125 yX2_hasActor ∈ ALLW := ap_34 (List.mem_of_getElem? (i := 6) rfl)
theorem W_559 : Cond.methodLink RX9 128 yX2_tellActor ∈ ALLW := ap_34 (List.mem_of_getElem? (i := 7) rfl)
theorem W_560 : Cond.instanceMethod yX2_tellActor ∈ ALLW := ap_34 (List.mem_of_getElem? (i := 8) rfl)
theorem W_561 : Cond.selects RX2 yX2_tellActor yX2_tellActor ∈ ALLW := ap_34 (List.mem_of_getElem? (i := 9) rfl)
theorem W_562 : Cond.code yX9_run cX9_run 5 (some .int) ∈ ALLW := ap_34 (List.mem_of_getElem? (i := 10) rfl)
theorem W_563 : Cond.methodLink RX9 131 yX2_doomed ∈ ALLW := ap_34 (List.mem_of_getElem? (i := 11) rfl)
theorem W_564 : Cond.methodLink RX9 135 yX2_danger ∈ ALLW := ap_34 (List.mem_of_getElem? (i := 12) rfl)
theorem W_565 : Cond.instanceMethod yX2_danger ∈ ALLW := ap_34 (List.mem_of_getElem? (i := 13) rfl)
theorem W_566 : Cond.selects RX2 yX2_danger yX2_danger ∈ ALLW := ap_34 (List.mem_of_getElem? (i := 14) rfl)
theorem W_567 : Cond.code yX9_feast cX9_feast 5 (some .int) ∈ ALLW := ap_34 (List.mem_of_getElem? (i := 15) rfl)
theorem W_568 : Cond.methodLink RX9 138 yX3_lay ∈ ALLW := ap_34 (List.mem_of_getElem? (i := 16) rfl)
theorem W_569 : Cond.instanceMethod yX3_lay ∈ ALLW := ap_34 (List.mem_of_getElem? (i := 17) rfl)
theorem W_570 : Cond.selects RX3 yX3_lay yX3_lay ∈ ALLW := ap_34 (List.mem_of_getElem? (i := 18) rfl)
theorem W_571 : Cond.methodLink RX9 142 yX3_tell ∈ ALLW := ap_34 (List.mem_of_getElem? (i := 19) rfl)
theorem W_572 : Cond.instanceMethod yX3_tell ∈ ALLW := ap_34 (List.mem_of_getElem? (i := 20) rfl)
theorem W_573 : Cond.selects RX3 yX3_tell yX3_tell ∈ ALLW := ap_34 (List.mem_of_getElem? (i := 21) rfl)
theorem W_574 : Cond.code yX9_fair cX9_fair 8 (some .int) ∈ ALLW := ap_34 (List.mem_of_getElem? (i := 22) rfl)
theorem W_575 : Cond.methodLink RX9 143 yX2_allLeft ∈ ALLW := ap_34 (List.mem_of_getElem? (i := 23) rfl)
theorem W_576 : Cond.instanceMethod yX2_allLeft ∈ ALLW := ap_35 (List.mem_of_getElem? (i := 0) rfl)
theorem W_577 : Cond.selects RX2 yX2_allLeft yX2_allLeft ∈ ALLW := ap_35 (List.mem_of_getElem? (i := 1) rfl)
theorem W_578 : Cond.methodLink RX9 146 yX2_allNeeds ∈ ALLW := ap_35 (List.mem_of_getElem? (i := 2) rfl)
theorem W_579 : Cond.instanceMethod yX2_allNeeds ∈ ALLW := ap_35 (List.mem_of_getElem? (i := 3) rfl)
theorem W_580 : Cond.selects RX2 yX2_allNeeds yX2_allNeeds ∈ ALLW := ap_35 (List.mem_of_getElem? (i := 4) rfl)
theorem W_581 : Cond.methodLink RX9 149 yX9_commonPart ∈ ALLW := ap_35 (List.mem_of_getElem? (i := 5) rfl)
theorem W_582 : Cond.static yX9_commonPart ∈ ALLW := ap_35 (List.mem_of_getElem? (i := 6) rfl)
theorem W_583 : Cond.code yX9_commonPart cX9_commonPart 6 (some .int) ∈ ALLW := ap_35 (List.mem_of_getElem? (i := 7) rfl)
theorem W_584 : Cond.code yX9_ask cX9_ask 4 (some .int) ∈ ALLW := ap_35 (List.mem_of_getElem? (i := 8) rfl)
theorem W_585 : Cond.methodLink RX9 152 yX9_lendFor ∈ ALLW := ap_35 (List.mem_of_getElem? (i := 9) rfl)
theorem W_586 : Cond.instanceMethod yX9_lendFor ∈ ALLW := ap_35 (List.mem_of_getElem? (i := 10) rfl)
theorem W_587 : Cond.selects RX9 yX9_lendFor yX9_lendFor ∈ ALLW := ap_35 (List.mem_of_getElem? (i := 11) rfl)
theorem W_588 : Cond.code yX9_lendFor cX9_lendFor 6 (some .boolean) ∈ ALLW := ap_35 (List.mem_of_getElem? (i := 12) rfl)
theorem W_589 : Cond.methodLink RX9 254 yX6_begin ∈ ALLW := ap_35 (List.mem_of_getElem? (i := 13) rfl)
theorem W_590 : Cond.methodLink RX9 258 yX6_goRound ∈ ALLW := ap_35 (List.mem_of_getElem? (i := 14) rfl)
theorem W_591 : Cond.code yX9_taken cX9_taken 4 (some .int) ∈ ALLW := ap_35 (List.mem_of_getElem? (i := 15) rfl)
theorem W_592 : Cond.code yX9_stands cX9_stands 5 (some .int) ∈ ALLW := ap_35 (List.mem_of_getElem? (i := 16) rfl)
theorem W_593 : Cond.methodLink RX9 165 yX6_findRepeat ∈ ALLW := ap_35 (List.mem_of_getElem? (i := 17) rfl)
theorem W_594 : Cond.instanceMethod yX6_findRepeat ∈ ALLW := ap_35 (List.mem_of_getElem? (i := 18) rfl)
theorem W_595 : Cond.selects RX6 yX6_findRepeat yX6_findRepeat ∈ ALLW := ap_35 (List.mem_of_getElem? (i := 19) rfl)
theorem W_596 : Cond.code yX9_heard cX9_heard 4 (some .int) ∈ ALLW := ap_35 (List.mem_of_getElem? (i := 20) rfl)
theorem W_597 : Cond.methodLink RX9 172 yX8_darkAt ∈ ALLW := ap_35 (List.mem_of_getElem? (i := 21) rfl)
theorem W_598 : Cond.instanceMethod yX8_darkAt ∈ ALLW := ap_35 (List.mem_of_getElem? (i := 22) rfl)
theorem W_599 : Cond.selects RX8 yX8_darkAt yX8_darkAt ∈ ALLW := ap_35 (List.mem_of_getElem? (i := 23) rfl)
theorem W_600 : Cond.methodLink RX9 181 yX1_hasMinute ∈ ALLW := ap_36 (List.mem_of_getElem? (i := 0) rfl)
theorem W_601 : Cond.instanceMethod yX1_hasMinute ∈ ALLW := ap_36 (List.mem_of_getElem? (i := 1) rfl)
theorem W_602 : Cond.selects RX1 yX1_hasMinute yX1_hasMinute ∈ ALLW := ap_36 (List.mem_of_getElem? (i := 2) rfl)
theorem W_603 : Cond.code yX9_ways cX9_ways 5 (some .long) ∈ ALLW := ap_36 (List.mem_of_getElem? (i := 3) rfl)
theorem W_604 : Cond.constantLong RX9 187 (-1) ∈ ALLW := ap_36 (List.mem_of_getElem? (i := 4) rfl)
theorem W_605 : Cond.methodLink RX9 189 yX4_listen ∈ ALLW := ap_36 (List.mem_of_getElem? (i := 5) rfl)
theorem W_606 : Cond.instanceMethod yX4_listen ∈ ALLW := ap_36 (List.mem_of_getElem? (i := 6) rfl)
theorem W_607 : Cond.selects RX4 yX4_listen yX4_listen ∈ ALLW := ap_36 (List.mem_of_getElem? (i := 7) rfl)
theorem W_608 : Cond.methodLink RX9 193 yX4_tally ∈ ALLW := ap_36 (List.mem_of_getElem? (i := 8) rfl)
theorem W_609 : Cond.code yX9_whose cX9_whose 7 (some .int) ∈ ALLW := ap_36 (List.mem_of_getElem? (i := 9) rfl)
theorem W_610 : Cond.methodLink RX9 197 yX4_compareMinute ∈ ALLW := ap_36 (List.mem_of_getElem? (i := 10) rfl)
theorem W_611 : Cond.instanceMethod yX4_compareMinute ∈ ALLW := ap_36 (List.mem_of_getElem? (i := 11) rfl)
theorem W_612 : Cond.selects RX4 yX4_compareMinute yX4_compareMinute ∈ ALLW := ap_36 (List.mem_of_getElem? (i := 12) rfl)
theorem W_613 : Cond.code yX9_drawn cX9_drawn 7 (some .int) ∈ ALLW := ap_36 (List.mem_of_getElem? (i := 13) rfl)
theorem W_614 : Cond.methodLink RX9 209 yX2_playDrawn ∈ ALLW := ap_36 (List.mem_of_getElem? (i := 14) rfl)
theorem W_615 : Cond.instanceMethod yX2_playDrawn ∈ ALLW := ap_36 (List.mem_of_getElem? (i := 15) rfl)
theorem W_616 : Cond.selects RX2 yX2_playDrawn yX2_playDrawn ∈ ALLW := ap_36 (List.mem_of_getElem? (i := 16) rfl)
theorem W_617 : Cond.methodLink RX9 216 yX2_living ∈ ALLW := ap_36 (List.mem_of_getElem? (i := 17) rfl)
theorem W_618 : Cond.code yX9_look cX9_look 5 (some .int) ∈ ALLW := ap_36 (List.mem_of_getElem? (i := 18) rfl)
theorem W_619 : Cond.methodLink RX9 222 yX2_loan ∈ ALLW := ap_36 (List.mem_of_getElem? (i := 19) rfl)
theorem W_620 : Cond.instanceMethod yX2_loan ∈ ALLW := ap_36 (List.mem_of_getElem? (i := 20) rfl)
theorem W_621 : Cond.selects RX2 yX2_loan yX2_loan ∈ ALLW := ap_36 (List.mem_of_getElem? (i := 21) rfl)
theorem W_622 : Cond.methodLink RX9 225 yX2_idol ∈ ALLW := ap_36 (List.mem_of_getElem? (i := 22) rfl)
theorem W_623 : Cond.instanceMethod yX2_idol ∈ ALLW := ap_36 (List.mem_of_getElem? (i := 23) rfl)
theorem W_624 : Cond.selects RX2 yX2_idol yX2_idol ∈ ALLW := ap_37 (List.mem_of_getElem? (i := 0) rfl)
theorem W_625 : Cond.methodLink RX9 228 yX2_tip ∈ ALLW := ap_37 (List.mem_of_getElem? (i := 1) rfl)
theorem W_626 : Cond.instanceMethod yX2_tip ∈ ALLW := ap_37 (List.mem_of_getElem? (i := 2) rfl)
theorem W_627 : Cond.selects RX2 yX2_tip yX2_tip ∈ ALLW := ap_37 (List.mem_of_getElem? (i := 3) rfl)
theorem W_628 : Cond.methodLink RX9 231 yX2_dear ∈ ALLW := ap_37 (List.mem_of_getElem? (i := 4) rfl)
theorem W_629 : Cond.instanceMethod yX2_dear ∈ ALLW := ap_37 (List.mem_of_getElem? (i := 5) rfl)
theorem W_630 : Cond.selects RX2 yX2_dear yX2_dear ∈ ALLW := ap_37 (List.mem_of_getElem? (i := 6) rfl)
theorem W_631 : Cond.code yX9_silence cX9_silence 11 (some .int) ∈ ALLW := ap_37 (List.mem_of_getElem? (i := 7) rfl)
theorem W_632 : Cond.methodLink RX9 237 yX2_playWithout ∈ ALLW := ap_37 (List.mem_of_getElem? (i := 8) rfl)
theorem W_633 : Cond.instanceMethod yX2_playWithout ∈ ALLW := ap_37 (List.mem_of_getElem? (i := 9) rfl)
theorem W_634 : Cond.selects RX2 yX2_playWithout yX2_playWithout ∈ ALLW := ap_37 (List.mem_of_getElem? (i := 10) rfl)
theorem W_635 : Cond.methodLink RX9 241 yJ6_bitCount_0f7a4 ∈ ALLW := ap_37 (List.mem_of_getElem? (i := 11) rfl)
theorem W_636 : Cond.code yX9_count cX9_count 2 (some .int) ∈ ALLW := ap_37 (List.mem_of_getElem? (i := 12) rfl)
theorem W_637 : Cond.code yX9_image cX9_image 3 (some .boolean) ∈ ALLW := ap_37 (List.mem_of_getElem? (i := 13) rfl)
theorem W_638 : Cond.methodLink RX9 246 yX8_copyFrom ∈ ALLW := ap_37 (List.mem_of_getElem? (i := 14) rfl)
theorem W_639 : Cond.instanceMethod yX8_copyFrom ∈ ALLW := ap_37 (List.mem_of_getElem? (i := 15) rfl)
theorem W_640 : Cond.selects RX8 yX8_copyFrom yX8_copyFrom ∈ ALLW := ap_37 (List.mem_of_getElem? (i := 16) rfl)
theorem W_641 : Cond.code yX9_again cX9_again 3 (some .boolean) ∈ ALLW := ap_37 (List.mem_of_getElem? (i := 17) rfl)
theorem W_642 : Cond.code yX10_init cX10_init 1 none ∈ ALLW := ap_37 (List.mem_of_getElem? (i := 18) rfl)
theorem W_643 : Cond.methodLink RX10 1 objectInit ∈ ALLW := ap_37 (List.mem_of_getElem? (i := 19) rfl)
theorem W_644 : Cond.fieldLink RX10 7 "ClapBankModel" "tape" "[B" ∈ ALLW := ap_37 (List.mem_of_getElem? (i := 20) rfl)
theorem W_645 : Cond.fieldLink RX10 13 "ClapBankModel" "size" "[I" ∈ ALLW := ap_37 (List.mem_of_getElem? (i := 21) rfl)
theorem W_646 : Cond.fieldLink RX10 17 "ClapBankModel" "fault" "[I" ∈ ALLW := ap_37 (List.mem_of_getElem? (i := 22) rfl)
theorem W_647 : Cond.fieldLink RX10 20 "ClapBankModel" "faultPlace" "[I" ∈ ALLW := ap_37 (List.mem_of_getElem? (i := 23) rfl)
theorem W_648 : Cond.fieldLink RX10 23 "ClapBankModel" "many" "[I" ∈ ALLW := ap_38 (List.mem_of_getElem? (i := 0) rfl)
theorem W_649 : Cond.fieldLink RX10 26 "ClapBankModel" "theatres" "[I" ∈ ALLW := ap_38 (List.mem_of_getElem? (i := 1) rfl)
theorem W_650 : Cond.fieldLink RX10 29 "ClapBankModel" "books" "[I" ∈ ALLW := ap_38 (List.mem_of_getElem? (i := 2) rfl)
theorem W_651 : Cond.fieldLink RX10 32 "ClapBankModel" "darks" "[I" ∈ ALLW := ap_38 (List.mem_of_getElem? (i := 3) rfl)
theorem W_652 : Cond.fieldLink RX10 35 "ClapBankModel" "told" "[I" ∈ ALLW := ap_38 (List.mem_of_getElem? (i := 4) rfl)
theorem W_653 : Cond.fieldLink RX10 38 "ClapBankModel" "read" "[I" ∈ ALLW := ap_38 (List.mem_of_getElem? (i := 5) rfl)
theorem W_654 : Cond.fieldLink RX10 41 "ClapBankModel" "left" "[I" ∈ ALLW := ap_38 (List.mem_of_getElem? (i := 6) rfl)
theorem W_655 : Cond.fieldLink RX10 44 "ClapBankModel" "owes" "[I" ∈ ALLW := ap_38 (List.mem_of_getElem? (i := 7) rfl)
theorem W_656 : Cond.fieldLink RX10 47 "ClapBankModel" "got" "[I" ∈ ALLW := ap_38 (List.mem_of_getElem? (i := 8) rfl)
theorem W_657 : Cond.fieldLink RX10 50 "ClapBankModel" "saved" "[I" ∈ ALLW := ap_38 (List.mem_of_getElem? (i := 9) rfl)
theorem W_658 : Cond.fieldLink RX10 53 "ClapBankModel" "storms" "[I" ∈ ALLW := ap_38 (List.mem_of_getElem? (i := 10) rfl)
theorem W_659 : Cond.fieldLink RX10 56 "ClapBankModel" "starved" "[I" ∈ ALLW := ap_38 (List.mem_of_getElem? (i := 11) rfl)
theorem W_660 : Cond.fieldLink RX10 59 "ClapBankModel" "asks" "[I" ∈ ALLW := ap_38 (List.mem_of_getElem? (i := 12) rfl)
theorem W_661 : Cond.fieldLink RX10 62 "ClapBankModel" "wentTo" "[I" ∈ ALLW := ap_38 (List.mem_of_getElem? (i := 13) rfl)
theorem W_662 : Cond.constant RX10 65 (117649) ∈ ALLW := ap_38 (List.mem_of_getElem? (i := 14) rfl)
theorem W_663 : Cond.arrayClass .long ∈ ALLW := ap_38 (List.mem_of_getElem? (i := 15) rfl)
theorem W_664 : Cond.fieldLink RX10 66 "ClapBankModel" "ahead" "[J" ∈ ALLW := ap_38 (List.mem_of_getElem? (i := 16) rfl)
theorem W_665 : Cond.fieldLink RX10 70 "ClapBankModel" "behind" "[J" ∈ ALLW := ap_38 (List.mem_of_getElem? (i := 17) rfl)
theorem W_666 : Cond.fieldLink RX10 73 "ClapBankModel" "unit" "[I" ∈ ALLW := ap_38 (List.mem_of_getElem? (i := 18) rfl)
theorem W_667 : Cond.arrayClass .boolean ∈ ALLW := ap_38 (List.mem_of_getElem? (i := 19) rfl)
theorem W_668 : Cond.fieldLink RX10 76 "ClapBankModel" "kept" "[Z" ∈ ALLW := ap_38 (List.mem_of_getElem? (i := 20) rfl)
theorem W_669 : Cond.code yX10_in cX10_in 3 (some .boolean) ∈ ALLW := ap_38 (List.mem_of_getElem? (i := 21) rfl)
theorem W_670 : Cond.code yX10_has cX10_has 2 (some .boolean) ∈ ALLW := ap_38 (List.mem_of_getElem? (i := 22) rfl)
theorem W_671 : Cond.code yX10_ones cX10_ones 3 (some .int) ∈ ALLW := ap_38 (List.mem_of_getElem? (i := 23) rfl)
theorem W_672 : Cond.methodLink RX10 84 yX10_has ∈ ALLW := ap_39 (List.mem_of_getElem? (i := 0) rfl)
theorem W_673 : Cond.static yX10_has ∈ ALLW := ap_39 (List.mem_of_getElem? (i := 1) rfl)
theorem W_674 : Cond.initialized RX10 ∈ ALLW := ap_39 (List.mem_of_getElem? (i := 2) rfl)
theorem W_675 : Cond.code yX10_greater cX10_greater 2 (some .int) ∈ ALLW := ap_39 (List.mem_of_getElem? (i := 3) rfl)
theorem W_676 : Cond.code yX10_lesser cX10_lesser 2 (some .int) ∈ ALLW := ap_39 (List.mem_of_getElem? (i := 4) rfl)
theorem W_677 : Cond.code yX10_copyRow cX10_copyRow 5 none ∈ ALLW := ap_39 (List.mem_of_getElem? (i := 5) rfl)
theorem W_678 : Cond.code yX10_copyAll cX10_copyAll 4 none ∈ ALLW := ap_39 (List.mem_of_getElem? (i := 6) rfl)
theorem W_679 : Cond.methodLink RX10 88 yX10_copyRow ∈ ALLW := ap_39 (List.mem_of_getElem? (i := 7) rfl)
theorem W_680 : Cond.static yX10_copyRow ∈ ALLW := ap_39 (List.mem_of_getElem? (i := 8) rfl)
theorem W_681 : Cond.code yX10_is cX10_is 3 (some .boolean) ∈ ALLW := ap_39 (List.mem_of_getElem? (i := 9) rfl)
theorem W_682 : Cond.methodLink RX10 92 yX10_in ∈ ALLW := ap_39 (List.mem_of_getElem? (i := 10) rfl)
theorem W_683 : Cond.static yX10_in ∈ ALLW := ap_39 (List.mem_of_getElem? (i := 11) rfl)
theorem W_684 : Cond.code yX10_feed cX10_feed 6 (some .int) ∈ ALLW := ap_39 (List.mem_of_getElem? (i := 12) rfl)
theorem W_685 : Cond.fieldLink RX10 80 "ClapBankModel" "code" "I" ∈ ALLW := ap_39 (List.mem_of_getElem? (i := 13) rfl)
theorem W_686 : Cond.methodLink RX10 96 yX10_four ∈ ALLW := ap_39 (List.mem_of_getElem? (i := 14) rfl)
theorem W_687 : Cond.instanceMethod yX10_four ∈ ALLW := ap_39 (List.mem_of_getElem? (i := 15) rfl)
theorem W_688 : Cond.selects RX10 yX10_four yX10_four ∈ ALLW := ap_39 (List.mem_of_getElem? (i := 16) rfl)
theorem W_689 : Cond.code yX10_four cX10_four 3 none ∈ ALLW := ap_39 (List.mem_of_getElem? (i := 17) rfl)
theorem W_690 : Cond.code yX10_end cX10_end 2 (some .int) ∈ ALLW := ap_39 (List.mem_of_getElem? (i := 18) rfl)
theorem W_691 : Cond.code yX10_see cX10_see 1 (some .int) ∈ ALLW := ap_39 (List.mem_of_getElem? (i := 19) rfl)
theorem W_692 : Cond.fieldLink RX10 100 "ClapBankModel" "reached" "I" ∈ ALLW := ap_39 (List.mem_of_getElem? (i := 20) rfl)
theorem W_693 : Cond.fieldLink RX10 103 "ClapBankModel" "length" "I" ∈ ALLW := ap_39 (List.mem_of_getElem? (i := 21) rfl)
theorem W_694 : Cond.code yX10_token cX10_token 3 none ∈ ALLW := ap_39 (List.mem_of_getElem? (i := 22) rfl)
theorem W_695 : Cond.fieldLink RX10 110 "ClapBankModel" "begins" "I" ∈ ALLW := ap_39 (List.mem_of_getElem? (i := 23) rfl)
theorem W_696 : Cond.fieldLink RX10 113 "ClapBankModel" "word" "J" ∈ ALLW := ap_40 (List.mem_of_getElem? (i := 0) rfl)
theorem W_697 : Cond.fieldLink RX10 117 "ClapBankModel" "sort" "I" ∈ ALLW := ap_40 (List.mem_of_getElem? (i := 1) rfl)
theorem W_698 : Cond.fieldLink RX10 120 "ClapBankModel" "value" "I" ∈ ALLW := ap_40 (List.mem_of_getElem? (i := 2) rfl)
theorem W_699 : Cond.methodLink RX10 106 yX10_see ∈ ALLW := ap_40 (List.mem_of_getElem? (i := 3) rfl)
theorem W_700 : Cond.instanceMethod yX10_see ∈ ALLW := ap_40 (List.mem_of_getElem? (i := 4) rfl)
theorem W_701 : Cond.selects RX10 yX10_see yX10_see ∈ ALLW := ap_40 (List.mem_of_getElem? (i := 5) rfl)
theorem W_702 : Cond.code yX10_fails cX10_fails 1 (some .boolean) ∈ ALLW := ap_40 (List.mem_of_getElem? (i := 6) rfl)
theorem W_703 : Cond.fieldLink RX10 123 "ClapBankModel" "wrongAt" "I" ∈ ALLW := ap_40 (List.mem_of_getElem? (i := 7) rfl)
theorem W_704 : Cond.code yX10_later cX10_later 3 none ∈ ALLW := ap_40 (List.mem_of_getElem? (i := 8) rfl)
theorem W_705 : Cond.fieldLink RX10 126 "ClapBankModel" "laterFault" "I" ∈ ALLW := ap_40 (List.mem_of_getElem? (i := 9) rfl)
theorem W_706 : Cond.fieldLink RX10 129 "ClapBankModel" "laterPlace" "I" ∈ ALLW := ap_40 (List.mem_of_getElem? (i := 10) rfl)
theorem W_707 : Cond.code yX10_takeBut cX10_takeBut 5 (some .boolean) ∈ ALLW := ap_40 (List.mem_of_getElem? (i := 11) rfl)
theorem W_708 : Cond.methodLink RX10 132 yX10_fails ∈ ALLW := ap_40 (List.mem_of_getElem? (i := 12) rfl)
theorem W_709 : Cond.instanceMethod yX10_fails ∈ ALLW := ap_40 (List.mem_of_getElem? (i := 13) rfl)
theorem W_710 : Cond.selects RX10 yX10_fails yX10_fails ∈ ALLW := ap_40 (List.mem_of_getElem? (i := 14) rfl)
theorem W_711 : Cond.methodLink RX10 136 yX10_later ∈ ALLW := ap_40 (List.mem_of_getElem? (i := 15) rfl)
theorem W_712 : Cond.instanceMethod yX10_later ∈ ALLW := ap_40 (List.mem_of_getElem? (i := 16) rfl)
theorem W_713 : Cond.selects RX10 yX10_later yX10_later ∈ ALLW := ap_40 (List.mem_of_getElem? (i := 17) rfl)
theorem W_714 : Cond.methodLink RX10 140 yX10_token ∈ ALLW := ap_40 (List.mem_of_getElem? (i := 18) rfl)
theorem W_715 : Cond.instanceMethod yX10_token ∈ ALLW := ap_40 (List.mem_of_getElem? (i := 19) rfl)
theorem W_716 : Cond.selects RX10 yX10_token yX10_token ∈ ALLW := ap_40 (List.mem_of_getElem? (i := 20) rfl)
theorem W_717 : Cond.code yX10_take cX10_take 4 (some .boolean) ∈ ALLW := ap_40 (List.mem_of_getElem? (i := 21) rfl)
theorem W_718 : Cond.methodLink RX10 143 yX10_takeBut ∈ ALLW := ap_40 (List.mem_of_getElem? (i := 22) rfl)
theorem W_719 : Cond.instanceMethod yX10_takeBut ∈ ALLW := ap_40 (List.mem_of_getElem? (i := 23) rfl)
theorem W_720 : Cond.selects RX10 yX10_takeBut yX10_takeBut ∈ ALLW := ap_41 (List.mem_of_getElem? (i := 0) rfl)
theorem W_721 : Cond.code yX10_full cX10_full 4 none ∈ ALLW := ap_41 (List.mem_of_getElem? (i := 1) rfl)
theorem W_722 : Cond.code yX10_keep cX10_keep 7 none ∈ ALLW := ap_41 (List.mem_of_getElem? (i := 2) rfl)
theorem W_723 : Cond.code yX10_theatreLine cX10_theatreLine 5 (some .boolean) ∈ ALLW := ap_41 (List.mem_of_getElem? (i := 3) rfl)
theorem W_724 : Cond.constantLong RX10 147 (1918989413) ∈ ALLW := ap_41 (List.mem_of_getElem? (i := 4) rfl)
theorem W_725 : Cond.constantLong RX10 149 (426953241460) ∈ ALLW := ap_41 (List.mem_of_getElem? (i := 5) rfl)
theorem W_726 : Cond.constantLong RX10 151 (108230800994167) ∈ ALLW := ap_41 (List.mem_of_getElem? (i := 6) rfl)
theorem W_727 : Cond.constantLong RX10 153 (1885432941) ∈ ALLW := ap_41 (List.mem_of_getElem? (i := 7) rfl)
theorem W_728 : Cond.constantLong RX10 155 (418280402802) ∈ ALLW := ap_41 (List.mem_of_getElem? (i := 8) rfl)
theorem W_729 : Cond.constantLong RX10 157 (129138752120178) ∈ ALLW := ap_41 (List.mem_of_getElem? (i := 9) rfl)
theorem W_730 : Cond.methodLink RX10 159 yX10_full ∈ ALLW := ap_41 (List.mem_of_getElem? (i := 10) rfl)
theorem W_731 : Cond.instanceMethod yX10_full ∈ ALLW := ap_41 (List.mem_of_getElem? (i := 11) rfl)
theorem W_732 : Cond.selects RX10 yX10_full yX10_full ∈ ALLW := ap_41 (List.mem_of_getElem? (i := 12) rfl)
theorem W_733 : Cond.methodLink RX10 163 yX10_take ∈ ALLW := ap_41 (List.mem_of_getElem? (i := 13) rfl)
theorem W_734 : Cond.instanceMethod yX10_take ∈ ALLW := ap_41 (List.mem_of_getElem? (i := 14) rfl)
theorem W_735 : Cond.selects RX10 yX10_take yX10_take ∈ ALLW := ap_41 (List.mem_of_getElem? (i := 15) rfl)
theorem W_736 : Cond.methodLink RX10 166 yX10_keep ∈ ALLW := ap_41 (List.mem_of_getElem? (i := 16) rfl)
theorem W_737 : Cond.instanceMethod yX10_keep ∈ ALLW := ap_41 (List.mem_of_getElem? (i := 17) rfl)
theorem W_738 : Cond.selects RX10 yX10_keep yX10_keep ∈ ALLW := ap_41 (List.mem_of_getElem? (i := 18) rfl)
theorem W_739 : Cond.methodLink RX10 170 yX10_lesser ∈ ALLW := ap_41 (List.mem_of_getElem? (i := 19) rfl)
theorem W_740 : Cond.static yX10_lesser ∈ ALLW := ap_41 (List.mem_of_getElem? (i := 20) rfl)
theorem W_741 : Cond.code yX10_deedBy cX10_deedBy 2 (some .int) ∈ ALLW := ap_41 (List.mem_of_getElem? (i := 21) rfl)
theorem W_742 : Cond.constantLong RX10 174 (1668047216) ∈ ALLW := ap_41 (List.mem_of_getElem? (i := 22) rfl)
theorem W_743 : Cond.constantLong RX10 176 (1818586724) ∈ ALLW := ap_41 (List.mem_of_getElem? (i := 23) rfl)
theorem W_744 : Cond.constantLong RX10 178 (491328135545) ∈ ALLW := ap_42 (List.mem_of_getElem? (i := 0) rfl)
theorem W_745 : Cond.constantLong RX10 180 (1752527720) ∈ ALLW := ap_42 (List.mem_of_getElem? (i := 1) rfl)
theorem W_746 : Cond.constantLong RX10 182 (495874699885) ∈ ALLW := ap_42 (List.mem_of_getElem? (i := 2) rfl)
theorem W_747 : Cond.constantLong RX10 184 (111524789056101) ∈ ALLW := ap_42 (List.mem_of_getElem? (i := 3) rfl)
theorem W_748 : Cond.constantLong RX10 186 (474214787188) ∈ ALLW := ap_42 (List.mem_of_getElem? (i := 4) rfl)
theorem W_749 : Cond.code yX10_deedNumbers cX10_deedNumbers 2 (some .boolean) ∈ ALLW := ap_42 (List.mem_of_getElem? (i := 5) rfl)
theorem W_750 : Cond.code yX10_bookLine cX10_bookLine 5 (some .boolean) ∈ ALLW := ap_42 (List.mem_of_getElem? (i := 6) rfl)
theorem W_751 : Cond.methodLink RX10 188 yX10_deedBy ∈ ALLW := ap_42 (List.mem_of_getElem? (i := 7) rfl)
theorem W_752 : Cond.static yX10_deedBy ∈ ALLW := ap_42 (List.mem_of_getElem? (i := 8) rfl)
theorem W_753 : Cond.methodLink RX10 192 yX10_deedNumbers ∈ ALLW := ap_42 (List.mem_of_getElem? (i := 9) rfl)
theorem W_754 : Cond.instanceMethod yX10_deedNumbers ∈ ALLW := ap_42 (List.mem_of_getElem? (i := 10) rfl)
theorem W_755 : Cond.selects RX10 yX10_deedNumbers yX10_deedNumbers ∈ ALLW := ap_42 (List.mem_of_getElem? (i := 11) rfl)
theorem W_756 : Cond.code yX10_darkLine cX10_darkLine 4 (some .boolean) ∈ ALLW := ap_42 (List.mem_of_getElem? (i := 12) rfl)
theorem W_757 : Cond.constantLong RX10 196 (448377483876) ∈ ALLW := ap_42 (List.mem_of_getElem? (i := 13) rfl)
theorem W_758 : Cond.code yX10_lines cX10_lines 6 (some .boolean) ∈ ALLW := ap_42 (List.mem_of_getElem? (i := 14) rfl)
theorem W_759 : Cond.methodLink RX10 198 yX10_theatreLine ∈ ALLW := ap_42 (List.mem_of_getElem? (i := 15) rfl)
theorem W_760 : Cond.instanceMethod yX10_theatreLine ∈ ALLW := ap_42 (List.mem_of_getElem? (i := 16) rfl)
theorem W_761 : Cond.selects RX10 yX10_theatreLine yX10_theatreLine ∈ ALLW := ap_42 (List.mem_of_getElem? (i := 17) rfl)
theorem W_762 : Cond.methodLink RX10 202 yX10_bookLine ∈ ALLW := ap_42 (List.mem_of_getElem? (i := 18) rfl)
theorem W_763 : Cond.instanceMethod yX10_bookLine ∈ ALLW := ap_42 (List.mem_of_getElem? (i := 19) rfl)
theorem W_764 : Cond.selects RX10 yX10_bookLine yX10_bookLine ∈ ALLW := ap_42 (List.mem_of_getElem? (i := 20) rfl)
theorem W_765 : Cond.methodLink RX10 205 yX10_darkLine ∈ ALLW := ap_42 (List.mem_of_getElem? (i := 21) rfl)
theorem W_766 : Cond.instanceMethod yX10_darkLine ∈ ALLW := ap_42 (List.mem_of_getElem? (i := 22) rfl)
theorem W_767 : Cond.selects RX10 yX10_darkLine yX10_darkLine ∈ ALLW := ap_42 (List.mem_of_getElem? (i := 23) rfl)
theorem W_768 : Cond.code yX10_readText cX10_readText 3 (some .boolean) ∈ ALLW := ap_43 (List.mem_of_getElem? (i := 0) rfl)
theorem W_769 : Cond.methodLink RX10 208 yX10_lines ∈ ALLW := ap_43 (List.mem_of_getElem? (i := 1) rfl)
theorem W_770 : Cond.instanceMethod yX10_lines ∈ ALLW := ap_43 (List.mem_of_getElem? (i := 2) rfl)
theorem W_771 : Cond.selects RX10 yX10_lines yX10_lines ∈ ALLW := ap_43 (List.mem_of_getElem? (i := 3) rfl)
theorem W_772 : Cond.code yX10_store cX10_store 5 none ∈ ALLW := ap_43 (List.mem_of_getElem? (i := 4) rfl)
theorem W_773 : Cond.code yX10_text cX10_text 4 (some .int) ∈ ALLW := ap_43 (List.mem_of_getElem? (i := 5) rfl)
theorem W_774 : Cond.methodLink RX10 211 yX10_is ∈ ALLW := ap_43 (List.mem_of_getElem? (i := 6) rfl)
theorem W_775 : Cond.instanceMethod yX10_is ∈ ALLW := ap_43 (List.mem_of_getElem? (i := 7) rfl)
theorem W_776 : Cond.selects RX10 yX10_is yX10_is ∈ ALLW := ap_43 (List.mem_of_getElem? (i := 8) rfl)
theorem W_777 : Cond.methodLink RX10 214 yX10_readText ∈ ALLW := ap_43 (List.mem_of_getElem? (i := 9) rfl)
theorem W_778 : Cond.instanceMethod yX10_readText ∈ ALLW := ap_43 (List.mem_of_getElem? (i := 10) rfl)
theorem W_779 : Cond.selects RX10 yX10_readText yX10_readText ∈ ALLW := ap_43 (List.mem_of_getElem? (i := 11) rfl)
theorem W_780 : Cond.methodLink RX10 217 yX10_store ∈ ALLW := ap_43 (List.mem_of_getElem? (i := 12) rfl)
theorem W_781 : Cond.instanceMethod yX10_store ∈ ALLW := ap_43 (List.mem_of_getElem? (i := 13) rfl)
theorem W_782 : Cond.selects RX10 yX10_store yX10_store ∈ ALLW := ap_43 (List.mem_of_getElem? (i := 14) rfl)
theorem W_783 : Cond.code yX10_fault cX10_fault 2 (some .int) ∈ ALLW := ap_43 (List.mem_of_getElem? (i := 15) rfl)
theorem W_784 : Cond.code yX10_of cX10_of 2 (some .int) ∈ ALLW := ap_43 (List.mem_of_getElem? (i := 16) rfl)
theorem W_785 : Cond.fieldLink RX10 221 "ClapBankModel" "theatre" "I" ∈ ALLW := ap_43 (List.mem_of_getElem? (i := 17) rfl)
theorem W_786 : Cond.code yX10_hand cX10_hand 2 (some .boolean) ∈ ALLW := ap_43 (List.mem_of_getElem? (i := 18) rfl)
theorem W_787 : Cond.fieldLink RX10 228 "ClapBankModel" "palms" "I" ∈ ALLW := ap_43 (List.mem_of_getElem? (i := 19) rfl)
theorem W_788 : Cond.fieldLink RX10 231 "ClapBankModel" "actors" "I" ∈ ALLW := ap_43 (List.mem_of_getElem? (i := 20) rfl)
theorem W_789 : Cond.fieldLink RX10 234 "ClapBankModel" "rate" "I" ∈ ALLW := ap_43 (List.mem_of_getElem? (i := 21) rfl)
theorem W_790 : Cond.methodLink RX10 224 yX10_of ∈ ALLW := ap_43 (List.mem_of_getElem? (i := 22) rfl)
theorem W_791 : Cond.instanceMethod yX10_of ∈ ALLW := ap_43 (List.mem_of_getElem? (i := 23) rfl)
theorem W_792 : Cond.selects RX10 yX10_of yX10_of ∈ ALLW := ap_44 (List.mem_of_getElem? (i := 0) rfl)
theorem W_793 : Cond.code yX10_isPalm cX10_isPalm 2 (some .boolean) ∈ ALLW := ap_44 (List.mem_of_getElem? (i := 1) rfl)
theorem W_794 : Cond.code yX10_isActor cX10_isActor 2 (some .boolean) ∈ ALLW := ap_44 (List.mem_of_getElem? (i := 2) rfl)
theorem W_795 : Cond.code yX10_handsOf cX10_handsOf 2 (some .int) ∈ ALLW := ap_44 (List.mem_of_getElem? (i := 3) rfl)
theorem W_796 : Cond.code yX10_hungerOf cX10_hungerOf 2 (some .int) ∈ ALLW := ap_44 (List.mem_of_getElem? (i := 4) rfl)
theorem W_797 : Cond.code yX10_theatre cX10_theatre 4 (some .int) ∈ ALLW := ap_44 (List.mem_of_getElem? (i := 5) rfl)
theorem W_798 : Cond.methodLink RX10 237 yX10_hand ∈ ALLW := ap_44 (List.mem_of_getElem? (i := 6) rfl)
theorem W_799 : Cond.instanceMethod yX10_hand ∈ ALLW := ap_44 (List.mem_of_getElem? (i := 7) rfl)
theorem W_800 : Cond.selects RX10 yX10_hand yX10_hand ∈ ALLW := ap_44 (List.mem_of_getElem? (i := 8) rfl)
theorem W_801 : Cond.methodLink RX10 240 yX10_isPalm ∈ ALLW := ap_44 (List.mem_of_getElem? (i := 9) rfl)
theorem W_802 : Cond.instanceMethod yX10_isPalm ∈ ALLW := ap_44 (List.mem_of_getElem? (i := 10) rfl)
theorem W_803 : Cond.selects RX10 yX10_isPalm yX10_isPalm ∈ ALLW := ap_44 (List.mem_of_getElem? (i := 11) rfl)
theorem W_804 : Cond.methodLink RX10 243 yX10_isActor ∈ ALLW := ap_44 (List.mem_of_getElem? (i := 12) rfl)
theorem W_805 : Cond.instanceMethod yX10_isActor ∈ ALLW := ap_44 (List.mem_of_getElem? (i := 13) rfl)
theorem W_806 : Cond.selects RX10 yX10_isActor yX10_isActor ∈ ALLW := ap_44 (List.mem_of_getElem? (i := 14) rfl)
theorem W_807 : Cond.code yX10_deeds cX10_deeds 1 (some .int) ∈ ALLW := ap_44 (List.mem_of_getElem? (i := 15) rfl)
theorem W_808 : Cond.fieldLink RX10 246 "ClapBankModel" "book" "I" ∈ ALLW := ap_44 (List.mem_of_getElem? (i := 16) rfl)
theorem W_809 : Cond.code yX10_deedOf cX10_deedOf 3 (some .int) ∈ ALLW := ap_44 (List.mem_of_getElem? (i := 17) rfl)
theorem W_810 : Cond.code yX10_hasBook cX10_hasBook 2 (some .boolean) ∈ ALLW := ap_44 (List.mem_of_getElem? (i := 18) rfl)
theorem W_811 : Cond.code yX10_deed cX10_deed 4 (some .int) ∈ ALLW := ap_44 (List.mem_of_getElem? (i := 19) rfl)
theorem W_812 : Cond.methodLink RX10 249 yX10_hasBook ∈ ALLW := ap_44 (List.mem_of_getElem? (i := 20) rfl)
theorem W_813 : Cond.instanceMethod yX10_hasBook ∈ ALLW := ap_44 (List.mem_of_getElem? (i := 21) rfl)
theorem W_814 : Cond.selects RX10 yX10_hasBook yX10_hasBook ∈ ALLW := ap_44 (List.mem_of_getElem? (i := 22) rfl)
theorem W_815 : Cond.methodLink RX10 252 yX10_deeds ∈ ALLW := ap_44 (List.mem_of_getElem? (i := 23) rfl)
theorem W_816 : Cond.instanceMethod yX10_deeds ∈ ALLW := ap_45 (List.mem_of_getElem? (i := 0) rfl)
theorem W_817 : Cond.selects RX10 yX10_deeds yX10_deeds ∈ ALLW := ap_45 (List.mem_of_getElem? (i := 1) rfl)
theorem W_818 : Cond.methodLink RX10 255 yX10_deedOf ∈ ALLW := ap_45 (List.mem_of_getElem? (i := 2) rfl)
theorem W_819 : Cond.instanceMethod yX10_deedOf ∈ ALLW := ap_45 (List.mem_of_getElem? (i := 3) rfl)
theorem W_820 : Cond.selects RX10 yX10_deedOf yX10_deedOf ∈ ALLW := ap_45 (List.mem_of_getElem? (i := 4) rfl)
theorem W_821 : Cond.code yX10_begin cX10_begin 2 none ∈ ALLW := ap_45 (List.mem_of_getElem? (i := 5) rfl)
theorem W_822 : Cond.fieldLink RX10 258 "ClapBankModel" "chest" "I" ∈ ALLW := ap_45 (List.mem_of_getElem? (i := 6) rfl)
theorem W_823 : Cond.fieldLink RX10 261 "ClapBankModel" "encores" "I" ∈ ALLW := ap_45 (List.mem_of_getElem? (i := 7) rfl)
theorem W_824 : Cond.fieldLink RX10 264 "ClapBankModel" "nights" "I" ∈ ALLW := ap_45 (List.mem_of_getElem? (i := 8) rfl)
theorem W_825 : Cond.fieldLink RX10 267 "ClapBankModel" "lives" "I" ∈ ALLW := ap_45 (List.mem_of_getElem? (i := 9) rfl)
theorem W_826 : Cond.fieldLink RX10 270 "ClapBankModel" "claps" "I" ∈ ALLW := ap_45 (List.mem_of_getElem? (i := 10) rfl)
theorem W_827 : Cond.fieldLink RX10 273 "ClapBankModel" "echoFor" "I" ∈ ALLW := ap_45 (List.mem_of_getElem? (i := 11) rfl)
theorem W_828 : Cond.methodLink RX10 276 yX10_morning ∈ ALLW := ap_45 (List.mem_of_getElem? (i := 12) rfl)
theorem W_829 : Cond.instanceMethod yX10_morning ∈ ALLW := ap_45 (List.mem_of_getElem? (i := 13) rfl)
theorem W_830 : Cond.selects RX10 yX10_morning yX10_morning ∈ ALLW := ap_45 (List.mem_of_getElem? (i := 14) rfl)
theorem W_831 : Cond.code yX10_morning cX10_morning 2 none ∈ ALLW := ap_45 (List.mem_of_getElem? (i := 15) rfl)
theorem W_832 : Cond.fieldLink RX10 279 "ClapBankModel" "hushed" "I" ∈ ALLW := ap_45 (List.mem_of_getElem? (i := 16) rfl)
theorem W_833 : Cond.code yX10_isLiving cX10_isLiving 2 (some .boolean) ∈ ALLW := ap_45 (List.mem_of_getElem? (i := 17) rfl)
theorem W_834 : Cond.code yX10_eats cX10_eats 3 (some .int) ∈ ALLW := ap_45 (List.mem_of_getElem? (i := 18) rfl)
theorem W_835 : Cond.methodLink RX10 282 yX10_hungerOf ∈ ALLW := ap_45 (List.mem_of_getElem? (i := 19) rfl)
theorem W_836 : Cond.instanceMethod yX10_hungerOf ∈ ALLW := ap_45 (List.mem_of_getElem? (i := 20) rfl)
theorem W_837 : Cond.selects RX10 yX10_hungerOf yX10_hungerOf ∈ ALLW := ap_45 (List.mem_of_getElem? (i := 21) rfl)
theorem W_838 : Cond.code yX10_gets cX10_gets 3 none ∈ ALLW := ap_45 (List.mem_of_getElem? (i := 22) rfl)
theorem W_839 : Cond.code yX10_clapsFor cX10_clapsFor 5 (some .boolean) ∈ ALLW := ap_45 (List.mem_of_getElem? (i := 23) rfl)
theorem W_840 : Cond.methodLink RX10 285 yX10_isLiving ∈ ALLW := ap_46 (List.mem_of_getElem? (i := 0) rfl)
theorem W_841 : Cond.instanceMethod yX10_isLiving ∈ ALLW := ap_46 (List.mem_of_getElem? (i := 1) rfl)
theorem W_842 : Cond.selects RX10 yX10_isLiving yX10_isLiving ∈ ALLW := ap_46 (List.mem_of_getElem? (i := 2) rfl)
theorem W_843 : Cond.methodLink RX10 288 yX10_handsOf ∈ ALLW := ap_46 (List.mem_of_getElem? (i := 3) rfl)
theorem W_844 : Cond.instanceMethod yX10_handsOf ∈ ALLW := ap_46 (List.mem_of_getElem? (i := 4) rfl)
theorem W_845 : Cond.selects RX10 yX10_handsOf yX10_handsOf ∈ ALLW := ap_46 (List.mem_of_getElem? (i := 5) rfl)
theorem W_846 : Cond.methodLink RX10 291 yX10_gets ∈ ALLW := ap_46 (List.mem_of_getElem? (i := 6) rfl)
theorem W_847 : Cond.instanceMethod yX10_gets ∈ ALLW := ap_46 (List.mem_of_getElem? (i := 7) rfl)
theorem W_848 : Cond.selects RX10 yX10_gets yX10_gets ∈ ALLW := ap_46 (List.mem_of_getElem? (i := 8) rfl)
theorem W_849 : Cond.code yX10_gives cX10_gives 5 (some .boolean) ∈ ALLW := ap_46 (List.mem_of_getElem? (i := 9) rfl)
theorem W_850 : Cond.code yX10_hushes cX10_hushes 4 (some .boolean) ∈ ALLW := ap_46 (List.mem_of_getElem? (i := 10) rfl)
theorem W_851 : Cond.code yX10_eatsNow cX10_eatsNow 3 (some .boolean) ∈ ALLW := ap_46 (List.mem_of_getElem? (i := 11) rfl)
theorem W_852 : Cond.methodLink RX10 294 yX10_eats ∈ ALLW := ap_46 (List.mem_of_getElem? (i := 12) rfl)
theorem W_853 : Cond.instanceMethod yX10_eats ∈ ALLW := ap_46 (List.mem_of_getElem? (i := 13) rfl)
theorem W_854 : Cond.selects RX10 yX10_eats yX10_eats ∈ ALLW := ap_46 (List.mem_of_getElem? (i := 14) rfl)
theorem W_855 : Cond.code yX10_night cX10_night 2 none ∈ ALLW := ap_46 (List.mem_of_getElem? (i := 15) rfl)
theorem W_856 : Cond.constantLong RX10 300 (100) ∈ ALLW := ap_46 (List.mem_of_getElem? (i := 16) rfl)
theorem W_857 : Cond.fieldLink RX10 302 "ClapBankModel" "capped" "Z" ∈ ALLW := ap_46 (List.mem_of_getElem? (i := 17) rfl)
theorem W_858 : Cond.constant RX10 306 (1000000) ∈ ALLW := ap_46 (List.mem_of_getElem? (i := 18) rfl)
theorem W_859 : Cond.methodLink RX10 297 yX10_eatsNow ∈ ALLW := ap_46 (List.mem_of_getElem? (i := 19) rfl)
theorem W_860 : Cond.instanceMethod yX10_eatsNow ∈ ALLW := ap_46 (List.mem_of_getElem? (i := 20) rfl)
theorem W_861 : Cond.selects RX10 yX10_eatsNow yX10_eatsNow ∈ ALLW := ap_46 (List.mem_of_getElem? (i := 21) rfl)
theorem W_862 : Cond.code yX10_does cX10_does 5 (some .boolean) ∈ ALLW := ap_46 (List.mem_of_getElem? (i := 22) rfl)
theorem W_863 : Cond.methodLink RX10 307 yX10_clapsFor ∈ ALLW := ap_46 (List.mem_of_getElem? (i := 23) rfl)
theorem W_864 : Cond.instanceMethod yX10_clapsFor ∈ ALLW := ap_47 (List.mem_of_getElem? (i := 0) rfl)
theorem W_865 : Cond.selects RX10 yX10_clapsFor yX10_clapsFor ∈ ALLW := ap_47 (List.mem_of_getElem? (i := 1) rfl)
theorem W_866 : Cond.methodLink RX10 310 yX10_gives ∈ ALLW := ap_47 (List.mem_of_getElem? (i := 2) rfl)
theorem W_867 : Cond.instanceMethod yX10_gives ∈ ALLW := ap_47 (List.mem_of_getElem? (i := 3) rfl)
theorem W_868 : Cond.selects RX10 yX10_gives yX10_gives ∈ ALLW := ap_47 (List.mem_of_getElem? (i := 4) rfl)
theorem W_869 : Cond.methodLink RX10 314 yX10_hushes ∈ ALLW := ap_47 (List.mem_of_getElem? (i := 5) rfl)
theorem W_870 : Cond.instanceMethod yX10_hushes ∈ ALLW := ap_47 (List.mem_of_getElem? (i := 6) rfl)
theorem W_871 : Cond.selects RX10 yX10_hushes yX10_hushes ∈ ALLW := ap_47 (List.mem_of_getElem? (i := 7) rfl)
theorem W_872 : Cond.methodLink RX10 317 yX10_night ∈ ALLW := ap_47 (List.mem_of_getElem? (i := 8) rfl)
theorem W_873 : Cond.instanceMethod yX10_night ∈ ALLW := ap_47 (List.mem_of_getElem? (i := 9) rfl)
theorem W_874 : Cond.selects RX10 yX10_night yX10_night ∈ ALLW := ap_47 (List.mem_of_getElem? (i := 10) rfl)
theorem W_875 : Cond.code yX10_doesNext cX10_doesNext 2 (some .boolean) ∈ ALLW := ap_47 (List.mem_of_getElem? (i := 11) rfl)
theorem W_876 : Cond.methodLink RX10 320 yX10_does ∈ ALLW := ap_47 (List.mem_of_getElem? (i := 12) rfl)
theorem W_877 : Cond.instanceMethod yX10_does ∈ ALLW := ap_47 (List.mem_of_getElem? (i := 13) rfl)
theorem W_878 : Cond.selects RX10 yX10_does yX10_does ∈ ALLW := ap_47 (List.mem_of_getElem? (i := 14) rfl)
theorem W_879 : Cond.code yX10_play cX10_play 3 (some .int) ∈ ALLW := ap_47 (List.mem_of_getElem? (i := 15) rfl)
theorem W_880 : Cond.methodLink RX10 323 yX10_begin ∈ ALLW := ap_47 (List.mem_of_getElem? (i := 16) rfl)
theorem W_881 : Cond.instanceMethod yX10_begin ∈ ALLW := ap_47 (List.mem_of_getElem? (i := 17) rfl)
theorem W_882 : Cond.selects RX10 yX10_begin yX10_begin ∈ ALLW := ap_47 (List.mem_of_getElem? (i := 18) rfl)
theorem W_883 : Cond.methodLink RX10 326 yX10_doesNext ∈ ALLW := ap_47 (List.mem_of_getElem? (i := 19) rfl)
theorem W_884 : Cond.instanceMethod yX10_doesNext ∈ ALLW := ap_47 (List.mem_of_getElem? (i := 20) rfl)
theorem W_885 : Cond.selects RX10 yX10_doesNext yX10_doesNext ∈ ALLW := ap_47 (List.mem_of_getElem? (i := 21) rfl)
theorem W_886 : Cond.code yX10_layState cX10_layState 4 (some .boolean) ∈ ALLW := ap_47 (List.mem_of_getElem? (i := 22) rfl)
theorem W_887 : Cond.methodLink RX10 329 yX10_play ∈ ALLW := ap_47 (List.mem_of_getElem? (i := 23) rfl)
theorem W_888 : Cond.instanceMethod yX10_play ∈ ALLW := ap_48 (List.mem_of_getElem? (i := 0) rfl)
theorem W_889 : Cond.selects RX10 yX10_play yX10_play ∈ ALLW := ap_48 (List.mem_of_getElem? (i := 1) rfl)
theorem W_890 : Cond.code yX10_stop cX10_stop 3 (some .int) ∈ ALLW := ap_48 (List.mem_of_getElem? (i := 2) rfl)
theorem W_891 : Cond.code yX10_allSaved cX10_allSaved 3 (some .int) ∈ ALLW := ap_48 (List.mem_of_getElem? (i := 3) rfl)
theorem W_892 : Cond.code yX10_state cX10_state 5 (some .int) ∈ ALLW := ap_48 (List.mem_of_getElem? (i := 4) rfl)
theorem W_893 : Cond.methodLink RX10 332 yX10_layState ∈ ALLW := ap_48 (List.mem_of_getElem? (i := 5) rfl)
theorem W_894 : Cond.instanceMethod yX10_layState ∈ ALLW := ap_48 (List.mem_of_getElem? (i := 6) rfl)
theorem W_895 : Cond.selects RX10 yX10_layState yX10_layState ∈ ALLW := ap_48 (List.mem_of_getElem? (i := 7) rfl)
theorem W_896 : Cond.methodLink RX10 335 yX10_allSaved ∈ ALLW := ap_48 (List.mem_of_getElem? (i := 8) rfl)
theorem W_897 : Cond.instanceMethod yX10_allSaved ∈ ALLW := ap_48 (List.mem_of_getElem? (i := 9) rfl)
theorem W_898 : Cond.selects RX10 yX10_allSaved yX10_allSaved ∈ ALLW := ap_48 (List.mem_of_getElem? (i := 10) rfl)
theorem W_899 : Cond.code yX10_palm cX10_palm 6 (some .int) ∈ ALLW := ap_48 (List.mem_of_getElem? (i := 11) rfl)
theorem W_900 : Cond.code yX10_needOf cX10_needOf 2 (some .int) ∈ ALLW := ap_48 (List.mem_of_getElem? (i := 12) rfl)
theorem W_901 : Cond.methodLink RX10 338 yX10_greater ∈ ALLW := ap_48 (List.mem_of_getElem? (i := 13) rfl)
theorem W_902 : Cond.static yX10_greater ∈ ALLW := ap_48 (List.mem_of_getElem? (i := 14) rfl)
theorem W_903 : Cond.code yX10_friday cX10_friday 3 (some .int) ∈ ALLW := ap_48 (List.mem_of_getElem? (i := 15) rfl)
theorem W_904 : Cond.code yX10_star cX10_star 5 (some .int) ∈ ALLW := ap_48 (List.mem_of_getElem? (i := 16) rfl)
theorem W_905 : Cond.code yX10_actor cX10_actor 7 (some .int) ∈ ALLW := ap_48 (List.mem_of_getElem? (i := 17) rfl)
theorem W_906 : Cond.methodLink RX10 341 yX10_needOf ∈ ALLW := ap_48 (List.mem_of_getElem? (i := 18) rfl)
theorem W_907 : Cond.instanceMethod yX10_needOf ∈ ALLW := ap_48 (List.mem_of_getElem? (i := 19) rfl)
theorem W_908 : Cond.selects RX10 yX10_needOf yX10_needOf ∈ ALLW := ap_48 (List.mem_of_getElem? (i := 20) rfl)
theorem W_909 : Cond.methodLink RX10 344 yX10_friday ∈ ALLW := ap_48 (List.mem_of_getElem? (i := 21) rfl)
theorem W_910 : Cond.instanceMethod yX10_friday ∈ ALLW := ap_48 (List.mem_of_getElem? (i := 22) rfl)
theorem W_911 : Cond.selects RX10 yX10_friday yX10_friday ∈ ALLW := ap_48 (List.mem_of_getElem? (i := 23) rfl)
theorem W_912 : Cond.methodLink RX10 347 yX10_star ∈ ALLW := ap_49 (List.mem_of_getElem? (i := 0) rfl)
theorem W_913 : Cond.instanceMethod yX10_star ∈ ALLW := ap_49 (List.mem_of_getElem? (i := 1) rfl)
theorem W_914 : Cond.selects RX10 yX10_star yX10_star ∈ ALLW := ap_49 (List.mem_of_getElem? (i := 2) rfl)
theorem W_915 : Cond.code yX10_isInDanger cX10_isInDanger 6 (some .boolean) ∈ ALLW := ap_49 (List.mem_of_getElem? (i := 3) rfl)
theorem W_916 : Cond.code yX10_isDoomed cX10_isDoomed 2 (some .boolean) ∈ ALLW := ap_49 (List.mem_of_getElem? (i := 4) rfl)
theorem W_917 : Cond.code yX10_run cX10_run 8 (some .int) ∈ ALLW := ap_49 (List.mem_of_getElem? (i := 5) rfl)
theorem W_918 : Cond.methodLink RX10 350 yX10_isDoomed ∈ ALLW := ap_49 (List.mem_of_getElem? (i := 6) rfl)
theorem W_919 : Cond.instanceMethod yX10_isDoomed ∈ ALLW := ap_49 (List.mem_of_getElem? (i := 7) rfl)
theorem W_920 : Cond.selects RX10 yX10_isDoomed yX10_isDoomed ∈ ALLW := ap_49 (List.mem_of_getElem? (i := 8) rfl)
theorem W_921 : Cond.methodLink RX10 353 yX10_isInDanger ∈ ALLW := ap_49 (List.mem_of_getElem? (i := 9) rfl)
theorem W_922 : Cond.instanceMethod yX10_isInDanger ∈ ALLW := ap_49 (List.mem_of_getElem? (i := 10) rfl)
theorem W_923 : Cond.selects RX10 yX10_isInDanger yX10_isInDanger ∈ ALLW := ap_49 (List.mem_of_getElem? (i := 11) rfl)
theorem W_924 : Cond.code yX10_leftOf cX10_leftOf 4 (some .int) ∈ ALLW := ap_49 (List.mem_of_getElem? (i := 12) rfl)
theorem W_925 : Cond.code yX10_canFeed cX10_canFeed 9 (some .boolean) ∈ ALLW := ap_49 (List.mem_of_getElem? (i := 13) rfl)
theorem W_926 : Cond.fieldLink RX10 359 "ClapBankModel" "twoHands" "I" ∈ ALLW := ap_49 (List.mem_of_getElem? (i := 14) rfl)
theorem W_927 : Cond.fieldLink RX10 362 "ClapBankModel" "oneHand" "I" ∈ ALLW := ap_49 (List.mem_of_getElem? (i := 15) rfl)
theorem W_928 : Cond.methodLink RX10 356 yX10_leftOf ∈ ALLW := ap_49 (List.mem_of_getElem? (i := 16) rfl)
theorem W_929 : Cond.instanceMethod yX10_leftOf ∈ ALLW := ap_49 (List.mem_of_getElem? (i := 17) rfl)
theorem W_930 : Cond.selects RX10 yX10_leftOf yX10_leftOf ∈ ALLW := ap_49 (List.mem_of_getElem? (i := 18) rfl)
theorem W_931 : Cond.code yX10_feast cX10_feast 11 (some .int) ∈ ALLW := ap_49 (List.mem_of_getElem? (i := 19) rfl)
theorem W_932 : Cond.methodLink RX10 365 yX10_canFeed ∈ ALLW := ap_49 (List.mem_of_getElem? (i := 20) rfl)
theorem W_933 : Cond.instanceMethod yX10_canFeed ∈ ALLW := ap_49 (List.mem_of_getElem? (i := 21) rfl)
theorem W_934 : Cond.selects RX10 yX10_canFeed yX10_canFeed ∈ ALLW := ap_49 (List.mem_of_getElem? (i := 22) rfl)
theorem W_935 : Cond.methodLink RX10 368 yX10_ones ∈ ALLW := ap_49 (List.mem_of_getElem? (i := 23) rfl)
theorem W_936 : Cond.static yX10_ones ∈ ALLW := ap_50 (List.mem_of_getElem? (i := 0) rfl)
theorem W_937 : Cond.code yX10_common cX10_common 5 (some .int) ∈ ALLW := ap_50 (List.mem_of_getElem? (i := 1) rfl)
theorem W_938 : Cond.code yX10_fair cX10_fair 8 (some .int) ∈ ALLW := ap_50 (List.mem_of_getElem? (i := 2) rfl)
theorem W_939 : Cond.methodLink RX10 371 yX10_common ∈ ALLW := ap_50 (List.mem_of_getElem? (i := 3) rfl)
theorem W_940 : Cond.static yX10_common ∈ ALLW := ap_50 (List.mem_of_getElem? (i := 4) rfl)
theorem W_941 : Cond.code yX10_usurers cX10_usurers 1 (some .int) ∈ ALLW := ap_50 (List.mem_of_getElem? (i := 5) rfl)
theorem W_942 : Cond.code yX10_findAsks cX10_findAsks 5 none ∈ ALLW := ap_50 (List.mem_of_getElem? (i := 6) rfl)
theorem W_943 : Cond.methodLink RX10 374 yX10_usurers ∈ ALLW := ap_50 (List.mem_of_getElem? (i := 7) rfl)
theorem W_944 : Cond.instanceMethod yX10_usurers ∈ ALLW := ap_50 (List.mem_of_getElem? (i := 8) rfl)
theorem W_945 : Cond.selects RX10 yX10_usurers yX10_usurers ∈ ALLW := ap_50 (List.mem_of_getElem? (i := 9) rfl)
theorem W_946 : Cond.code yX10_layUsurer cX10_layUsurer 4 (some .boolean) ∈ ALLW := ap_50 (List.mem_of_getElem? (i := 10) rfl)
theorem W_947 : Cond.methodLink RX10 377 yX10_findAsks ∈ ALLW := ap_50 (List.mem_of_getElem? (i := 11) rfl)
theorem W_948 : Cond.instanceMethod yX10_findAsks ∈ ALLW := ap_50 (List.mem_of_getElem? (i := 12) rfl)
theorem W_949 : Cond.selects RX10 yX10_findAsks yX10_findAsks ∈ ALLW := ap_50 (List.mem_of_getElem? (i := 13) rfl)
theorem W_950 : Cond.code yX10_ask cX10_ask 4 (some .int) ∈ ALLW := ap_50 (List.mem_of_getElem? (i := 14) rfl)
theorem W_951 : Cond.methodLink RX10 380 yX10_layUsurer ∈ ALLW := ap_50 (List.mem_of_getElem? (i := 15) rfl)
theorem W_952 : Cond.instanceMethod yX10_layUsurer ∈ ALLW := ap_50 (List.mem_of_getElem? (i := 16) rfl)
theorem W_953 : Cond.selects RX10 yX10_layUsurer yX10_layUsurer ∈ ALLW := ap_50 (List.mem_of_getElem? (i := 17) rfl)
theorem W_954 : Cond.code yX10_taken cX10_taken 6 (some .int) ∈ ALLW := ap_50 (List.mem_of_getElem? (i := 18) rfl)
theorem W_955 : Cond.code yX10_areAlike cX10_areAlike 4 (some .boolean) ∈ ALLW := ap_50 (List.mem_of_getElem? (i := 19) rfl)
theorem W_956 : Cond.code yX10_stands cX10_stands 5 (some .int) ∈ ALLW := ap_50 (List.mem_of_getElem? (i := 20) rfl)
theorem W_957 : Cond.methodLink RX10 383 yX10_areAlike ∈ ALLW := ap_50 (List.mem_of_getElem? (i := 21) rfl)
theorem W_958 : Cond.instanceMethod yX10_areAlike ∈ ALLW := ap_50 (List.mem_of_getElem? (i := 22) rfl)
theorem W_959 : Cond.selects RX10 yX10_areAlike yX10_areAlike ∈ ALLW := ap_50 (List.mem_of_getElem? (i := 23) rfl)
theorem W_960 : Cond.code yX10_hasDark cX10_hasDark 2 (some .boolean) ∈ ALLW := ap_51 (List.mem_of_getElem? (i := 0) rfl)
theorem W_961 : Cond.fieldLink RX10 386 "ClapBankModel" "dark" "I" ∈ ALLW := ap_51 (List.mem_of_getElem? (i := 1) rfl)
theorem W_962 : Cond.fieldLink RX10 389 "ClapBankModel" "minutes" "I" ∈ ALLW := ap_51 (List.mem_of_getElem? (i := 2) rfl)
theorem W_963 : Cond.code yX10_heardOf cX10_heardOf 2 (some .int) ∈ ALLW := ap_51 (List.mem_of_getElem? (i := 3) rfl)
theorem W_964 : Cond.code yX10_heard cX10_heard 3 (some .int) ∈ ALLW := ap_51 (List.mem_of_getElem? (i := 4) rfl)
theorem W_965 : Cond.methodLink RX10 392 yX10_hasDark ∈ ALLW := ap_51 (List.mem_of_getElem? (i := 5) rfl)
theorem W_966 : Cond.instanceMethod yX10_hasDark ∈ ALLW := ap_51 (List.mem_of_getElem? (i := 6) rfl)
theorem W_967 : Cond.selects RX10 yX10_hasDark yX10_hasDark ∈ ALLW := ap_51 (List.mem_of_getElem? (i := 7) rfl)
theorem W_968 : Cond.methodLink RX10 395 yX10_heardOf ∈ ALLW := ap_51 (List.mem_of_getElem? (i := 8) rfl)
theorem W_969 : Cond.instanceMethod yX10_heardOf ∈ ALLW := ap_51 (List.mem_of_getElem? (i := 9) rfl)
theorem W_970 : Cond.selects RX10 yX10_heardOf yX10_heardOf ∈ ALLW := ap_51 (List.mem_of_getElem? (i := 10) rfl)
theorem W_971 : Cond.code yX10_after cX10_after 5 (some .int) ∈ ALLW := ap_51 (List.mem_of_getElem? (i := 11) rfl)
theorem W_972 : Cond.code yX10_halvesOf cX10_halvesOf 4 (some .int) ∈ ALLW := ap_51 (List.mem_of_getElem? (i := 12) rfl)
theorem W_973 : Cond.code yX10_states cX10_states 3 (some .int) ∈ ALLW := ap_51 (List.mem_of_getElem? (i := 13) rfl)
theorem W_974 : Cond.code yX10_findDark cX10_findDark 3 none ∈ ALLW := ap_51 (List.mem_of_getElem? (i := 14) rfl)
theorem W_975 : Cond.methodLink RX10 398 yX10_states ∈ ALLW := ap_51 (List.mem_of_getElem? (i := 15) rfl)
theorem W_976 : Cond.instanceMethod yX10_states ∈ ALLW := ap_51 (List.mem_of_getElem? (i := 16) rfl)
theorem W_977 : Cond.selects RX10 yX10_states yX10_states ∈ ALLW := ap_51 (List.mem_of_getElem? (i := 17) rfl)
theorem W_978 : Cond.methodLink RX10 401 yX10_goOn ∈ ALLW := ap_51 (List.mem_of_getElem? (i := 18) rfl)
theorem W_979 : Cond.instanceMethod yX10_goOn ∈ ALLW := ap_51 (List.mem_of_getElem? (i := 19) rfl)
theorem W_980 : Cond.selects RX10 yX10_goOn yX10_goOn ∈ ALLW := ap_51 (List.mem_of_getElem? (i := 20) rfl)
theorem W_981 : Cond.code yX10_goOn cX10_goOn 6 none ∈ ALLW := ap_51 (List.mem_of_getElem? (i := 21) rfl)
theorem W_982 : Cond.methodLink RX10 407 yX10_halvesOf ∈ ALLW := ap_51 (List.mem_of_getElem? (i := 22) rfl)
theorem W_983 : Cond.instanceMethod yX10_halvesOf ∈ ALLW := ap_51 (List.mem_of_getElem? (i := 23) rfl)
theorem W_984 : Cond.selects RX10 yX10_halvesOf yX10_halvesOf ∈ ALLW := ap_52 (List.mem_of_getElem? (i := 0) rfl)
theorem W_985 : Cond.methodLink RX10 410 yX10_after ∈ ALLW := ap_52 (List.mem_of_getElem? (i := 1) rfl)
theorem W_986 : Cond.instanceMethod yX10_after ∈ ALLW := ap_52 (List.mem_of_getElem? (i := 2) rfl)
theorem W_987 : Cond.selects RX10 yX10_after yX10_after ∈ ALLW := ap_52 (List.mem_of_getElem? (i := 3) rfl)
theorem W_988 : Cond.methodLink RX10 404 yX10_goBack ∈ ALLW := ap_52 (List.mem_of_getElem? (i := 4) rfl)
theorem W_989 : Cond.instanceMethod yX10_goBack ∈ ALLW := ap_52 (List.mem_of_getElem? (i := 5) rfl)
theorem W_990 : Cond.selects RX10 yX10_goBack yX10_goBack ∈ ALLW := ap_52 (List.mem_of_getElem? (i := 6) rfl)
theorem W_991 : Cond.code yX10_goBack cX10_goBack 6 none ∈ ALLW := ap_52 (List.mem_of_getElem? (i := 7) rfl)
theorem W_992 : Cond.code yX10_ways cX10_ways 3 (some .long) ∈ ALLW := ap_52 (List.mem_of_getElem? (i := 8) rfl)
theorem W_993 : Cond.constantLong RX10 413 (-1) ∈ ALLW := ap_52 (List.mem_of_getElem? (i := 9) rfl)
theorem W_994 : Cond.methodLink RX10 415 yX10_findDark ∈ ALLW := ap_52 (List.mem_of_getElem? (i := 10) rfl)
theorem W_995 : Cond.instanceMethod yX10_findDark ∈ ALLW := ap_52 (List.mem_of_getElem? (i := 11) rfl)
theorem W_996 : Cond.selects RX10 yX10_findDark yX10_findDark ∈ ALLW := ap_52 (List.mem_of_getElem? (i := 12) rfl)
theorem W_997 : Cond.code yX10_mayBe cX10_mayBe 5 (some .boolean) ∈ ALLW := ap_52 (List.mem_of_getElem? (i := 13) rfl)
theorem W_998 : Cond.code yX10_whose cX10_whose 8 (some .int) ∈ ALLW := ap_52 (List.mem_of_getElem? (i := 14) rfl)
theorem W_999 : Cond.methodLink RX10 418 yX10_mayBe ∈ ALLW := ap_52 (List.mem_of_getElem? (i := 15) rfl)
theorem W_1000 : Cond.instanceMethod yX10_mayBe ∈ ALLW := ap_52 (List.mem_of_getElem? (i := 16) rfl)
theorem W_1001 : Cond.selects RX10 yX10_mayBe yX10_mayBe ∈ ALLW := ap_52 (List.mem_of_getElem? (i := 17) rfl)
theorem W_1002 : Cond.code yX10_draw cX10_draw 2 (some .int) ∈ ALLW := ap_52 (List.mem_of_getElem? (i := 18) rfl)
theorem W_1003 : Cond.fieldLink RX10 421 "ClapBankModel" "seed" "I" ∈ ALLW := ap_52 (List.mem_of_getElem? (i := 19) rfl)
theorem W_1004 : Cond.constant RX10 424 (1103515245) ∈ ALLW := ap_52 (List.mem_of_getElem? (i := 20) rfl)
theorem W_1005 : Cond.code yX10_livingOne cX10_livingOne 4 (some .int) ∈ ALLW := ap_52 (List.mem_of_getElem? (i := 21) rfl)
theorem W_1006 : Cond.code yX10_drawn cX10_drawn 8 (some .int) ∈ ALLW := ap_52 (List.mem_of_getElem? (i := 22) rfl)
theorem W_1007 : Cond.methodLink RX10 425 yX10_draw ∈ ALLW := ap_52 (List.mem_of_getElem? (i := 23) rfl)
theorem W_1008 : Cond.instanceMethod yX10_draw ∈ ALLW := ap_53 (List.mem_of_getElem? (i := 0) rfl)
theorem W_1009 : Cond.selects RX10 yX10_draw yX10_draw ∈ ALLW := ap_53 (List.mem_of_getElem? (i := 1) rfl)
theorem W_1010 : Cond.methodLink RX10 428 yX10_livingOne ∈ ALLW := ap_53 (List.mem_of_getElem? (i := 2) rfl)
theorem W_1011 : Cond.instanceMethod yX10_livingOne ∈ ALLW := ap_53 (List.mem_of_getElem? (i := 3) rfl)
theorem W_1012 : Cond.selects RX10 yX10_livingOne yX10_livingOne ∈ ALLW := ap_53 (List.mem_of_getElem? (i := 4) rfl)
theorem W_1013 : Cond.code yX10_mostOwing cX10_mostOwing 6 (some .int) ∈ ALLW := ap_53 (List.mem_of_getElem? (i := 5) rfl)
theorem W_1014 : Cond.code yX10_idol cX10_idol 6 (some .int) ∈ ALLW := ap_53 (List.mem_of_getElem? (i := 6) rfl)
theorem W_1015 : Cond.code yX10_eatsBy cX10_eatsBy 5 (some .boolean) ∈ ALLW := ap_53 (List.mem_of_getElem? (i := 7) rfl)
theorem W_1016 : Cond.code yX10_tip cX10_tip 3 (some .int) ∈ ALLW := ap_53 (List.mem_of_getElem? (i := 8) rfl)
theorem W_1017 : Cond.methodLink RX10 431 yX10_eatsBy ∈ ALLW := ap_53 (List.mem_of_getElem? (i := 9) rfl)
theorem W_1018 : Cond.instanceMethod yX10_eatsBy ∈ ALLW := ap_53 (List.mem_of_getElem? (i := 10) rfl)
theorem W_1019 : Cond.selects RX10 yX10_eatsBy yX10_eatsBy ∈ ALLW := ap_53 (List.mem_of_getElem? (i := 11) rfl)
theorem W_1020 : Cond.code yX10_dear cX10_dear 3 (some .int) ∈ ALLW := ap_53 (List.mem_of_getElem? (i := 12) rfl)
theorem W_1021 : Cond.code yX10_look cX10_look 5 (some .int) ∈ ALLW := ap_53 (List.mem_of_getElem? (i := 13) rfl)
theorem W_1022 : Cond.methodLink RX10 434 yX10_tip ∈ ALLW := ap_53 (List.mem_of_getElem? (i := 14) rfl)
theorem W_1023 : Cond.instanceMethod yX10_tip ∈ ALLW := ap_53 (List.mem_of_getElem? (i := 15) rfl)
theorem W_1024 : Cond.selects RX10 yX10_tip yX10_tip ∈ ALLW := ap_53 (List.mem_of_getElem? (i := 16) rfl)
theorem W_1025 : Cond.methodLink RX10 437 yX10_mostOwing ∈ ALLW := ap_53 (List.mem_of_getElem? (i := 17) rfl)
theorem W_1026 : Cond.instanceMethod yX10_mostOwing ∈ ALLW := ap_53 (List.mem_of_getElem? (i := 18) rfl)
theorem W_1027 : Cond.selects RX10 yX10_mostOwing yX10_mostOwing ∈ ALLW := ap_53 (List.mem_of_getElem? (i := 19) rfl)
theorem W_1028 : Cond.methodLink RX10 440 yX10_idol ∈ ALLW := ap_53 (List.mem_of_getElem? (i := 20) rfl)
theorem W_1029 : Cond.instanceMethod yX10_idol ∈ ALLW := ap_53 (List.mem_of_getElem? (i := 21) rfl)
theorem W_1030 : Cond.selects RX10 yX10_idol yX10_idol ∈ ALLW := ap_53 (List.mem_of_getElem? (i := 22) rfl)
theorem W_1031 : Cond.methodLink RX10 443 yX10_dear ∈ ALLW := ap_53 (List.mem_of_getElem? (i := 23) rfl)
theorem W_1032 : Cond.instanceMethod yX10_dear ∈ ALLW := ap_54 (List.mem_of_getElem? (i := 0) rfl)
theorem W_1033 : Cond.selects RX10 yX10_dear yX10_dear ∈ ALLW := ap_54 (List.mem_of_getElem? (i := 1) rfl)
theorem W_1034 : Cond.code yX10_names cX10_names 4 (some .boolean) ∈ ALLW := ap_54 (List.mem_of_getElem? (i := 2) rfl)
theorem W_1035 : Cond.code yX10_starvedWithout cX10_starvedWithout 5 (some .int) ∈ ALLW := ap_54 (List.mem_of_getElem? (i := 3) rfl)
theorem W_1036 : Cond.methodLink RX10 446 yX10_names ∈ ALLW := ap_54 (List.mem_of_getElem? (i := 4) rfl)
theorem W_1037 : Cond.instanceMethod yX10_names ∈ ALLW := ap_54 (List.mem_of_getElem? (i := 5) rfl)
theorem W_1038 : Cond.selects RX10 yX10_names yX10_names ∈ ALLW := ap_54 (List.mem_of_getElem? (i := 6) rfl)
theorem W_1039 : Cond.code yX10_silence cX10_silence 9 (some .int) ∈ ALLW := ap_54 (List.mem_of_getElem? (i := 7) rfl)
theorem W_1040 : Cond.methodLink RX10 449 yX10_starvedWithout ∈ ALLW := ap_54 (List.mem_of_getElem? (i := 8) rfl)
theorem W_1041 : Cond.instanceMethod yX10_starvedWithout ∈ ALLW := ap_54 (List.mem_of_getElem? (i := 9) rfl)
theorem W_1042 : Cond.selects RX10 yX10_starvedWithout yX10_starvedWithout ∈ ALLW := ap_54 (List.mem_of_getElem? (i := 10) rfl)
theorem W_1043 : Cond.code yX10_count cX10_count 2 (some .int) ∈ ALLW := ap_54 (List.mem_of_getElem? (i := 11) rfl)
theorem W_1044 : Cond.code yX10_image cX10_image 2 (some .boolean) ∈ ALLW := ap_54 (List.mem_of_getElem? (i := 12) rfl)
theorem W_1045 : Cond.methodLink RX10 452 yX10_copyAll ∈ ALLW := ap_54 (List.mem_of_getElem? (i := 13) rfl)
theorem W_1046 : Cond.instanceMethod yX10_copyAll ∈ ALLW := ap_54 (List.mem_of_getElem? (i := 14) rfl)
theorem W_1047 : Cond.selects RX10 yX10_copyAll yX10_copyAll ∈ ALLW := ap_54 (List.mem_of_getElem? (i := 15) rfl)
theorem W_1048 : Cond.code yX10_again cX10_again 2 (some .boolean) ∈ ALLW := ap_54 (List.mem_of_getElem? (i := 16) rfl)
theorem W_1049 : Cond.code yJ9_max_7cf53 cJ9_max_7cf53 2 (some .int) ∈ ALLW := ap_54 (List.mem_of_getElem? (i := 17) rfl)
theorem W_1050 : Cond.code yJ9_min_7cf53 cJ9_min_7cf53 2 (some .int) ∈ ALLW := ap_54 (List.mem_of_getElem? (i := 18) rfl)
theorem W_1051 : Cond.code yJ9_min_f86c9 cJ9_min_f86c9 4 (some .long) ∈ ALLW := ap_54 (List.mem_of_getElem? (i := 19) rfl)
theorem ag_0 : (wsX00).all goodWord = true := by decide +kernel
theorem ag_1 : (wsX10).all goodWord = true := by decide +kernel
theorem ag_2 : (wsX20).all goodWord = true := by decide +kernel
theorem ag_3 : (wsX30).all goodWord = true := by decide +kernel
theorem ag_4 : (wsX40).all goodWord = true := by decide +kernel
theorem ag_5 : (wsX50).all goodWord = true := by decide +kernel
theorem ag_6 : (wsX60).all goodWord = true := by decide +kernel
theorem ag_7 : (wsX70).all goodWord = true := by decide +kernel
theorem ag_8 : (wsX80).all goodWord = true := by decide +kernel
theorem ag_9 : (wsX90).all goodWord = true := by decide +kernel
theorem ag_10 : (wsX100).all goodWord = true := by decide +kernel
theorem ag_11 : (AW_0).all goodWord = true := by decide +kernel
theorem ag_12 : (AW_1).all goodWord = true := by decide +kernel
theorem ag_13 : (AW_2).all goodWord = true := by decide +kernel
theorem ag_14 : (AW_3).all goodWord = true := by decide +kernel
theorem ag_15 : (AW_4).all goodWord = true := by decide +kernel
theorem ag_16 : (AW_5).all goodWord = true := by decide +kernel
theorem ag_17 : (AW_6).all goodWord = true := by decide +kernel
theorem ag_18 : (AW_7).all goodWord = true := by decide +kernel
theorem ag_19 : (AW_8).all goodWord = true := by decide +kernel
theorem ag_20 : (AW_9).all goodWord = true := by decide +kernel
theorem ag_21 : (AW_10).all goodWord = true := by decide +kernel
theorem ag_22 : (AW_11).all goodWord = true := by decide +kernel
theorem ag_23 : (AW_12).all goodWord = true := by decide +kernel
theorem ag_24 : (AW_13).all goodWord = true := by decide +kernel
theorem ag_25 : (AW_14).all goodWord = true := by decide +kernel
theorem ag_26 : (AW_15).all goodWord = true := by decide +kernel
theorem ag_27 : (AW_16).all goodWord = true := by decide +kernel
theorem ag_28 : (AW_17).all goodWord = true := by decide +kernel
theorem ag_29 : (AW_18).all goodWord = true := by decide +kernel
theorem ag_30 : (AW_19).all goodWord = true := by decide +kernel
theorem ag_31 : (AW_20).all goodWord = true := by decide +kernel
theorem ag_32 : (AW_21).all goodWord = true := by decide +kernel
theorem ag_33 : (AW_22).all goodWord = true := by decide +kernel
theorem ag_34 : (AW_23).all goodWord = true := by decide +kernel
theorem ag_35 : (AW_24).all goodWord = true := by decide +kernel
theorem ag_36 : (AW_25).all goodWord = true := by decide +kernel
theorem ag_37 : (AW_26).all goodWord = true := by decide +kernel
theorem ag_38 : (AW_27).all goodWord = true := by decide +kernel
theorem ag_39 : (AW_28).all goodWord = true := by decide +kernel
theorem ag_40 : (AW_29).all goodWord = true := by decide +kernel
theorem ag_41 : (AW_30).all goodWord = true := by decide +kernel
theorem ag_42 : (AW_31).all goodWord = true := by decide +kernel
theorem ag_43 : (AW_32).all goodWord = true := by decide +kernel
theorem ag_44 : (AW_33).all goodWord = true := by decide +kernel
theorem ag_45 : (AW_34).all goodWord = true := by decide +kernel
theorem ag_46 : (AW_35).all goodWord = true := by decide +kernel
theorem ag_47 : (AW_36).all goodWord = true := by decide +kernel
theorem ag_48 : (AW_37).all goodWord = true := by decide +kernel
theorem ag_49 : (AW_38).all goodWord = true := by decide +kernel
theorem ag_50 : (AW_39).all goodWord = true := by decide +kernel
theorem ag_51 : (AW_40).all goodWord = true := by decide +kernel
theorem ag_52 : (AW_41).all goodWord = true := by decide +kernel
theorem ag_53 : (AW_42).all goodWord = true := by decide +kernel
theorem ag_54 : (AW_43).all goodWord = true := by decide +kernel
theorem ah_54 : AT_54.all goodWord = true := ag_54
theorem ah_53 : AT_53.all goodWord = true := by rw [AT_53, List.all_append, ag_53, ah_54]; rfl
theorem ah_52 : AT_52.all goodWord = true := by rw [AT_52, List.all_append, ag_52, ah_53]; rfl
theorem ah_51 : AT_51.all goodWord = true := by rw [AT_51, List.all_append, ag_51, ah_52]; rfl
theorem ah_50 : AT_50.all goodWord = true := by rw [AT_50, List.all_append, ag_50, ah_51]; rfl
theorem ah_49 : AT_49.all goodWord = true := by rw [AT_49, List.all_append, ag_49, ah_50]; rfl
theorem ah_48 : AT_48.all goodWord = true := by rw [AT_48, List.all_append, ag_48, ah_49]; rfl
theorem ah_47 : AT_47.all goodWord = true := by rw [AT_47, List.all_append, ag_47, ah_48]; rfl
theorem ah_46 : AT_46.all goodWord = true := by rw [AT_46, List.all_append, ag_46, ah_47]; rfl
theorem ah_45 : AT_45.all goodWord = true := by rw [AT_45, List.all_append, ag_45, ah_46]; rfl
theorem ah_44 : AT_44.all goodWord = true := by rw [AT_44, List.all_append, ag_44, ah_45]; rfl
theorem ah_43 : AT_43.all goodWord = true := by rw [AT_43, List.all_append, ag_43, ah_44]; rfl
theorem ah_42 : AT_42.all goodWord = true := by rw [AT_42, List.all_append, ag_42, ah_43]; rfl
theorem ah_41 : AT_41.all goodWord = true := by rw [AT_41, List.all_append, ag_41, ah_42]; rfl
theorem ah_40 : AT_40.all goodWord = true := by rw [AT_40, List.all_append, ag_40, ah_41]; rfl
theorem ah_39 : AT_39.all goodWord = true := by rw [AT_39, List.all_append, ag_39, ah_40]; rfl
theorem ah_38 : AT_38.all goodWord = true := by rw [AT_38, List.all_append, ag_38, ah_39]; rfl
theorem ah_37 : AT_37.all goodWord = true := by rw [AT_37, List.all_append, ag_37, ah_38]; rfl
theorem ah_36 : AT_36.all goodWord = true := by rw [AT_36, List.all_append, ag_36, ah_37]; rfl
theorem ah_35 : AT_35.all goodWord = true := by rw [AT_35, List.all_append, ag_35, ah_36]; rfl
theorem ah_34 : AT_34.all goodWord = true := by rw [AT_34, List.all_append, ag_34, ah_35]; rfl
theorem ah_33 : AT_33.all goodWord = true := by rw [AT_33, List.all_append, ag_33, ah_34]; rfl
theorem ah_32 : AT_32.all goodWord = true := by rw [AT_32, List.all_append, ag_32, ah_33]; rfl
theorem ah_31 : AT_31.all goodWord = true := by rw [AT_31, List.all_append, ag_31, ah_32]; rfl
theorem ah_30 : AT_30.all goodWord = true := by rw [AT_30, List.all_append, ag_30, ah_31]; rfl
theorem ah_29 : AT_29.all goodWord = true := by rw [AT_29, List.all_append, ag_29, ah_30]; rfl
theorem ah_28 : AT_28.all goodWord = true := by rw [AT_28, List.all_append, ag_28, ah_29]; rfl
theorem ah_27 : AT_27.all goodWord = true := by rw [AT_27, List.all_append, ag_27, ah_28]; rfl
theorem ah_26 : AT_26.all goodWord = true := by rw [AT_26, List.all_append, ag_26, ah_27]; rfl
theorem ah_25 : AT_25.all goodWord = true := by rw [AT_25, List.all_append, ag_25, ah_26]; rfl
theorem ah_24 : AT_24.all goodWord = true := by rw [AT_24, List.all_append, ag_24, ah_25]; rfl
theorem ah_23 : AT_23.all goodWord = true := by rw [AT_23, List.all_append, ag_23, ah_24]; rfl
theorem ah_22 : AT_22.all goodWord = true := by rw [AT_22, List.all_append, ag_22, ah_23]; rfl
theorem ah_21 : AT_21.all goodWord = true := by rw [AT_21, List.all_append, ag_21, ah_22]; rfl
theorem ah_20 : AT_20.all goodWord = true := by rw [AT_20, List.all_append, ag_20, ah_21]; rfl
theorem ah_19 : AT_19.all goodWord = true := by rw [AT_19, List.all_append, ag_19, ah_20]; rfl
theorem ah_18 : AT_18.all goodWord = true := by rw [AT_18, List.all_append, ag_18, ah_19]; rfl
theorem ah_17 : AT_17.all goodWord = true := by rw [AT_17, List.all_append, ag_17, ah_18]; rfl
theorem ah_16 : AT_16.all goodWord = true := by rw [AT_16, List.all_append, ag_16, ah_17]; rfl
theorem ah_15 : AT_15.all goodWord = true := by rw [AT_15, List.all_append, ag_15, ah_16]; rfl
theorem ah_14 : AT_14.all goodWord = true := by rw [AT_14, List.all_append, ag_14, ah_15]; rfl
theorem ah_13 : AT_13.all goodWord = true := by rw [AT_13, List.all_append, ag_13, ah_14]; rfl
theorem ah_12 : AT_12.all goodWord = true := by rw [AT_12, List.all_append, ag_12, ah_13]; rfl
theorem ah_11 : AT_11.all goodWord = true := by rw [AT_11, List.all_append, ag_11, ah_12]; rfl
theorem ah_10 : AT_10.all goodWord = true := by rw [AT_10, List.all_append, ag_10, ah_11]; rfl
theorem ah_9 : AT_9.all goodWord = true := by rw [AT_9, List.all_append, ag_9, ah_10]; rfl
theorem ah_8 : AT_8.all goodWord = true := by rw [AT_8, List.all_append, ag_8, ah_9]; rfl
theorem ah_7 : AT_7.all goodWord = true := by rw [AT_7, List.all_append, ag_7, ah_8]; rfl
theorem ah_6 : AT_6.all goodWord = true := by rw [AT_6, List.all_append, ag_6, ah_7]; rfl
theorem ah_5 : AT_5.all goodWord = true := by rw [AT_5, List.all_append, ag_5, ah_6]; rfl
theorem ah_4 : AT_4.all goodWord = true := by rw [AT_4, List.all_append, ag_4, ah_5]; rfl
theorem ah_3 : AT_3.all goodWord = true := by rw [AT_3, List.all_append, ag_3, ah_4]; rfl
theorem ah_2 : AT_2.all goodWord = true := by rw [AT_2, List.all_append, ag_2, ah_3]; rfl
theorem ah_1 : AT_1.all goodWord = true := by rw [AT_1, List.all_append, ag_1, ah_2]; rfl
theorem ah_0 : AT_0.all goodWord = true := by rw [AT_0, List.all_append, ag_0, ah_1]; rfl
theorem ALLW_good {w : Cond} (h : w ∈ ALLW) : (w.onTables && w.keeps) = true ∨ ∃ ty, w = .arrayClass ty := good_of_word (List.all_eq_true.mp ah_0 w h)
theorem gA {k k' : Cond} (h : k' ∈ ALLW) : GoodIn (k :: ALLW) (k' :: ALLW) := fun w hw => (List.mem_cons.mp hw).elim (fun e => by rw [e]; exact ⟨List.mem_cons_of_mem _ h, ALLW_good h⟩) (fun h => ⟨List.mem_cons_of_mem _ h, ALLW_good h⟩)
theorem gA3 {k a b c : Cond} {ws : List Cond} (h1 : a ∈ ALLW) (h2 : b ∈ ALLW) (h3 : c ∈ ALLW) (h : GoodIn (k :: ALLW) ws) : GoodIn (k :: ALLW) ([a, b, c] ++ ws) := by
  intro w hw
  rcases List.mem_append.mp hw with q | q
  · have q2 : w ∈ ALLW := by
      rcases List.mem_cons.mp q with e | q
      · rw [e]; exact h1
      · rcases List.mem_cons.mp q with e | q
        · rw [e]; exact h2
        · rw [List.mem_singleton.mp q]; exact h3
    exact ⟨List.mem_cons_of_mem _ q2, ALLW_good q2⟩
  · exact h w q
theorem gA4 {k a b c d : Cond} {ws : List Cond} (h1 : a ∈ ALLW) (h2 : b ∈ ALLW) (h3 : c ∈ ALLW) (h4 : d ∈ ALLW) (h : GoodIn (k :: ALLW) ws) : GoodIn (k :: ALLW) ([a, b, c, d] ++ ws) := by
  intro w hw
  rcases List.mem_append.mp hw with q | q
  · have q2 : w ∈ ALLW := by
      rcases List.mem_cons.mp q with e | q
      · rw [e]; exact h1
      · rcases List.mem_cons.mp q with e | q
        · rw [e]; exact h2
        · rcases List.mem_cons.mp q with e | q
          · rw [e]; exact h3
          · rw [List.mem_singleton.mp q]; exact h4
    exact ⟨List.mem_cons_of_mem _ q2, ALLW_good q2⟩
  · exact h w q
def wsX0_init : List Cond := .code yX0_init cX0_init 1 none :: ALLW
def wsX0_copyFrom : List Cond := .code yX0_copyFrom cX0_copyFrom 2 none :: ALLW
def wsX0_addDeed : List Cond := .code yX0_addDeed cX0_addDeed 6 none :: ALLW
def wsX0_part : List Cond := .code yX0_part cX0_part 3 (some .int) :: ALLW
def wsX0_isOf : List Cond := .code yX0_isOf cX0_isOf 5 (some .boolean) :: ALLW
def wsX1_init : List Cond := .code yX1_init cX1_init 1 none :: ALLW
def wsX1_copyFrom : List Cond := .code yX1_copyFrom cX1_copyFrom 2 none :: ALLW
def wsX1_addMinute : List Cond := .code yX1_addMinute cX1_addMinute 2 none :: ALLW
def wsX1_hasMinute : List Cond := .code yX1_hasMinute cX1_hasMinute 2 (some .boolean) :: ALLW
def wsX2_init : List Cond := .code yX2_init cX2_init 1 none :: ALLW
def wsX2_begin : List Cond := .code yX2_begin cX2_begin 2 none :: ALLW
def wsX2_playFirst : List Cond := .code yX2_playFirst cX2_playFirst 5 (some .boolean) :: ALLW
def wsX2_playAll : List Cond := .code yX2_playAll cX2_playAll 4 (some .int) :: ALLW
def wsX2_playWithout : List Cond := .code yX2_playWithout cX2_playWithout 6 none :: ALLW
def wsX2_playDrawn : List Cond := .code yX2_playDrawn cX2_playDrawn 9 none :: ALLW
def wsX2_hasPalm : List Cond := .code yX2_hasPalm cX2_hasPalm 2 (some .boolean) :: ALLW
def wsX2_hasActor : List Cond := .code yX2_hasActor cX2_hasActor 2 (some .boolean) :: ALLW
def wsX2_lives : List Cond := .code yX2_lives cX2_lives 2 (some .boolean) :: ALLW
def wsX2_isHushed : List Cond := .code yX2_isHushed cX2_isHushed 2 (some .boolean) :: ALLW
def wsX2_canBe : List Cond := .code yX2_canBe cX2_canBe 6 (some .boolean) :: ALLW
def wsX2_canGive : List Cond := .code yX2_canGive cX2_canGive 3 (some .boolean) :: ALLW
def wsX2_act : List Cond := .code yX2_act cX2_act 7 none :: ALLW
def wsX2_clapFor : List Cond := .code yX2_clapFor cX2_clapFor 5 none :: ALLW
def wsX2_move : List Cond := .code yX2_move cX2_move 4 none :: ALLW
def wsX2_give : List Cond := .code yX2_give cX2_give 3 none :: ALLW
def wsX2_priceBehind : List Cond := .code yX2_priceBehind cX2_priceBehind 3 (some .int) :: ALLW
def wsX2_price : List Cond := .code yX2_price cX2_price 2 (some .int) :: ALLW
def wsX2_need : List Cond := .code yX2_need cX2_need 2 (some .int) :: ALLW
def wsX2_grown : List Cond := .code yX2_grown cX2_grown 4 (some .int) :: ALLW
def wsX2_passNight : List Cond := .code yX2_passNight cX2_passNight 2 none :: ALLW
def wsX2_dine : List Cond := .code yX2_dine cX2_dine 3 none :: ALLW
def wsX2_living : List Cond := .code yX2_living cX2_living 3 (some .int) :: ALLW
def wsX2_allLeft : List Cond := .code yX2_allLeft cX2_allLeft 3 (some .int) :: ALLW
def wsX2_allNeeds : List Cond := .code yX2_allNeeds cX2_allNeeds 3 (some .int) :: ALLW
def wsX2_allSaved : List Cond := .code yX2_allSaved cX2_allSaved 3 (some .int) :: ALLW
def wsX2_tell : List Cond := .code yX2_tell cX2_tell 2 (some .int) :: ALLW
def wsX2_tellPalm : List Cond := .code yX2_tellPalm cX2_tellPalm 3 (some .int) :: ALLW
def wsX2_tellActor : List Cond := .code yX2_tellActor cX2_tellActor 3 (some .int) :: ALLW
def wsX2_friday : List Cond := .code yX2_friday cX2_friday 3 (some .int) :: ALLW
def wsX2_star : List Cond := .code yX2_star cX2_star 5 (some .int) :: ALLW
def wsX2_doomed : List Cond := .code yX2_doomed cX2_doomed 3 (some .int) :: ALLW
def wsX2_danger : List Cond := .code yX2_danger cX2_danger 5 (some .int) :: ALLW
def wsX2_pricesOf : List Cond := .code yX2_pricesOf cX2_pricesOf 4 (some .int) :: ALLW
def wsX2_dearerThan : List Cond := .code yX2_dearerThan cX2_dearerThan 4 (some .int) :: ALLW
def wsX2_loan : List Cond := .code yX2_loan cX2_loan 6 (some .int) :: ALLW
def wsX2_idol : List Cond := .code yX2_idol cX2_idol 6 (some .int) :: ALLW
def wsX2_tip : List Cond := .code yX2_tip cX2_tip 3 (some .int) :: ALLW
def wsX2_eatsWith : List Cond := .code yX2_eatsWith cX2_eatsWith 5 (some .boolean) :: ALLW
def wsX2_dear : List Cond := .code yX2_dear cX2_dear 3 (some .int) :: ALLW
def wsX3_init : List Cond := .code yX3_init cX3_init 1 none :: ALLW
def wsX3_lay : List Cond := .code yX3_lay cX3_lay 6 none :: ALLW
def wsX3_tryGuests : List Cond := .code yX3_tryGuests cX3_tryGuests 9 none :: ALLW
def wsX3_isBetter : List Cond := .code yX3_isBetter cX3_isBetter 6 (some .boolean) :: ALLW
def wsX3_tell : List Cond := .code yX3_tell cX3_tell 2 (some .int) :: ALLW
def wsX4_init : List Cond := .code yX4_init cX4_init 1 none :: ALLW
def wsX4_listen : List Cond := .code yX4_listen cX4_listen 5 none :: ALLW
def wsX4_tally : List Cond := .code yX4_tally cX4_tally 7 (some .long) :: ALLW
def wsX4_fill : List Cond := .code yX4_fill cX4_fill 8 none :: ALLW
def wsX4_spread : List Cond := .code yX4_spread cX4_spread 8 none :: ALLW
def wsX4_addUp : List Cond := .code yX4_addUp cX4_addUp 3 none :: ALLW
def wsX4_roomBehind : List Cond := .code yX4_roomBehind cX4_roomBehind 5 (some .int) :: ALLW
def wsX4_compareMinute : List Cond := .code yX4_compareMinute cX4_compareMinute 3 none :: ALLW
def wsX5_init : List Cond := .code yX5_init cX5_init 1 none :: ALLW
def wsX5_read : List Cond := .code yX5_read cX5_read 5 none :: ALLW
def wsX5_readLine : List Cond := .code yX5_readLine cX5_readLine 6 (some .boolean) :: ALLW
def wsX5_refuse : List Cond := .code yX5_refuse cX5_refuse 1 (some .boolean) :: ALLW
def wsX5_note : List Cond := .code yX5_note cX5_note 2 none :: ALLW
def wsX5_step : List Cond := .code yX5_step cX5_step 4 none :: ALLW
def wsX5_isLetter : List Cond := .code yX5_isLetter cX5_isLetter 1 (some .boolean) :: ALLW
def wsX5_isDigit : List Cond := .code yX5_isDigit cX5_isDigit 1 (some .boolean) :: ALLW
def wsX5_kindOf : List Cond := .code yX5_kindOf cX5_kindOf 4 (some .int) :: ALLW
def wsX5_spells : List Cond := .code yX5_spells cX5_spells 4 (some .boolean) :: ALLW
def wsX5_wordOf : List Cond := .code yX5_wordOf cX5_wordOf 1 (some (.object "java/lang/String")) :: ALLW
def wsX5_isFull : List Cond := .code yX5_isFull cX5_isFull 2 (some .boolean) :: ALLW
def wsX5_cannotBe : List Cond := .code yX5_cannotBe cX5_cannotBe 5 (some .boolean) :: ALLW
def wsX5_keepLine : List Cond := .code yX5_keepLine cX5_keepLine 2 none :: ALLW
def wsX6_init : List Cond := .code yX6_init cX6_init 1 none :: ALLW
def wsX6_begin : List Cond := .code yX6_begin cX6_begin 2 none :: ALLW
def wsX6_goRound : List Cond := .code yX6_goRound cX6_goRound 3 none :: ALLW
def wsX6_cheapest : List Cond := .code yX6_cheapest cX6_cheapest 3 (some .int) :: ALLW
def wsX6_findRepeat : List Cond := .code yX6_findRepeat cX6_findRepeat 4 (some .int) :: ALLW
def wsX6_allAsks : List Cond := .code yX6_allAsks cX6_allAsks 3 (some .int) :: ALLW
def wsX7_init : List Cond := .code yX7_init cX7_init 1 none :: ALLW
def wsX7_clear : List Cond := .code yX7_clear cX7_clear 1 none :: ALLW
def wsX7_copyFrom : List Cond := .code yX7_copyFrom cX7_copyFrom 2 none :: ALLW
def wsX7_addPalm : List Cond := .code yX7_addPalm cX7_addPalm 3 none :: ALLW
def wsX7_addActor : List Cond := .code yX7_addActor cX7_addActor 3 none :: ALLW
def wsX7_addUsurer : List Cond := .code yX7_addUsurer cX7_addUsurer 3 none :: ALLW
def wsX7_tell : List Cond := .code yX7_tell cX7_tell 3 (some .int) :: ALLW
def wsX7_tellWhole : List Cond := .code yX7_tellWhole cX7_tellWhole 2 (some .int) :: ALLW
def wsX8_init : List Cond := .code yX8_init cX8_init 1 none :: ALLW
def wsX8_append : List Cond := .code yX8_append cX8_append 3 none :: ALLW
def wsX8_howMany : List Cond := .code yX8_howMany cX8_howMany 2 (some .int) :: ALLW
def wsX8_theatreAt : List Cond := .code yX8_theatreAt cX8_theatreAt 2 (some (.object "ClapBank$Theatre")) :: ALLW
def wsX8_bookAt : List Cond := .code yX8_bookAt cX8_bookAt 2 (some (.object "ClapBank$Book")) :: ALLW
def wsX8_darkAt : List Cond := .code yX8_darkAt cX8_darkAt 2 (some (.object "ClapBank$Dark")) :: ALLW
def wsX8_put : List Cond := .code yX8_put cX8_put 4 none :: ALLW
def wsX8_copyFrom : List Cond := .code yX8_copyFrom cX8_copyFrom 2 none :: ALLW
def wsX9_init : List Cond := .code yX9_init cX9_init 1 none :: ALLW
def wsX9_feed : List Cond := .code yX9_feed cX9_feed 6 (some .int) :: ALLW
def wsX9_end : List Cond := .code yX9_end cX9_end 2 (some .int) :: ALLW
def wsX9_text : List Cond := .code yX9_text cX9_text 7 (some .int) :: ALLW
def wsX9_fault : List Cond := .code yX9_fault cX9_fault 2 (some .int) :: ALLW
def wsX9_theatre : List Cond := .code yX9_theatre cX9_theatre 4 (some .int) :: ALLW
def wsX9_deed : List Cond := .code yX9_deed cX9_deed 5 (some .int) :: ALLW
def wsX9_stop : List Cond := .code yX9_stop cX9_stop 5 (some .int) :: ALLW
def wsX9_state : List Cond := .code yX9_state cX9_state 5 (some .int) :: ALLW
def wsX9_palm : List Cond := .code yX9_palm cX9_palm 6 (some .int) :: ALLW
def wsX9_actor : List Cond := .code yX9_actor cX9_actor 6 (some .int) :: ALLW
def wsX9_run : List Cond := .code yX9_run cX9_run 5 (some .int) :: ALLW
def wsX9_feast : List Cond := .code yX9_feast cX9_feast 5 (some .int) :: ALLW
def wsX9_fair : List Cond := .code yX9_fair cX9_fair 8 (some .int) :: ALLW
def wsX9_ask : List Cond := .code yX9_ask cX9_ask 4 (some .int) :: ALLW
def wsX9_taken : List Cond := .code yX9_taken cX9_taken 4 (some .int) :: ALLW
def wsX9_stands : List Cond := .code yX9_stands cX9_stands 5 (some .int) :: ALLW
def wsX9_heard : List Cond := .code yX9_heard cX9_heard 4 (some .int) :: ALLW
def wsX9_ways : List Cond := .code yX9_ways cX9_ways 5 (some .long) :: ALLW
def wsX9_whose : List Cond := .code yX9_whose cX9_whose 7 (some .int) :: ALLW
def wsX9_drawn : List Cond := .code yX9_drawn cX9_drawn 7 (some .int) :: ALLW
def wsX9_look : List Cond := .code yX9_look cX9_look 5 (some .int) :: ALLW
def wsX9_silence : List Cond := .code yX9_silence cX9_silence 11 (some .int) :: ALLW
def wsX9_count : List Cond := .code yX9_count cX9_count 2 (some .int) :: ALLW
def wsX9_image : List Cond := .code yX9_image cX9_image 3 (some .boolean) :: ALLW
def wsX9_again : List Cond := .code yX9_again cX9_again 3 (some .boolean) :: ALLW
def wsX9_reach : List Cond := .code yX9_reach cX9_reach 6 (some .boolean) :: ALLW
def wsX9_lendFor : List Cond := .code yX9_lendFor cX9_lendFor 6 (some .boolean) :: ALLW
def wsX9_commonPart : List Cond := .code yX9_commonPart cX9_commonPart 6 (some .int) :: ALLW
def wsX10_init : List Cond := .code yX10_init cX10_init 1 none :: ALLW
def wsX10_in : List Cond := .code yX10_in cX10_in 3 (some .boolean) :: ALLW
def wsX10_has : List Cond := .code yX10_has cX10_has 2 (some .boolean) :: ALLW
def wsX10_ones : List Cond := .code yX10_ones cX10_ones 3 (some .int) :: ALLW
def wsX10_greater : List Cond := .code yX10_greater cX10_greater 2 (some .int) :: ALLW
def wsX10_lesser : List Cond := .code yX10_lesser cX10_lesser 2 (some .int) :: ALLW
def wsX10_copyRow : List Cond := .code yX10_copyRow cX10_copyRow 5 none :: ALLW
def wsX10_copyAll : List Cond := .code yX10_copyAll cX10_copyAll 4 none :: ALLW
def wsX10_is : List Cond := .code yX10_is cX10_is 3 (some .boolean) :: ALLW
def wsX10_feed : List Cond := .code yX10_feed cX10_feed 6 (some .int) :: ALLW
def wsX10_four : List Cond := .code yX10_four cX10_four 3 none :: ALLW
def wsX10_end : List Cond := .code yX10_end cX10_end 2 (some .int) :: ALLW
def wsX10_see : List Cond := .code yX10_see cX10_see 1 (some .int) :: ALLW
def wsX10_token : List Cond := .code yX10_token cX10_token 3 none :: ALLW
def wsX10_fails : List Cond := .code yX10_fails cX10_fails 1 (some .boolean) :: ALLW
def wsX10_later : List Cond := .code yX10_later cX10_later 3 none :: ALLW
def wsX10_takeBut : List Cond := .code yX10_takeBut cX10_takeBut 5 (some .boolean) :: ALLW
def wsX10_take : List Cond := .code yX10_take cX10_take 4 (some .boolean) :: ALLW
def wsX10_full : List Cond := .code yX10_full cX10_full 4 none :: ALLW
def wsX10_keep : List Cond := .code yX10_keep cX10_keep 7 none :: ALLW
def wsX10_theatreLine : List Cond := .code yX10_theatreLine cX10_theatreLine 5 (some .boolean) :: ALLW
def wsX10_deedBy : List Cond := .code yX10_deedBy cX10_deedBy 2 (some .int) :: ALLW
def wsX10_deedNumbers : List Cond := .code yX10_deedNumbers cX10_deedNumbers 2 (some .boolean) :: ALLW
def wsX10_bookLine : List Cond := .code yX10_bookLine cX10_bookLine 5 (some .boolean) :: ALLW
def wsX10_darkLine : List Cond := .code yX10_darkLine cX10_darkLine 4 (some .boolean) :: ALLW
def wsX10_lines : List Cond := .code yX10_lines cX10_lines 6 (some .boolean) :: ALLW
def wsX10_readText : List Cond := .code yX10_readText cX10_readText 3 (some .boolean) :: ALLW
def wsX10_store : List Cond := .code yX10_store cX10_store 5 none :: ALLW
def wsX10_text : List Cond := .code yX10_text cX10_text 4 (some .int) :: ALLW
def wsX10_fault : List Cond := .code yX10_fault cX10_fault 2 (some .int) :: ALLW
def wsX10_of : List Cond := .code yX10_of cX10_of 2 (some .int) :: ALLW
def wsX10_hand : List Cond := .code yX10_hand cX10_hand 2 (some .boolean) :: ALLW
def wsX10_isPalm : List Cond := .code yX10_isPalm cX10_isPalm 2 (some .boolean) :: ALLW
def wsX10_isActor : List Cond := .code yX10_isActor cX10_isActor 2 (some .boolean) :: ALLW
def wsX10_handsOf : List Cond := .code yX10_handsOf cX10_handsOf 2 (some .int) :: ALLW
def wsX10_hungerOf : List Cond := .code yX10_hungerOf cX10_hungerOf 2 (some .int) :: ALLW
def wsX10_theatre : List Cond := .code yX10_theatre cX10_theatre 4 (some .int) :: ALLW
def wsX10_deeds : List Cond := .code yX10_deeds cX10_deeds 1 (some .int) :: ALLW
def wsX10_deedOf : List Cond := .code yX10_deedOf cX10_deedOf 3 (some .int) :: ALLW
def wsX10_hasBook : List Cond := .code yX10_hasBook cX10_hasBook 2 (some .boolean) :: ALLW
def wsX10_deed : List Cond := .code yX10_deed cX10_deed 4 (some .int) :: ALLW
def wsX10_begin : List Cond := .code yX10_begin cX10_begin 2 none :: ALLW
def wsX10_morning : List Cond := .code yX10_morning cX10_morning 2 none :: ALLW
def wsX10_isLiving : List Cond := .code yX10_isLiving cX10_isLiving 2 (some .boolean) :: ALLW
def wsX10_eats : List Cond := .code yX10_eats cX10_eats 3 (some .int) :: ALLW
def wsX10_gets : List Cond := .code yX10_gets cX10_gets 3 none :: ALLW
def wsX10_clapsFor : List Cond := .code yX10_clapsFor cX10_clapsFor 5 (some .boolean) :: ALLW
def wsX10_gives : List Cond := .code yX10_gives cX10_gives 5 (some .boolean) :: ALLW
def wsX10_hushes : List Cond := .code yX10_hushes cX10_hushes 4 (some .boolean) :: ALLW
def wsX10_eatsNow : List Cond := .code yX10_eatsNow cX10_eatsNow 3 (some .boolean) :: ALLW
def wsX10_night : List Cond := .code yX10_night cX10_night 2 none :: ALLW
def wsX10_does : List Cond := .code yX10_does cX10_does 5 (some .boolean) :: ALLW
def wsX10_doesNext : List Cond := .code yX10_doesNext cX10_doesNext 2 (some .boolean) :: ALLW
def wsX10_play : List Cond := .code yX10_play cX10_play 3 (some .int) :: ALLW
def wsX10_layState : List Cond := .code yX10_layState cX10_layState 4 (some .boolean) :: ALLW
def wsX10_stop : List Cond := .code yX10_stop cX10_stop 3 (some .int) :: ALLW
def wsX10_allSaved : List Cond := .code yX10_allSaved cX10_allSaved 3 (some .int) :: ALLW
def wsX10_state : List Cond := .code yX10_state cX10_state 5 (some .int) :: ALLW
def wsX10_palm : List Cond := .code yX10_palm cX10_palm 6 (some .int) :: ALLW
def wsX10_needOf : List Cond := .code yX10_needOf cX10_needOf 2 (some .int) :: ALLW
def wsX10_friday : List Cond := .code yX10_friday cX10_friday 3 (some .int) :: ALLW
def wsX10_star : List Cond := .code yX10_star cX10_star 5 (some .int) :: ALLW
def wsX10_actor : List Cond := .code yX10_actor cX10_actor 7 (some .int) :: ALLW
def wsX10_isInDanger : List Cond := .code yX10_isInDanger cX10_isInDanger 6 (some .boolean) :: ALLW
def wsX10_isDoomed : List Cond := .code yX10_isDoomed cX10_isDoomed 2 (some .boolean) :: ALLW
def wsX10_run : List Cond := .code yX10_run cX10_run 8 (some .int) :: ALLW
def wsX10_leftOf : List Cond := .code yX10_leftOf cX10_leftOf 4 (some .int) :: ALLW
def wsX10_canFeed : List Cond := .code yX10_canFeed cX10_canFeed 9 (some .boolean) :: ALLW
def wsX10_feast : List Cond := .code yX10_feast cX10_feast 11 (some .int) :: ALLW
def wsX10_common : List Cond := .code yX10_common cX10_common 5 (some .int) :: ALLW
def wsX10_fair : List Cond := .code yX10_fair cX10_fair 8 (some .int) :: ALLW
def wsX10_usurers : List Cond := .code yX10_usurers cX10_usurers 1 (some .int) :: ALLW
def wsX10_findAsks : List Cond := .code yX10_findAsks cX10_findAsks 5 none :: ALLW
def wsX10_layUsurer : List Cond := .code yX10_layUsurer cX10_layUsurer 4 (some .boolean) :: ALLW
def wsX10_ask : List Cond := .code yX10_ask cX10_ask 4 (some .int) :: ALLW
def wsX10_taken : List Cond := .code yX10_taken cX10_taken 6 (some .int) :: ALLW
def wsX10_areAlike : List Cond := .code yX10_areAlike cX10_areAlike 4 (some .boolean) :: ALLW
def wsX10_stands : List Cond := .code yX10_stands cX10_stands 5 (some .int) :: ALLW
def wsX10_hasDark : List Cond := .code yX10_hasDark cX10_hasDark 2 (some .boolean) :: ALLW
def wsX10_heardOf : List Cond := .code yX10_heardOf cX10_heardOf 2 (some .int) :: ALLW
def wsX10_heard : List Cond := .code yX10_heard cX10_heard 3 (some .int) :: ALLW
def wsX10_after : List Cond := .code yX10_after cX10_after 5 (some .int) :: ALLW
def wsX10_halvesOf : List Cond := .code yX10_halvesOf cX10_halvesOf 4 (some .int) :: ALLW
def wsX10_states : List Cond := .code yX10_states cX10_states 3 (some .int) :: ALLW
def wsX10_findDark : List Cond := .code yX10_findDark cX10_findDark 3 none :: ALLW
def wsX10_goOn : List Cond := .code yX10_goOn cX10_goOn 6 none :: ALLW
def wsX10_goBack : List Cond := .code yX10_goBack cX10_goBack 6 none :: ALLW
def wsX10_ways : List Cond := .code yX10_ways cX10_ways 3 (some .long) :: ALLW
def wsX10_mayBe : List Cond := .code yX10_mayBe cX10_mayBe 5 (some .boolean) :: ALLW
def wsX10_whose : List Cond := .code yX10_whose cX10_whose 8 (some .int) :: ALLW
def wsX10_draw : List Cond := .code yX10_draw cX10_draw 2 (some .int) :: ALLW
def wsX10_livingOne : List Cond := .code yX10_livingOne cX10_livingOne 4 (some .int) :: ALLW
def wsX10_drawn : List Cond := .code yX10_drawn cX10_drawn 8 (some .int) :: ALLW
def wsX10_mostOwing : List Cond := .code yX10_mostOwing cX10_mostOwing 6 (some .int) :: ALLW
def wsX10_idol : List Cond := .code yX10_idol cX10_idol 6 (some .int) :: ALLW
def wsX10_eatsBy : List Cond := .code yX10_eatsBy cX10_eatsBy 5 (some .boolean) :: ALLW
def wsX10_tip : List Cond := .code yX10_tip cX10_tip 3 (some .int) :: ALLW
def wsX10_dear : List Cond := .code yX10_dear cX10_dear 3 (some .int) :: ALLW
def wsX10_look : List Cond := .code yX10_look cX10_look 5 (some .int) :: ALLW
def wsX10_names : List Cond := .code yX10_names cX10_names 4 (some .boolean) :: ALLW
def wsX10_starvedWithout : List Cond := .code yX10_starvedWithout cX10_starvedWithout 5 (some .int) :: ALLW
def wsX10_silence : List Cond := .code yX10_silence cX10_silence 9 (some .int) :: ALLW
def wsX10_count : List Cond := .code yX10_count cX10_count 2 (some .int) :: ALLW
def wsX10_image : List Cond := .code yX10_image cX10_image 2 (some .boolean) :: ALLW
def wsX10_again : List Cond := .code yX10_again cX10_again 2 (some .boolean) :: ALLW
def wsJ6_bitCount_0f7a4 : List Cond := .code yJ6_bitCount_0f7a4 cJ6_bitCount_0f7a4 1 (some .int) :: ALLW
def wsJ9_max_7cf53 : List Cond := .code yJ9_max_7cf53 cJ9_max_7cf53 2 (some .int) :: ALLW
def wsJ9_min_7cf53 : List Cond := .code yJ9_min_7cf53 cJ9_min_7cf53 2 (some .int) :: ALLW
def wsJ9_min_f86c9 : List Cond := .code yJ9_min_f86c9 cJ9_min_f86c9 4 (some .long) :: ALLW
def wsJ0_length_8abf5 : List Cond := .code yJ0_length_8abf5 cJ0_length_8abf5 1 (some .int) :: ALLW
def wsJ0_charAt_5068e : List Cond := .code yJ0_charAt_5068e cJ0_charAt_5068e 2 (some .char) :: ALLW
def wsJ0_coder_7d493 : List Cond := .code yJ0_coder_7d493 cJ0_coder_7d493 1 (some .byte) :: ALLW
def wsJ0_isLatin1_aae02 : List Cond := .code yJ0_isLatin1_aae02 cJ0_isLatin1_aae02 1 (some .boolean) :: ALLW
def wsJ0_checkIndex_df160 : List Cond := .code yJ0_checkIndex_df160 cJ0_checkIndex_df160 2 none :: ALLW
def wsJ1_charAt_3b067 : List Cond := .code yJ1_charAt_3b067 cJ1_charAt_3b067 2 (some .char) :: ALLW
def wsJ2_getChar_3b067 : List Cond := .code yJ2_getChar_3b067 cJ2_getChar_3b067 2 (some .char) :: ALLW
def wsJ2_length_9d52b : List Cond := .code yJ2_length_9d52b cJ2_length_9d52b 1 (some .int) :: ALLW
def wsJ2_charAt_3b067 : List Cond := .code yJ2_charAt_3b067 cJ2_charAt_3b067 2 (some .char) :: ALLW
def wsJ2_checkIndex_2214a : List Cond := .code yJ2_checkIndex_2214a cJ2_checkIndex_2214a 2 none :: ALLW
def wsJ7_fill_53178 : List Cond := .code yJ7_fill_53178 cJ7_fill_53178 4 none :: ALLW
def wsJ3_checkIndex_8e157 : List Cond := .code yJ3_checkIndex_8e157 cJ3_checkIndex_8e157 3 (some .int) :: ALLW
theorem gX0_isOf_X0_part : GoodIn wsX0_isOf (wsV RX0 25 RX0 yX0_part wsX0_part) := gA4 W_15 W_16 W_17 W_18 (gA W_13)
theorem gX2_init_X7_init_n11 : GoodIn wsX2_init (wsX7_init) := gA W_41
theorem gX2_begin_J7_fill_53178 : GoodIn wsX2_begin (va_wsS RX2 50 yJ7_fill_53178 wsJ7_fill_53178) := gA3 W_57 W_58 W_59 (gA W_60)
theorem gX2_playFirst_X2_begin : GoodIn wsX2_playFirst (wsV RX2 75 RX2 yX2_begin wsX2_begin) := gA4 W_62 W_63 W_64 W_65 (gA W_49)
theorem gX2_playFirst_X2_canBe : GoodIn wsX2_playFirst (wsV RX2 79 RX2 yX2_canBe wsX2_canBe) := gA4 W_66 W_67 W_68 W_65 (gA W_69)
theorem gX2_playFirst_X2_act : GoodIn wsX2_playFirst (wsV RX2 83 RX2 yX2_act wsX2_act) := gA4 W_91 W_92 W_93 W_65 (gA W_94)
theorem gX2_playAll_X2_begin : GoodIn wsX2_playAll (wsV RX2 75 RX2 yX2_begin wsX2_begin) := gA4 W_62 W_63 W_64 W_65 (gA W_49)
theorem gX2_playAll_X2_canBe : GoodIn wsX2_playAll (wsV RX2 79 RX2 yX2_canBe wsX2_canBe) := gA4 W_66 W_67 W_68 W_65 (gA W_69)
theorem gX2_playAll_X2_act : GoodIn wsX2_playAll (wsV RX2 83 RX2 yX2_act wsX2_act) := gA4 W_91 W_92 W_93 W_65 (gA W_94)
theorem gX2_playWithout_X2_begin : GoodIn wsX2_playWithout (wsV RX2 75 RX2 yX2_begin wsX2_begin) := gA4 W_62 W_63 W_64 W_65 (gA W_49)
theorem gX2_playWithout_X0_isOf : GoodIn wsX2_playWithout (wsV RX2 92 RX0 yX0_isOf wsX0_isOf) := gA4 W_135 W_136 W_137 W_18 (gA W_14)
theorem gX2_playWithout_X2_canBe : GoodIn wsX2_playWithout (wsV RX2 79 RX2 yX2_canBe wsX2_canBe) := gA4 W_66 W_67 W_68 W_65 (gA W_69)
theorem gX2_playWithout_X2_act : GoodIn wsX2_playWithout (wsV RX2 83 RX2 yX2_act wsX2_act) := gA4 W_91 W_92 W_93 W_65 (gA W_94)
theorem gX2_playDrawn_X2_begin : GoodIn wsX2_playDrawn (wsV RX2 75 RX2 yX2_begin wsX2_begin) := gA4 W_62 W_63 W_64 W_65 (gA W_49)
theorem gX2_playDrawn_X2_lives : GoodIn wsX2_playDrawn (wsV RX2 99 RX2 yX2_lives wsX2_lives) := gA4 W_83 W_84 W_85 W_65 (gA W_86)
theorem gX2_playDrawn_X2_give : GoodIn wsX2_playDrawn (wsV RX2 110 RX2 yX2_give wsX2_give) := gA4 W_99 W_100 W_101 W_65 (gA W_102)
theorem gX2_playDrawn_X2_passNight : GoodIn wsX2_playDrawn (wsV RX2 114 RX2 yX2_passNight wsX2_passNight) := gA4 W_107 W_108 W_109 W_65 (gA W_110)
theorem gX2_lives_X2_hasActor : GoodIn wsX2_lives (wsV RX2 117 RX2 yX2_hasActor wsX2_hasActor) := gA4 W_87 W_88 W_89 W_65 (gA W_90)
theorem gX2_canBe_X0_part : GoodIn wsX2_canBe (wsV RX2 120 RX0 yX0_part wsX0_part) := gA4 W_70 W_16 W_17 W_18 (gA W_13)
theorem gX2_canBe_X2_canGive : GoodIn wsX2_canBe (wsV RX2 124 RX2 yX2_canGive wsX2_canGive) := gA4 W_71 W_72 W_73 W_65 (gA W_74)
theorem gX2_canBe_X2_lives : GoodIn wsX2_canBe (wsV RX2 99 RX2 yX2_lives wsX2_lives) := gA4 W_83 W_84 W_85 W_65 (gA W_86)
theorem gX2_canBe_X2_hasPalm : GoodIn wsX2_canBe (wsV RX2 127 RX2 yX2_hasPalm wsX2_hasPalm) := gA4 W_75 W_76 W_77 W_65 (gA W_78)
theorem gX2_canGive_X2_hasPalm : GoodIn wsX2_canGive (wsV RX2 127 RX2 yX2_hasPalm wsX2_hasPalm) := gA4 W_75 W_76 W_77 W_65 (gA W_78)
theorem gX2_canGive_X2_isHushed : GoodIn wsX2_canGive (wsV RX2 130 RX2 yX2_isHushed wsX2_isHushed) := gA4 W_79 W_80 W_81 W_65 (gA W_82)
theorem gX2_act_X0_part : GoodIn wsX2_act (wsV RX2 120 RX0 yX0_part wsX0_part) := gA4 W_70 W_16 W_17 W_18 (gA W_13)
theorem gX2_act_X2_clapFor : GoodIn wsX2_act (wsV RX2 133 RX2 yX2_clapFor wsX2_clapFor) := gA4 W_95 W_96 W_97 W_65 (gA W_98)
theorem gX2_act_X2_move : GoodIn wsX2_act (wsV RX2 137 RX2 yX2_move wsX2_move) := gA4 W_103 W_104 W_105 W_65 (gA W_106)
theorem gX2_act_X2_give : GoodIn wsX2_act (wsV RX2 110 RX2 yX2_give wsX2_give) := gA4 W_99 W_100 W_101 W_65 (gA W_102)
theorem gX2_act_X2_passNight : GoodIn wsX2_act (wsV RX2 114 RX2 yX2_passNight wsX2_passNight) := gA4 W_107 W_108 W_109 W_65 (gA W_110)
theorem gX2_clapFor_X2_give : GoodIn wsX2_clapFor (wsV RX2 110 RX2 yX2_give wsX2_give) := gA4 W_99 W_100 W_101 W_65 (gA W_102)
theorem gX2_price_X2_priceBehind : GoodIn wsX2_price (wsV RX2 143 RX2 yX2_priceBehind wsX2_priceBehind) := gA4 W_119 W_120 W_121 W_65 (gA W_122)
theorem gX2_need_X2_lives : GoodIn wsX2_need (wsV RX2 99 RX2 yX2_lives wsX2_lives) := gA4 W_83 W_84 W_85 W_65 (gA W_86)
theorem gX2_need_X2_price : GoodIn wsX2_need (wsV RX2 146 RX2 yX2_price wsX2_price) := gA4 W_115 W_116 W_117 W_65 (gA W_118)
theorem gX2_passNight_X2_lives : GoodIn wsX2_passNight (wsV RX2 99 RX2 yX2_lives wsX2_lives) := gA4 W_83 W_84 W_85 W_65 (gA W_86)
theorem gX2_passNight_X2_dine : GoodIn wsX2_passNight (wsV RX2 166 RX2 yX2_dine wsX2_dine) := gA4 W_111 W_112 W_113 W_65 (gA W_114)
theorem gX2_passNight_X2_grown : GoodIn wsX2_passNight (wsV RX2 170 RX2 yX2_grown wsX2_grown) := gA4 W_123 W_124 W_125 W_65 (gA W_126)
theorem gX2_dine_X2_price : GoodIn wsX2_dine (wsV RX2 146 RX2 yX2_price wsX2_price) := gA4 W_115 W_116 W_117 W_65 (gA W_118)
theorem gX2_dine_X2_give : GoodIn wsX2_dine (wsV RX2 110 RX2 yX2_give wsX2_give) := gA4 W_99 W_100 W_101 W_65 (gA W_102)
theorem gX2_dine_X2_grown : GoodIn wsX2_dine (wsV RX2 170 RX2 yX2_grown wsX2_grown) := gA4 W_123 W_124 W_125 W_65 (gA W_126)
theorem gX2_living_X2_lives : GoodIn wsX2_living (wsV RX2 99 RX2 yX2_lives wsX2_lives) := gA4 W_83 W_84 W_85 W_65 (gA W_86)
theorem gX2_allNeeds_X2_need : GoodIn wsX2_allNeeds (wsV RX2 173 RX2 yX2_need wsX2_need) := gA4 W_147 W_148 W_149 W_65 (gA W_140)
theorem gX2_allSaved_X2_lives : GoodIn wsX2_allSaved (wsV RX2 99 RX2 yX2_lives wsX2_lives) := gA4 W_83 W_84 W_85 W_65 (gA W_86)
theorem gX2_tell_X2_living : GoodIn wsX2_tell (wsV RX2 176 RX2 yX2_living wsX2_living) := gA4 W_152 W_153 W_154 W_65 (gA W_144)
theorem gX2_tell_X2_allSaved : GoodIn wsX2_tell (wsV RX2 180 RX2 yX2_allSaved wsX2_allSaved) := gA4 W_155 W_156 W_157 W_65 (gA W_150)
theorem gX2_tellPalm_X2_hasPalm : GoodIn wsX2_tellPalm (wsV RX2 127 RX2 yX2_hasPalm wsX2_hasPalm) := gA4 W_75 W_76 W_77 W_65 (gA W_78)
theorem gX2_tellPalm_X2_hasActor : GoodIn wsX2_tellPalm (wsV RX2 117 RX2 yX2_hasActor wsX2_hasActor) := gA4 W_87 W_88 W_89 W_65 (gA W_90)
theorem gX2_tellActor_X2_lives : GoodIn wsX2_tellActor (wsV RX2 99 RX2 yX2_lives wsX2_lives) := gA4 W_83 W_84 W_85 W_65 (gA W_86)
theorem gX2_tellActor_X2_price : GoodIn wsX2_tellActor (wsV RX2 146 RX2 yX2_price wsX2_price) := gA4 W_115 W_116 W_117 W_65 (gA W_118)
theorem gX2_tellActor_X2_need : GoodIn wsX2_tellActor (wsV RX2 173 RX2 yX2_need wsX2_need) := gA4 W_147 W_148 W_149 W_65 (gA W_140)
theorem gX2_tellActor_X2_friday : GoodIn wsX2_tellActor (wsV RX2 183 RX2 yX2_friday wsX2_friday) := gA4 W_160 W_161 W_162 W_65 (gA W_163)
theorem gX2_tellActor_X2_star : GoodIn wsX2_tellActor (wsV RX2 186 RX2 yX2_star wsX2_star) := gA4 W_164 W_165 W_166 W_65 (gA W_167)
theorem gX2_friday_X2_lives : GoodIn wsX2_friday (wsV RX2 99 RX2 yX2_lives wsX2_lives) := gA4 W_83 W_84 W_85 W_65 (gA W_86)
theorem gX2_friday_X2_passNight : GoodIn wsX2_friday (wsV RX2 114 RX2 yX2_passNight wsX2_passNight) := gA4 W_107 W_108 W_109 W_65 (gA W_110)
theorem gX2_star_X2_lives : GoodIn wsX2_star (wsV RX2 99 RX2 yX2_lives wsX2_lives) := gA4 W_83 W_84 W_85 W_65 (gA W_86)
theorem gX2_star_X2_price : GoodIn wsX2_star (wsV RX2 146 RX2 yX2_price wsX2_price) := gA4 W_115 W_116 W_117 W_65 (gA W_118)
theorem gX2_star_X2_grown : GoodIn wsX2_star (wsV RX2 170 RX2 yX2_grown wsX2_grown) := gA4 W_123 W_124 W_125 W_65 (gA W_126)
theorem gX2_doomed_X2_lives : GoodIn wsX2_doomed (wsV RX2 99 RX2 yX2_lives wsX2_lives) := gA4 W_83 W_84 W_85 W_65 (gA W_86)
theorem gX2_doomed_X2_price : GoodIn wsX2_doomed (wsV RX2 146 RX2 yX2_price wsX2_price) := gA4 W_115 W_116 W_117 W_65 (gA W_118)
theorem gX2_danger_X2_doomed : GoodIn wsX2_danger (wsV RX2 189 RX2 yX2_doomed wsX2_doomed) := gA4 W_170 W_171 W_172 W_65 (gA W_168)
theorem gX2_danger_X2_living : GoodIn wsX2_danger (wsV RX2 176 RX2 yX2_living wsX2_living) := gA4 W_152 W_153 W_154 W_65 (gA W_144)
theorem gX2_danger_X2_pricesOf : GoodIn wsX2_danger (wsV RX2 192 RX2 yX2_pricesOf wsX2_pricesOf) := gA4 W_173 W_174 W_175 W_65 (gA W_176)
theorem gX2_danger_X2_dearerThan : GoodIn wsX2_danger (wsV RX2 195 RX2 yX2_dearerThan wsX2_dearerThan) := gA4 W_177 W_178 W_179 W_65 (gA W_180)
theorem gX2_pricesOf_X2_price : GoodIn wsX2_pricesOf (wsV RX2 146 RX2 yX2_price wsX2_price) := gA4 W_115 W_116 W_117 W_65 (gA W_118)
theorem gX2_dearerThan_X2_price : GoodIn wsX2_dearerThan (wsV RX2 146 RX2 yX2_price wsX2_price) := gA4 W_115 W_116 W_117 W_65 (gA W_118)
theorem gX2_tip_X2_lives : GoodIn wsX2_tip (wsV RX2 99 RX2 yX2_lives wsX2_lives) := gA4 W_83 W_84 W_85 W_65 (gA W_86)
theorem gX2_tip_X2_eatsWith : GoodIn wsX2_tip (wsV RX2 198 RX2 yX2_eatsWith wsX2_eatsWith) := gA4 W_184 W_185 W_186 W_65 (gA W_187)
theorem gX2_eatsWith_X2_lives : GoodIn wsX2_eatsWith (wsV RX2 99 RX2 yX2_lives wsX2_lives) := gA4 W_83 W_84 W_85 W_65 (gA W_86)
theorem gX2_eatsWith_X2_price : GoodIn wsX2_eatsWith (wsV RX2 146 RX2 yX2_price wsX2_price) := gA4 W_115 W_116 W_117 W_65 (gA W_118)
theorem gX2_dear_X2_lives : GoodIn wsX2_dear (wsV RX2 99 RX2 yX2_lives wsX2_lives) := gA4 W_83 W_84 W_85 W_65 (gA W_86)
theorem gX2_dear_X2_priceBehind : GoodIn wsX2_dear (wsV RX2 143 RX2 yX2_priceBehind wsX2_priceBehind) := gA4 W_119 W_120 W_121 W_65 (gA W_122)
theorem gX3_lay_X2_isHushed : GoodIn wsX3_lay (wsV RX3 21 RX2 yX2_isHushed wsX2_isHushed) := gA4 W_195 W_80 W_81 W_65 (gA W_82)
theorem gX3_lay_X2_living : GoodIn wsX3_lay (wsV RX3 43 RX2 yX2_living wsX2_living) := gA4 W_196 W_153 W_154 W_65 (gA W_144)
theorem gX3_lay_X3_tryGuests : GoodIn wsX3_lay (wsV RX3 47 RX3 yX3_tryGuests wsX3_tryGuests) := gA4 W_197 W_198 W_199 W_200 (gA W_201)
theorem gX3_tryGuests_X2_need : GoodIn wsX3_tryGuests (wsV RX3 51 RX2 yX2_need wsX2_need) := gA4 W_205 W_148 W_149 W_65 (gA W_140)
theorem gX3_tryGuests_X3_isBetter : GoodIn wsX3_tryGuests (wsV RX3 61 RX3 yX3_isBetter wsX3_isBetter) := gA4 W_206 W_207 W_208 W_200 (gA W_209)
theorem gX3_isBetter_J6_bitCount_0f7a4 : GoodIn wsX3_isBetter (va_wsS RX3 65 yJ6_bitCount_0f7a4 wsJ6_bitCount_0f7a4) := gA3 W_210 W_211 W_212 (gA W_213)
theorem gX3_tell_J6_bitCount_0f7a4 : GoodIn wsX3_tell (va_wsS RX3 65 yJ6_bitCount_0f7a4 wsJ6_bitCount_0f7a4) := gA3 W_210 W_211 W_212 (gA W_213)
theorem gX4_init_X7_init_n11 : GoodIn wsX4_init (wsX7_init) := gA W_41
theorem gX4_init_X1_init_n20 : GoodIn wsX4_init (wsX1_init) := gA W_19
theorem gX4_tally_X4_fill : GoodIn wsX4_tally (wsV RX4 57 RX4 yX4_fill wsX4_fill) := gA4 W_235 W_236 W_237 W_238 (gA W_239)
theorem gX4_tally_X4_addUp : GoodIn wsX4_tally (va_wsS RX4 61 yX4_addUp wsX4_addUp) := gA3 W_245 W_246 W_238 (gA W_247)
theorem gX4_tally_X4_roomBehind : GoodIn wsX4_tally (wsV RX4 65 RX4 yX4_roomBehind wsX4_roomBehind) := gA4 W_248 W_249 W_250 W_238 (gA W_251)
theorem gX4_fill_J7_fill_53178 : GoodIn wsX4_fill (va_wsS RX4 69 yJ7_fill_53178 wsJ7_fill_53178) := gA3 W_240 W_58 W_59 (gA W_60)
theorem gX4_fill_X4_spread : GoodIn wsX4_fill (wsV RX4 77 RX4 yX4_spread wsX4_spread) := gA4 W_241 W_242 W_243 W_238 (gA W_244)
theorem gX4_compareMinute_X4_tally : GoodIn wsX4_compareMinute (wsV RX4 90 RX4 yX4_tally wsX4_tally) := gA4 W_255 W_256 W_257 W_238 (gA W_233)
theorem gX5_init_X7_init_n11 : GoodIn wsX5_init (wsX7_init) := gA W_41
theorem gX5_init_X0_init_n20 : GoodIn wsX5_init (wsX0_init) := gA W_0
theorem gX5_init_X1_init_n27 : GoodIn wsX5_init (wsX1_init) := gA W_19
theorem gX5_read_X7_clear : GoodIn wsX5_read (wsV RX5 36 RX7 yX7_clear wsX7_clear) := gA4 W_274 W_275 W_276 W_31 (gA W_277)
theorem gX5_read_X5_step : GoodIn wsX5_read (wsV RX5 55 RX5 yX5_step wsX5_step) := gA4 W_284 W_285 W_286 W_287 (gA W_288)
theorem gX5_read_X5_readLine : GoodIn wsX5_read (wsV RX5 62 RX5 yX5_readLine wsX5_readLine) := gA4 W_298 W_299 W_300 W_287 (gA W_301)
theorem gX5_readLine_X5_kindOf : GoodIn wsX5_readLine (wsV RX5 66 RX5 yX5_kindOf wsX5_kindOf) := gA4 W_303 W_304 W_305 W_287 (gA W_306)
theorem gX5_readLine_X5_refuse : GoodIn wsX5_readLine (wsV RX5 70 RX5 yX5_refuse wsX5_refuse) := gA4 W_364 W_365 W_366 W_287 (gA W_367)
theorem gX5_readLine_X5_isFull : GoodIn wsX5_readLine (wsV RX5 74 RX5 yX5_isFull wsX5_isFull) := gA4 W_368 W_369 W_370 W_287 (gA W_371)
theorem gX5_readLine_X5_note : GoodIn wsX5_readLine (wsV RX5 78 RX5 yX5_note wsX5_note) := gA4 W_372 W_373 W_374 W_287 (gA W_375)
theorem gX5_readLine_J7_fill_53178 : GoodIn wsX5_readLine (va_wsS RX5 82 yJ7_fill_53178 wsJ7_fill_53178) := gA3 W_376 W_58 W_59 (gA W_60)
theorem gX5_readLine_X5_step : GoodIn wsX5_readLine (wsV RX5 55 RX5 yX5_step wsX5_step) := gA4 W_284 W_285 W_286 W_287 (gA W_288)
theorem gX5_readLine_X5_cannotBe : GoodIn wsX5_readLine (wsV RX5 94 RX5 yX5_cannotBe wsX5_cannotBe) := gA4 W_377 W_378 W_379 W_287 (gA W_380)
theorem gX5_readLine_X5_keepLine : GoodIn wsX5_readLine (wsV RX5 98 RX5 yX5_keepLine wsX5_keepLine) := gA4 W_383 W_384 W_385 W_287 (gA W_386)
theorem gX5_step_X5_isLetter : GoodIn wsX5_step (va_wsS RX5 104 yX5_isLetter wsX5_isLetter) := gA3 W_292 W_293 W_287 (gA W_294)
theorem gX5_step_X5_isDigit : GoodIn wsX5_step (va_wsS RX5 108 yX5_isDigit wsX5_isDigit) := gA3 W_295 W_296 W_287 (gA W_297)
theorem gX5_kindOf_X5_wordOf : GoodIn wsX5_kindOf (va_wsS RX5 120 yX5_wordOf wsX5_wordOf) := gA3 W_308 W_309 W_287 (gA W_310)
theorem gX5_kindOf_X5_spells : GoodIn wsX5_kindOf (wsV RX5 124 RX5 yX5_spells wsX5_spells) := gA4 W_311 W_312 W_313 W_287 (gA W_314)
theorem gX5_spells_J0_length_8abf5 : GoodIn wsX5_spells (wsV RX5 128 RJ0 yJ0_length_8abf5 wsJ0_length_8abf5) := gA4 W_315 W_316 W_317 W_318 (gA W_319)
theorem gX5_spells_J0_charAt_5068e : GoodIn wsX5_spells (wsV RX5 134 RJ0 yJ0_charAt_5068e wsJ0_charAt_5068e) := gA4 W_327 W_328 W_329 W_318 (gA W_330)
theorem gX5_keepLine_X7_addPalm : GoodIn wsX5_keepLine (wsV RX5 181 RX7 yX7_addPalm wsX7_addPalm) := gA4 W_387 W_388 W_389 W_31 (gA W_390)
theorem gX5_keepLine_X7_addActor : GoodIn wsX5_keepLine (wsV RX5 185 RX7 yX7_addActor wsX7_addActor) := gA4 W_391 W_392 W_393 W_31 (gA W_394)
theorem gX5_keepLine_X7_addUsurer : GoodIn wsX5_keepLine (wsV RX5 188 RX7 yX7_addUsurer wsX7_addUsurer) := gA4 W_395 W_396 W_397 W_31 (gA W_398)
theorem gX5_keepLine_X1_addMinute : GoodIn wsX5_keepLine (wsV RX5 198 RX1 yX1_addMinute wsX1_addMinute) := gA4 W_399 W_400 W_401 W_224 (gA W_25)
theorem gX5_keepLine_X0_addDeed : GoodIn wsX5_keepLine (wsV RX5 201 RX0 yX0_addDeed wsX0_addDeed) := gA4 W_402 W_403 W_404 W_18 (gA W_12)
theorem gX6_begin_J7_fill_53178 : GoodIn wsX6_begin (va_wsS RX6 43 yJ7_fill_53178 wsJ7_fill_53178) := gA3 W_415 W_58 W_59 (gA W_60)
theorem gX6_goRound_X6_cheapest : GoodIn wsX6_goRound (wsV RX6 49 RX6 yX6_cheapest wsX6_cheapest) := gA4 W_419 W_420 W_421 W_422 (gA W_423)
theorem gX6_findRepeat_X6_begin : GoodIn wsX6_findRepeat (wsV RX6 62 RX6 yX6_begin wsX6_begin) := gA4 W_426 W_427 W_428 W_422 (gA W_411)
theorem gX6_findRepeat_X6_allAsks : GoodIn wsX6_findRepeat (wsV RX6 66 RX6 yX6_allAsks wsX6_allAsks) := gA4 W_429 W_430 W_431 W_422 (gA W_432)
theorem gX6_findRepeat_X6_goRound : GoodIn wsX6_findRepeat (wsV RX6 69 RX6 yX6_goRound wsX6_goRound) := gA4 W_433 W_434 W_435 W_422 (gA W_416)
theorem gX7_tell_X7_tellWhole : GoodIn wsX7_tell (wsV RX7 55 RX7 yX7_tellWhole wsX7_tellWhole) := gA4 W_439 W_440 W_441 W_31 (gA W_442)
theorem gX8_init_X7_init_n21 : GoodIn wsX8_init (wsX7_init) := gA W_41
theorem gX8_init_X0_init_n31 : GoodIn wsX8_init (wsX0_init) := gA W_0
theorem gX8_init_X1_init_n41 : GoodIn wsX8_init (wsX1_init) := gA W_19
theorem gX8_put_X7_copyFrom : GoodIn wsX8_put (wsV RX8 66 RX7 yX7_copyFrom wsX7_copyFrom) := gA4 W_468 W_469 W_470 W_31 (gA W_436)
theorem gX8_put_X0_copyFrom : GoodIn wsX8_put (wsV RX8 79 RX0 yX0_copyFrom wsX0_copyFrom) := gA4 W_471 W_472 W_473 W_18 (gA W_6)
theorem gX8_put_X1_copyFrom : GoodIn wsX8_put (wsV RX8 85 RX1 yX1_copyFrom wsX1_copyFrom) := gA4 W_474 W_475 W_476 W_224 (gA W_22)
theorem gX8_copyFrom_X7_copyFrom : GoodIn wsX8_copyFrom (wsV RX8 66 RX7 yX7_copyFrom wsX7_copyFrom) := gA4 W_468 W_469 W_470 W_31 (gA W_436)
theorem gX8_copyFrom_X0_copyFrom : GoodIn wsX8_copyFrom (wsV RX8 79 RX0 yX0_copyFrom wsX0_copyFrom) := gA4 W_471 W_472 W_473 W_18 (gA W_6)
theorem gX8_copyFrom_X1_copyFrom : GoodIn wsX8_copyFrom (wsV RX8 85 RX1 yX1_copyFrom wsX1_copyFrom) := gA4 W_474 W_475 W_476 W_224 (gA W_22)
theorem gX9_init_X8_init_n9 : GoodIn wsX9_init (wsX8_init) := gA W_443
theorem gX9_init_X5_init_n22 : GoodIn wsX9_init (wsX5_init) := gA W_258
theorem gX9_init_X2_init_n29 : GoodIn wsX9_init (wsX2_init) := gA W_27
theorem gX9_init_X3_init_n36 : GoodIn wsX9_init (wsX3_init) := gA W_189
theorem gX9_init_X6_init_n43 : GoodIn wsX9_init (wsX6_init) := gA W_405
theorem gX9_init_X4_init_n50 : GoodIn wsX9_init (wsX4_init) := gA W_218
theorem gX9_feed_X8_append : GoodIn wsX9_feed (wsV RX9 59 RX8 yX8_append wsX8_append) := gA4 W_509 W_510 W_511 W_484 (gA W_457)
theorem gX9_text_X8_howMany : GoodIn wsX9_text (wsV RX9 69 RX8 yX8_howMany wsX8_howMany) := gA4 W_514 W_515 W_516 W_484 (gA W_459)
theorem gX9_text_X5_read : GoodIn wsX9_text (wsV RX9 77 RX5 yX5_read wsX5_read) := gA4 W_517 W_518 W_519 W_287 (gA W_269)
theorem gX9_text_X8_put : GoodIn wsX9_text (wsV RX9 83 RX8 yX8_put wsX8_put) := gA4 W_520 W_521 W_522 W_484 (gA W_466)
theorem gX9_theatre_X8_theatreAt : GoodIn wsX9_theatre (wsV RX9 87 RX8 yX8_theatreAt wsX8_theatreAt) := gA4 W_525 W_526 W_527 W_484 (gA W_463)
theorem gX9_theatre_X7_tell : GoodIn wsX9_theatre (wsV RX9 91 RX7 yX7_tell wsX7_tell) := gA4 W_528 W_529 W_530 W_31 (gA W_438)
theorem gX9_deed_X8_bookAt : GoodIn wsX9_deed (wsV RX9 96 RX8 yX8_bookAt wsX8_bookAt) := gA4 W_532 W_533 W_534 W_484 (gA W_464)
theorem gX9_deed_X0_part : GoodIn wsX9_deed (wsV RX9 105 RX0 yX0_part wsX0_part) := gA4 W_535 W_16 W_17 W_18 (gA W_13)
theorem gX9_stop_X8_theatreAt : GoodIn wsX9_stop (wsV RX9 87 RX8 yX8_theatreAt wsX8_theatreAt) := gA4 W_525 W_526 W_527 W_484 (gA W_463)
theorem gX9_stop_X8_bookAt : GoodIn wsX9_stop (wsV RX9 96 RX8 yX8_bookAt wsX8_bookAt) := gA4 W_532 W_533 W_534 W_484 (gA W_464)
theorem gX9_stop_X2_playAll : GoodIn wsX9_stop (wsV RX9 109 RX2 yX2_playAll wsX2_playAll) := gA4 W_537 W_538 W_539 W_65 (gA W_133)
theorem gX9_state_X9_reach : GoodIn wsX9_state (wsV RX9 113 RX9 yX9_reach wsX9_reach) := gA4 W_541 W_542 W_543 W_544 (gA W_545)
theorem gX9_state_X2_tell : GoodIn wsX9_state (wsV RX9 117 RX2 yX2_tell wsX2_tell) := gA4 W_549 W_550 W_551 W_65 (gA W_151)
theorem gX9_palm_X9_reach : GoodIn wsX9_palm (wsV RX9 113 RX9 yX9_reach wsX9_reach) := gA4 W_541 W_542 W_543 W_544 (gA W_545)
theorem gX9_palm_X2_hasPalm : GoodIn wsX9_palm (wsV RX9 118 RX2 yX2_hasPalm wsX2_hasPalm) := gA4 W_553 W_76 W_77 W_65 (gA W_78)
theorem gX9_palm_X2_tellPalm : GoodIn wsX9_palm (wsV RX9 122 RX2 yX2_tellPalm wsX2_tellPalm) := gA4 W_554 W_555 W_556 W_65 (gA W_158)
theorem gX9_actor_X9_reach : GoodIn wsX9_actor (wsV RX9 113 RX9 yX9_reach wsX9_reach) := gA4 W_541 W_542 W_543 W_544 (gA W_545)
theorem gX9_actor_X2_hasActor : GoodIn wsX9_actor (wsV RX9 125 RX2 yX2_hasActor wsX2_hasActor) := gA4 W_558 W_88 W_89 W_65 (gA W_90)
theorem gX9_actor_X2_tellActor : GoodIn wsX9_actor (wsV RX9 128 RX2 yX2_tellActor wsX2_tellActor) := gA4 W_559 W_560 W_561 W_65 (gA W_159)
theorem gX9_run_X9_reach : GoodIn wsX9_run (wsV RX9 113 RX9 yX9_reach wsX9_reach) := gA4 W_541 W_542 W_543 W_544 (gA W_545)
theorem gX9_run_X2_doomed : GoodIn wsX9_run (wsV RX9 131 RX2 yX2_doomed wsX2_doomed) := gA4 W_563 W_171 W_172 W_65 (gA W_168)
theorem gX9_run_X2_danger : GoodIn wsX9_run (wsV RX9 135 RX2 yX2_danger wsX2_danger) := gA4 W_564 W_565 W_566 W_65 (gA W_169)
theorem gX9_feast_X9_reach : GoodIn wsX9_feast (wsV RX9 113 RX9 yX9_reach wsX9_reach) := gA4 W_541 W_542 W_543 W_544 (gA W_545)
theorem gX9_feast_X3_lay : GoodIn wsX9_feast (wsV RX9 138 RX3 yX3_lay wsX3_lay) := gA4 W_568 W_569 W_570 W_200 (gA W_191)
theorem gX9_feast_X3_tell : GoodIn wsX9_feast (wsV RX9 142 RX3 yX3_tell wsX3_tell) := gA4 W_571 W_572 W_573 W_200 (gA W_217)
theorem gX9_fair_X9_reach : GoodIn wsX9_fair (wsV RX9 113 RX9 yX9_reach wsX9_reach) := gA4 W_541 W_542 W_543 W_544 (gA W_545)
theorem gX9_fair_X2_allLeft : GoodIn wsX9_fair (wsV RX9 143 RX2 yX2_allLeft wsX2_allLeft) := gA4 W_575 W_576 W_577 W_65 (gA W_145)
theorem gX9_fair_X2_allNeeds : GoodIn wsX9_fair (wsV RX9 146 RX2 yX2_allNeeds wsX2_allNeeds) := gA4 W_578 W_579 W_580 W_65 (gA W_146)
theorem gX9_fair_X9_commonPart : GoodIn wsX9_fair (va_wsS RX9 149 yX9_commonPart wsX9_commonPart) := gA3 W_581 W_582 W_544 (gA W_583)
theorem gX9_ask_X9_lendFor : GoodIn wsX9_ask (wsV RX9 152 RX9 yX9_lendFor wsX9_lendFor) := gA4 W_585 W_586 W_587 W_544 (gA W_588)
theorem gX9_taken_X9_lendFor : GoodIn wsX9_taken (wsV RX9 152 RX9 yX9_lendFor wsX9_lendFor) := gA4 W_585 W_586 W_587 W_544 (gA W_588)
theorem gX9_stands_X8_theatreAt : GoodIn wsX9_stands (wsV RX9 87 RX8 yX8_theatreAt wsX8_theatreAt) := gA4 W_525 W_526 W_527 W_484 (gA W_463)
theorem gX9_stands_X6_findRepeat : GoodIn wsX9_stands (wsV RX9 165 RX6 yX6_findRepeat wsX6_findRepeat) := gA4 W_593 W_594 W_595 W_422 (gA W_424)
theorem gX9_heard_X8_darkAt : GoodIn wsX9_heard (wsV RX9 172 RX8 yX8_darkAt wsX8_darkAt) := gA4 W_597 W_598 W_599 W_484 (gA W_465)
theorem gX9_heard_X1_hasMinute : GoodIn wsX9_heard (wsV RX9 181 RX1 yX1_hasMinute wsX1_hasMinute) := gA4 W_600 W_601 W_602 W_224 (gA W_26)
theorem gX9_ways_X8_theatreAt : GoodIn wsX9_ways (wsV RX9 87 RX8 yX8_theatreAt wsX8_theatreAt) := gA4 W_525 W_526 W_527 W_484 (gA W_463)
theorem gX9_ways_X8_darkAt : GoodIn wsX9_ways (wsV RX9 172 RX8 yX8_darkAt wsX8_darkAt) := gA4 W_597 W_598 W_599 W_484 (gA W_465)
theorem gX9_ways_X4_listen : GoodIn wsX9_ways (wsV RX9 189 RX4 yX4_listen wsX4_listen) := gA4 W_605 W_606 W_607 W_238 (gA W_231)
theorem gX9_ways_X4_tally : GoodIn wsX9_ways (wsV RX9 193 RX4 yX4_tally wsX4_tally) := gA4 W_608 W_256 W_257 W_238 (gA W_233)
theorem gX9_whose_X8_theatreAt : GoodIn wsX9_whose (wsV RX9 87 RX8 yX8_theatreAt wsX8_theatreAt) := gA4 W_525 W_526 W_527 W_484 (gA W_463)
theorem gX9_whose_X8_darkAt : GoodIn wsX9_whose (wsV RX9 172 RX8 yX8_darkAt wsX8_darkAt) := gA4 W_597 W_598 W_599 W_484 (gA W_465)
theorem gX9_whose_X1_hasMinute : GoodIn wsX9_whose (wsV RX9 181 RX1 yX1_hasMinute wsX1_hasMinute) := gA4 W_600 W_601 W_602 W_224 (gA W_26)
theorem gX9_whose_X4_listen : GoodIn wsX9_whose (wsV RX9 189 RX4 yX4_listen wsX4_listen) := gA4 W_605 W_606 W_607 W_238 (gA W_231)
theorem gX9_whose_X4_compareMinute : GoodIn wsX9_whose (wsV RX9 197 RX4 yX4_compareMinute wsX4_compareMinute) := gA4 W_610 W_611 W_612 W_238 (gA W_252)
theorem gX9_drawn_X8_theatreAt : GoodIn wsX9_drawn (wsV RX9 87 RX8 yX8_theatreAt wsX8_theatreAt) := gA4 W_525 W_526 W_527 W_484 (gA W_463)
theorem gX9_drawn_X2_playDrawn : GoodIn wsX9_drawn (wsV RX9 209 RX2 yX2_playDrawn wsX2_playDrawn) := gA4 W_614 W_615 W_616 W_65 (gA W_138)
theorem gX9_drawn_X2_living : GoodIn wsX9_drawn (wsV RX9 216 RX2 yX2_living wsX2_living) := gA4 W_617 W_153 W_154 W_65 (gA W_144)
theorem gX9_look_X9_reach : GoodIn wsX9_look (wsV RX9 113 RX9 yX9_reach wsX9_reach) := gA4 W_541 W_542 W_543 W_544 (gA W_545)
theorem gX9_look_X2_loan : GoodIn wsX9_look (wsV RX9 222 RX2 yX2_loan wsX2_loan) := gA4 W_619 W_620 W_621 W_65 (gA W_181)
theorem gX9_look_X2_idol : GoodIn wsX9_look (wsV RX9 225 RX2 yX2_idol wsX2_idol) := gA4 W_622 W_623 W_624 W_65 (gA W_182)
theorem gX9_look_X2_hasActor : GoodIn wsX9_look (wsV RX9 125 RX2 yX2_hasActor wsX2_hasActor) := gA4 W_558 W_88 W_89 W_65 (gA W_90)
theorem gX9_look_X2_tip : GoodIn wsX9_look (wsV RX9 228 RX2 yX2_tip wsX2_tip) := gA4 W_625 W_626 W_627 W_65 (gA W_183)
theorem gX9_look_X2_dear : GoodIn wsX9_look (wsV RX9 231 RX2 yX2_dear wsX2_dear) := gA4 W_628 W_629 W_630 W_65 (gA W_188)
theorem gX9_silence_X8_theatreAt : GoodIn wsX9_silence (wsV RX9 87 RX8 yX8_theatreAt wsX8_theatreAt) := gA4 W_525 W_526 W_527 W_484 (gA W_463)
theorem gX9_silence_X8_bookAt : GoodIn wsX9_silence (wsV RX9 96 RX8 yX8_bookAt wsX8_bookAt) := gA4 W_532 W_533 W_534 W_484 (gA W_464)
theorem gX9_silence_X2_playAll : GoodIn wsX9_silence (wsV RX9 109 RX2 yX2_playAll wsX2_playAll) := gA4 W_537 W_538 W_539 W_65 (gA W_133)
theorem gX9_silence_X2_playWithout : GoodIn wsX9_silence (wsV RX9 237 RX2 yX2_playWithout wsX2_playWithout) := gA4 W_632 W_633 W_634 W_65 (gA W_134)
theorem gX9_silence_X2_living : GoodIn wsX9_silence (wsV RX9 216 RX2 yX2_living wsX2_living) := gA4 W_617 W_153 W_154 W_65 (gA W_144)
theorem gX9_silence_J6_bitCount_0f7a4 : GoodIn wsX9_silence (va_wsS RX9 241 yJ6_bitCount_0f7a4 wsJ6_bitCount_0f7a4) := gA3 W_635 W_211 W_212 (gA W_213)
theorem gX9_count_X8_howMany : GoodIn wsX9_count (wsV RX9 69 RX8 yX8_howMany wsX8_howMany) := gA4 W_514 W_515 W_516 W_484 (gA W_459)
theorem gX9_image_X8_init_n9 : GoodIn wsX9_image (wsX8_init) := gA W_443
theorem gX9_image_X8_copyFrom : GoodIn wsX9_image (wsV RX9 246 RX8 yX8_copyFrom wsX8_copyFrom) := gA4 W_638 W_639 W_640 W_484 (gA W_477)
theorem gX9_again_X8_copyFrom : GoodIn wsX9_again (wsV RX9 246 RX8 yX8_copyFrom wsX8_copyFrom) := gA4 W_638 W_639 W_640 W_484 (gA W_477)
theorem gX9_reach_X8_theatreAt : GoodIn wsX9_reach (wsV RX9 87 RX8 yX8_theatreAt wsX8_theatreAt) := gA4 W_525 W_526 W_527 W_484 (gA W_463)
theorem gX9_reach_X8_bookAt : GoodIn wsX9_reach (wsV RX9 96 RX8 yX8_bookAt wsX8_bookAt) := gA4 W_532 W_533 W_534 W_484 (gA W_464)
theorem gX9_reach_X2_playFirst : GoodIn wsX9_reach (wsV RX9 250 RX2 yX2_playFirst wsX2_playFirst) := gA4 W_546 W_547 W_548 W_65 (gA W_61)
theorem gX9_lendFor_X8_theatreAt : GoodIn wsX9_lendFor (wsV RX9 87 RX8 yX8_theatreAt wsX8_theatreAt) := gA4 W_525 W_526 W_527 W_484 (gA W_463)
theorem gX9_lendFor_X6_begin : GoodIn wsX9_lendFor (wsV RX9 254 RX6 yX6_begin wsX6_begin) := gA4 W_589 W_427 W_428 W_422 (gA W_411)
theorem gX9_lendFor_X6_goRound : GoodIn wsX9_lendFor (wsV RX9 258 RX6 yX6_goRound wsX6_goRound) := gA4 W_590 W_434 W_435 W_422 (gA W_416)
theorem gX10_ones_X10_has : GoodIn wsX10_ones (va_wsS RX10 84 yX10_has wsX10_has) := gA3 W_672 W_673 W_674 (gA W_670)
theorem gX10_copyAll_X10_copyRow : GoodIn wsX10_copyAll (va_wsS RX10 88 yX10_copyRow wsX10_copyRow) := gA3 W_679 W_680 W_674 (gA W_677)
theorem gX10_is_X10_in : GoodIn wsX10_is (va_wsS RX10 92 yX10_in wsX10_in) := gA3 W_682 W_683 W_674 (gA W_669)
theorem gX10_feed_X10_four : GoodIn wsX10_feed (wsV RX10 96 RX10 yX10_four wsX10_four) := gA4 W_686 W_687 W_688 W_674 (gA W_689)
theorem gX10_end_X10_in : GoodIn wsX10_end (va_wsS RX10 92 yX10_in wsX10_in) := gA3 W_682 W_683 W_674 (gA W_669)
theorem gX10_token_X10_see : GoodIn wsX10_token (wsV RX10 106 RX10 yX10_see wsX10_see) := gA4 W_699 W_700 W_701 W_674 (gA W_691)
theorem gX10_token_X10_in : GoodIn wsX10_token (va_wsS RX10 92 yX10_in wsX10_in) := gA3 W_682 W_683 W_674 (gA W_669)
theorem gX10_takeBut_X10_fails : GoodIn wsX10_takeBut (wsV RX10 132 RX10 yX10_fails wsX10_fails) := gA4 W_708 W_709 W_710 W_674 (gA W_702)
theorem gX10_takeBut_X10_in : GoodIn wsX10_takeBut (va_wsS RX10 92 yX10_in wsX10_in) := gA3 W_682 W_683 W_674 (gA W_669)
theorem gX10_takeBut_X10_later : GoodIn wsX10_takeBut (wsV RX10 136 RX10 yX10_later wsX10_later) := gA4 W_711 W_712 W_713 W_674 (gA W_704)
theorem gX10_takeBut_X10_token : GoodIn wsX10_takeBut (wsV RX10 140 RX10 yX10_token wsX10_token) := gA4 W_714 W_715 W_716 W_674 (gA W_694)
theorem gX10_take_X10_takeBut : GoodIn wsX10_take (wsV RX10 143 RX10 yX10_takeBut wsX10_takeBut) := gA4 W_718 W_719 W_720 W_674 (gA W_707)
theorem gX10_full_X10_later : GoodIn wsX10_full (wsV RX10 136 RX10 yX10_later wsX10_later) := gA4 W_711 W_712 W_713 W_674 (gA W_704)
theorem gX10_theatreLine_X10_fails : GoodIn wsX10_theatreLine (wsV RX10 132 RX10 yX10_fails wsX10_fails) := gA4 W_708 W_709 W_710 W_674 (gA W_702)
theorem gX10_theatreLine_X10_full : GoodIn wsX10_theatreLine (wsV RX10 159 RX10 yX10_full wsX10_full) := gA4 W_730 W_731 W_732 W_674 (gA W_721)
theorem gX10_theatreLine_X10_token : GoodIn wsX10_theatreLine (wsV RX10 140 RX10 yX10_token wsX10_token) := gA4 W_714 W_715 W_716 W_674 (gA W_694)
theorem gX10_theatreLine_X10_take : GoodIn wsX10_theatreLine (wsV RX10 163 RX10 yX10_take wsX10_take) := gA4 W_733 W_734 W_735 W_674 (gA W_717)
theorem gX10_theatreLine_X10_keep : GoodIn wsX10_theatreLine (wsV RX10 166 RX10 yX10_keep wsX10_keep) := gA4 W_736 W_737 W_738 W_674 (gA W_722)
theorem gX10_theatreLine_X10_lesser : GoodIn wsX10_theatreLine (va_wsS RX10 170 yX10_lesser wsX10_lesser) := gA3 W_739 W_740 W_674 (gA W_676)
theorem gX10_deedNumbers_X10_take : GoodIn wsX10_deedNumbers (wsV RX10 163 RX10 yX10_take wsX10_take) := gA4 W_733 W_734 W_735 W_674 (gA W_717)
theorem gX10_deedNumbers_X10_takeBut : GoodIn wsX10_deedNumbers (wsV RX10 143 RX10 yX10_takeBut wsX10_takeBut) := gA4 W_718 W_719 W_720 W_674 (gA W_707)
theorem gX10_bookLine_X10_deedBy : GoodIn wsX10_bookLine (va_wsS RX10 188 yX10_deedBy wsX10_deedBy) := gA3 W_751 W_752 W_674 (gA W_741)
theorem gX10_bookLine_X10_fails : GoodIn wsX10_bookLine (wsV RX10 132 RX10 yX10_fails wsX10_fails) := gA4 W_708 W_709 W_710 W_674 (gA W_702)
theorem gX10_bookLine_X10_full : GoodIn wsX10_bookLine (wsV RX10 159 RX10 yX10_full wsX10_full) := gA4 W_730 W_731 W_732 W_674 (gA W_721)
theorem gX10_bookLine_X10_token : GoodIn wsX10_bookLine (wsV RX10 140 RX10 yX10_token wsX10_token) := gA4 W_714 W_715 W_716 W_674 (gA W_694)
theorem gX10_bookLine_X10_deedNumbers : GoodIn wsX10_bookLine (wsV RX10 192 RX10 yX10_deedNumbers wsX10_deedNumbers) := gA4 W_753 W_754 W_755 W_674 (gA W_749)
theorem gX10_bookLine_X10_keep : GoodIn wsX10_bookLine (wsV RX10 166 RX10 yX10_keep wsX10_keep) := gA4 W_736 W_737 W_738 W_674 (gA W_722)
theorem gX10_darkLine_X10_fails : GoodIn wsX10_darkLine (wsV RX10 132 RX10 yX10_fails wsX10_fails) := gA4 W_708 W_709 W_710 W_674 (gA W_702)
theorem gX10_darkLine_X10_full : GoodIn wsX10_darkLine (wsV RX10 159 RX10 yX10_full wsX10_full) := gA4 W_730 W_731 W_732 W_674 (gA W_721)
theorem gX10_darkLine_X10_token : GoodIn wsX10_darkLine (wsV RX10 140 RX10 yX10_token wsX10_token) := gA4 W_714 W_715 W_716 W_674 (gA W_694)
theorem gX10_darkLine_X10_take : GoodIn wsX10_darkLine (wsV RX10 163 RX10 yX10_take wsX10_take) := gA4 W_733 W_734 W_735 W_674 (gA W_717)
theorem gX10_darkLine_X10_keep : GoodIn wsX10_darkLine (wsV RX10 166 RX10 yX10_keep wsX10_keep) := gA4 W_736 W_737 W_738 W_674 (gA W_722)
theorem gX10_lines_X10_theatreLine : GoodIn wsX10_lines (wsV RX10 198 RX10 yX10_theatreLine wsX10_theatreLine) := gA4 W_759 W_760 W_761 W_674 (gA W_723)
theorem gX10_lines_X10_bookLine : GoodIn wsX10_lines (wsV RX10 202 RX10 yX10_bookLine wsX10_bookLine) := gA4 W_762 W_763 W_764 W_674 (gA W_750)
theorem gX10_lines_X10_darkLine : GoodIn wsX10_lines (wsV RX10 205 RX10 yX10_darkLine wsX10_darkLine) := gA4 W_765 W_766 W_767 W_674 (gA W_756)
theorem gX10_lines_X10_fails : GoodIn wsX10_lines (wsV RX10 132 RX10 yX10_fails wsX10_fails) := gA4 W_708 W_709 W_710 W_674 (gA W_702)
theorem gX10_lines_X10_token : GoodIn wsX10_lines (wsV RX10 140 RX10 yX10_token wsX10_token) := gA4 W_714 W_715 W_716 W_674 (gA W_694)
theorem gX10_readText_X10_token : GoodIn wsX10_readText (wsV RX10 140 RX10 yX10_token wsX10_token) := gA4 W_714 W_715 W_716 W_674 (gA W_694)
theorem gX10_readText_X10_lines : GoodIn wsX10_readText (wsV RX10 208 RX10 yX10_lines wsX10_lines) := gA4 W_769 W_770 W_771 W_674 (gA W_758)
theorem gX10_text_X10_in : GoodIn wsX10_text (va_wsS RX10 92 yX10_in wsX10_in) := gA3 W_682 W_683 W_674 (gA W_669)
theorem gX10_text_X10_is : GoodIn wsX10_text (wsV RX10 211 RX10 yX10_is wsX10_is) := gA4 W_774 W_775 W_776 W_674 (gA W_681)
theorem gX10_text_X10_readText : GoodIn wsX10_text (wsV RX10 214 RX10 yX10_readText wsX10_readText) := gA4 W_777 W_778 W_779 W_674 (gA W_768)
theorem gX10_text_X10_store : GoodIn wsX10_text (wsV RX10 217 RX10 yX10_store wsX10_store) := gA4 W_780 W_781 W_782 W_674 (gA W_772)
theorem gX10_hand_X10_is : GoodIn wsX10_hand (wsV RX10 211 RX10 yX10_is wsX10_is) := gA4 W_774 W_775 W_776 W_674 (gA W_681)
theorem gX10_hand_X10_of : GoodIn wsX10_hand (wsV RX10 224 RX10 yX10_of wsX10_of) := gA4 W_790 W_791 W_792 W_674 (gA W_784)
theorem gX10_isPalm_X10_in : GoodIn wsX10_isPalm (va_wsS RX10 92 yX10_in wsX10_in) := gA3 W_682 W_683 W_674 (gA W_669)
theorem gX10_isActor_X10_in : GoodIn wsX10_isActor (va_wsS RX10 92 yX10_in wsX10_in) := gA3 W_682 W_683 W_674 (gA W_669)
theorem gX10_handsOf_X10_of : GoodIn wsX10_handsOf (wsV RX10 224 RX10 yX10_of wsX10_of) := gA4 W_790 W_791 W_792 W_674 (gA W_784)
theorem gX10_hungerOf_X10_of : GoodIn wsX10_hungerOf (wsV RX10 224 RX10 yX10_of wsX10_of) := gA4 W_790 W_791 W_792 W_674 (gA W_784)
theorem gX10_theatre_X10_hand : GoodIn wsX10_theatre (wsV RX10 237 RX10 yX10_hand wsX10_hand) := gA4 W_798 W_799 W_800 W_674 (gA W_786)
theorem gX10_theatre_X10_in : GoodIn wsX10_theatre (va_wsS RX10 92 yX10_in wsX10_in) := gA3 W_682 W_683 W_674 (gA W_669)
theorem gX10_theatre_X10_of : GoodIn wsX10_theatre (wsV RX10 224 RX10 yX10_of wsX10_of) := gA4 W_790 W_791 W_792 W_674 (gA W_784)
theorem gX10_theatre_X10_isPalm : GoodIn wsX10_theatre (wsV RX10 240 RX10 yX10_isPalm wsX10_isPalm) := gA4 W_801 W_802 W_803 W_674 (gA W_793)
theorem gX10_theatre_X10_isActor : GoodIn wsX10_theatre (wsV RX10 243 RX10 yX10_isActor wsX10_isActor) := gA4 W_804 W_805 W_806 W_674 (gA W_794)
theorem gX10_hasBook_X10_is : GoodIn wsX10_hasBook (wsV RX10 211 RX10 yX10_is wsX10_is) := gA4 W_774 W_775 W_776 W_674 (gA W_681)
theorem gX10_deed_X10_hasBook : GoodIn wsX10_deed (wsV RX10 249 RX10 yX10_hasBook wsX10_hasBook) := gA4 W_812 W_813 W_814 W_674 (gA W_810)
theorem gX10_deed_X10_deeds : GoodIn wsX10_deed (wsV RX10 252 RX10 yX10_deeds wsX10_deeds) := gA4 W_815 W_816 W_817 W_674 (gA W_807)
theorem gX10_deed_X10_in : GoodIn wsX10_deed (va_wsS RX10 92 yX10_in wsX10_in) := gA3 W_682 W_683 W_674 (gA W_669)
theorem gX10_deed_X10_deedOf : GoodIn wsX10_deed (wsV RX10 255 RX10 yX10_deedOf wsX10_deedOf) := gA4 W_818 W_819 W_820 W_674 (gA W_809)
theorem gX10_begin_X10_of : GoodIn wsX10_begin (wsV RX10 224 RX10 yX10_of wsX10_of) := gA4 W_790 W_791 W_792 W_674 (gA W_784)
theorem gX10_begin_X10_morning : GoodIn wsX10_begin (wsV RX10 276 RX10 yX10_morning wsX10_morning) := gA4 W_828 W_829 W_830 W_674 (gA W_831)
theorem gX10_morning_X10_of : GoodIn wsX10_morning (wsV RX10 224 RX10 yX10_of wsX10_of) := gA4 W_790 W_791 W_792 W_674 (gA W_784)
theorem gX10_isLiving_X10_isActor : GoodIn wsX10_isLiving (wsV RX10 243 RX10 yX10_isActor wsX10_isActor) := gA4 W_804 W_805 W_806 W_674 (gA W_794)
theorem gX10_isLiving_X10_has : GoodIn wsX10_isLiving (va_wsS RX10 84 yX10_has wsX10_has) := gA3 W_672 W_673 W_674 (gA W_670)
theorem gX10_eats_X10_hungerOf : GoodIn wsX10_eats (wsV RX10 282 RX10 yX10_hungerOf wsX10_hungerOf) := gA4 W_835 W_836 W_837 W_674 (gA W_796)
theorem gX10_clapsFor_X10_isPalm : GoodIn wsX10_clapsFor (wsV RX10 240 RX10 yX10_isPalm wsX10_isPalm) := gA4 W_801 W_802 W_803 W_674 (gA W_793)
theorem gX10_clapsFor_X10_isLiving : GoodIn wsX10_clapsFor (wsV RX10 285 RX10 yX10_isLiving wsX10_isLiving) := gA4 W_840 W_841 W_842 W_674 (gA W_833)
theorem gX10_clapsFor_X10_has : GoodIn wsX10_clapsFor (va_wsS RX10 84 yX10_has wsX10_has) := gA3 W_672 W_673 W_674 (gA W_670)
theorem gX10_clapsFor_X10_handsOf : GoodIn wsX10_clapsFor (wsV RX10 288 RX10 yX10_handsOf wsX10_handsOf) := gA4 W_843 W_844 W_845 W_674 (gA W_795)
theorem gX10_clapsFor_X10_gets : GoodIn wsX10_clapsFor (wsV RX10 291 RX10 yX10_gets wsX10_gets) := gA4 W_846 W_847 W_848 W_674 (gA W_838)
theorem gX10_gives_X10_isPalm : GoodIn wsX10_gives (wsV RX10 240 RX10 yX10_isPalm wsX10_isPalm) := gA4 W_801 W_802 W_803 W_674 (gA W_793)
theorem gX10_gives_X10_has : GoodIn wsX10_gives (va_wsS RX10 84 yX10_has wsX10_has) := gA3 W_672 W_673 W_674 (gA W_670)
theorem gX10_hushes_X10_isLiving : GoodIn wsX10_hushes (wsV RX10 285 RX10 yX10_isLiving wsX10_isLiving) := gA4 W_840 W_841 W_842 W_674 (gA W_833)
theorem gX10_hushes_X10_isPalm : GoodIn wsX10_hushes (wsV RX10 240 RX10 yX10_isPalm wsX10_isPalm) := gA4 W_801 W_802 W_803 W_674 (gA W_793)
theorem gX10_hushes_X10_gets : GoodIn wsX10_hushes (wsV RX10 291 RX10 yX10_gets wsX10_gets) := gA4 W_846 W_847 W_848 W_674 (gA W_838)
theorem gX10_eatsNow_X10_eats : GoodIn wsX10_eatsNow (wsV RX10 294 RX10 yX10_eats wsX10_eats) := gA4 W_852 W_853 W_854 W_674 (gA W_834)
theorem gX10_eatsNow_X10_gets : GoodIn wsX10_eatsNow (wsV RX10 291 RX10 yX10_gets wsX10_gets) := gA4 W_846 W_847 W_848 W_674 (gA W_838)
theorem gX10_night_X10_has : GoodIn wsX10_night (va_wsS RX10 84 yX10_has wsX10_has) := gA3 W_672 W_673 W_674 (gA W_670)
theorem gX10_night_X10_eatsNow : GoodIn wsX10_night (wsV RX10 297 RX10 yX10_eatsNow wsX10_eatsNow) := gA4 W_859 W_860 W_861 W_674 (gA W_851)
theorem gX10_night_X10_lesser : GoodIn wsX10_night (va_wsS RX10 170 yX10_lesser wsX10_lesser) := gA3 W_739 W_740 W_674 (gA W_676)
theorem gX10_night_X10_morning : GoodIn wsX10_night (wsV RX10 276 RX10 yX10_morning wsX10_morning) := gA4 W_828 W_829 W_830 W_674 (gA W_831)
theorem gX10_does_X10_deedOf : GoodIn wsX10_does (wsV RX10 255 RX10 yX10_deedOf wsX10_deedOf) := gA4 W_818 W_819 W_820 W_674 (gA W_809)
theorem gX10_does_X10_clapsFor : GoodIn wsX10_does (wsV RX10 307 RX10 yX10_clapsFor wsX10_clapsFor) := gA4 W_863 W_864 W_865 W_674 (gA W_839)
theorem gX10_does_X10_gives : GoodIn wsX10_does (wsV RX10 310 RX10 yX10_gives wsX10_gives) := gA4 W_866 W_867 W_868 W_674 (gA W_849)
theorem gX10_does_X10_hushes : GoodIn wsX10_does (wsV RX10 314 RX10 yX10_hushes wsX10_hushes) := gA4 W_869 W_870 W_871 W_674 (gA W_850)
theorem gX10_does_X10_isLiving : GoodIn wsX10_does (wsV RX10 285 RX10 yX10_isLiving wsX10_isLiving) := gA4 W_840 W_841 W_842 W_674 (gA W_833)
theorem gX10_does_X10_gets : GoodIn wsX10_does (wsV RX10 291 RX10 yX10_gets wsX10_gets) := gA4 W_846 W_847 W_848 W_674 (gA W_838)
theorem gX10_does_X10_night : GoodIn wsX10_does (wsV RX10 317 RX10 yX10_night wsX10_night) := gA4 W_872 W_873 W_874 W_674 (gA W_855)
theorem gX10_doesNext_X10_does : GoodIn wsX10_doesNext (wsV RX10 320 RX10 yX10_does wsX10_does) := gA4 W_876 W_877 W_878 W_674 (gA W_862)
theorem gX10_doesNext_X10_deedOf : GoodIn wsX10_doesNext (wsV RX10 255 RX10 yX10_deedOf wsX10_deedOf) := gA4 W_818 W_819 W_820 W_674 (gA W_809)
theorem gX10_play_X10_begin : GoodIn wsX10_play (wsV RX10 323 RX10 yX10_begin wsX10_begin) := gA4 W_880 W_881 W_882 W_674 (gA W_821)
theorem gX10_play_X10_doesNext : GoodIn wsX10_play (wsV RX10 326 RX10 yX10_doesNext wsX10_doesNext) := gA4 W_883 W_884 W_885 W_674 (gA W_875)
theorem gX10_layState_X10_hasBook : GoodIn wsX10_layState (wsV RX10 249 RX10 yX10_hasBook wsX10_hasBook) := gA4 W_812 W_813 W_814 W_674 (gA W_810)
theorem gX10_layState_X10_hand : GoodIn wsX10_layState (wsV RX10 237 RX10 yX10_hand wsX10_hand) := gA4 W_798 W_799 W_800 W_674 (gA W_786)
theorem gX10_layState_X10_deeds : GoodIn wsX10_layState (wsV RX10 252 RX10 yX10_deeds wsX10_deeds) := gA4 W_815 W_816 W_817 W_674 (gA W_807)
theorem gX10_layState_X10_in : GoodIn wsX10_layState (va_wsS RX10 92 yX10_in wsX10_in) := gA3 W_682 W_683 W_674 (gA W_669)
theorem gX10_layState_X10_play : GoodIn wsX10_layState (wsV RX10 329 RX10 yX10_play wsX10_play) := gA4 W_887 W_888 W_889 W_674 (gA W_879)
theorem gX10_stop_X10_hasBook : GoodIn wsX10_stop (wsV RX10 249 RX10 yX10_hasBook wsX10_hasBook) := gA4 W_812 W_813 W_814 W_674 (gA W_810)
theorem gX10_stop_X10_hand : GoodIn wsX10_stop (wsV RX10 237 RX10 yX10_hand wsX10_hand) := gA4 W_798 W_799 W_800 W_674 (gA W_786)
theorem gX10_stop_X10_deeds : GoodIn wsX10_stop (wsV RX10 252 RX10 yX10_deeds wsX10_deeds) := gA4 W_815 W_816 W_817 W_674 (gA W_807)
theorem gX10_stop_X10_play : GoodIn wsX10_stop (wsV RX10 329 RX10 yX10_play wsX10_play) := gA4 W_887 W_888 W_889 W_674 (gA W_879)
theorem gX10_allSaved_X10_has : GoodIn wsX10_allSaved (va_wsS RX10 84 yX10_has wsX10_has) := gA3 W_672 W_673 W_674 (gA W_670)
theorem gX10_state_X10_layState : GoodIn wsX10_state (wsV RX10 332 RX10 yX10_layState wsX10_layState) := gA4 W_893 W_894 W_895 W_674 (gA W_886)
theorem gX10_state_X10_allSaved : GoodIn wsX10_state (wsV RX10 335 RX10 yX10_allSaved wsX10_allSaved) := gA4 W_896 W_897 W_898 W_674 (gA W_891)
theorem gX10_palm_X10_layState : GoodIn wsX10_palm (wsV RX10 332 RX10 yX10_layState wsX10_layState) := gA4 W_893 W_894 W_895 W_674 (gA W_886)
theorem gX10_palm_X10_isPalm : GoodIn wsX10_palm (wsV RX10 240 RX10 yX10_isPalm wsX10_isPalm) := gA4 W_801 W_802 W_803 W_674 (gA W_793)
theorem gX10_palm_X10_in : GoodIn wsX10_palm (va_wsS RX10 92 yX10_in wsX10_in) := gA3 W_682 W_683 W_674 (gA W_669)
theorem gX10_needOf_X10_has : GoodIn wsX10_needOf (va_wsS RX10 84 yX10_has wsX10_has) := gA3 W_672 W_673 W_674 (gA W_670)
theorem gX10_needOf_X10_eats : GoodIn wsX10_needOf (wsV RX10 294 RX10 yX10_eats wsX10_eats) := gA4 W_852 W_853 W_854 W_674 (gA W_834)
theorem gX10_needOf_X10_greater : GoodIn wsX10_needOf (va_wsS RX10 338 yX10_greater wsX10_greater) := gA3 W_901 W_902 W_674 (gA W_675)
theorem gX10_friday_X10_has : GoodIn wsX10_friday (va_wsS RX10 84 yX10_has wsX10_has) := gA3 W_672 W_673 W_674 (gA W_670)
theorem gX10_friday_X10_night : GoodIn wsX10_friday (wsV RX10 317 RX10 yX10_night wsX10_night) := gA4 W_872 W_873 W_874 W_674 (gA W_855)
theorem gX10_star_X10_lesser : GoodIn wsX10_star (va_wsS RX10 170 yX10_lesser wsX10_lesser) := gA3 W_739 W_740 W_674 (gA W_676)
theorem gX10_star_X10_eats : GoodIn wsX10_star (wsV RX10 294 RX10 yX10_eats wsX10_eats) := gA4 W_852 W_853 W_854 W_674 (gA W_834)
theorem gX10_actor_X10_layState : GoodIn wsX10_actor (wsV RX10 332 RX10 yX10_layState wsX10_layState) := gA4 W_893 W_894 W_895 W_674 (gA W_886)
theorem gX10_actor_X10_isActor : GoodIn wsX10_actor (wsV RX10 243 RX10 yX10_isActor wsX10_isActor) := gA4 W_804 W_805 W_806 W_674 (gA W_794)
theorem gX10_actor_X10_has : GoodIn wsX10_actor (va_wsS RX10 84 yX10_has wsX10_has) := gA3 W_672 W_673 W_674 (gA W_670)
theorem gX10_actor_X10_eats : GoodIn wsX10_actor (wsV RX10 294 RX10 yX10_eats wsX10_eats) := gA4 W_852 W_853 W_854 W_674 (gA W_834)
theorem gX10_actor_X10_needOf : GoodIn wsX10_actor (wsV RX10 341 RX10 yX10_needOf wsX10_needOf) := gA4 W_906 W_907 W_908 W_674 (gA W_900)
theorem gX10_actor_X10_friday : GoodIn wsX10_actor (wsV RX10 344 RX10 yX10_friday wsX10_friday) := gA4 W_909 W_910 W_911 W_674 (gA W_903)
theorem gX10_actor_X10_star : GoodIn wsX10_actor (wsV RX10 347 RX10 yX10_star wsX10_star) := gA4 W_912 W_913 W_914 W_674 (gA W_904)
theorem gX10_isInDanger_X10_has : GoodIn wsX10_isInDanger (va_wsS RX10 84 yX10_has wsX10_has) := gA3 W_672 W_673 W_674 (gA W_670)
theorem gX10_isInDanger_X10_eats : GoodIn wsX10_isInDanger (wsV RX10 294 RX10 yX10_eats wsX10_eats) := gA4 W_852 W_853 W_854 W_674 (gA W_834)
theorem gX10_isDoomed_X10_eats : GoodIn wsX10_isDoomed (wsV RX10 294 RX10 yX10_eats wsX10_eats) := gA4 W_852 W_853 W_854 W_674 (gA W_834)
theorem gX10_run_X10_layState : GoodIn wsX10_run (wsV RX10 332 RX10 yX10_layState wsX10_layState) := gA4 W_893 W_894 W_895 W_674 (gA W_886)
theorem gX10_run_X10_in : GoodIn wsX10_run (va_wsS RX10 92 yX10_in wsX10_in) := gA3 W_682 W_683 W_674 (gA W_669)
theorem gX10_run_X10_has : GoodIn wsX10_run (va_wsS RX10 84 yX10_has wsX10_has) := gA3 W_672 W_673 W_674 (gA W_670)
theorem gX10_run_X10_isDoomed : GoodIn wsX10_run (wsV RX10 350 RX10 yX10_isDoomed wsX10_isDoomed) := gA4 W_918 W_919 W_920 W_674 (gA W_916)
theorem gX10_run_X10_isInDanger : GoodIn wsX10_run (wsV RX10 353 RX10 yX10_isInDanger wsX10_isInDanger) := gA4 W_921 W_922 W_923 W_674 (gA W_915)
theorem gX10_leftOf_X10_handsOf : GoodIn wsX10_leftOf (wsV RX10 288 RX10 yX10_handsOf wsX10_handsOf) := gA4 W_843 W_844 W_845 W_674 (gA W_795)
theorem gX10_leftOf_X10_has : GoodIn wsX10_leftOf (va_wsS RX10 84 yX10_has wsX10_has) := gA3 W_672 W_673 W_674 (gA W_670)
theorem gX10_canFeed_X10_has : GoodIn wsX10_canFeed (va_wsS RX10 84 yX10_has wsX10_has) := gA3 W_672 W_673 W_674 (gA W_670)
theorem gX10_canFeed_X10_needOf : GoodIn wsX10_canFeed (wsV RX10 341 RX10 yX10_needOf wsX10_needOf) := gA4 W_906 W_907 W_908 W_674 (gA W_900)
theorem gX10_canFeed_X10_leftOf : GoodIn wsX10_canFeed (wsV RX10 356 RX10 yX10_leftOf wsX10_leftOf) := gA4 W_928 W_929 W_930 W_674 (gA W_924)
theorem gX10_canFeed_X10_lesser : GoodIn wsX10_canFeed (va_wsS RX10 170 yX10_lesser wsX10_lesser) := gA3 W_739 W_740 W_674 (gA W_676)
theorem gX10_canFeed_X10_greater : GoodIn wsX10_canFeed (va_wsS RX10 338 yX10_greater wsX10_greater) := gA3 W_901 W_902 W_674 (gA W_675)
theorem gX10_feast_X10_layState : GoodIn wsX10_feast (wsV RX10 332 RX10 yX10_layState wsX10_layState) := gA4 W_893 W_894 W_895 W_674 (gA W_886)
theorem gX10_feast_X10_in : GoodIn wsX10_feast (va_wsS RX10 92 yX10_in wsX10_in) := gA3 W_682 W_683 W_674 (gA W_669)
theorem gX10_feast_X10_canFeed : GoodIn wsX10_feast (wsV RX10 365 RX10 yX10_canFeed wsX10_canFeed) := gA4 W_932 W_933 W_934 W_674 (gA W_925)
theorem gX10_feast_X10_ones : GoodIn wsX10_feast (va_wsS RX10 368 yX10_ones wsX10_ones) := gA3 W_935 W_936 W_674 (gA W_671)
theorem gX10_fair_X10_layState : GoodIn wsX10_fair (wsV RX10 332 RX10 yX10_layState wsX10_layState) := gA4 W_893 W_894 W_895 W_674 (gA W_886)
theorem gX10_fair_X10_needOf : GoodIn wsX10_fair (wsV RX10 341 RX10 yX10_needOf wsX10_needOf) := gA4 W_906 W_907 W_908 W_674 (gA W_900)
theorem gX10_fair_X10_common : GoodIn wsX10_fair (va_wsS RX10 371 yX10_common wsX10_common) := gA3 W_939 W_940 W_674 (gA W_937)
theorem gX10_usurers_X10_of : GoodIn wsX10_usurers (wsV RX10 224 RX10 yX10_of wsX10_of) := gA4 W_790 W_791 W_792 W_674 (gA W_784)
theorem gX10_findAsks_X10_usurers : GoodIn wsX10_findAsks (wsV RX10 374 RX10 yX10_usurers wsX10_usurers) := gA4 W_943 W_944 W_945 W_674 (gA W_941)
theorem gX10_findAsks_X10_of : GoodIn wsX10_findAsks (wsV RX10 224 RX10 yX10_of wsX10_of) := gA4 W_790 W_791 W_792 W_674 (gA W_784)
theorem gX10_findAsks_X10_lesser : GoodIn wsX10_findAsks (va_wsS RX10 170 yX10_lesser wsX10_lesser) := gA3 W_739 W_740 W_674 (gA W_676)
theorem gX10_findAsks_X10_greater : GoodIn wsX10_findAsks (va_wsS RX10 338 yX10_greater wsX10_greater) := gA3 W_901 W_902 W_674 (gA W_675)
theorem gX10_layUsurer_X10_hand : GoodIn wsX10_layUsurer (wsV RX10 237 RX10 yX10_hand wsX10_hand) := gA4 W_798 W_799 W_800 W_674 (gA W_786)
theorem gX10_layUsurer_X10_usurers : GoodIn wsX10_layUsurer (wsV RX10 374 RX10 yX10_usurers wsX10_usurers) := gA4 W_943 W_944 W_945 W_674 (gA W_941)
theorem gX10_layUsurer_X10_in : GoodIn wsX10_layUsurer (va_wsS RX10 92 yX10_in wsX10_in) := gA3 W_682 W_683 W_674 (gA W_669)
theorem gX10_layUsurer_X10_findAsks : GoodIn wsX10_layUsurer (wsV RX10 377 RX10 yX10_findAsks wsX10_findAsks) := gA4 W_947 W_948 W_949 W_674 (gA W_942)
theorem gX10_ask_X10_layUsurer : GoodIn wsX10_ask (wsV RX10 380 RX10 yX10_layUsurer wsX10_layUsurer) := gA4 W_951 W_952 W_953 W_674 (gA W_946)
theorem gX10_taken_X10_layUsurer : GoodIn wsX10_taken (wsV RX10 380 RX10 yX10_layUsurer wsX10_layUsurer) := gA4 W_951 W_952 W_953 W_674 (gA W_946)
theorem gX10_taken_X10_of : GoodIn wsX10_taken (wsV RX10 224 RX10 yX10_of wsX10_of) := gA4 W_790 W_791 W_792 W_674 (gA W_784)
theorem gX10_areAlike_X10_usurers : GoodIn wsX10_areAlike (wsV RX10 374 RX10 yX10_usurers wsX10_usurers) := gA4 W_943 W_944 W_945 W_674 (gA W_941)
theorem gX10_stands_X10_in : GoodIn wsX10_stands (va_wsS RX10 92 yX10_in wsX10_in) := gA3 W_682 W_683 W_674 (gA W_669)
theorem gX10_stands_X10_hand : GoodIn wsX10_stands (wsV RX10 237 RX10 yX10_hand wsX10_hand) := gA4 W_798 W_799 W_800 W_674 (gA W_786)
theorem gX10_stands_X10_usurers : GoodIn wsX10_stands (wsV RX10 374 RX10 yX10_usurers wsX10_usurers) := gA4 W_943 W_944 W_945 W_674 (gA W_941)
theorem gX10_stands_X10_findAsks : GoodIn wsX10_stands (wsV RX10 377 RX10 yX10_findAsks wsX10_findAsks) := gA4 W_947 W_948 W_949 W_674 (gA W_942)
theorem gX10_stands_X10_areAlike : GoodIn wsX10_stands (wsV RX10 383 RX10 yX10_areAlike wsX10_areAlike) := gA4 W_957 W_958 W_959 W_674 (gA W_955)
theorem gX10_hasDark_X10_is : GoodIn wsX10_hasDark (wsV RX10 211 RX10 yX10_is wsX10_is) := gA4 W_774 W_775 W_776 W_674 (gA W_681)
theorem gX10_heard_X10_hasDark : GoodIn wsX10_heard (wsV RX10 392 RX10 yX10_hasDark wsX10_hasDark) := gA4 W_965 W_966 W_967 W_674 (gA W_960)
theorem gX10_heard_X10_in : GoodIn wsX10_heard (va_wsS RX10 92 yX10_in wsX10_in) := gA3 W_682 W_683 W_674 (gA W_669)
theorem gX10_heard_X10_heardOf : GoodIn wsX10_heard (wsV RX10 395 RX10 yX10_heardOf wsX10_heardOf) := gA4 W_968 W_969 W_970 W_674 (gA W_963)
theorem gX10_after_X10_has : GoodIn wsX10_after (va_wsS RX10 84 yX10_has wsX10_has) := gA3 W_672 W_673 W_674 (gA W_670)
theorem gX10_after_X10_of : GoodIn wsX10_after (wsV RX10 224 RX10 yX10_of wsX10_of) := gA4 W_790 W_791 W_792 W_674 (gA W_784)
theorem gX10_after_X10_lesser : GoodIn wsX10_after (va_wsS RX10 170 yX10_lesser wsX10_lesser) := gA3 W_739 W_740 W_674 (gA W_676)
theorem gX10_halvesOf_X10_has : GoodIn wsX10_halvesOf (va_wsS RX10 84 yX10_has wsX10_has) := gA3 W_672 W_673 W_674 (gA W_670)
theorem gX10_halvesOf_X10_handsOf : GoodIn wsX10_halvesOf (wsV RX10 288 RX10 yX10_handsOf wsX10_handsOf) := gA4 W_843 W_844 W_845 W_674 (gA W_795)
theorem gX10_findDark_X10_states : GoodIn wsX10_findDark (wsV RX10 398 RX10 yX10_states wsX10_states) := gA4 W_975 W_976 W_977 W_674 (gA W_973)
theorem gX10_findDark_X10_goOn : GoodIn wsX10_findDark (wsV RX10 401 RX10 yX10_goOn wsX10_goOn) := gA4 W_978 W_979 W_980 W_674 (gA W_981)
theorem gX10_findDark_X10_goBack : GoodIn wsX10_findDark (wsV RX10 404 RX10 yX10_goBack wsX10_goBack) := gA4 W_988 W_989 W_990 W_674 (gA W_991)
theorem gX10_goOn_X10_halvesOf : GoodIn wsX10_goOn (wsV RX10 407 RX10 yX10_halvesOf wsX10_halvesOf) := gA4 W_982 W_983 W_984 W_674 (gA W_972)
theorem gX10_goOn_X10_heardOf : GoodIn wsX10_goOn (wsV RX10 395 RX10 yX10_heardOf wsX10_heardOf) := gA4 W_968 W_969 W_970 W_674 (gA W_963)
theorem gX10_goOn_X10_states : GoodIn wsX10_goOn (wsV RX10 398 RX10 yX10_states wsX10_states) := gA4 W_975 W_976 W_977 W_674 (gA W_973)
theorem gX10_goOn_X10_after : GoodIn wsX10_goOn (wsV RX10 410 RX10 yX10_after wsX10_after) := gA4 W_985 W_986 W_987 W_674 (gA W_971)
theorem gX10_goBack_X10_halvesOf : GoodIn wsX10_goBack (wsV RX10 407 RX10 yX10_halvesOf wsX10_halvesOf) := gA4 W_982 W_983 W_984 W_674 (gA W_972)
theorem gX10_goBack_X10_heardOf : GoodIn wsX10_goBack (wsV RX10 395 RX10 yX10_heardOf wsX10_heardOf) := gA4 W_968 W_969 W_970 W_674 (gA W_963)
theorem gX10_goBack_X10_states : GoodIn wsX10_goBack (wsV RX10 398 RX10 yX10_states wsX10_states) := gA4 W_975 W_976 W_977 W_674 (gA W_973)
theorem gX10_goBack_X10_after : GoodIn wsX10_goBack (wsV RX10 410 RX10 yX10_after wsX10_after) := gA4 W_985 W_986 W_987 W_674 (gA W_971)
theorem gX10_ways_X10_hasDark : GoodIn wsX10_ways (wsV RX10 392 RX10 yX10_hasDark wsX10_hasDark) := gA4 W_965 W_966 W_967 W_674 (gA W_960)
theorem gX10_ways_X10_hand : GoodIn wsX10_ways (wsV RX10 237 RX10 yX10_hand wsX10_hand) := gA4 W_798 W_799 W_800 W_674 (gA W_786)
theorem gX10_ways_X10_findDark : GoodIn wsX10_ways (wsV RX10 415 RX10 yX10_findDark wsX10_findDark) := gA4 W_994 W_995 W_996 W_674 (gA W_974)
theorem gX10_mayBe_X10_halvesOf : GoodIn wsX10_mayBe (wsV RX10 407 RX10 yX10_halvesOf wsX10_halvesOf) := gA4 W_982 W_983 W_984 W_674 (gA W_972)
theorem gX10_mayBe_X10_heardOf : GoodIn wsX10_mayBe (wsV RX10 395 RX10 yX10_heardOf wsX10_heardOf) := gA4 W_968 W_969 W_970 W_674 (gA W_963)
theorem gX10_mayBe_X10_states : GoodIn wsX10_mayBe (wsV RX10 398 RX10 yX10_states wsX10_states) := gA4 W_975 W_976 W_977 W_674 (gA W_973)
theorem gX10_mayBe_X10_after : GoodIn wsX10_mayBe (wsV RX10 410 RX10 yX10_after wsX10_after) := gA4 W_985 W_986 W_987 W_674 (gA W_971)
theorem gX10_whose_X10_hasDark : GoodIn wsX10_whose (wsV RX10 392 RX10 yX10_hasDark wsX10_hasDark) := gA4 W_965 W_966 W_967 W_674 (gA W_960)
theorem gX10_whose_X10_hand : GoodIn wsX10_whose (wsV RX10 237 RX10 yX10_hand wsX10_hand) := gA4 W_798 W_799 W_800 W_674 (gA W_786)
theorem gX10_whose_X10_in : GoodIn wsX10_whose (va_wsS RX10 92 yX10_in wsX10_in) := gA3 W_682 W_683 W_674 (gA W_669)
theorem gX10_whose_X10_findDark : GoodIn wsX10_whose (wsV RX10 415 RX10 yX10_findDark wsX10_findDark) := gA4 W_994 W_995 W_996 W_674 (gA W_974)
theorem gX10_whose_X10_mayBe : GoodIn wsX10_whose (wsV RX10 418 RX10 yX10_mayBe wsX10_mayBe) := gA4 W_999 W_1000 W_1001 W_674 (gA W_997)
theorem gX10_livingOne_X10_has : GoodIn wsX10_livingOne (va_wsS RX10 84 yX10_has wsX10_has) := gA3 W_672 W_673 W_674 (gA W_670)
theorem gX10_drawn_X10_in : GoodIn wsX10_drawn (va_wsS RX10 92 yX10_in wsX10_in) := gA3 W_682 W_683 W_674 (gA W_669)
theorem gX10_drawn_X10_hand : GoodIn wsX10_drawn (wsV RX10 237 RX10 yX10_hand wsX10_hand) := gA4 W_798 W_799 W_800 W_674 (gA W_786)
theorem gX10_drawn_X10_begin : GoodIn wsX10_drawn (wsV RX10 323 RX10 yX10_begin wsX10_begin) := gA4 W_880 W_881 W_882 W_674 (gA W_821)
theorem gX10_drawn_X10_of : GoodIn wsX10_drawn (wsV RX10 224 RX10 yX10_of wsX10_of) := gA4 W_790 W_791 W_792 W_674 (gA W_784)
theorem gX10_drawn_X10_ones : GoodIn wsX10_drawn (va_wsS RX10 368 yX10_ones wsX10_ones) := gA3 W_935 W_936 W_674 (gA W_671)
theorem gX10_drawn_X10_draw : GoodIn wsX10_drawn (wsV RX10 425 RX10 yX10_draw wsX10_draw) := gA4 W_1007 W_1008 W_1009 W_674 (gA W_1002)
theorem gX10_drawn_X10_livingOne : GoodIn wsX10_drawn (wsV RX10 428 RX10 yX10_livingOne wsX10_livingOne) := gA4 W_1010 W_1011 W_1012 W_674 (gA W_1005)
theorem gX10_drawn_X10_handsOf : GoodIn wsX10_drawn (wsV RX10 288 RX10 yX10_handsOf wsX10_handsOf) := gA4 W_843 W_844 W_845 W_674 (gA W_795)
theorem gX10_drawn_X10_gets : GoodIn wsX10_drawn (wsV RX10 291 RX10 yX10_gets wsX10_gets) := gA4 W_846 W_847 W_848 W_674 (gA W_838)
theorem gX10_drawn_X10_night : GoodIn wsX10_drawn (wsV RX10 317 RX10 yX10_night wsX10_night) := gA4 W_872 W_873 W_874 W_674 (gA W_855)
theorem gX10_mostOwing_X10_greater : GoodIn wsX10_mostOwing (va_wsS RX10 338 yX10_greater wsX10_greater) := gA3 W_901 W_902 W_674 (gA W_675)
theorem gX10_idol_X10_greater : GoodIn wsX10_idol (va_wsS RX10 338 yX10_greater wsX10_greater) := gA3 W_901 W_902 W_674 (gA W_675)
theorem gX10_eatsBy_X10_has : GoodIn wsX10_eatsBy (va_wsS RX10 84 yX10_has wsX10_has) := gA3 W_672 W_673 W_674 (gA W_670)
theorem gX10_eatsBy_X10_eats : GoodIn wsX10_eatsBy (wsV RX10 294 RX10 yX10_eats wsX10_eats) := gA4 W_852 W_853 W_854 W_674 (gA W_834)
theorem gX10_tip_X10_has : GoodIn wsX10_tip (va_wsS RX10 84 yX10_has wsX10_has) := gA3 W_672 W_673 W_674 (gA W_670)
theorem gX10_tip_X10_eatsBy : GoodIn wsX10_tip (wsV RX10 431 RX10 yX10_eatsBy wsX10_eatsBy) := gA4 W_1017 W_1018 W_1019 W_674 (gA W_1015)
theorem gX10_dear_X10_has : GoodIn wsX10_dear (va_wsS RX10 84 yX10_has wsX10_has) := gA3 W_672 W_673 W_674 (gA W_670)
theorem gX10_dear_X10_eats : GoodIn wsX10_dear (wsV RX10 294 RX10 yX10_eats wsX10_eats) := gA4 W_852 W_853 W_854 W_674 (gA W_834)
theorem gX10_look_X10_layState : GoodIn wsX10_look (wsV RX10 332 RX10 yX10_layState wsX10_layState) := gA4 W_893 W_894 W_895 W_674 (gA W_886)
theorem gX10_look_X10_in : GoodIn wsX10_look (va_wsS RX10 92 yX10_in wsX10_in) := gA3 W_682 W_683 W_674 (gA W_669)
theorem gX10_look_X10_tip : GoodIn wsX10_look (wsV RX10 434 RX10 yX10_tip wsX10_tip) := gA4 W_1022 W_1023 W_1024 W_674 (gA W_1016)
theorem gX10_look_X10_mostOwing : GoodIn wsX10_look (wsV RX10 437 RX10 yX10_mostOwing wsX10_mostOwing) := gA4 W_1025 W_1026 W_1027 W_674 (gA W_1013)
theorem gX10_look_X10_idol : GoodIn wsX10_look (wsV RX10 440 RX10 yX10_idol wsX10_idol) := gA4 W_1028 W_1029 W_1030 W_674 (gA W_1014)
theorem gX10_look_X10_dear : GoodIn wsX10_look (wsV RX10 443 RX10 yX10_dear wsX10_dear) := gA4 W_1031 W_1032 W_1033 W_674 (gA W_1020)
theorem gX10_names_X10_deedOf : GoodIn wsX10_names (wsV RX10 255 RX10 yX10_deedOf wsX10_deedOf) := gA4 W_818 W_819 W_820 W_674 (gA W_809)
theorem gX10_starvedWithout_X10_begin : GoodIn wsX10_starvedWithout (wsV RX10 323 RX10 yX10_begin wsX10_begin) := gA4 W_880 W_881 W_882 W_674 (gA W_821)
theorem gX10_starvedWithout_X10_names : GoodIn wsX10_starvedWithout (wsV RX10 446 RX10 yX10_names wsX10_names) := gA4 W_1036 W_1037 W_1038 W_674 (gA W_1034)
theorem gX10_starvedWithout_X10_doesNext : GoodIn wsX10_starvedWithout (wsV RX10 326 RX10 yX10_doesNext wsX10_doesNext) := gA4 W_883 W_884 W_885 W_674 (gA W_875)
theorem gX10_starvedWithout_X10_ones : GoodIn wsX10_starvedWithout (va_wsS RX10 368 yX10_ones wsX10_ones) := gA3 W_935 W_936 W_674 (gA W_671)
theorem gX10_silence_X10_hasBook : GoodIn wsX10_silence (wsV RX10 249 RX10 yX10_hasBook wsX10_hasBook) := gA4 W_812 W_813 W_814 W_674 (gA W_810)
theorem gX10_silence_X10_hand : GoodIn wsX10_silence (wsV RX10 237 RX10 yX10_hand wsX10_hand) := gA4 W_798 W_799 W_800 W_674 (gA W_786)
theorem gX10_silence_X10_deeds : GoodIn wsX10_silence (wsV RX10 252 RX10 yX10_deeds wsX10_deeds) := gA4 W_815 W_816 W_817 W_674 (gA W_807)
theorem gX10_silence_X10_play : GoodIn wsX10_silence (wsV RX10 329 RX10 yX10_play wsX10_play) := gA4 W_887 W_888 W_889 W_674 (gA W_879)
theorem gX10_silence_X10_starvedWithout : GoodIn wsX10_silence (wsV RX10 449 RX10 yX10_starvedWithout wsX10_starvedWithout) := gA4 W_1040 W_1041 W_1042 W_674 (gA W_1035)
theorem gX10_silence_X10_greater : GoodIn wsX10_silence (va_wsS RX10 338 yX10_greater wsX10_greater) := gA3 W_901 W_902 W_674 (gA W_675)
theorem gX10_count_X10_in : GoodIn wsX10_count (va_wsS RX10 92 yX10_in wsX10_in) := gA3 W_682 W_683 W_674 (gA W_669)
theorem gX10_image_X10_in : GoodIn wsX10_image (va_wsS RX10 92 yX10_in wsX10_in) := gA3 W_682 W_683 W_674 (gA W_669)
theorem gX10_image_X10_copyAll : GoodIn wsX10_image (wsV RX10 452 RX10 yX10_copyAll wsX10_copyAll) := gA4 W_1045 W_1046 W_1047 W_674 (gA W_678)
theorem gX10_again_X10_in : GoodIn wsX10_again (va_wsS RX10 92 yX10_in wsX10_in) := gA3 W_682 W_683 W_674 (gA W_669)
theorem gX10_again_X10_copyAll : GoodIn wsX10_again (wsV RX10 452 RX10 yX10_copyAll wsX10_copyAll) := gA4 W_1045 W_1046 W_1047 W_674 (gA W_678)
theorem gJ0_length_8abf5_J0_coder_7d493 : GoodIn wsJ0_length_8abf5 (wsV RJ0 335 RJ0 yJ0_coder_7d493 wsJ0_coder_7d493) := gA4 W_321 W_322 W_323 W_318 (gA W_324)
theorem gJ0_charAt_5068e_J0_isLatin1_aae02 : GoodIn wsJ0_charAt_5068e (wsV RJ0 492 RJ0 yJ0_isLatin1_aae02 wsJ0_isLatin1_aae02) := gA4 W_331 W_332 W_333 W_318 (gA W_334)
theorem gJ0_charAt_5068e_J1_charAt_3b067 : GoodIn wsJ0_charAt_5068e (va_wsS RJ0 495 yJ1_charAt_3b067 wsJ1_charAt_3b067) := gA3 W_335 W_336 W_337 (gA W_338)
theorem gJ0_charAt_5068e_J2_charAt_3b067 : GoodIn wsJ0_charAt_5068e (va_wsS RJ0 498 yJ2_charAt_3b067 wsJ2_charAt_3b067) := gA3 W_347 W_348 W_349 (gA W_350)
theorem gJ0_checkIndex_df160_J3_checkIndex_8e157 : GoodIn wsJ0_checkIndex_df160 (va_wsS RJ0 1059 yJ3_checkIndex_8e157 wsJ3_checkIndex_8e157) := gA3 W_343 W_344 W_345 (gA W_346)
theorem gJ1_charAt_3b067_J0_checkIndex_df160 : GoodIn wsJ1_charAt_3b067 (va_wsS RJ1 9 yJ0_checkIndex_df160 wsJ0_checkIndex_df160) := gA3 W_339 W_340 W_318 (gA W_341)
theorem gJ2_getChar_3b067_J2_length_9d52b : GoodIn wsJ2_getChar_3b067 (va_wsS RJ2 48 yJ2_length_9d52b wsJ2_length_9d52b) := gA3 W_354 W_355 W_349 (gA W_356)
theorem gJ2_charAt_3b067_J2_checkIndex_2214a : GoodIn wsJ2_charAt_3b067 (va_wsS RJ2 67 yJ2_checkIndex_2214a wsJ2_checkIndex_2214a) := gA3 W_351 W_352 W_349 (gA W_353)
theorem gJ2_charAt_3b067_J2_getChar_3b067 : GoodIn wsJ2_charAt_3b067 (va_wsS RJ2 71 yJ2_getChar_3b067 wsJ2_getChar_3b067) := gA3 W_358 W_359 W_349 (gA W_360)
theorem gJ2_checkIndex_2214a_J2_length_9d52b : GoodIn wsJ2_checkIndex_2214a (va_wsS RJ2 48 yJ2_length_9d52b wsJ2_length_9d52b) := gA3 W_354 W_355 W_349 (gA W_356)
theorem gJ2_checkIndex_2214a_J0_checkIndex_df160 : GoodIn wsJ2_checkIndex_2214a (va_wsS RJ2 414 yJ0_checkIndex_df160 wsJ0_checkIndex_df160) := gA3 W_357 W_340 W_318 (gA W_341)
