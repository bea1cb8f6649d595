abbrev cX10_in : ByteArray := prog_12_method_3_code
def yX10_in : MethodName := ⟨RX10, "in", "(III)Z"⟩
abbrev cX10_has : ByteArray := prog_12_method_4_code
def yX10_has : MethodName := ⟨RX10, "has", "(II)Z"⟩
abbrev cX10_ones : ByteArray := prog_12_method_5_code
def yX10_ones : MethodName := ⟨RX10, "ones", "(I)I"⟩
abbrev cX10_greater : ByteArray := prog_12_method_6_code
def yX10_greater : MethodName := ⟨RX10, "greater", "(II)I"⟩
abbrev cX10_lesser : ByteArray := prog_12_method_7_code
def yX10_lesser : MethodName := ⟨RX10, "lesser", "(II)I"⟩
abbrev cX10_copyRow : ByteArray := prog_12_method_8_code
def yX10_copyRow : MethodName := ⟨RX10, "copyRow", "([IIII)V"⟩
abbrev cX10_copyAll : ByteArray := prog_12_method_9_code
def yX10_copyAll : MethodName := ⟨RX10, "copyAll", "(II)V"⟩
abbrev cX10_is : ByteArray := prog_12_method_10_code
def yX10_is : MethodName := ⟨RX10, "is", "(II)Z"⟩
abbrev cX10_feed : ByteArray := prog_12_method_11_code
def yX10_feed : MethodName := ⟨RX10, "feed", "(IIIII)I"⟩
abbrev cX10_four : ByteArray := prog_12_method_12_code
def yX10_four : MethodName := ⟨RX10, "four", "(I)V"⟩
abbrev cX10_end : ByteArray := prog_12_method_13_code
def yX10_end : MethodName := ⟨RX10, "end", "(I)I"⟩
abbrev cX10_see : ByteArray := prog_12_method_14_code
def yX10_see : MethodName := ⟨RX10, "see", "()I"⟩
abbrev cX10_token : ByteArray := prog_12_method_15_code
def yX10_token : MethodName := ⟨RX10, "token", "()V"⟩
abbrev cX10_fails : ByteArray := prog_12_method_16_code
def yX10_fails : MethodName := ⟨RX10, "fails", "()Z"⟩
abbrev cX10_later : ByteArray := prog_12_method_17_code
def yX10_later : MethodName := ⟨RX10, "later", "(II)V"⟩
abbrev cX10_takeBut : ByteArray := prog_12_method_18_code
def yX10_takeBut : MethodName := ⟨RX10, "takeBut", "(IIII)Z"⟩
abbrev cX10_take : ByteArray := prog_12_method_19_code
def yX10_take : MethodName := ⟨RX10, "take", "(III)Z"⟩
abbrev cX10_full : ByteArray := prog_12_method_20_code
def yX10_full : MethodName := ⟨RX10, "full", "(III)V"⟩
abbrev cX10_keep : ByteArray := prog_12_method_21_code
def yX10_keep : MethodName := ⟨RX10, "keep", "(IIII)V"⟩
abbrev cX10_theatreLine : ByteArray := prog_12_method_22_code
def yX10_theatreLine : MethodName := ⟨RX10, "theatreLine", "(JI)Z"⟩
abbrev cX10_deedBy : ByteArray := prog_12_method_23_code
def yX10_deedBy : MethodName := ⟨RX10, "deedBy", "(J)I"⟩
abbrev cX10_deedNumbers : ByteArray := prog_12_method_24_code
def yX10_deedNumbers : MethodName := ⟨RX10, "deedNumbers", "(I)Z"⟩
abbrev cX10_bookLine : ByteArray := prog_12_method_25_code
def yX10_bookLine : MethodName := ⟨RX10, "bookLine", "(JI)Z"⟩
abbrev cX10_darkLine : ByteArray := prog_12_method_26_code
def yX10_darkLine : MethodName := ⟨RX10, "darkLine", "(JI)Z"⟩
abbrev cX10_lines : ByteArray := prog_12_method_27_code
def yX10_lines : MethodName := ⟨RX10, "lines", "(I)Z"⟩
abbrev cX10_readText : ByteArray := prog_12_method_28_code
def yX10_readText : MethodName := ⟨RX10, "readText", "(I)Z"⟩
abbrev cX10_store : ByteArray := prog_12_method_29_code
def yX10_store : MethodName := ⟨RX10, "store", "([III)V"⟩
abbrev cX10_text : ByteArray := prog_12_method_30_code
def yX10_text : MethodName := ⟨RX10, "text", "(II)I"⟩
abbrev cX10_fault : ByteArray := prog_12_method_31_code
def yX10_fault : MethodName := ⟨RX10, "fault", "(I)I"⟩
abbrev cX10_of : ByteArray := prog_12_method_32_code
def yX10_of : MethodName := ⟨RX10, "of", "(I)I"⟩
abbrev cX10_hand : ByteArray := prog_12_method_33_code
def yX10_hand : MethodName := ⟨RX10, "hand", "(I)Z"⟩
abbrev cX10_isPalm : ByteArray := prog_12_method_34_code
def yX10_isPalm : MethodName := ⟨RX10, "isPalm", "(I)Z"⟩
abbrev cX10_isActor : ByteArray := prog_12_method_35_code
def yX10_isActor : MethodName := ⟨RX10, "isActor", "(I)Z"⟩
abbrev cX10_handsOf : ByteArray := prog_12_method_36_code
def yX10_handsOf : MethodName := ⟨RX10, "handsOf", "(I)I"⟩
abbrev cX10_hungerOf : ByteArray := prog_12_method_37_code
def yX10_hungerOf : MethodName := ⟨RX10, "hungerOf", "(I)I"⟩
abbrev cX10_theatre : ByteArray := prog_12_method_38_code
def yX10_theatre : MethodName := ⟨RX10, "theatre", "(II)I"⟩
abbrev cX10_deeds : ByteArray := prog_12_method_39_code
def yX10_deeds : MethodName := ⟨RX10, "deeds", "()I"⟩
abbrev cX10_deedOf : ByteArray := prog_12_method_40_code
def yX10_deedOf : MethodName := ⟨RX10, "deedOf", "(II)I"⟩
abbrev cX10_hasBook : ByteArray := prog_12_method_41_code
def yX10_hasBook : MethodName := ⟨RX10, "hasBook", "(I)Z"⟩
abbrev cX10_deed : ByteArray := prog_12_method_42_code
def yX10_deed : MethodName := ⟨RX10, "deed", "(III)I"⟩
abbrev cX10_begin : ByteArray := prog_12_method_43_code
def yX10_begin : MethodName := ⟨RX10, "begin", "()V"⟩
abbrev cX10_morning : ByteArray := prog_12_method_44_code
def yX10_morning : MethodName := ⟨RX10, "morning", "()V"⟩
abbrev cX10_isLiving : ByteArray := prog_12_method_45_code
def yX10_isLiving : MethodName := ⟨RX10, "isLiving", "(I)Z"⟩
abbrev cX10_eats : ByteArray := prog_12_method_46_code
def yX10_eats : MethodName := ⟨RX10, "eats", "(II)I"⟩
abbrev cX10_gets : ByteArray := prog_12_method_47_code
def yX10_gets : MethodName := ⟨RX10, "gets", "(II)V"⟩
abbrev cX10_clapsFor : ByteArray := prog_12_method_48_code
def yX10_clapsFor : MethodName := ⟨RX10, "clapsFor", "(III)Z"⟩
abbrev cX10_gives : ByteArray := prog_12_method_49_code
def yX10_gives : MethodName := ⟨RX10, "gives", "(IIIZ)Z"⟩
abbrev cX10_hushes : ByteArray := prog_12_method_50_code
def yX10_hushes : MethodName := ⟨RX10, "hushes", "(III)Z"⟩
abbrev cX10_eatsNow : ByteArray := prog_12_method_51_code
def yX10_eatsNow : MethodName := ⟨RX10, "eatsNow", "(I)Z"⟩
abbrev cX10_night : ByteArray := prog_12_method_52_code
def yX10_night : MethodName := ⟨RX10, "night", "()V"⟩
abbrev cX10_does : ByteArray := prog_12_method_53_code
def yX10_does : MethodName := ⟨RX10, "does", "(I)Z"⟩
abbrev cX10_doesNext : ByteArray := prog_12_method_54_code
def yX10_doesNext : MethodName := ⟨RX10, "doesNext", "(I)Z"⟩
abbrev cX10_play : ByteArray := prog_12_method_55_code
def yX10_play : MethodName := ⟨RX10, "play", "(I)I"⟩
abbrev cX10_layState : ByteArray := prog_12_method_56_code
def yX10_layState : MethodName := ⟨RX10, "layState", "(III)Z"⟩
abbrev cX10_stop : ByteArray := prog_12_method_57_code
def yX10_stop : MethodName := ⟨RX10, "stop", "(II)I"⟩
abbrev cX10_allSaved : ByteArray := prog_12_method_58_code
def yX10_allSaved : MethodName := ⟨RX10, "allSaved", "()I"⟩
abbrev cX10_state : ByteArray := prog_12_method_59_code
def yX10_state : MethodName := ⟨RX10, "state", "(IIII)I"⟩
abbrev cX10_palm : ByteArray := prog_12_method_60_code
def yX10_palm : MethodName := ⟨RX10, "palm", "(IIIII)I"⟩
abbrev cX10_needOf : ByteArray := prog_12_method_61_code
def yX10_needOf : MethodName := ⟨RX10, "needOf", "(I)I"⟩
abbrev cX10_friday : ByteArray := prog_12_method_62_code
def yX10_friday : MethodName := ⟨RX10, "friday", "(I)I"⟩
abbrev cX10_star : ByteArray := prog_12_method_63_code
def yX10_star : MethodName := ⟨RX10, "star", "(I)I"⟩
abbrev cX10_actor : ByteArray := prog_12_method_64_code
def yX10_actor : MethodName := ⟨RX10, "actor", "(IIIII)I"⟩
abbrev cX10_isInDanger : ByteArray := prog_12_method_65_code
def yX10_isInDanger : MethodName := ⟨RX10, "isInDanger", "(I)Z"⟩
abbrev cX10_isDoomed : ByteArray := prog_12_method_66_code
def yX10_isDoomed : MethodName := ⟨RX10, "isDoomed", "(I)Z"⟩
abbrev cX10_run : ByteArray := prog_12_method_67_code
def yX10_run : MethodName := ⟨RX10, "run", "(IIII)I"⟩
abbrev cX10_leftOf : ByteArray := prog_12_method_68_code
def yX10_leftOf : MethodName := ⟨RX10, "leftOf", "(I)I"⟩
abbrev cX10_canFeed : ByteArray := prog_12_method_69_code
def yX10_canFeed : MethodName := ⟨RX10, "canFeed", "(I)Z"⟩
abbrev cX10_feast : ByteArray := prog_12_method_70_code
def yX10_feast : MethodName := ⟨RX10, "feast", "(IIII)I"⟩
abbrev cX10_common : ByteArray := prog_12_method_71_code
def yX10_common : MethodName := ⟨RX10, "common", "(II)I"⟩
abbrev cX10_fair : ByteArray := prog_12_method_72_code
def yX10_fair : MethodName := ⟨RX10, "fair", "(IIIZ)I"⟩
abbrev cX10_usurers : ByteArray := prog_12_method_73_code
def yX10_usurers : MethodName := ⟨RX10, "usurers", "()I"⟩
abbrev cX10_findAsks : ByteArray := prog_12_method_74_code
def yX10_findAsks : MethodName := ⟨RX10, "findAsks", "()V"⟩
abbrev cX10_layUsurer : ByteArray := prog_12_method_75_code
def yX10_layUsurer : MethodName := ⟨RX10, "layUsurer", "(III)Z"⟩
abbrev cX10_ask : ByteArray := prog_12_method_76_code
def yX10_ask : MethodName := ⟨RX10, "ask", "(III)I"⟩
abbrev cX10_taken : ByteArray := prog_12_method_77_code
def yX10_taken : MethodName := ⟨RX10, "taken", "(III)I"⟩
abbrev cX10_areAlike : ByteArray := prog_12_method_78_code
def yX10_areAlike : MethodName := ⟨RX10, "areAlike", "(II)Z"⟩
abbrev cX10_stands : ByteArray := prog_12_method_79_code
def yX10_stands : MethodName := ⟨RX10, "stands", "(II)I"⟩
abbrev cX10_hasDark : ByteArray := prog_12_method_80_code
def yX10_hasDark : MethodName := ⟨RX10, "hasDark", "(I)Z"⟩
abbrev cX10_heardOf : ByteArray := prog_12_method_81_code
def yX10_heardOf : MethodName := ⟨RX10, "heardOf", "(I)I"⟩
abbrev cX10_heard : ByteArray := prog_12_method_82_code
def yX10_heard : MethodName := ⟨RX10, "heard", "(II)I"⟩
abbrev cX10_after : ByteArray := prog_12_method_83_code
def yX10_after : MethodName := ⟨RX10, "after", "(II)I"⟩
abbrev cX10_halvesOf : ByteArray := prog_12_method_84_code
def yX10_halvesOf : MethodName := ⟨RX10, "halvesOf", "(I)I"⟩
abbrev cX10_states : ByteArray := prog_12_method_85_code
def yX10_states : MethodName := ⟨RX10, "states", "()I"⟩
abbrev cX10_findDark : ByteArray := prog_12_method_86_code
def yX10_findDark : MethodName := ⟨RX10, "findDark", "()V"⟩
abbrev cX10_goOn : ByteArray := prog_12_method_87_code
def yX10_goOn : MethodName := ⟨RX10, "goOn", "(I)V"⟩
abbrev cX10_goBack : ByteArray := prog_12_method_88_code
def yX10_goBack : MethodName := ⟨RX10, "goBack", "(I)V"⟩
abbrev cX10_ways : ByteArray := prog_12_method_89_code
def yX10_ways : MethodName := ⟨RX10, "ways", "(II)J"⟩
abbrev cX10_mayBe : ByteArray := prog_12_method_90_code
def yX10_mayBe : MethodName := ⟨RX10, "mayBe", "(II)Z"⟩
abbrev cX10_whose : ByteArray := prog_12_method_91_code
def yX10_whose : MethodName := ⟨RX10, "whose", "(IIIZ)I"⟩
abbrev cX10_draw : ByteArray := prog_12_method_92_code
def yX10_draw : MethodName := ⟨RX10, "draw", "(I)I"⟩
abbrev cX10_livingOne : ByteArray := prog_12_method_93_code
def yX10_livingOne : MethodName := ⟨RX10, "livingOne", "(I)I"⟩
abbrev cX10_drawn : ByteArray := prog_12_method_94_code
def yX10_drawn : MethodName := ⟨RX10, "drawn", "(IIII)I"⟩
abbrev cX10_mostOwing : ByteArray := prog_12_method_95_code
def yX10_mostOwing : MethodName := ⟨RX10, "mostOwing", "()I"⟩
abbrev cX10_idol : ByteArray := prog_12_method_96_code
def yX10_idol : MethodName := ⟨RX10, "idol", "()I"⟩
abbrev cX10_eatsBy : ByteArray := prog_12_method_97_code
def yX10_eatsBy : MethodName := ⟨RX10, "eatsBy", "(II)Z"⟩
abbrev cX10_tip : ByteArray := prog_12_method_98_code
def yX10_tip : MethodName := ⟨RX10, "tip", "(I)I"⟩
abbrev cX10_dear : ByteArray := prog_12_method_99_code
def yX10_dear : MethodName := ⟨RX10, "dear", "(I)I"⟩
abbrev cX10_look : ByteArray := prog_12_method_100_code
def yX10_look : MethodName := ⟨RX10, "look", "(IIII)I"⟩
abbrev cX10_names : ByteArray := prog_12_method_101_code
def yX10_names : MethodName := ⟨RX10, "names", "(II)Z"⟩
abbrev cX10_starvedWithout : ByteArray := prog_12_method_102_code
def yX10_starvedWithout : MethodName := ⟨RX10, "starvedWithout", "(II)I"⟩
abbrev cX10_silence : ByteArray := prog_12_method_103_code
def yX10_silence : MethodName := ⟨RX10, "silence", "(IIZ)I"⟩
abbrev cX10_count : ByteArray := prog_12_method_104_code
def yX10_count : MethodName := ⟨RX10, "count", "(I)I"⟩
abbrev cX10_image : ByteArray := prog_12_method_105_code
def yX10_image : MethodName := ⟨RX10, "image", "(I)Z"⟩
abbrev cX10_again : ByteArray := prog_12_method_106_code
def yX10_again : MethodName := ⟨RX10, "again", "(I)Z"⟩
def wsX10_in : List Cond := .code yX10_in cX10_in 3 (some .boolean) :: ([])
def wsX10_copyRow : List Cond := .code yX10_copyRow cX10_copyRow 5 none :: ([])
def wsX10_copyAll : List Cond := .code yX10_copyAll cX10_copyAll 4 none :: ([.fieldLink RX10 7 "ClapBankModel" "tape" "[B", .fieldLink RX10 13 "ClapBankModel" "size" "[I", .fieldLink RX10 17 "ClapBankModel" "fault" "[I", .fieldLink RX10 20 "ClapBankModel" "faultPlace" "[I", .fieldLink RX10 23 "ClapBankModel" "many" "[I", .fieldLink RX10 26 "ClapBankModel" "theatres" "[I", .fieldLink RX10 29 "ClapBankModel" "books" "[I", .fieldLink RX10 32 "ClapBankModel" "darks" "[I", .methodLink RX10 88 yX10_copyRow, .static yX10_copyRow, .initialized RX10, .code yX10_copyRow cX10_copyRow 5 none] ++ wsX100)
def wsX10_is : List Cond := .code yX10_is cX10_is 3 (some .boolean) :: ([.fieldLink RX10 23 "ClapBankModel" "many" "[I", .methodLink RX10 92 yX10_in, .static yX10_in, .initialized RX10, .code yX10_in cX10_in 3 (some .boolean)] ++ wsX100)
def wsX10_four : List Cond := .code yX10_four cX10_four 3 none :: ([.fieldLink RX10 7 "ClapBankModel" "tape" "[B", .fieldLink RX10 13 "ClapBankModel" "size" "[I"] ++ wsX100)
def wsX10_feed : List Cond := .code yX10_feed cX10_feed 6 (some .int) :: ([.fieldLink RX10 80 "ClapBankModel" "code" "I", .fieldLink RX10 13 "ClapBankModel" "size" "[I", .methodLink RX10 96 yX10_four, .instanceMethod yX10_four, .selects RX10 yX10_four yX10_four, .initialized RX10, .code yX10_four cX10_four 3 none, .fieldLink RX10 7 "ClapBankModel" "tape" "[B"] ++ wsX100)
def wsX10_end : List Cond := .code yX10_end cX10_end 2 (some .int) :: ([.fieldLink RX10 80 "ClapBankModel" "code" "I", .fieldLink RX10 13 "ClapBankModel" "size" "[I", .methodLink RX10 92 yX10_in, .static yX10_in, .initialized RX10, .code yX10_in cX10_in 3 (some .boolean)] ++ wsX100)
def wsX10_see : List Cond := .code yX10_see cX10_see 1 (some .int) :: ([.fieldLink RX10 100 "ClapBankModel" "reached" "I", .fieldLink RX10 103 "ClapBankModel" "length" "I", .fieldLink RX10 7 "ClapBankModel" "tape" "[B"] ++ wsX100)
def wsX10_token : List Cond := .code yX10_token cX10_token 3 none :: ([.fieldLink RX10 100 "ClapBankModel" "reached" "I", .fieldLink RX10 110 "ClapBankModel" "begins" "I", .fieldLink RX10 113 "ClapBankModel" "word" "J", .fieldLink RX10 117 "ClapBankModel" "sort" "I", .fieldLink RX10 120 "ClapBankModel" "value" "I", .methodLink RX10 106 yX10_see, .instanceMethod yX10_see, .selects RX10 yX10_see yX10_see, .initialized RX10, .code yX10_see cX10_see 1 (some .int), .fieldLink RX10 103 "ClapBankModel" "length" "I", .fieldLink RX10 7 "ClapBankModel" "tape" "[B", .methodLink RX10 92 yX10_in, .static yX10_in, .code yX10_in cX10_in 3 (some .boolean)] ++ wsX100)
def wsX10_lines_r1 : List Cond := [Cond.fieldLink RX10 117 "ClapBankModel" "sort" "I", Cond.fieldLink RX10 110 "ClapBankModel" "begins" "I", Cond.fieldLink RX10 113 "ClapBankModel" "word" "J", Cond.methodLink RX10 198 yX10_theatreLine, Cond.instanceMethod yX10_theatreLine, Cond.selects RX10 yX10_theatreLine yX10_theatreLine, Cond.initialized RX10, Cond.code yX10_theatreLine cX10_theatreLine 5 (some .boolean), Cond.constantLong RX10 147 (1918989413), Cond.constantLong RX10 149 (426953241460), Cond.constantLong RX10 151 (108230800994167), Cond.constantLong RX10 153 (1885432941), Cond.constantLong RX10 155 (418280402802), Cond.constantLong RX10 157 (129138752120178), Cond.fieldLink RX10 35 "ClapBankModel" "told" "[I", Cond.fieldLink RX10 38 "ClapBankModel" "read" "[I", Cond.methodLink RX10 132 yX10_fails, Cond.instanceMethod yX10_fails, Cond.selects RX10 yX10_fails yX10_fails, Cond.code yX10_fails cX10_fails 1 (some .boolean), Cond.fieldLink RX10 123 "ClapBankModel" "wrongAt" "I", Cond.methodLink RX10 159 yX10_full, Cond.instanceMethod yX10_full, Cond.selects RX10 yX10_full yX10_full]
def wsX10_lines_r2 : List Cond := [Cond.code yX10_full cX10_full 4 none, Cond.methodLink RX10 136 yX10_later, Cond.instanceMethod yX10_later, Cond.selects RX10 yX10_later yX10_later, Cond.code yX10_later cX10_later 3 none, Cond.fieldLink RX10 126 "ClapBankModel" "laterFault" "I", Cond.fieldLink RX10 129 "ClapBankModel" "laterPlace" "I", Cond.methodLink RX10 140 yX10_token, Cond.instanceMethod yX10_token, Cond.selects RX10 yX10_token yX10_token, Cond.code yX10_token cX10_token 3 none, Cond.fieldLink RX10 100 "ClapBankModel" "reached" "I", Cond.fieldLink RX10 120 "ClapBankModel" "value" "I", Cond.methodLink RX10 106 yX10_see, Cond.instanceMethod yX10_see, Cond.selects RX10 yX10_see yX10_see, Cond.code yX10_see cX10_see 1 (some .int), Cond.fieldLink RX10 103 "ClapBankModel" "length" "I", Cond.fieldLink RX10 7 "ClapBankModel" "tape" "[B", Cond.methodLink RX10 92 yX10_in, Cond.static yX10_in, Cond.code yX10_in cX10_in 3 (some .boolean), Cond.methodLink RX10 163 yX10_take, Cond.instanceMethod yX10_take]
def wsX10_lines_r3 : List Cond := [Cond.selects RX10 yX10_take yX10_take, Cond.code yX10_take cX10_take 4 (some .boolean), Cond.methodLink RX10 143 yX10_takeBut, Cond.instanceMethod yX10_takeBut, Cond.selects RX10 yX10_takeBut yX10_takeBut, Cond.code yX10_takeBut cX10_takeBut 5 (some .boolean), Cond.methodLink RX10 166 yX10_keep, Cond.instanceMethod yX10_keep, Cond.selects RX10 yX10_keep yX10_keep, Cond.code yX10_keep cX10_keep 7 none, Cond.methodLink RX10 170 yX10_lesser, Cond.static yX10_lesser, Cond.code yX10_lesser cX10_lesser 2 (some .int), Cond.methodLink RX10 202 yX10_bookLine, Cond.instanceMethod yX10_bookLine, Cond.selects RX10 yX10_bookLine yX10_bookLine, Cond.code yX10_bookLine cX10_bookLine 5 (some .boolean), Cond.methodLink RX10 188 yX10_deedBy, Cond.static yX10_deedBy, Cond.code yX10_deedBy cX10_deedBy 2 (some .int), Cond.constantLong RX10 174 (1668047216), Cond.constantLong RX10 176 (1818586724), Cond.constantLong RX10 178 (491328135545), Cond.constantLong RX10 180 (1752527720)]
def wsX10_lines_r4 : List Cond := [Cond.constantLong RX10 182 (495874699885), Cond.constantLong RX10 184 (111524789056101), Cond.constantLong RX10 186 (474214787188), Cond.methodLink RX10 192 yX10_deedNumbers, Cond.instanceMethod yX10_deedNumbers, Cond.selects RX10 yX10_deedNumbers yX10_deedNumbers, Cond.code yX10_deedNumbers cX10_deedNumbers 2 (some .boolean), Cond.methodLink RX10 205 yX10_darkLine, Cond.instanceMethod yX10_darkLine, Cond.selects RX10 yX10_darkLine yX10_darkLine, Cond.code yX10_darkLine cX10_darkLine 4 (some .boolean), Cond.constantLong RX10 196 (448377483876)]
def wsX10_lines : List Cond := .code yX10_lines cX10_lines 6 (some .boolean) :: ((wsX10_lines_r1 ++ (wsX10_lines_r2 ++ (wsX10_lines_r3 ++ wsX10_lines_r4))) ++ wsX100)
def wsX10_readText_r1 : List Cond := [Cond.fieldLink RX10 35 "ClapBankModel" "told" "[I", Cond.fieldLink RX10 100 "ClapBankModel" "reached" "I", Cond.fieldLink RX10 126 "ClapBankModel" "laterFault" "I", Cond.fieldLink RX10 17 "ClapBankModel" "fault" "[I", Cond.fieldLink RX10 20 "ClapBankModel" "faultPlace" "[I", Cond.fieldLink RX10 123 "ClapBankModel" "wrongAt" "I", Cond.fieldLink RX10 129 "ClapBankModel" "laterPlace" "I", Cond.methodLink RX10 140 yX10_token, Cond.instanceMethod yX10_token, Cond.selects RX10 yX10_token yX10_token, Cond.initialized RX10, Cond.code yX10_token cX10_token 3 none, Cond.fieldLink RX10 110 "ClapBankModel" "begins" "I", Cond.fieldLink RX10 113 "ClapBankModel" "word" "J", Cond.fieldLink RX10 117 "ClapBankModel" "sort" "I", Cond.fieldLink RX10 120 "ClapBankModel" "value" "I", Cond.methodLink RX10 106 yX10_see, Cond.instanceMethod yX10_see, Cond.selects RX10 yX10_see yX10_see, Cond.code yX10_see cX10_see 1 (some .int), Cond.fieldLink RX10 103 "ClapBankModel" "length" "I", Cond.fieldLink RX10 7 "ClapBankModel" "tape" "[B", Cond.methodLink RX10 92 yX10_in, Cond.static yX10_in]
def wsX10_readText_r2 : List Cond := [Cond.code yX10_in cX10_in 3 (some .boolean), Cond.methodLink RX10 208 yX10_lines, Cond.instanceMethod yX10_lines, Cond.selects RX10 yX10_lines yX10_lines, Cond.code yX10_lines cX10_lines 6 (some .boolean), Cond.methodLink RX10 198 yX10_theatreLine, Cond.instanceMethod yX10_theatreLine, Cond.selects RX10 yX10_theatreLine yX10_theatreLine, Cond.code yX10_theatreLine cX10_theatreLine 5 (some .boolean), Cond.constantLong RX10 147 (1918989413), Cond.constantLong RX10 149 (426953241460), Cond.constantLong RX10 151 (108230800994167), Cond.constantLong RX10 153 (1885432941), Cond.constantLong RX10 155 (418280402802), Cond.constantLong RX10 157 (129138752120178), Cond.fieldLink RX10 38 "ClapBankModel" "read" "[I", Cond.methodLink RX10 132 yX10_fails, Cond.instanceMethod yX10_fails, Cond.selects RX10 yX10_fails yX10_fails, Cond.code yX10_fails cX10_fails 1 (some .boolean), Cond.methodLink RX10 159 yX10_full, Cond.instanceMethod yX10_full, Cond.selects RX10 yX10_full yX10_full, Cond.code yX10_full cX10_full 4 none]
def wsX10_readText_r3 : List Cond := [Cond.methodLink RX10 136 yX10_later, Cond.instanceMethod yX10_later, Cond.selects RX10 yX10_later yX10_later, Cond.code yX10_later cX10_later 3 none, Cond.methodLink RX10 163 yX10_take, Cond.instanceMethod yX10_take, Cond.selects RX10 yX10_take yX10_take, Cond.code yX10_take cX10_take 4 (some .boolean), Cond.methodLink RX10 143 yX10_takeBut, Cond.instanceMethod yX10_takeBut, Cond.selects RX10 yX10_takeBut yX10_takeBut, Cond.code yX10_takeBut cX10_takeBut 5 (some .boolean), Cond.methodLink RX10 166 yX10_keep, Cond.instanceMethod yX10_keep, Cond.selects RX10 yX10_keep yX10_keep, Cond.code yX10_keep cX10_keep 7 none, Cond.methodLink RX10 170 yX10_lesser, Cond.static yX10_lesser, Cond.code yX10_lesser cX10_lesser 2 (some .int), Cond.methodLink RX10 202 yX10_bookLine, Cond.instanceMethod yX10_bookLine, Cond.selects RX10 yX10_bookLine yX10_bookLine, Cond.code yX10_bookLine cX10_bookLine 5 (some .boolean), Cond.methodLink RX10 188 yX10_deedBy]
def wsX10_readText_r4 : List Cond := [Cond.static yX10_deedBy, Cond.code yX10_deedBy cX10_deedBy 2 (some .int), Cond.constantLong RX10 174 (1668047216), Cond.constantLong RX10 176 (1818586724), Cond.constantLong RX10 178 (491328135545), Cond.constantLong RX10 180 (1752527720), Cond.constantLong RX10 182 (495874699885), Cond.constantLong RX10 184 (111524789056101), Cond.constantLong RX10 186 (474214787188), Cond.methodLink RX10 192 yX10_deedNumbers, Cond.instanceMethod yX10_deedNumbers, Cond.selects RX10 yX10_deedNumbers yX10_deedNumbers, Cond.code yX10_deedNumbers cX10_deedNumbers 2 (some .boolean), Cond.methodLink RX10 205 yX10_darkLine, Cond.instanceMethod yX10_darkLine, Cond.selects RX10 yX10_darkLine yX10_darkLine, Cond.code yX10_darkLine cX10_darkLine 4 (some .boolean), Cond.constantLong RX10 196 (448377483876)]
def wsX10_readText : List Cond := .code yX10_readText cX10_readText 3 (some .boolean) :: ((wsX10_readText_r1 ++ (wsX10_readText_r2 ++ (wsX10_readText_r3 ++ wsX10_readText_r4))) ++ wsX100)
def wsX10_store : List Cond := .code yX10_store cX10_store 5 none :: ([.fieldLink RX10 35 "ClapBankModel" "told" "[I"] ++ wsX100)
def wsX10_text_r1 : List Cond := [Cond.fieldLink RX10 80 "ClapBankModel" "code" "I", Cond.fieldLink RX10 13 "ClapBankModel" "size" "[I", Cond.fieldLink RX10 103 "ClapBankModel" "length" "I", Cond.fieldLink RX10 17 "ClapBankModel" "fault" "[I", Cond.fieldLink RX10 20 "ClapBankModel" "faultPlace" "[I", Cond.fieldLink RX10 23 "ClapBankModel" "many" "[I", Cond.fieldLink RX10 26 "ClapBankModel" "theatres" "[I", Cond.fieldLink RX10 29 "ClapBankModel" "books" "[I", Cond.fieldLink RX10 32 "ClapBankModel" "darks" "[I", Cond.methodLink RX10 92 yX10_in, Cond.static yX10_in, Cond.initialized RX10, Cond.code yX10_in cX10_in 3 (some .boolean), Cond.methodLink RX10 211 yX10_is, Cond.instanceMethod yX10_is, Cond.selects RX10 yX10_is yX10_is, Cond.code yX10_is cX10_is 3 (some .boolean), Cond.methodLink RX10 214 yX10_readText, Cond.instanceMethod yX10_readText, Cond.selects RX10 yX10_readText yX10_readText, Cond.code yX10_readText cX10_readText 3 (some .boolean), Cond.fieldLink RX10 35 "ClapBankModel" "told" "[I", Cond.fieldLink RX10 100 "ClapBankModel" "reached" "I", Cond.fieldLink RX10 126 "ClapBankModel" "laterFault" "I"]
def wsX10_text_r2 : List Cond := [Cond.fieldLink RX10 123 "ClapBankModel" "wrongAt" "I", Cond.fieldLink RX10 129 "ClapBankModel" "laterPlace" "I", Cond.methodLink RX10 140 yX10_token, Cond.instanceMethod yX10_token, Cond.selects RX10 yX10_token yX10_token, Cond.code yX10_token cX10_token 3 none, Cond.fieldLink RX10 110 "ClapBankModel" "begins" "I", Cond.fieldLink RX10 113 "ClapBankModel" "word" "J", Cond.fieldLink RX10 117 "ClapBankModel" "sort" "I", Cond.fieldLink RX10 120 "ClapBankModel" "value" "I", Cond.methodLink RX10 106 yX10_see, Cond.instanceMethod yX10_see, Cond.selects RX10 yX10_see yX10_see, Cond.code yX10_see cX10_see 1 (some .int), Cond.fieldLink RX10 7 "ClapBankModel" "tape" "[B", Cond.methodLink RX10 208 yX10_lines, Cond.instanceMethod yX10_lines, Cond.selects RX10 yX10_lines yX10_lines, Cond.code yX10_lines cX10_lines 6 (some .boolean), Cond.methodLink RX10 198 yX10_theatreLine, Cond.instanceMethod yX10_theatreLine, Cond.selects RX10 yX10_theatreLine yX10_theatreLine, Cond.code yX10_theatreLine cX10_theatreLine 5 (some .boolean), Cond.constantLong RX10 147 (1918989413)]
def wsX10_text_r3 : List Cond := [Cond.constantLong RX10 149 (426953241460), Cond.constantLong RX10 151 (108230800994167), Cond.constantLong RX10 153 (1885432941), Cond.constantLong RX10 155 (418280402802), Cond.constantLong RX10 157 (129138752120178), Cond.fieldLink RX10 38 "ClapBankModel" "read" "[I", Cond.methodLink RX10 132 yX10_fails, Cond.instanceMethod yX10_fails, Cond.selects RX10 yX10_fails yX10_fails, Cond.code yX10_fails cX10_fails 1 (some .boolean), Cond.methodLink RX10 159 yX10_full, Cond.instanceMethod yX10_full, Cond.selects RX10 yX10_full yX10_full, Cond.code yX10_full cX10_full 4 none, Cond.methodLink RX10 136 yX10_later, Cond.instanceMethod yX10_later, Cond.selects RX10 yX10_later yX10_later, Cond.code yX10_later cX10_later 3 none, Cond.methodLink RX10 163 yX10_take, Cond.instanceMethod yX10_take, Cond.selects RX10 yX10_take yX10_take, Cond.code yX10_take cX10_take 4 (some .boolean), Cond.methodLink RX10 143 yX10_takeBut, Cond.instanceMethod yX10_takeBut]
def wsX10_text_r4 : List Cond := [Cond.selects RX10 yX10_takeBut yX10_takeBut, Cond.code yX10_takeBut cX10_takeBut 5 (some .boolean), Cond.methodLink RX10 166 yX10_keep, Cond.instanceMethod yX10_keep, Cond.selects RX10 yX10_keep yX10_keep, Cond.code yX10_keep cX10_keep 7 none, Cond.methodLink RX10 170 yX10_lesser, Cond.static yX10_lesser, Cond.code yX10_lesser cX10_lesser 2 (some .int), Cond.methodLink RX10 202 yX10_bookLine, Cond.instanceMethod yX10_bookLine, Cond.selects RX10 yX10_bookLine yX10_bookLine, Cond.code yX10_bookLine cX10_bookLine 5 (some .boolean), Cond.methodLink RX10 188 yX10_deedBy, Cond.static yX10_deedBy, Cond.code yX10_deedBy cX10_deedBy 2 (some .int), Cond.constantLong RX10 174 (1668047216), Cond.constantLong RX10 176 (1818586724), Cond.constantLong RX10 178 (491328135545), Cond.constantLong RX10 180 (1752527720), Cond.constantLong RX10 182 (495874699885), Cond.constantLong RX10 184 (111524789056101), Cond.constantLong RX10 186 (474214787188), Cond.methodLink RX10 192 yX10_deedNumbers]
def wsX10_text_r5 : List Cond := [Cond.instanceMethod yX10_deedNumbers, Cond.selects RX10 yX10_deedNumbers yX10_deedNumbers, Cond.code yX10_deedNumbers cX10_deedNumbers 2 (some .boolean), Cond.methodLink RX10 205 yX10_darkLine, Cond.instanceMethod yX10_darkLine, Cond.selects RX10 yX10_darkLine yX10_darkLine, Cond.code yX10_darkLine cX10_darkLine 4 (some .boolean), Cond.constantLong RX10 196 (448377483876), Cond.methodLink RX10 217 yX10_store, Cond.instanceMethod yX10_store, Cond.selects RX10 yX10_store yX10_store, Cond.code yX10_store cX10_store 5 none]
def wsX10_text : List Cond := .code yX10_text cX10_text 4 (some .int) :: ((wsX10_text_r1 ++ (wsX10_text_r2 ++ (wsX10_text_r3 ++ (wsX10_text_r4 ++ wsX10_text_r5)))) ++ wsX100)
def wsX10_fault : List Cond := .code yX10_fault cX10_fault 2 (some .int) :: ([.fieldLink RX10 80 "ClapBankModel" "code" "I", .fieldLink RX10 17 "ClapBankModel" "fault" "[I", .fieldLink RX10 20 "ClapBankModel" "faultPlace" "[I"] ++ wsX100)
def wsX10_hand : List Cond := .code yX10_hand cX10_hand 2 (some .boolean) :: ([.fieldLink RX10 221 "ClapBankModel" "theatre" "I", .fieldLink RX10 228 "ClapBankModel" "palms" "I", .fieldLink RX10 231 "ClapBankModel" "actors" "I", .fieldLink RX10 234 "ClapBankModel" "rate" "I", .methodLink RX10 211 yX10_is, .instanceMethod yX10_is, .selects RX10 yX10_is yX10_is, .initialized RX10, .code yX10_is cX10_is 3 (some .boolean), .fieldLink RX10 23 "ClapBankModel" "many" "[I", .methodLink RX10 92 yX10_in, .static yX10_in, .code yX10_in cX10_in 3 (some .boolean), .methodLink RX10 224 yX10_of, .instanceMethod yX10_of, .selects RX10 yX10_of yX10_of, .code yX10_of cX10_of 2 (some .int), .fieldLink RX10 26 "ClapBankModel" "theatres" "[I"] ++ wsX100)
def wsX10_theatre_r1 : List Cond := [Cond.fieldLink RX10 80 "ClapBankModel" "code" "I", Cond.methodLink RX10 237 yX10_hand, Cond.instanceMethod yX10_hand, Cond.selects RX10 yX10_hand yX10_hand, Cond.initialized RX10, Cond.code yX10_hand cX10_hand 2 (some .boolean), Cond.fieldLink RX10 221 "ClapBankModel" "theatre" "I", Cond.fieldLink RX10 228 "ClapBankModel" "palms" "I", Cond.fieldLink RX10 231 "ClapBankModel" "actors" "I", Cond.fieldLink RX10 234 "ClapBankModel" "rate" "I", Cond.methodLink RX10 211 yX10_is, Cond.instanceMethod yX10_is, Cond.selects RX10 yX10_is yX10_is, Cond.code yX10_is cX10_is 3 (some .boolean), Cond.fieldLink RX10 23 "ClapBankModel" "many" "[I", Cond.methodLink RX10 92 yX10_in, Cond.static yX10_in, Cond.code yX10_in cX10_in 3 (some .boolean), Cond.methodLink RX10 224 yX10_of, Cond.instanceMethod yX10_of, Cond.selects RX10 yX10_of yX10_of, Cond.code yX10_of cX10_of 2 (some .int), Cond.fieldLink RX10 26 "ClapBankModel" "theatres" "[I", Cond.methodLink RX10 240 yX10_isPalm]
def wsX10_theatre_r2 : List Cond := [Cond.instanceMethod yX10_isPalm, Cond.selects RX10 yX10_isPalm yX10_isPalm, Cond.code yX10_isPalm cX10_isPalm 2 (some .boolean), Cond.methodLink RX10 243 yX10_isActor, Cond.instanceMethod yX10_isActor, Cond.selects RX10 yX10_isActor yX10_isActor, Cond.code yX10_isActor cX10_isActor 2 (some .boolean)]
def wsX10_theatre : List Cond := .code yX10_theatre cX10_theatre 4 (some .int) :: ((wsX10_theatre_r1 ++ wsX10_theatre_r2) ++ wsX100)
def wsX10_hasBook : List Cond := .code yX10_hasBook cX10_hasBook 2 (some .boolean) :: ([.fieldLink RX10 246 "ClapBankModel" "book" "I", .methodLink RX10 211 yX10_is, .instanceMethod yX10_is, .selects RX10 yX10_is yX10_is, .initialized RX10, .code yX10_is cX10_is 3 (some .boolean), .fieldLink RX10 23 "ClapBankModel" "many" "[I", .methodLink RX10 92 yX10_in, .static yX10_in, .code yX10_in cX10_in 3 (some .boolean)] ++ wsX100)
def wsX10_deed : List Cond := .code yX10_deed cX10_deed 4 (some .int) :: ([.fieldLink RX10 80 "ClapBankModel" "code" "I", .methodLink RX10 249 yX10_hasBook, .instanceMethod yX10_hasBook, .selects RX10 yX10_hasBook yX10_hasBook, .initialized RX10, .code yX10_hasBook cX10_hasBook 2 (some .boolean), .fieldLink RX10 246 "ClapBankModel" "book" "I", .methodLink RX10 211 yX10_is, .instanceMethod yX10_is, .selects RX10 yX10_is yX10_is, .code yX10_is cX10_is 3 (some .boolean), .fieldLink RX10 23 "ClapBankModel" "many" "[I", .methodLink RX10 92 yX10_in, .static yX10_in, .code yX10_in cX10_in 3 (some .boolean), .methodLink RX10 252 yX10_deeds, .instanceMethod yX10_deeds, .selects RX10 yX10_deeds yX10_deeds, .code yX10_deeds cX10_deeds 1 (some .int), .fieldLink RX10 29 "ClapBankModel" "books" "[I", .methodLink RX10 255 yX10_deedOf, .instanceMethod yX10_deedOf, .selects RX10 yX10_deedOf yX10_deedOf, .code yX10_deedOf cX10_deedOf 3 (some .int)] ++ wsX100)
def wsX10_layState_r1 : List Cond := [Cond.methodLink RX10 249 yX10_hasBook, Cond.instanceMethod yX10_hasBook, Cond.selects RX10 yX10_hasBook yX10_hasBook, Cond.initialized RX10, Cond.code yX10_hasBook cX10_hasBook 2 (some .boolean), Cond.fieldLink RX10 246 "ClapBankModel" "book" "I", Cond.methodLink RX10 211 yX10_is, Cond.instanceMethod yX10_is, Cond.selects RX10 yX10_is yX10_is, Cond.code yX10_is cX10_is 3 (some .boolean), Cond.fieldLink RX10 23 "ClapBankModel" "many" "[I", Cond.methodLink RX10 92 yX10_in, Cond.static yX10_in, Cond.code yX10_in cX10_in 3 (some .boolean), Cond.methodLink RX10 237 yX10_hand, Cond.instanceMethod yX10_hand, Cond.selects RX10 yX10_hand yX10_hand, Cond.code yX10_hand cX10_hand 2 (some .boolean), Cond.fieldLink RX10 221 "ClapBankModel" "theatre" "I", Cond.fieldLink RX10 228 "ClapBankModel" "palms" "I", Cond.fieldLink RX10 231 "ClapBankModel" "actors" "I", Cond.fieldLink RX10 234 "ClapBankModel" "rate" "I", Cond.methodLink RX10 224 yX10_of, Cond.instanceMethod yX10_of]
def wsX10_layState_r2 : List Cond := [Cond.selects RX10 yX10_of yX10_of, Cond.code yX10_of cX10_of 2 (some .int), Cond.fieldLink RX10 26 "ClapBankModel" "theatres" "[I", Cond.methodLink RX10 252 yX10_deeds, Cond.instanceMethod yX10_deeds, Cond.selects RX10 yX10_deeds yX10_deeds, Cond.code yX10_deeds cX10_deeds 1 (some .int), Cond.fieldLink RX10 29 "ClapBankModel" "books" "[I", Cond.methodLink RX10 329 yX10_play, Cond.instanceMethod yX10_play, Cond.selects RX10 yX10_play yX10_play, Cond.code yX10_play cX10_play 3 (some .int), Cond.methodLink RX10 323 yX10_begin, Cond.instanceMethod yX10_begin, Cond.selects RX10 yX10_begin yX10_begin, Cond.code yX10_begin cX10_begin 2 none, Cond.fieldLink RX10 258 "ClapBankModel" "chest" "I", Cond.fieldLink RX10 261 "ClapBankModel" "encores" "I", Cond.fieldLink RX10 264 "ClapBankModel" "nights" "I", Cond.fieldLink RX10 267 "ClapBankModel" "lives" "I", Cond.fieldLink RX10 270 "ClapBankModel" "claps" "I", Cond.fieldLink RX10 273 "ClapBankModel" "echoFor" "I", Cond.fieldLink RX10 44 "ClapBankModel" "owes" "[I", Cond.fieldLink RX10 47 "ClapBankModel" "got" "[I"]
def wsX10_layState_r3 : List Cond := [Cond.fieldLink RX10 50 "ClapBankModel" "saved" "[I", Cond.fieldLink RX10 53 "ClapBankModel" "storms" "[I", Cond.fieldLink RX10 56 "ClapBankModel" "starved" "[I", Cond.methodLink RX10 276 yX10_morning, Cond.instanceMethod yX10_morning, Cond.selects RX10 yX10_morning yX10_morning, Cond.code yX10_morning cX10_morning 2 none, Cond.fieldLink RX10 41 "ClapBankModel" "left" "[I", Cond.fieldLink RX10 279 "ClapBankModel" "hushed" "I", Cond.methodLink RX10 326 yX10_doesNext, Cond.instanceMethod yX10_doesNext, Cond.selects RX10 yX10_doesNext yX10_doesNext, Cond.code yX10_doesNext cX10_doesNext 2 (some .boolean), Cond.methodLink RX10 320 yX10_does, Cond.instanceMethod yX10_does, Cond.selects RX10 yX10_does yX10_does, Cond.code yX10_does cX10_does 5 (some .boolean), Cond.methodLink RX10 255 yX10_deedOf, Cond.instanceMethod yX10_deedOf, Cond.selects RX10 yX10_deedOf yX10_deedOf, Cond.code yX10_deedOf cX10_deedOf 3 (some .int), Cond.methodLink RX10 307 yX10_clapsFor, Cond.instanceMethod yX10_clapsFor, Cond.selects RX10 yX10_clapsFor yX10_clapsFor]
def wsX10_layState_r4 : List Cond := [Cond.code yX10_clapsFor cX10_clapsFor 5 (some .boolean), Cond.methodLink RX10 240 yX10_isPalm, Cond.instanceMethod yX10_isPalm, Cond.selects RX10 yX10_isPalm yX10_isPalm, Cond.code yX10_isPalm cX10_isPalm 2 (some .boolean), Cond.methodLink RX10 285 yX10_isLiving, Cond.instanceMethod yX10_isLiving, Cond.selects RX10 yX10_isLiving yX10_isLiving, Cond.code yX10_isLiving cX10_isLiving 2 (some .boolean), Cond.methodLink RX10 243 yX10_isActor, Cond.instanceMethod yX10_isActor, Cond.selects RX10 yX10_isActor yX10_isActor, Cond.code yX10_isActor cX10_isActor 2 (some .boolean), Cond.methodLink RX10 84 yX10_has, Cond.static yX10_has, Cond.code yX10_has cX10_has 2 (some .boolean), Cond.methodLink RX10 288 yX10_handsOf, Cond.instanceMethod yX10_handsOf, Cond.selects RX10 yX10_handsOf yX10_handsOf, Cond.code yX10_handsOf cX10_handsOf 2 (some .int), Cond.methodLink RX10 291 yX10_gets, Cond.instanceMethod yX10_gets, Cond.selects RX10 yX10_gets yX10_gets, Cond.code yX10_gets cX10_gets 3 none]
def wsX10_layState_r5 : List Cond := [Cond.methodLink RX10 310 yX10_gives, Cond.instanceMethod yX10_gives, Cond.selects RX10 yX10_gives yX10_gives, Cond.code yX10_gives cX10_gives 5 (some .boolean), Cond.methodLink RX10 314 yX10_hushes, Cond.instanceMethod yX10_hushes, Cond.selects RX10 yX10_hushes yX10_hushes, Cond.code yX10_hushes cX10_hushes 4 (some .boolean), Cond.methodLink RX10 317 yX10_night, Cond.instanceMethod yX10_night, Cond.selects RX10 yX10_night yX10_night, Cond.code yX10_night cX10_night 2 none, Cond.constantLong RX10 300 (100), Cond.fieldLink RX10 302 "ClapBankModel" "capped" "Z", Cond.constant RX10 306 (1000000), Cond.methodLink RX10 297 yX10_eatsNow, Cond.instanceMethod yX10_eatsNow, Cond.selects RX10 yX10_eatsNow yX10_eatsNow, Cond.code yX10_eatsNow cX10_eatsNow 3 (some .boolean), Cond.methodLink RX10 294 yX10_eats, Cond.instanceMethod yX10_eats, Cond.selects RX10 yX10_eats yX10_eats, Cond.code yX10_eats cX10_eats 3 (some .int), Cond.methodLink RX10 282 yX10_hungerOf]
def wsX10_layState_r6 : List Cond := [Cond.instanceMethod yX10_hungerOf, Cond.selects RX10 yX10_hungerOf yX10_hungerOf, Cond.code yX10_hungerOf cX10_hungerOf 2 (some .int), Cond.methodLink RX10 170 yX10_lesser, Cond.static yX10_lesser, Cond.code yX10_lesser cX10_lesser 2 (some .int)]
def wsX10_layState : List Cond := .code yX10_layState cX10_layState 4 (some .boolean) :: ((wsX10_layState_r1 ++ (wsX10_layState_r2 ++ (wsX10_layState_r3 ++ (wsX10_layState_r4 ++ (wsX10_layState_r5 ++ wsX10_layState_r6))))) ++ wsX100)
def wsX10_stop_r1 : List Cond := [Cond.fieldLink RX10 80 "ClapBankModel" "code" "I", Cond.methodLink RX10 249 yX10_hasBook, Cond.instanceMethod yX10_hasBook, Cond.selects RX10 yX10_hasBook yX10_hasBook, Cond.initialized RX10, Cond.code yX10_hasBook cX10_hasBook 2 (some .boolean), Cond.fieldLink RX10 246 "ClapBankModel" "book" "I", Cond.methodLink RX10 211 yX10_is, Cond.instanceMethod yX10_is, Cond.selects RX10 yX10_is yX10_is, Cond.code yX10_is cX10_is 3 (some .boolean), Cond.fieldLink RX10 23 "ClapBankModel" "many" "[I", Cond.methodLink RX10 92 yX10_in, Cond.static yX10_in, Cond.code yX10_in cX10_in 3 (some .boolean), Cond.methodLink RX10 237 yX10_hand, Cond.instanceMethod yX10_hand, Cond.selects RX10 yX10_hand yX10_hand, Cond.code yX10_hand cX10_hand 2 (some .boolean), Cond.fieldLink RX10 221 "ClapBankModel" "theatre" "I", Cond.fieldLink RX10 228 "ClapBankModel" "palms" "I", Cond.fieldLink RX10 231 "ClapBankModel" "actors" "I", Cond.fieldLink RX10 234 "ClapBankModel" "rate" "I", Cond.methodLink RX10 224 yX10_of]
def wsX10_stop_r2 : List Cond := [Cond.instanceMethod yX10_of, Cond.selects RX10 yX10_of yX10_of, Cond.code yX10_of cX10_of 2 (some .int), Cond.fieldLink RX10 26 "ClapBankModel" "theatres" "[I", Cond.methodLink RX10 252 yX10_deeds, Cond.instanceMethod yX10_deeds, Cond.selects RX10 yX10_deeds yX10_deeds, Cond.code yX10_deeds cX10_deeds 1 (some .int), Cond.fieldLink RX10 29 "ClapBankModel" "books" "[I", Cond.methodLink RX10 329 yX10_play, Cond.instanceMethod yX10_play, Cond.selects RX10 yX10_play yX10_play, Cond.code yX10_play cX10_play 3 (some .int), Cond.methodLink RX10 323 yX10_begin, Cond.instanceMethod yX10_begin, Cond.selects RX10 yX10_begin yX10_begin, Cond.code yX10_begin cX10_begin 2 none, Cond.fieldLink RX10 258 "ClapBankModel" "chest" "I", Cond.fieldLink RX10 261 "ClapBankModel" "encores" "I", Cond.fieldLink RX10 264 "ClapBankModel" "nights" "I", Cond.fieldLink RX10 267 "ClapBankModel" "lives" "I", Cond.fieldLink RX10 270 "ClapBankModel" "claps" "I", Cond.fieldLink RX10 273 "ClapBankModel" "echoFor" "I", Cond.fieldLink RX10 44 "ClapBankModel" "owes" "[I"]
def wsX10_stop_r3 : List Cond := [Cond.fieldLink RX10 47 "ClapBankModel" "got" "[I", Cond.fieldLink RX10 50 "ClapBankModel" "saved" "[I", Cond.fieldLink RX10 53 "ClapBankModel" "storms" "[I", Cond.fieldLink RX10 56 "ClapBankModel" "starved" "[I", Cond.methodLink RX10 276 yX10_morning, Cond.instanceMethod yX10_morning, Cond.selects RX10 yX10_morning yX10_morning, Cond.code yX10_morning cX10_morning 2 none, Cond.fieldLink RX10 41 "ClapBankModel" "left" "[I", Cond.fieldLink RX10 279 "ClapBankModel" "hushed" "I", Cond.methodLink RX10 326 yX10_doesNext, Cond.instanceMethod yX10_doesNext, Cond.selects RX10 yX10_doesNext yX10_doesNext, Cond.code yX10_doesNext cX10_doesNext 2 (some .boolean), Cond.methodLink RX10 320 yX10_does, Cond.instanceMethod yX10_does, Cond.selects RX10 yX10_does yX10_does, Cond.code yX10_does cX10_does 5 (some .boolean), Cond.methodLink RX10 255 yX10_deedOf, Cond.instanceMethod yX10_deedOf, Cond.selects RX10 yX10_deedOf yX10_deedOf, Cond.code yX10_deedOf cX10_deedOf 3 (some .int), Cond.methodLink RX10 307 yX10_clapsFor, Cond.instanceMethod yX10_clapsFor]
def wsX10_stop_r4 : List Cond := [Cond.selects RX10 yX10_clapsFor yX10_clapsFor, Cond.code yX10_clapsFor cX10_clapsFor 5 (some .boolean), Cond.methodLink RX10 240 yX10_isPalm, Cond.instanceMethod yX10_isPalm, Cond.selects RX10 yX10_isPalm yX10_isPalm, Cond.code yX10_isPalm cX10_isPalm 2 (some .boolean), Cond.methodLink RX10 285 yX10_isLiving, Cond.instanceMethod yX10_isLiving, Cond.selects RX10 yX10_isLiving yX10_isLiving, Cond.code yX10_isLiving cX10_isLiving 2 (some .boolean), Cond.methodLink RX10 243 yX10_isActor, Cond.instanceMethod yX10_isActor, Cond.selects RX10 yX10_isActor yX10_isActor, Cond.code yX10_isActor cX10_isActor 2 (some .boolean), Cond.methodLink RX10 84 yX10_has, Cond.static yX10_has, Cond.code yX10_has cX10_has 2 (some .boolean), Cond.methodLink RX10 288 yX10_handsOf, Cond.instanceMethod yX10_handsOf, Cond.selects RX10 yX10_handsOf yX10_handsOf, Cond.code yX10_handsOf cX10_handsOf 2 (some .int), Cond.methodLink RX10 291 yX10_gets, Cond.instanceMethod yX10_gets, Cond.selects RX10 yX10_gets yX10_gets]
def wsX10_stop_r5 : List Cond := [Cond.code yX10_gets cX10_gets 3 none, Cond.methodLink RX10 310 yX10_gives, Cond.instanceMethod yX10_gives, Cond.selects RX10 yX10_gives yX10_gives, Cond.code yX10_gives cX10_gives 5 (some .boolean), Cond.methodLink RX10 314 yX10_hushes, Cond.instanceMethod yX10_hushes, Cond.selects RX10 yX10_hushes yX10_hushes, Cond.code yX10_hushes cX10_hushes 4 (some .boolean), Cond.methodLink RX10 317 yX10_night, Cond.instanceMethod yX10_night, Cond.selects RX10 yX10_night yX10_night, Cond.code yX10_night cX10_night 2 none, Cond.constantLong RX10 300 (100), Cond.fieldLink RX10 302 "ClapBankModel" "capped" "Z", Cond.constant RX10 306 (1000000), Cond.methodLink RX10 297 yX10_eatsNow, Cond.instanceMethod yX10_eatsNow, Cond.selects RX10 yX10_eatsNow yX10_eatsNow, Cond.code yX10_eatsNow cX10_eatsNow 3 (some .boolean), Cond.methodLink RX10 294 yX10_eats, Cond.instanceMethod yX10_eats, Cond.selects RX10 yX10_eats yX10_eats, Cond.code yX10_eats cX10_eats 3 (some .int)]
def wsX10_stop_r6 : List Cond := [Cond.methodLink RX10 282 yX10_hungerOf, Cond.instanceMethod yX10_hungerOf, Cond.selects RX10 yX10_hungerOf yX10_hungerOf, Cond.code yX10_hungerOf cX10_hungerOf 2 (some .int), Cond.methodLink RX10 170 yX10_lesser, Cond.static yX10_lesser, Cond.code yX10_lesser cX10_lesser 2 (some .int)]
def wsX10_stop : List Cond := .code yX10_stop cX10_stop 3 (some .int) :: ((wsX10_stop_r1 ++ (wsX10_stop_r2 ++ (wsX10_stop_r3 ++ (wsX10_stop_r4 ++ (wsX10_stop_r5 ++ wsX10_stop_r6))))) ++ wsX100)
def wsX10_state_r1 : List Cond := [Cond.fieldLink RX10 80 "ClapBankModel" "code" "I", Cond.fieldLink RX10 258 "ClapBankModel" "chest" "I", Cond.fieldLink RX10 261 "ClapBankModel" "encores" "I", Cond.fieldLink RX10 264 "ClapBankModel" "nights" "I", Cond.fieldLink RX10 267 "ClapBankModel" "lives" "I", Cond.fieldLink RX10 279 "ClapBankModel" "hushed" "I", Cond.fieldLink RX10 270 "ClapBankModel" "claps" "I", Cond.methodLink RX10 332 yX10_layState, Cond.instanceMethod yX10_layState, Cond.selects RX10 yX10_layState yX10_layState, Cond.initialized RX10, Cond.code yX10_layState cX10_layState 4 (some .boolean), Cond.methodLink RX10 249 yX10_hasBook, Cond.instanceMethod yX10_hasBook, Cond.selects RX10 yX10_hasBook yX10_hasBook, Cond.code yX10_hasBook cX10_hasBook 2 (some .boolean), Cond.fieldLink RX10 246 "ClapBankModel" "book" "I", Cond.methodLink RX10 211 yX10_is, Cond.instanceMethod yX10_is, Cond.selects RX10 yX10_is yX10_is, Cond.code yX10_is cX10_is 3 (some .boolean), Cond.fieldLink RX10 23 "ClapBankModel" "many" "[I", Cond.methodLink RX10 92 yX10_in, Cond.static yX10_in]
def wsX10_state_r2 : List Cond := [Cond.code yX10_in cX10_in 3 (some .boolean), Cond.methodLink RX10 237 yX10_hand, Cond.instanceMethod yX10_hand, Cond.selects RX10 yX10_hand yX10_hand, Cond.code yX10_hand cX10_hand 2 (some .boolean), Cond.fieldLink RX10 221 "ClapBankModel" "theatre" "I", Cond.fieldLink RX10 228 "ClapBankModel" "palms" "I", Cond.fieldLink RX10 231 "ClapBankModel" "actors" "I", Cond.fieldLink RX10 234 "ClapBankModel" "rate" "I", Cond.methodLink RX10 224 yX10_of, Cond.instanceMethod yX10_of, Cond.selects RX10 yX10_of yX10_of, Cond.code yX10_of cX10_of 2 (some .int), Cond.fieldLink RX10 26 "ClapBankModel" "theatres" "[I", Cond.methodLink RX10 252 yX10_deeds, Cond.instanceMethod yX10_deeds, Cond.selects RX10 yX10_deeds yX10_deeds, Cond.code yX10_deeds cX10_deeds 1 (some .int), Cond.fieldLink RX10 29 "ClapBankModel" "books" "[I", Cond.methodLink RX10 329 yX10_play, Cond.instanceMethod yX10_play, Cond.selects RX10 yX10_play yX10_play, Cond.code yX10_play cX10_play 3 (some .int), Cond.methodLink RX10 323 yX10_begin]
def wsX10_state_r3 : List Cond := [Cond.instanceMethod yX10_begin, Cond.selects RX10 yX10_begin yX10_begin, Cond.code yX10_begin cX10_begin 2 none, Cond.fieldLink RX10 273 "ClapBankModel" "echoFor" "I", Cond.fieldLink RX10 44 "ClapBankModel" "owes" "[I", Cond.fieldLink RX10 47 "ClapBankModel" "got" "[I", Cond.fieldLink RX10 50 "ClapBankModel" "saved" "[I", Cond.fieldLink RX10 53 "ClapBankModel" "storms" "[I", Cond.fieldLink RX10 56 "ClapBankModel" "starved" "[I", Cond.methodLink RX10 276 yX10_morning, Cond.instanceMethod yX10_morning, Cond.selects RX10 yX10_morning yX10_morning, Cond.code yX10_morning cX10_morning 2 none, Cond.fieldLink RX10 41 "ClapBankModel" "left" "[I", Cond.methodLink RX10 326 yX10_doesNext, Cond.instanceMethod yX10_doesNext, Cond.selects RX10 yX10_doesNext yX10_doesNext, Cond.code yX10_doesNext cX10_doesNext 2 (some .boolean), Cond.methodLink RX10 320 yX10_does, Cond.instanceMethod yX10_does, Cond.selects RX10 yX10_does yX10_does, Cond.code yX10_does cX10_does 5 (some .boolean), Cond.methodLink RX10 255 yX10_deedOf, Cond.instanceMethod yX10_deedOf]
def wsX10_state_r4 : List Cond := [Cond.selects RX10 yX10_deedOf yX10_deedOf, Cond.code yX10_deedOf cX10_deedOf 3 (some .int), Cond.methodLink RX10 307 yX10_clapsFor, Cond.instanceMethod yX10_clapsFor, Cond.selects RX10 yX10_clapsFor yX10_clapsFor, Cond.code yX10_clapsFor cX10_clapsFor 5 (some .boolean), Cond.methodLink RX10 240 yX10_isPalm, Cond.instanceMethod yX10_isPalm, Cond.selects RX10 yX10_isPalm yX10_isPalm, Cond.code yX10_isPalm cX10_isPalm 2 (some .boolean), Cond.methodLink RX10 285 yX10_isLiving, Cond.instanceMethod yX10_isLiving, Cond.selects RX10 yX10_isLiving yX10_isLiving, Cond.code yX10_isLiving cX10_isLiving 2 (some .boolean), Cond.methodLink RX10 243 yX10_isActor, Cond.instanceMethod yX10_isActor, Cond.selects RX10 yX10_isActor yX10_isActor, Cond.code yX10_isActor cX10_isActor 2 (some .boolean), Cond.methodLink RX10 84 yX10_has, Cond.static yX10_has, Cond.code yX10_has cX10_has 2 (some .boolean), Cond.methodLink RX10 288 yX10_handsOf, Cond.instanceMethod yX10_handsOf, Cond.selects RX10 yX10_handsOf yX10_handsOf]
def wsX10_state_r5 : List Cond := [Cond.code yX10_handsOf cX10_handsOf 2 (some .int), Cond.methodLink RX10 291 yX10_gets, Cond.instanceMethod yX10_gets, Cond.selects RX10 yX10_gets yX10_gets, Cond.code yX10_gets cX10_gets 3 none, Cond.methodLink RX10 310 yX10_gives, Cond.instanceMethod yX10_gives, Cond.selects RX10 yX10_gives yX10_gives, Cond.code yX10_gives cX10_gives 5 (some .boolean), Cond.methodLink RX10 314 yX10_hushes, Cond.instanceMethod yX10_hushes, Cond.selects RX10 yX10_hushes yX10_hushes, Cond.code yX10_hushes cX10_hushes 4 (some .boolean), Cond.methodLink RX10 317 yX10_night, Cond.instanceMethod yX10_night, Cond.selects RX10 yX10_night yX10_night, Cond.code yX10_night cX10_night 2 none, Cond.constantLong RX10 300 (100), Cond.fieldLink RX10 302 "ClapBankModel" "capped" "Z", Cond.constant RX10 306 (1000000), Cond.methodLink RX10 297 yX10_eatsNow, Cond.instanceMethod yX10_eatsNow, Cond.selects RX10 yX10_eatsNow yX10_eatsNow, Cond.code yX10_eatsNow cX10_eatsNow 3 (some .boolean)]
def wsX10_state_r6 : List Cond := [Cond.methodLink RX10 294 yX10_eats, Cond.instanceMethod yX10_eats, Cond.selects RX10 yX10_eats yX10_eats, Cond.code yX10_eats cX10_eats 3 (some .int), Cond.methodLink RX10 282 yX10_hungerOf, Cond.instanceMethod yX10_hungerOf, Cond.selects RX10 yX10_hungerOf yX10_hungerOf, Cond.code yX10_hungerOf cX10_hungerOf 2 (some .int), Cond.methodLink RX10 170 yX10_lesser, Cond.static yX10_lesser, Cond.code yX10_lesser cX10_lesser 2 (some .int), Cond.methodLink RX10 335 yX10_allSaved, Cond.instanceMethod yX10_allSaved, Cond.selects RX10 yX10_allSaved yX10_allSaved, Cond.code yX10_allSaved cX10_allSaved 3 (some .int)]
def wsX10_state : List Cond := .code yX10_state cX10_state 5 (some .int) :: ((wsX10_state_r1 ++ (wsX10_state_r2 ++ (wsX10_state_r3 ++ (wsX10_state_r4 ++ (wsX10_state_r5 ++ wsX10_state_r6))))) ++ wsX100)
def wsX10_palm_r1 : List Cond := [Cond.fieldLink RX10 80 "ClapBankModel" "code" "I", Cond.fieldLink RX10 228 "ClapBankModel" "palms" "I", Cond.fieldLink RX10 44 "ClapBankModel" "owes" "[I", Cond.fieldLink RX10 41 "ClapBankModel" "left" "[I", Cond.fieldLink RX10 231 "ClapBankModel" "actors" "I", Cond.fieldLink RX10 47 "ClapBankModel" "got" "[I", Cond.methodLink RX10 332 yX10_layState, Cond.instanceMethod yX10_layState, Cond.selects RX10 yX10_layState yX10_layState, Cond.initialized RX10, Cond.code yX10_layState cX10_layState 4 (some .boolean), Cond.methodLink RX10 249 yX10_hasBook, Cond.instanceMethod yX10_hasBook, Cond.selects RX10 yX10_hasBook yX10_hasBook, Cond.code yX10_hasBook cX10_hasBook 2 (some .boolean), Cond.fieldLink RX10 246 "ClapBankModel" "book" "I", Cond.methodLink RX10 211 yX10_is, Cond.instanceMethod yX10_is, Cond.selects RX10 yX10_is yX10_is, Cond.code yX10_is cX10_is 3 (some .boolean), Cond.fieldLink RX10 23 "ClapBankModel" "many" "[I", Cond.methodLink RX10 92 yX10_in, Cond.static yX10_in, Cond.code yX10_in cX10_in 3 (some .boolean)]
def wsX10_palm_r2 : List Cond := [Cond.methodLink RX10 237 yX10_hand, Cond.instanceMethod yX10_hand, Cond.selects RX10 yX10_hand yX10_hand, Cond.code yX10_hand cX10_hand 2 (some .boolean), Cond.fieldLink RX10 221 "ClapBankModel" "theatre" "I", Cond.fieldLink RX10 234 "ClapBankModel" "rate" "I", Cond.methodLink RX10 224 yX10_of, Cond.instanceMethod yX10_of, Cond.selects RX10 yX10_of yX10_of, Cond.code yX10_of cX10_of 2 (some .int), Cond.fieldLink RX10 26 "ClapBankModel" "theatres" "[I", Cond.methodLink RX10 252 yX10_deeds, Cond.instanceMethod yX10_deeds, Cond.selects RX10 yX10_deeds yX10_deeds, Cond.code yX10_deeds cX10_deeds 1 (some .int), Cond.fieldLink RX10 29 "ClapBankModel" "books" "[I", Cond.methodLink RX10 329 yX10_play, Cond.instanceMethod yX10_play, Cond.selects RX10 yX10_play yX10_play, Cond.code yX10_play cX10_play 3 (some .int), Cond.methodLink RX10 323 yX10_begin, Cond.instanceMethod yX10_begin, Cond.selects RX10 yX10_begin yX10_begin, Cond.code yX10_begin cX10_begin 2 none]
def wsX10_palm_r3 : List Cond := [Cond.fieldLink RX10 258 "ClapBankModel" "chest" "I", Cond.fieldLink RX10 261 "ClapBankModel" "encores" "I", Cond.fieldLink RX10 264 "ClapBankModel" "nights" "I", Cond.fieldLink RX10 267 "ClapBankModel" "lives" "I", Cond.fieldLink RX10 270 "ClapBankModel" "claps" "I", Cond.fieldLink RX10 273 "ClapBankModel" "echoFor" "I", Cond.fieldLink RX10 50 "ClapBankModel" "saved" "[I", Cond.fieldLink RX10 53 "ClapBankModel" "storms" "[I", Cond.fieldLink RX10 56 "ClapBankModel" "starved" "[I", Cond.methodLink RX10 276 yX10_morning, Cond.instanceMethod yX10_morning, Cond.selects RX10 yX10_morning yX10_morning, Cond.code yX10_morning cX10_morning 2 none, Cond.fieldLink RX10 279 "ClapBankModel" "hushed" "I", Cond.methodLink RX10 326 yX10_doesNext, Cond.instanceMethod yX10_doesNext, Cond.selects RX10 yX10_doesNext yX10_doesNext, Cond.code yX10_doesNext cX10_doesNext 2 (some .boolean), Cond.methodLink RX10 320 yX10_does, Cond.instanceMethod yX10_does, Cond.selects RX10 yX10_does yX10_does, Cond.code yX10_does cX10_does 5 (some .boolean), Cond.methodLink RX10 255 yX10_deedOf, Cond.instanceMethod yX10_deedOf]
def wsX10_palm_r4 : List Cond := [Cond.selects RX10 yX10_deedOf yX10_deedOf, Cond.code yX10_deedOf cX10_deedOf 3 (some .int), Cond.methodLink RX10 307 yX10_clapsFor, Cond.instanceMethod yX10_clapsFor, Cond.selects RX10 yX10_clapsFor yX10_clapsFor, Cond.code yX10_clapsFor cX10_clapsFor 5 (some .boolean), Cond.methodLink RX10 240 yX10_isPalm, Cond.instanceMethod yX10_isPalm, Cond.selects RX10 yX10_isPalm yX10_isPalm, Cond.code yX10_isPalm cX10_isPalm 2 (some .boolean), Cond.methodLink RX10 285 yX10_isLiving, Cond.instanceMethod yX10_isLiving, Cond.selects RX10 yX10_isLiving yX10_isLiving, Cond.code yX10_isLiving cX10_isLiving 2 (some .boolean), Cond.methodLink RX10 243 yX10_isActor, Cond.instanceMethod yX10_isActor, Cond.selects RX10 yX10_isActor yX10_isActor, Cond.code yX10_isActor cX10_isActor 2 (some .boolean), Cond.methodLink RX10 84 yX10_has, Cond.static yX10_has, Cond.code yX10_has cX10_has 2 (some .boolean), Cond.methodLink RX10 288 yX10_handsOf, Cond.instanceMethod yX10_handsOf, Cond.selects RX10 yX10_handsOf yX10_handsOf]
def wsX10_palm_r5 : List Cond := [Cond.code yX10_handsOf cX10_handsOf 2 (some .int), Cond.methodLink RX10 291 yX10_gets, Cond.instanceMethod yX10_gets, Cond.selects RX10 yX10_gets yX10_gets, Cond.code yX10_gets cX10_gets 3 none, Cond.methodLink RX10 310 yX10_gives, Cond.instanceMethod yX10_gives, Cond.selects RX10 yX10_gives yX10_gives, Cond.code yX10_gives cX10_gives 5 (some .boolean), Cond.methodLink RX10 314 yX10_hushes, Cond.instanceMethod yX10_hushes, Cond.selects RX10 yX10_hushes yX10_hushes, Cond.code yX10_hushes cX10_hushes 4 (some .boolean), Cond.methodLink RX10 317 yX10_night, Cond.instanceMethod yX10_night, Cond.selects RX10 yX10_night yX10_night, Cond.code yX10_night cX10_night 2 none, Cond.constantLong RX10 300 (100), Cond.fieldLink RX10 302 "ClapBankModel" "capped" "Z", Cond.constant RX10 306 (1000000), Cond.methodLink RX10 297 yX10_eatsNow, Cond.instanceMethod yX10_eatsNow, Cond.selects RX10 yX10_eatsNow yX10_eatsNow, Cond.code yX10_eatsNow cX10_eatsNow 3 (some .boolean)]
def wsX10_palm_r6 : List Cond := [Cond.methodLink RX10 294 yX10_eats, Cond.instanceMethod yX10_eats, Cond.selects RX10 yX10_eats yX10_eats, Cond.code yX10_eats cX10_eats 3 (some .int), Cond.methodLink RX10 282 yX10_hungerOf, Cond.instanceMethod yX10_hungerOf, Cond.selects RX10 yX10_hungerOf yX10_hungerOf, Cond.code yX10_hungerOf cX10_hungerOf 2 (some .int), Cond.methodLink RX10 170 yX10_lesser, Cond.static yX10_lesser, Cond.code yX10_lesser cX10_lesser 2 (some .int)]
def wsX10_palm : List Cond := .code yX10_palm cX10_palm 6 (some .int) :: ((wsX10_palm_r1 ++ (wsX10_palm_r2 ++ (wsX10_palm_r3 ++ (wsX10_palm_r4 ++ (wsX10_palm_r5 ++ wsX10_palm_r6))))) ++ wsX100)
def wsX10_actor_r1 : List Cond := [Cond.fieldLink RX10 80 "ClapBankModel" "code" "I", Cond.fieldLink RX10 267 "ClapBankModel" "lives" "I", Cond.fieldLink RX10 50 "ClapBankModel" "saved" "[I", Cond.fieldLink RX10 56 "ClapBankModel" "starved" "[I", Cond.fieldLink RX10 53 "ClapBankModel" "storms" "[I", Cond.methodLink RX10 332 yX10_layState, Cond.instanceMethod yX10_layState, Cond.selects RX10 yX10_layState yX10_layState, Cond.initialized RX10, Cond.code yX10_layState cX10_layState 4 (some .boolean), Cond.methodLink RX10 249 yX10_hasBook, Cond.instanceMethod yX10_hasBook, Cond.selects RX10 yX10_hasBook yX10_hasBook, Cond.code yX10_hasBook cX10_hasBook 2 (some .boolean), Cond.fieldLink RX10 246 "ClapBankModel" "book" "I", Cond.methodLink RX10 211 yX10_is, Cond.instanceMethod yX10_is, Cond.selects RX10 yX10_is yX10_is, Cond.code yX10_is cX10_is 3 (some .boolean), Cond.fieldLink RX10 23 "ClapBankModel" "many" "[I", Cond.methodLink RX10 92 yX10_in, Cond.static yX10_in, Cond.code yX10_in cX10_in 3 (some .boolean), Cond.methodLink RX10 237 yX10_hand]
def wsX10_actor_r2 : List Cond := [Cond.instanceMethod yX10_hand, Cond.selects RX10 yX10_hand yX10_hand, Cond.code yX10_hand cX10_hand 2 (some .boolean), Cond.fieldLink RX10 221 "ClapBankModel" "theatre" "I", Cond.fieldLink RX10 228 "ClapBankModel" "palms" "I", Cond.fieldLink RX10 231 "ClapBankModel" "actors" "I", Cond.fieldLink RX10 234 "ClapBankModel" "rate" "I", Cond.methodLink RX10 224 yX10_of, Cond.instanceMethod yX10_of, Cond.selects RX10 yX10_of yX10_of, Cond.code yX10_of cX10_of 2 (some .int), Cond.fieldLink RX10 26 "ClapBankModel" "theatres" "[I", Cond.methodLink RX10 252 yX10_deeds, Cond.instanceMethod yX10_deeds, Cond.selects RX10 yX10_deeds yX10_deeds, Cond.code yX10_deeds cX10_deeds 1 (some .int), Cond.fieldLink RX10 29 "ClapBankModel" "books" "[I", Cond.methodLink RX10 329 yX10_play, Cond.instanceMethod yX10_play, Cond.selects RX10 yX10_play yX10_play, Cond.code yX10_play cX10_play 3 (some .int), Cond.methodLink RX10 323 yX10_begin, Cond.instanceMethod yX10_begin, Cond.selects RX10 yX10_begin yX10_begin]
def wsX10_actor_r3 : List Cond := [Cond.code yX10_begin cX10_begin 2 none, Cond.fieldLink RX10 258 "ClapBankModel" "chest" "I", Cond.fieldLink RX10 261 "ClapBankModel" "encores" "I", Cond.fieldLink RX10 264 "ClapBankModel" "nights" "I", Cond.fieldLink RX10 270 "ClapBankModel" "claps" "I", Cond.fieldLink RX10 273 "ClapBankModel" "echoFor" "I", Cond.fieldLink RX10 44 "ClapBankModel" "owes" "[I", Cond.fieldLink RX10 47 "ClapBankModel" "got" "[I", Cond.methodLink RX10 276 yX10_morning, Cond.instanceMethod yX10_morning, Cond.selects RX10 yX10_morning yX10_morning, Cond.code yX10_morning cX10_morning 2 none, Cond.fieldLink RX10 41 "ClapBankModel" "left" "[I", Cond.fieldLink RX10 279 "ClapBankModel" "hushed" "I", Cond.methodLink RX10 326 yX10_doesNext, Cond.instanceMethod yX10_doesNext, Cond.selects RX10 yX10_doesNext yX10_doesNext, Cond.code yX10_doesNext cX10_doesNext 2 (some .boolean), Cond.methodLink RX10 320 yX10_does, Cond.instanceMethod yX10_does, Cond.selects RX10 yX10_does yX10_does, Cond.code yX10_does cX10_does 5 (some .boolean), Cond.methodLink RX10 255 yX10_deedOf, Cond.instanceMethod yX10_deedOf]
def wsX10_actor_r4 : List Cond := [Cond.selects RX10 yX10_deedOf yX10_deedOf, Cond.code yX10_deedOf cX10_deedOf 3 (some .int), Cond.methodLink RX10 307 yX10_clapsFor, Cond.instanceMethod yX10_clapsFor, Cond.selects RX10 yX10_clapsFor yX10_clapsFor, Cond.code yX10_clapsFor cX10_clapsFor 5 (some .boolean), Cond.methodLink RX10 240 yX10_isPalm, Cond.instanceMethod yX10_isPalm, Cond.selects RX10 yX10_isPalm yX10_isPalm, Cond.code yX10_isPalm cX10_isPalm 2 (some .boolean), Cond.methodLink RX10 285 yX10_isLiving, Cond.instanceMethod yX10_isLiving, Cond.selects RX10 yX10_isLiving yX10_isLiving, Cond.code yX10_isLiving cX10_isLiving 2 (some .boolean), Cond.methodLink RX10 243 yX10_isActor, Cond.instanceMethod yX10_isActor, Cond.selects RX10 yX10_isActor yX10_isActor, Cond.code yX10_isActor cX10_isActor 2 (some .boolean), Cond.methodLink RX10 84 yX10_has, Cond.static yX10_has, Cond.code yX10_has cX10_has 2 (some .boolean), Cond.methodLink RX10 288 yX10_handsOf, Cond.instanceMethod yX10_handsOf, Cond.selects RX10 yX10_handsOf yX10_handsOf]
def wsX10_actor_r5 : List Cond := [Cond.code yX10_handsOf cX10_handsOf 2 (some .int), Cond.methodLink RX10 291 yX10_gets, Cond.instanceMethod yX10_gets, Cond.selects RX10 yX10_gets yX10_gets, Cond.code yX10_gets cX10_gets 3 none, Cond.methodLink RX10 310 yX10_gives, Cond.instanceMethod yX10_gives, Cond.selects RX10 yX10_gives yX10_gives, Cond.code yX10_gives cX10_gives 5 (some .boolean), Cond.methodLink RX10 314 yX10_hushes, Cond.instanceMethod yX10_hushes, Cond.selects RX10 yX10_hushes yX10_hushes, Cond.code yX10_hushes cX10_hushes 4 (some .boolean), Cond.methodLink RX10 317 yX10_night, Cond.instanceMethod yX10_night, Cond.selects RX10 yX10_night yX10_night, Cond.code yX10_night cX10_night 2 none, Cond.constantLong RX10 300 (100), Cond.fieldLink RX10 302 "ClapBankModel" "capped" "Z", Cond.constant RX10 306 (1000000), Cond.methodLink RX10 297 yX10_eatsNow, Cond.instanceMethod yX10_eatsNow, Cond.selects RX10 yX10_eatsNow yX10_eatsNow, Cond.code yX10_eatsNow cX10_eatsNow 3 (some .boolean)]
def wsX10_actor_r6 : List Cond := [Cond.methodLink RX10 294 yX10_eats, Cond.instanceMethod yX10_eats, Cond.selects RX10 yX10_eats yX10_eats, Cond.code yX10_eats cX10_eats 3 (some .int), Cond.methodLink RX10 282 yX10_hungerOf, Cond.instanceMethod yX10_hungerOf, Cond.selects RX10 yX10_hungerOf yX10_hungerOf, Cond.code yX10_hungerOf cX10_hungerOf 2 (some .int), Cond.methodLink RX10 170 yX10_lesser, Cond.static yX10_lesser, Cond.code yX10_lesser cX10_lesser 2 (some .int), Cond.methodLink RX10 341 yX10_needOf, Cond.instanceMethod yX10_needOf, Cond.selects RX10 yX10_needOf yX10_needOf, Cond.code yX10_needOf cX10_needOf 2 (some .int), Cond.methodLink RX10 338 yX10_greater, Cond.static yX10_greater, Cond.code yX10_greater cX10_greater 2 (some .int), Cond.methodLink RX10 344 yX10_friday, Cond.instanceMethod yX10_friday, Cond.selects RX10 yX10_friday yX10_friday, Cond.code yX10_friday cX10_friday 3 (some .int), Cond.methodLink RX10 347 yX10_star, Cond.instanceMethod yX10_star]
def wsX10_actor_r7 : List Cond := [Cond.selects RX10 yX10_star yX10_star, Cond.code yX10_star cX10_star 5 (some .int)]
def wsX10_actor : List Cond := .code yX10_actor cX10_actor 7 (some .int) :: ((wsX10_actor_r1 ++ (wsX10_actor_r2 ++ (wsX10_actor_r3 ++ (wsX10_actor_r4 ++ (wsX10_actor_r5 ++ (wsX10_actor_r6 ++ wsX10_actor_r7)))))) ++ wsX100)
def wsX10_run_r1 : List Cond := [Cond.fieldLink RX10 80 "ClapBankModel" "code" "I", Cond.fieldLink RX10 231 "ClapBankModel" "actors" "I", Cond.fieldLink RX10 267 "ClapBankModel" "lives" "I", Cond.methodLink RX10 332 yX10_layState, Cond.instanceMethod yX10_layState, Cond.selects RX10 yX10_layState yX10_layState, Cond.initialized RX10, Cond.code yX10_layState cX10_layState 4 (some .boolean), Cond.methodLink RX10 249 yX10_hasBook, Cond.instanceMethod yX10_hasBook, Cond.selects RX10 yX10_hasBook yX10_hasBook, Cond.code yX10_hasBook cX10_hasBook 2 (some .boolean), Cond.fieldLink RX10 246 "ClapBankModel" "book" "I", Cond.methodLink RX10 211 yX10_is, Cond.instanceMethod yX10_is, Cond.selects RX10 yX10_is yX10_is, Cond.code yX10_is cX10_is 3 (some .boolean), Cond.fieldLink RX10 23 "ClapBankModel" "many" "[I", Cond.methodLink RX10 92 yX10_in, Cond.static yX10_in, Cond.code yX10_in cX10_in 3 (some .boolean), Cond.methodLink RX10 237 yX10_hand, Cond.instanceMethod yX10_hand, Cond.selects RX10 yX10_hand yX10_hand]
def wsX10_run_r2 : List Cond := [Cond.code yX10_hand cX10_hand 2 (some .boolean), Cond.fieldLink RX10 221 "ClapBankModel" "theatre" "I", Cond.fieldLink RX10 228 "ClapBankModel" "palms" "I", Cond.fieldLink RX10 234 "ClapBankModel" "rate" "I", Cond.methodLink RX10 224 yX10_of, Cond.instanceMethod yX10_of, Cond.selects RX10 yX10_of yX10_of, Cond.code yX10_of cX10_of 2 (some .int), Cond.fieldLink RX10 26 "ClapBankModel" "theatres" "[I", Cond.methodLink RX10 252 yX10_deeds, Cond.instanceMethod yX10_deeds, Cond.selects RX10 yX10_deeds yX10_deeds, Cond.code yX10_deeds cX10_deeds 1 (some .int), Cond.fieldLink RX10 29 "ClapBankModel" "books" "[I", Cond.methodLink RX10 329 yX10_play, Cond.instanceMethod yX10_play, Cond.selects RX10 yX10_play yX10_play, Cond.code yX10_play cX10_play 3 (some .int), Cond.methodLink RX10 323 yX10_begin, Cond.instanceMethod yX10_begin, Cond.selects RX10 yX10_begin yX10_begin, Cond.code yX10_begin cX10_begin 2 none, Cond.fieldLink RX10 258 "ClapBankModel" "chest" "I", Cond.fieldLink RX10 261 "ClapBankModel" "encores" "I"]
def wsX10_run_r3 : List Cond := [Cond.fieldLink RX10 264 "ClapBankModel" "nights" "I", Cond.fieldLink RX10 270 "ClapBankModel" "claps" "I", Cond.fieldLink RX10 273 "ClapBankModel" "echoFor" "I", Cond.fieldLink RX10 44 "ClapBankModel" "owes" "[I", Cond.fieldLink RX10 47 "ClapBankModel" "got" "[I", Cond.fieldLink RX10 50 "ClapBankModel" "saved" "[I", Cond.fieldLink RX10 53 "ClapBankModel" "storms" "[I", Cond.fieldLink RX10 56 "ClapBankModel" "starved" "[I", Cond.methodLink RX10 276 yX10_morning, Cond.instanceMethod yX10_morning, Cond.selects RX10 yX10_morning yX10_morning, Cond.code yX10_morning cX10_morning 2 none, Cond.fieldLink RX10 41 "ClapBankModel" "left" "[I", Cond.fieldLink RX10 279 "ClapBankModel" "hushed" "I", Cond.methodLink RX10 326 yX10_doesNext, Cond.instanceMethod yX10_doesNext, Cond.selects RX10 yX10_doesNext yX10_doesNext, Cond.code yX10_doesNext cX10_doesNext 2 (some .boolean), Cond.methodLink RX10 320 yX10_does, Cond.instanceMethod yX10_does, Cond.selects RX10 yX10_does yX10_does, Cond.code yX10_does cX10_does 5 (some .boolean), Cond.methodLink RX10 255 yX10_deedOf, Cond.instanceMethod yX10_deedOf]
def wsX10_run_r4 : List Cond := [Cond.selects RX10 yX10_deedOf yX10_deedOf, Cond.code yX10_deedOf cX10_deedOf 3 (some .int), Cond.methodLink RX10 307 yX10_clapsFor, Cond.instanceMethod yX10_clapsFor, Cond.selects RX10 yX10_clapsFor yX10_clapsFor, Cond.code yX10_clapsFor cX10_clapsFor 5 (some .boolean), Cond.methodLink RX10 240 yX10_isPalm, Cond.instanceMethod yX10_isPalm, Cond.selects RX10 yX10_isPalm yX10_isPalm, Cond.code yX10_isPalm cX10_isPalm 2 (some .boolean), Cond.methodLink RX10 285 yX10_isLiving, Cond.instanceMethod yX10_isLiving, Cond.selects RX10 yX10_isLiving yX10_isLiving, Cond.code yX10_isLiving cX10_isLiving 2 (some .boolean), Cond.methodLink RX10 243 yX10_isActor, Cond.instanceMethod yX10_isActor, Cond.selects RX10 yX10_isActor yX10_isActor, Cond.code yX10_isActor cX10_isActor 2 (some .boolean), Cond.methodLink RX10 84 yX10_has, Cond.static yX10_has, Cond.code yX10_has cX10_has 2 (some .boolean), Cond.methodLink RX10 288 yX10_handsOf, Cond.instanceMethod yX10_handsOf, Cond.selects RX10 yX10_handsOf yX10_handsOf]
def wsX10_run_r5 : List Cond := [Cond.code yX10_handsOf cX10_handsOf 2 (some .int), Cond.methodLink RX10 291 yX10_gets, Cond.instanceMethod yX10_gets, Cond.selects RX10 yX10_gets yX10_gets, Cond.code yX10_gets cX10_gets 3 none, Cond.methodLink RX10 310 yX10_gives, Cond.instanceMethod yX10_gives, Cond.selects RX10 yX10_gives yX10_gives, Cond.code yX10_gives cX10_gives 5 (some .boolean), Cond.methodLink RX10 314 yX10_hushes, Cond.instanceMethod yX10_hushes, Cond.selects RX10 yX10_hushes yX10_hushes, Cond.code yX10_hushes cX10_hushes 4 (some .boolean), Cond.methodLink RX10 317 yX10_night, Cond.instanceMethod yX10_night, Cond.selects RX10 yX10_night yX10_night, Cond.code yX10_night cX10_night 2 none, Cond.constantLong RX10 300 (100), Cond.fieldLink RX10 302 "ClapBankModel" "capped" "Z", Cond.constant RX10 306 (1000000), Cond.methodLink RX10 297 yX10_eatsNow, Cond.instanceMethod yX10_eatsNow, Cond.selects RX10 yX10_eatsNow yX10_eatsNow, Cond.code yX10_eatsNow cX10_eatsNow 3 (some .boolean)]
def wsX10_run_r6 : List Cond := [Cond.methodLink RX10 294 yX10_eats, Cond.instanceMethod yX10_eats, Cond.selects RX10 yX10_eats yX10_eats, Cond.code yX10_eats cX10_eats 3 (some .int), Cond.methodLink RX10 282 yX10_hungerOf, Cond.instanceMethod yX10_hungerOf, Cond.selects RX10 yX10_hungerOf yX10_hungerOf, Cond.code yX10_hungerOf cX10_hungerOf 2 (some .int), Cond.methodLink RX10 170 yX10_lesser, Cond.static yX10_lesser, Cond.code yX10_lesser cX10_lesser 2 (some .int), Cond.methodLink RX10 350 yX10_isDoomed, Cond.instanceMethod yX10_isDoomed, Cond.selects RX10 yX10_isDoomed yX10_isDoomed, Cond.code yX10_isDoomed cX10_isDoomed 2 (some .boolean), Cond.methodLink RX10 353 yX10_isInDanger, Cond.instanceMethod yX10_isInDanger, Cond.selects RX10 yX10_isInDanger yX10_isInDanger, Cond.code yX10_isInDanger cX10_isInDanger 6 (some .boolean)]
def wsX10_run : List Cond := .code yX10_run cX10_run 8 (some .int) :: ((wsX10_run_r1 ++ (wsX10_run_r2 ++ (wsX10_run_r3 ++ (wsX10_run_r4 ++ (wsX10_run_r5 ++ wsX10_run_r6))))) ++ wsX100)
def wsX10_feast_r1 : List Cond := [Cond.fieldLink RX10 80 "ClapBankModel" "code" "I", Cond.fieldLink RX10 231 "ClapBankModel" "actors" "I", Cond.fieldLink RX10 267 "ClapBankModel" "lives" "I", Cond.fieldLink RX10 359 "ClapBankModel" "twoHands" "I", Cond.fieldLink RX10 362 "ClapBankModel" "oneHand" "I", Cond.methodLink RX10 332 yX10_layState, Cond.instanceMethod yX10_layState, Cond.selects RX10 yX10_layState yX10_layState, Cond.initialized RX10, Cond.code yX10_layState cX10_layState 4 (some .boolean), Cond.methodLink RX10 249 yX10_hasBook, Cond.instanceMethod yX10_hasBook, Cond.selects RX10 yX10_hasBook yX10_hasBook, Cond.code yX10_hasBook cX10_hasBook 2 (some .boolean), Cond.fieldLink RX10 246 "ClapBankModel" "book" "I", Cond.methodLink RX10 211 yX10_is, Cond.instanceMethod yX10_is, Cond.selects RX10 yX10_is yX10_is, Cond.code yX10_is cX10_is 3 (some .boolean), Cond.fieldLink RX10 23 "ClapBankModel" "many" "[I", Cond.methodLink RX10 92 yX10_in, Cond.static yX10_in, Cond.code yX10_in cX10_in 3 (some .boolean), Cond.methodLink RX10 237 yX10_hand]
def wsX10_feast_r2 : List Cond := [Cond.instanceMethod yX10_hand, Cond.selects RX10 yX10_hand yX10_hand, Cond.code yX10_hand cX10_hand 2 (some .boolean), Cond.fieldLink RX10 221 "ClapBankModel" "theatre" "I", Cond.fieldLink RX10 228 "ClapBankModel" "palms" "I", Cond.fieldLink RX10 234 "ClapBankModel" "rate" "I", Cond.methodLink RX10 224 yX10_of, Cond.instanceMethod yX10_of, Cond.selects RX10 yX10_of yX10_of, Cond.code yX10_of cX10_of 2 (some .int), Cond.fieldLink RX10 26 "ClapBankModel" "theatres" "[I", Cond.methodLink RX10 252 yX10_deeds, Cond.instanceMethod yX10_deeds, Cond.selects RX10 yX10_deeds yX10_deeds, Cond.code yX10_deeds cX10_deeds 1 (some .int), Cond.fieldLink RX10 29 "ClapBankModel" "books" "[I", Cond.methodLink RX10 329 yX10_play, Cond.instanceMethod yX10_play, Cond.selects RX10 yX10_play yX10_play, Cond.code yX10_play cX10_play 3 (some .int), Cond.methodLink RX10 323 yX10_begin, Cond.instanceMethod yX10_begin, Cond.selects RX10 yX10_begin yX10_begin, Cond.code yX10_begin cX10_begin 2 none]
def wsX10_feast_r3 : List Cond := [Cond.fieldLink RX10 258 "ClapBankModel" "chest" "I", Cond.fieldLink RX10 261 "ClapBankModel" "encores" "I", Cond.fieldLink RX10 264 "ClapBankModel" "nights" "I", Cond.fieldLink RX10 270 "ClapBankModel" "claps" "I", Cond.fieldLink RX10 273 "ClapBankModel" "echoFor" "I", Cond.fieldLink RX10 44 "ClapBankModel" "owes" "[I", Cond.fieldLink RX10 47 "ClapBankModel" "got" "[I", Cond.fieldLink RX10 50 "ClapBankModel" "saved" "[I", Cond.fieldLink RX10 53 "ClapBankModel" "storms" "[I", Cond.fieldLink RX10 56 "ClapBankModel" "starved" "[I", Cond.methodLink RX10 276 yX10_morning, Cond.instanceMethod yX10_morning, Cond.selects RX10 yX10_morning yX10_morning, Cond.code yX10_morning cX10_morning 2 none, Cond.fieldLink RX10 41 "ClapBankModel" "left" "[I", Cond.fieldLink RX10 279 "ClapBankModel" "hushed" "I", Cond.methodLink RX10 326 yX10_doesNext, Cond.instanceMethod yX10_doesNext, Cond.selects RX10 yX10_doesNext yX10_doesNext, Cond.code yX10_doesNext cX10_doesNext 2 (some .boolean), Cond.methodLink RX10 320 yX10_does, Cond.instanceMethod yX10_does, Cond.selects RX10 yX10_does yX10_does, Cond.code yX10_does cX10_does 5 (some .boolean)]
def wsX10_feast_r4 : List Cond := [Cond.methodLink RX10 255 yX10_deedOf, Cond.instanceMethod yX10_deedOf, Cond.selects RX10 yX10_deedOf yX10_deedOf, Cond.code yX10_deedOf cX10_deedOf 3 (some .int), Cond.methodLink RX10 307 yX10_clapsFor, Cond.instanceMethod yX10_clapsFor, Cond.selects RX10 yX10_clapsFor yX10_clapsFor, Cond.code yX10_clapsFor cX10_clapsFor 5 (some .boolean), Cond.methodLink RX10 240 yX10_isPalm, Cond.instanceMethod yX10_isPalm, Cond.selects RX10 yX10_isPalm yX10_isPalm, Cond.code yX10_isPalm cX10_isPalm 2 (some .boolean), Cond.methodLink RX10 285 yX10_isLiving, Cond.instanceMethod yX10_isLiving, Cond.selects RX10 yX10_isLiving yX10_isLiving, Cond.code yX10_isLiving cX10_isLiving 2 (some .boolean), Cond.methodLink RX10 243 yX10_isActor, Cond.instanceMethod yX10_isActor, Cond.selects RX10 yX10_isActor yX10_isActor, Cond.code yX10_isActor cX10_isActor 2 (some .boolean), Cond.methodLink RX10 84 yX10_has, Cond.static yX10_has, Cond.code yX10_has cX10_has 2 (some .boolean), Cond.methodLink RX10 288 yX10_handsOf]
def wsX10_feast_r5 : List Cond := [Cond.instanceMethod yX10_handsOf, Cond.selects RX10 yX10_handsOf yX10_handsOf, Cond.code yX10_handsOf cX10_handsOf 2 (some .int), Cond.methodLink RX10 291 yX10_gets, Cond.instanceMethod yX10_gets, Cond.selects RX10 yX10_gets yX10_gets, Cond.code yX10_gets cX10_gets 3 none, Cond.methodLink RX10 310 yX10_gives, Cond.instanceMethod yX10_gives, Cond.selects RX10 yX10_gives yX10_gives, Cond.code yX10_gives cX10_gives 5 (some .boolean), Cond.methodLink RX10 314 yX10_hushes, Cond.instanceMethod yX10_hushes, Cond.selects RX10 yX10_hushes yX10_hushes, Cond.code yX10_hushes cX10_hushes 4 (some .boolean), Cond.methodLink RX10 317 yX10_night, Cond.instanceMethod yX10_night, Cond.selects RX10 yX10_night yX10_night, Cond.code yX10_night cX10_night 2 none, Cond.constantLong RX10 300 (100), Cond.fieldLink RX10 302 "ClapBankModel" "capped" "Z", Cond.constant RX10 306 (1000000), Cond.methodLink RX10 297 yX10_eatsNow, Cond.instanceMethod yX10_eatsNow]
def wsX10_feast_r6 : List Cond := [Cond.selects RX10 yX10_eatsNow yX10_eatsNow, Cond.code yX10_eatsNow cX10_eatsNow 3 (some .boolean), Cond.methodLink RX10 294 yX10_eats, Cond.instanceMethod yX10_eats, Cond.selects RX10 yX10_eats yX10_eats, Cond.code yX10_eats cX10_eats 3 (some .int), Cond.methodLink RX10 282 yX10_hungerOf, Cond.instanceMethod yX10_hungerOf, Cond.selects RX10 yX10_hungerOf yX10_hungerOf, Cond.code yX10_hungerOf cX10_hungerOf 2 (some .int), Cond.methodLink RX10 170 yX10_lesser, Cond.static yX10_lesser, Cond.code yX10_lesser cX10_lesser 2 (some .int), Cond.methodLink RX10 365 yX10_canFeed, Cond.instanceMethod yX10_canFeed, Cond.selects RX10 yX10_canFeed yX10_canFeed, Cond.code yX10_canFeed cX10_canFeed 9 (some .boolean), Cond.methodLink RX10 341 yX10_needOf, Cond.instanceMethod yX10_needOf, Cond.selects RX10 yX10_needOf yX10_needOf, Cond.code yX10_needOf cX10_needOf 2 (some .int), Cond.methodLink RX10 338 yX10_greater, Cond.static yX10_greater, Cond.code yX10_greater cX10_greater 2 (some .int)]
def wsX10_feast_r7 : List Cond := [Cond.methodLink RX10 356 yX10_leftOf, Cond.instanceMethod yX10_leftOf, Cond.selects RX10 yX10_leftOf yX10_leftOf, Cond.code yX10_leftOf cX10_leftOf 4 (some .int), Cond.methodLink RX10 368 yX10_ones, Cond.static yX10_ones, Cond.code yX10_ones cX10_ones 3 (some .int)]
def wsX10_feast : List Cond := .code yX10_feast cX10_feast 11 (some .int) :: ((wsX10_feast_r1 ++ (wsX10_feast_r2 ++ (wsX10_feast_r3 ++ (wsX10_feast_r4 ++ (wsX10_feast_r5 ++ (wsX10_feast_r6 ++ wsX10_feast_r7)))))) ++ wsX100)
def wsX10_fair_r1 : List Cond := [Cond.fieldLink RX10 80 "ClapBankModel" "code" "I", Cond.fieldLink RX10 231 "ClapBankModel" "actors" "I", Cond.fieldLink RX10 228 "ClapBankModel" "palms" "I", Cond.fieldLink RX10 41 "ClapBankModel" "left" "[I", Cond.methodLink RX10 332 yX10_layState, Cond.instanceMethod yX10_layState, Cond.selects RX10 yX10_layState yX10_layState, Cond.initialized RX10, Cond.code yX10_layState cX10_layState 4 (some .boolean), Cond.methodLink RX10 249 yX10_hasBook, Cond.instanceMethod yX10_hasBook, Cond.selects RX10 yX10_hasBook yX10_hasBook, Cond.code yX10_hasBook cX10_hasBook 2 (some .boolean), Cond.fieldLink RX10 246 "ClapBankModel" "book" "I", Cond.methodLink RX10 211 yX10_is, Cond.instanceMethod yX10_is, Cond.selects RX10 yX10_is yX10_is, Cond.code yX10_is cX10_is 3 (some .boolean), Cond.fieldLink RX10 23 "ClapBankModel" "many" "[I", Cond.methodLink RX10 92 yX10_in, Cond.static yX10_in, Cond.code yX10_in cX10_in 3 (some .boolean), Cond.methodLink RX10 237 yX10_hand, Cond.instanceMethod yX10_hand]
def wsX10_fair_r2 : List Cond := [Cond.selects RX10 yX10_hand yX10_hand, Cond.code yX10_hand cX10_hand 2 (some .boolean), Cond.fieldLink RX10 221 "ClapBankModel" "theatre" "I", Cond.fieldLink RX10 234 "ClapBankModel" "rate" "I", Cond.methodLink RX10 224 yX10_of, Cond.instanceMethod yX10_of, Cond.selects RX10 yX10_of yX10_of, Cond.code yX10_of cX10_of 2 (some .int), Cond.fieldLink RX10 26 "ClapBankModel" "theatres" "[I", Cond.methodLink RX10 252 yX10_deeds, Cond.instanceMethod yX10_deeds, Cond.selects RX10 yX10_deeds yX10_deeds, Cond.code yX10_deeds cX10_deeds 1 (some .int), Cond.fieldLink RX10 29 "ClapBankModel" "books" "[I", Cond.methodLink RX10 329 yX10_play, Cond.instanceMethod yX10_play, Cond.selects RX10 yX10_play yX10_play, Cond.code yX10_play cX10_play 3 (some .int), Cond.methodLink RX10 323 yX10_begin, Cond.instanceMethod yX10_begin, Cond.selects RX10 yX10_begin yX10_begin, Cond.code yX10_begin cX10_begin 2 none, Cond.fieldLink RX10 258 "ClapBankModel" "chest" "I", Cond.fieldLink RX10 261 "ClapBankModel" "encores" "I"]
def wsX10_fair_r3 : List Cond := [Cond.fieldLink RX10 264 "ClapBankModel" "nights" "I", Cond.fieldLink RX10 267 "ClapBankModel" "lives" "I", Cond.fieldLink RX10 270 "ClapBankModel" "claps" "I", Cond.fieldLink RX10 273 "ClapBankModel" "echoFor" "I", Cond.fieldLink RX10 44 "ClapBankModel" "owes" "[I", Cond.fieldLink RX10 47 "ClapBankModel" "got" "[I", Cond.fieldLink RX10 50 "ClapBankModel" "saved" "[I", Cond.fieldLink RX10 53 "ClapBankModel" "storms" "[I", Cond.fieldLink RX10 56 "ClapBankModel" "starved" "[I", Cond.methodLink RX10 276 yX10_morning, Cond.instanceMethod yX10_morning, Cond.selects RX10 yX10_morning yX10_morning, Cond.code yX10_morning cX10_morning 2 none, Cond.fieldLink RX10 279 "ClapBankModel" "hushed" "I", Cond.methodLink RX10 326 yX10_doesNext, Cond.instanceMethod yX10_doesNext, Cond.selects RX10 yX10_doesNext yX10_doesNext, Cond.code yX10_doesNext cX10_doesNext 2 (some .boolean), Cond.methodLink RX10 320 yX10_does, Cond.instanceMethod yX10_does, Cond.selects RX10 yX10_does yX10_does, Cond.code yX10_does cX10_does 5 (some .boolean), Cond.methodLink RX10 255 yX10_deedOf, Cond.instanceMethod yX10_deedOf]
def wsX10_fair_r4 : List Cond := [Cond.selects RX10 yX10_deedOf yX10_deedOf, Cond.code yX10_deedOf cX10_deedOf 3 (some .int), Cond.methodLink RX10 307 yX10_clapsFor, Cond.instanceMethod yX10_clapsFor, Cond.selects RX10 yX10_clapsFor yX10_clapsFor, Cond.code yX10_clapsFor cX10_clapsFor 5 (some .boolean), Cond.methodLink RX10 240 yX10_isPalm, Cond.instanceMethod yX10_isPalm, Cond.selects RX10 yX10_isPalm yX10_isPalm, Cond.code yX10_isPalm cX10_isPalm 2 (some .boolean), Cond.methodLink RX10 285 yX10_isLiving, Cond.instanceMethod yX10_isLiving, Cond.selects RX10 yX10_isLiving yX10_isLiving, Cond.code yX10_isLiving cX10_isLiving 2 (some .boolean), Cond.methodLink RX10 243 yX10_isActor, Cond.instanceMethod yX10_isActor, Cond.selects RX10 yX10_isActor yX10_isActor, Cond.code yX10_isActor cX10_isActor 2 (some .boolean), Cond.methodLink RX10 84 yX10_has, Cond.static yX10_has, Cond.code yX10_has cX10_has 2 (some .boolean), Cond.methodLink RX10 288 yX10_handsOf, Cond.instanceMethod yX10_handsOf, Cond.selects RX10 yX10_handsOf yX10_handsOf]
def wsX10_fair_r5 : List Cond := [Cond.code yX10_handsOf cX10_handsOf 2 (some .int), Cond.methodLink RX10 291 yX10_gets, Cond.instanceMethod yX10_gets, Cond.selects RX10 yX10_gets yX10_gets, Cond.code yX10_gets cX10_gets 3 none, Cond.methodLink RX10 310 yX10_gives, Cond.instanceMethod yX10_gives, Cond.selects RX10 yX10_gives yX10_gives, Cond.code yX10_gives cX10_gives 5 (some .boolean), Cond.methodLink RX10 314 yX10_hushes, Cond.instanceMethod yX10_hushes, Cond.selects RX10 yX10_hushes yX10_hushes, Cond.code yX10_hushes cX10_hushes 4 (some .boolean), Cond.methodLink RX10 317 yX10_night, Cond.instanceMethod yX10_night, Cond.selects RX10 yX10_night yX10_night, Cond.code yX10_night cX10_night 2 none, Cond.constantLong RX10 300 (100), Cond.fieldLink RX10 302 "ClapBankModel" "capped" "Z", Cond.constant RX10 306 (1000000), Cond.methodLink RX10 297 yX10_eatsNow, Cond.instanceMethod yX10_eatsNow, Cond.selects RX10 yX10_eatsNow yX10_eatsNow, Cond.code yX10_eatsNow cX10_eatsNow 3 (some .boolean)]
def wsX10_fair_r6 : List Cond := [Cond.methodLink RX10 294 yX10_eats, Cond.instanceMethod yX10_eats, Cond.selects RX10 yX10_eats yX10_eats, Cond.code yX10_eats cX10_eats 3 (some .int), Cond.methodLink RX10 282 yX10_hungerOf, Cond.instanceMethod yX10_hungerOf, Cond.selects RX10 yX10_hungerOf yX10_hungerOf, Cond.code yX10_hungerOf cX10_hungerOf 2 (some .int), Cond.methodLink RX10 170 yX10_lesser, Cond.static yX10_lesser, Cond.code yX10_lesser cX10_lesser 2 (some .int), Cond.methodLink RX10 341 yX10_needOf, Cond.instanceMethod yX10_needOf, Cond.selects RX10 yX10_needOf yX10_needOf, Cond.code yX10_needOf cX10_needOf 2 (some .int), Cond.methodLink RX10 338 yX10_greater, Cond.static yX10_greater, Cond.code yX10_greater cX10_greater 2 (some .int), Cond.methodLink RX10 371 yX10_common, Cond.static yX10_common, Cond.code yX10_common cX10_common 5 (some .int)]
def wsX10_fair : List Cond := .code yX10_fair cX10_fair 8 (some .int) :: ((wsX10_fair_r1 ++ (wsX10_fair_r2 ++ (wsX10_fair_r3 ++ (wsX10_fair_r4 ++ (wsX10_fair_r5 ++ wsX10_fair_r6))))) ++ wsX100)
def wsX10_layUsurer_r1 : List Cond := [Cond.methodLink RX10 237 yX10_hand, Cond.instanceMethod yX10_hand, Cond.selects RX10 yX10_hand yX10_hand, Cond.initialized RX10, Cond.code yX10_hand cX10_hand 2 (some .boolean), Cond.fieldLink RX10 221 "ClapBankModel" "theatre" "I", Cond.fieldLink RX10 228 "ClapBankModel" "palms" "I", Cond.fieldLink RX10 231 "ClapBankModel" "actors" "I", Cond.fieldLink RX10 234 "ClapBankModel" "rate" "I", Cond.methodLink RX10 211 yX10_is, Cond.instanceMethod yX10_is, Cond.selects RX10 yX10_is yX10_is, Cond.code yX10_is cX10_is 3 (some .boolean), Cond.fieldLink RX10 23 "ClapBankModel" "many" "[I", Cond.methodLink RX10 92 yX10_in, Cond.static yX10_in, Cond.code yX10_in cX10_in 3 (some .boolean), Cond.methodLink RX10 224 yX10_of, Cond.instanceMethod yX10_of, Cond.selects RX10 yX10_of yX10_of, Cond.code yX10_of cX10_of 2 (some .int), Cond.fieldLink RX10 26 "ClapBankModel" "theatres" "[I", Cond.methodLink RX10 374 yX10_usurers, Cond.instanceMethod yX10_usurers]
def wsX10_layUsurer_r2 : List Cond := [Cond.selects RX10 yX10_usurers yX10_usurers, Cond.code yX10_usurers cX10_usurers 1 (some .int), Cond.methodLink RX10 377 yX10_findAsks, Cond.instanceMethod yX10_findAsks, Cond.selects RX10 yX10_findAsks yX10_findAsks, Cond.code yX10_findAsks cX10_findAsks 5 none, Cond.fieldLink RX10 59 "ClapBankModel" "asks" "[I", Cond.fieldLink RX10 62 "ClapBankModel" "wentTo" "[I", Cond.methodLink RX10 170 yX10_lesser, Cond.static yX10_lesser, Cond.code yX10_lesser cX10_lesser 2 (some .int), Cond.methodLink RX10 338 yX10_greater, Cond.static yX10_greater, Cond.code yX10_greater cX10_greater 2 (some .int)]
def wsX10_layUsurer : List Cond := .code yX10_layUsurer cX10_layUsurer 4 (some .boolean) :: ((wsX10_layUsurer_r1 ++ wsX10_layUsurer_r2) ++ wsX100)
def wsX10_ask_r1 : List Cond := [Cond.fieldLink RX10 80 "ClapBankModel" "code" "I", Cond.fieldLink RX10 59 "ClapBankModel" "asks" "[I", Cond.methodLink RX10 380 yX10_layUsurer, Cond.instanceMethod yX10_layUsurer, Cond.selects RX10 yX10_layUsurer yX10_layUsurer, Cond.initialized RX10, Cond.code yX10_layUsurer cX10_layUsurer 4 (some .boolean), Cond.methodLink RX10 237 yX10_hand, Cond.instanceMethod yX10_hand, Cond.selects RX10 yX10_hand yX10_hand, Cond.code yX10_hand cX10_hand 2 (some .boolean), Cond.fieldLink RX10 221 "ClapBankModel" "theatre" "I", Cond.fieldLink RX10 228 "ClapBankModel" "palms" "I", Cond.fieldLink RX10 231 "ClapBankModel" "actors" "I", Cond.fieldLink RX10 234 "ClapBankModel" "rate" "I", Cond.methodLink RX10 211 yX10_is, Cond.instanceMethod yX10_is, Cond.selects RX10 yX10_is yX10_is, Cond.code yX10_is cX10_is 3 (some .boolean), Cond.fieldLink RX10 23 "ClapBankModel" "many" "[I", Cond.methodLink RX10 92 yX10_in, Cond.static yX10_in, Cond.code yX10_in cX10_in 3 (some .boolean), Cond.methodLink RX10 224 yX10_of]
def wsX10_ask_r2 : List Cond := [Cond.instanceMethod yX10_of, Cond.selects RX10 yX10_of yX10_of, Cond.code yX10_of cX10_of 2 (some .int), Cond.fieldLink RX10 26 "ClapBankModel" "theatres" "[I", Cond.methodLink RX10 374 yX10_usurers, Cond.instanceMethod yX10_usurers, Cond.selects RX10 yX10_usurers yX10_usurers, Cond.code yX10_usurers cX10_usurers 1 (some .int), Cond.methodLink RX10 377 yX10_findAsks, Cond.instanceMethod yX10_findAsks, Cond.selects RX10 yX10_findAsks yX10_findAsks, Cond.code yX10_findAsks cX10_findAsks 5 none, Cond.fieldLink RX10 62 "ClapBankModel" "wentTo" "[I", Cond.methodLink RX10 170 yX10_lesser, Cond.static yX10_lesser, Cond.code yX10_lesser cX10_lesser 2 (some .int), Cond.methodLink RX10 338 yX10_greater, Cond.static yX10_greater, Cond.code yX10_greater cX10_greater 2 (some .int)]
def wsX10_ask : List Cond := .code yX10_ask cX10_ask 4 (some .int) :: ((wsX10_ask_r1 ++ wsX10_ask_r2) ++ wsX100)
def wsX10_taken_r1 : List Cond := [Cond.fieldLink RX10 80 "ClapBankModel" "code" "I", Cond.fieldLink RX10 62 "ClapBankModel" "wentTo" "[I", Cond.fieldLink RX10 59 "ClapBankModel" "asks" "[I", Cond.methodLink RX10 380 yX10_layUsurer, Cond.instanceMethod yX10_layUsurer, Cond.selects RX10 yX10_layUsurer yX10_layUsurer, Cond.initialized RX10, Cond.code yX10_layUsurer cX10_layUsurer 4 (some .boolean), Cond.methodLink RX10 237 yX10_hand, Cond.instanceMethod yX10_hand, Cond.selects RX10 yX10_hand yX10_hand, Cond.code yX10_hand cX10_hand 2 (some .boolean), Cond.fieldLink RX10 221 "ClapBankModel" "theatre" "I", Cond.fieldLink RX10 228 "ClapBankModel" "palms" "I", Cond.fieldLink RX10 231 "ClapBankModel" "actors" "I", Cond.fieldLink RX10 234 "ClapBankModel" "rate" "I", Cond.methodLink RX10 211 yX10_is, Cond.instanceMethod yX10_is, Cond.selects RX10 yX10_is yX10_is, Cond.code yX10_is cX10_is 3 (some .boolean), Cond.fieldLink RX10 23 "ClapBankModel" "many" "[I", Cond.methodLink RX10 92 yX10_in, Cond.static yX10_in, Cond.code yX10_in cX10_in 3 (some .boolean)]
def wsX10_taken_r2 : List Cond := [Cond.methodLink RX10 224 yX10_of, Cond.instanceMethod yX10_of, Cond.selects RX10 yX10_of yX10_of, Cond.code yX10_of cX10_of 2 (some .int), Cond.fieldLink RX10 26 "ClapBankModel" "theatres" "[I", Cond.methodLink RX10 374 yX10_usurers, Cond.instanceMethod yX10_usurers, Cond.selects RX10 yX10_usurers yX10_usurers, Cond.code yX10_usurers cX10_usurers 1 (some .int), Cond.methodLink RX10 377 yX10_findAsks, Cond.instanceMethod yX10_findAsks, Cond.selects RX10 yX10_findAsks yX10_findAsks, Cond.code yX10_findAsks cX10_findAsks 5 none, Cond.methodLink RX10 170 yX10_lesser, Cond.static yX10_lesser, Cond.code yX10_lesser cX10_lesser 2 (some .int), Cond.methodLink RX10 338 yX10_greater, Cond.static yX10_greater, Cond.code yX10_greater cX10_greater 2 (some .int)]
def wsX10_taken : List Cond := .code yX10_taken cX10_taken 6 (some .int) :: ((wsX10_taken_r1 ++ wsX10_taken_r2) ++ wsX100)
def wsX10_stands_r1 : List Cond := [Cond.fieldLink RX10 80 "ClapBankModel" "code" "I", Cond.methodLink RX10 92 yX10_in, Cond.static yX10_in, Cond.initialized RX10, Cond.code yX10_in cX10_in 3 (some .boolean), Cond.methodLink RX10 237 yX10_hand, Cond.instanceMethod yX10_hand, Cond.selects RX10 yX10_hand yX10_hand, Cond.code yX10_hand cX10_hand 2 (some .boolean), Cond.fieldLink RX10 221 "ClapBankModel" "theatre" "I", Cond.fieldLink RX10 228 "ClapBankModel" "palms" "I", Cond.fieldLink RX10 231 "ClapBankModel" "actors" "I", Cond.fieldLink RX10 234 "ClapBankModel" "rate" "I", Cond.methodLink RX10 211 yX10_is, Cond.instanceMethod yX10_is, Cond.selects RX10 yX10_is yX10_is, Cond.code yX10_is cX10_is 3 (some .boolean), Cond.fieldLink RX10 23 "ClapBankModel" "many" "[I", Cond.methodLink RX10 224 yX10_of, Cond.instanceMethod yX10_of, Cond.selects RX10 yX10_of yX10_of, Cond.code yX10_of cX10_of 2 (some .int), Cond.fieldLink RX10 26 "ClapBankModel" "theatres" "[I", Cond.methodLink RX10 374 yX10_usurers]
def wsX10_stands_r2 : List Cond := [Cond.instanceMethod yX10_usurers, Cond.selects RX10 yX10_usurers yX10_usurers, Cond.code yX10_usurers cX10_usurers 1 (some .int), Cond.methodLink RX10 377 yX10_findAsks, Cond.instanceMethod yX10_findAsks, Cond.selects RX10 yX10_findAsks yX10_findAsks, Cond.code yX10_findAsks cX10_findAsks 5 none, Cond.fieldLink RX10 59 "ClapBankModel" "asks" "[I", Cond.fieldLink RX10 62 "ClapBankModel" "wentTo" "[I", Cond.methodLink RX10 170 yX10_lesser, Cond.static yX10_lesser, Cond.code yX10_lesser cX10_lesser 2 (some .int), Cond.methodLink RX10 338 yX10_greater, Cond.static yX10_greater, Cond.code yX10_greater cX10_greater 2 (some .int), Cond.methodLink RX10 383 yX10_areAlike, Cond.instanceMethod yX10_areAlike, Cond.selects RX10 yX10_areAlike yX10_areAlike, Cond.code yX10_areAlike cX10_areAlike 4 (some .boolean)]
def wsX10_stands : List Cond := .code yX10_stands cX10_stands 5 (some .int) :: ((wsX10_stands_r1 ++ wsX10_stands_r2) ++ wsX100)
def wsX10_hasDark : List Cond := .code yX10_hasDark cX10_hasDark 2 (some .boolean) :: ([.fieldLink RX10 386 "ClapBankModel" "dark" "I", .fieldLink RX10 32 "ClapBankModel" "darks" "[I", .fieldLink RX10 389 "ClapBankModel" "minutes" "I", .methodLink RX10 211 yX10_is, .instanceMethod yX10_is, .selects RX10 yX10_is yX10_is, .initialized RX10, .code yX10_is cX10_is 3 (some .boolean), .fieldLink RX10 23 "ClapBankModel" "many" "[I", .methodLink RX10 92 yX10_in, .static yX10_in, .code yX10_in cX10_in 3 (some .boolean)] ++ wsX100)
def wsX10_heard : List Cond := .code yX10_heard cX10_heard 3 (some .int) :: ([.fieldLink RX10 80 "ClapBankModel" "code" "I", .fieldLink RX10 389 "ClapBankModel" "minutes" "I", .methodLink RX10 392 yX10_hasDark, .instanceMethod yX10_hasDark, .selects RX10 yX10_hasDark yX10_hasDark, .initialized RX10, .code yX10_hasDark cX10_hasDark 2 (some .boolean), .fieldLink RX10 386 "ClapBankModel" "dark" "I", .fieldLink RX10 32 "ClapBankModel" "darks" "[I", .methodLink RX10 211 yX10_is, .instanceMethod yX10_is, .selects RX10 yX10_is yX10_is, .code yX10_is cX10_is 3 (some .boolean), .fieldLink RX10 23 "ClapBankModel" "many" "[I", .methodLink RX10 92 yX10_in, .static yX10_in, .code yX10_in cX10_in 3 (some .boolean), .methodLink RX10 395 yX10_heardOf, .instanceMethod yX10_heardOf, .selects RX10 yX10_heardOf yX10_heardOf, .code yX10_heardOf cX10_heardOf 2 (some .int)] ++ wsX100)
def wsX10_ways_r1 : List Cond := [Cond.fieldLink RX10 80 "ClapBankModel" "code" "I", Cond.constantLong RX10 413 (-1), Cond.fieldLink RX10 70 "ClapBankModel" "behind" "[J", Cond.methodLink RX10 392 yX10_hasDark, Cond.instanceMethod yX10_hasDark, Cond.selects RX10 yX10_hasDark yX10_hasDark, Cond.initialized RX10, Cond.code yX10_hasDark cX10_hasDark 2 (some .boolean), Cond.fieldLink RX10 386 "ClapBankModel" "dark" "I", Cond.fieldLink RX10 32 "ClapBankModel" "darks" "[I", Cond.fieldLink RX10 389 "ClapBankModel" "minutes" "I", Cond.methodLink RX10 211 yX10_is, Cond.instanceMethod yX10_is, Cond.selects RX10 yX10_is yX10_is, Cond.code yX10_is cX10_is 3 (some .boolean), Cond.fieldLink RX10 23 "ClapBankModel" "many" "[I", Cond.methodLink RX10 92 yX10_in, Cond.static yX10_in, Cond.code yX10_in cX10_in 3 (some .boolean), Cond.methodLink RX10 237 yX10_hand, Cond.instanceMethod yX10_hand, Cond.selects RX10 yX10_hand yX10_hand, Cond.code yX10_hand cX10_hand 2 (some .boolean), Cond.fieldLink RX10 221 "ClapBankModel" "theatre" "I"]
def wsX10_ways_r2 : List Cond := [Cond.fieldLink RX10 228 "ClapBankModel" "palms" "I", Cond.fieldLink RX10 231 "ClapBankModel" "actors" "I", Cond.fieldLink RX10 234 "ClapBankModel" "rate" "I", Cond.methodLink RX10 224 yX10_of, Cond.instanceMethod yX10_of, Cond.selects RX10 yX10_of yX10_of, Cond.code yX10_of cX10_of 2 (some .int), Cond.fieldLink RX10 26 "ClapBankModel" "theatres" "[I", Cond.methodLink RX10 415 yX10_findDark, Cond.instanceMethod yX10_findDark, Cond.selects RX10 yX10_findDark yX10_findDark, Cond.code yX10_findDark cX10_findDark 3 none, Cond.fieldLink RX10 73 "ClapBankModel" "unit" "[I", Cond.fieldLink RX10 66 "ClapBankModel" "ahead" "[J", Cond.methodLink RX10 398 yX10_states, Cond.instanceMethod yX10_states, Cond.selects RX10 yX10_states yX10_states, Cond.code yX10_states cX10_states 3 (some .int), Cond.methodLink RX10 401 yX10_goOn, Cond.instanceMethod yX10_goOn, Cond.selects RX10 yX10_goOn yX10_goOn, Cond.code yX10_goOn cX10_goOn 6 none, Cond.methodLink RX10 407 yX10_halvesOf, Cond.instanceMethod yX10_halvesOf]
def wsX10_ways_r3 : List Cond := [Cond.selects RX10 yX10_halvesOf yX10_halvesOf, Cond.code yX10_halvesOf cX10_halvesOf 4 (some .int), Cond.methodLink RX10 84 yX10_has, Cond.static yX10_has, Cond.code yX10_has cX10_has 2 (some .boolean), Cond.methodLink RX10 288 yX10_handsOf, Cond.instanceMethod yX10_handsOf, Cond.selects RX10 yX10_handsOf yX10_handsOf, Cond.code yX10_handsOf cX10_handsOf 2 (some .int), Cond.methodLink RX10 395 yX10_heardOf, Cond.instanceMethod yX10_heardOf, Cond.selects RX10 yX10_heardOf yX10_heardOf, Cond.code yX10_heardOf cX10_heardOf 2 (some .int), Cond.methodLink RX10 410 yX10_after, Cond.instanceMethod yX10_after, Cond.selects RX10 yX10_after yX10_after, Cond.code yX10_after cX10_after 5 (some .int), Cond.methodLink RX10 170 yX10_lesser, Cond.static yX10_lesser, Cond.code yX10_lesser cX10_lesser 2 (some .int), Cond.methodLink RX10 404 yX10_goBack, Cond.instanceMethod yX10_goBack, Cond.selects RX10 yX10_goBack yX10_goBack, Cond.code yX10_goBack cX10_goBack 6 none]
def wsX10_ways : List Cond := .code yX10_ways cX10_ways 3 (some .long) :: ((wsX10_ways_r1 ++ (wsX10_ways_r2 ++ wsX10_ways_r3)) ++ wsX100)
def wsX10_whose_r1 : List Cond := [Cond.fieldLink RX10 80 "ClapBankModel" "code" "I", Cond.fieldLink RX10 389 "ClapBankModel" "minutes" "I", Cond.fieldLink RX10 228 "ClapBankModel" "palms" "I", Cond.fieldLink RX10 70 "ClapBankModel" "behind" "[J", Cond.methodLink RX10 392 yX10_hasDark, Cond.instanceMethod yX10_hasDark, Cond.selects RX10 yX10_hasDark yX10_hasDark, Cond.initialized RX10, Cond.code yX10_hasDark cX10_hasDark 2 (some .boolean), Cond.fieldLink RX10 386 "ClapBankModel" "dark" "I", Cond.fieldLink RX10 32 "ClapBankModel" "darks" "[I", Cond.methodLink RX10 211 yX10_is, Cond.instanceMethod yX10_is, Cond.selects RX10 yX10_is yX10_is, Cond.code yX10_is cX10_is 3 (some .boolean), Cond.fieldLink RX10 23 "ClapBankModel" "many" "[I", Cond.methodLink RX10 92 yX10_in, Cond.static yX10_in, Cond.code yX10_in cX10_in 3 (some .boolean), Cond.methodLink RX10 237 yX10_hand, Cond.instanceMethod yX10_hand, Cond.selects RX10 yX10_hand yX10_hand, Cond.code yX10_hand cX10_hand 2 (some .boolean), Cond.fieldLink RX10 221 "ClapBankModel" "theatre" "I"]
def wsX10_whose_r2 : List Cond := [Cond.fieldLink RX10 231 "ClapBankModel" "actors" "I", Cond.fieldLink RX10 234 "ClapBankModel" "rate" "I", Cond.methodLink RX10 224 yX10_of, Cond.instanceMethod yX10_of, Cond.selects RX10 yX10_of yX10_of, Cond.code yX10_of cX10_of 2 (some .int), Cond.fieldLink RX10 26 "ClapBankModel" "theatres" "[I", Cond.methodLink RX10 415 yX10_findDark, Cond.instanceMethod yX10_findDark, Cond.selects RX10 yX10_findDark yX10_findDark, Cond.code yX10_findDark cX10_findDark 3 none, Cond.fieldLink RX10 73 "ClapBankModel" "unit" "[I", Cond.fieldLink RX10 66 "ClapBankModel" "ahead" "[J", Cond.methodLink RX10 398 yX10_states, Cond.instanceMethod yX10_states, Cond.selects RX10 yX10_states yX10_states, Cond.code yX10_states cX10_states 3 (some .int), Cond.methodLink RX10 401 yX10_goOn, Cond.instanceMethod yX10_goOn, Cond.selects RX10 yX10_goOn yX10_goOn, Cond.code yX10_goOn cX10_goOn 6 none, Cond.methodLink RX10 407 yX10_halvesOf, Cond.instanceMethod yX10_halvesOf, Cond.selects RX10 yX10_halvesOf yX10_halvesOf]
def wsX10_whose_r3 : List Cond := [Cond.code yX10_halvesOf cX10_halvesOf 4 (some .int), Cond.methodLink RX10 84 yX10_has, Cond.static yX10_has, Cond.code yX10_has cX10_has 2 (some .boolean), Cond.methodLink RX10 288 yX10_handsOf, Cond.instanceMethod yX10_handsOf, Cond.selects RX10 yX10_handsOf yX10_handsOf, Cond.code yX10_handsOf cX10_handsOf 2 (some .int), Cond.methodLink RX10 395 yX10_heardOf, Cond.instanceMethod yX10_heardOf, Cond.selects RX10 yX10_heardOf yX10_heardOf, Cond.code yX10_heardOf cX10_heardOf 2 (some .int), Cond.methodLink RX10 410 yX10_after, Cond.instanceMethod yX10_after, Cond.selects RX10 yX10_after yX10_after, Cond.code yX10_after cX10_after 5 (some .int), Cond.methodLink RX10 170 yX10_lesser, Cond.static yX10_lesser, Cond.code yX10_lesser cX10_lesser 2 (some .int), Cond.methodLink RX10 404 yX10_goBack, Cond.instanceMethod yX10_goBack, Cond.selects RX10 yX10_goBack yX10_goBack, Cond.code yX10_goBack cX10_goBack 6 none, Cond.methodLink RX10 418 yX10_mayBe]
def wsX10_whose_r4 : List Cond := [Cond.instanceMethod yX10_mayBe, Cond.selects RX10 yX10_mayBe yX10_mayBe, Cond.code yX10_mayBe cX10_mayBe 5 (some .boolean)]
def wsX10_whose : List Cond := .code yX10_whose cX10_whose 8 (some .int) :: ((wsX10_whose_r1 ++ (wsX10_whose_r2 ++ (wsX10_whose_r3 ++ wsX10_whose_r4))) ++ wsX100)
def wsX10_drawn_r1 : List Cond := [Cond.fieldLink RX10 80 "ClapBankModel" "code" "I", Cond.fieldLink RX10 231 "ClapBankModel" "actors" "I", Cond.fieldLink RX10 421 "ClapBankModel" "seed" "I", Cond.fieldLink RX10 228 "ClapBankModel" "palms" "I", Cond.fieldLink RX10 267 "ClapBankModel" "lives" "I", Cond.fieldLink RX10 258 "ClapBankModel" "chest" "I", Cond.fieldLink RX10 50 "ClapBankModel" "saved" "[I", Cond.methodLink RX10 92 yX10_in, Cond.static yX10_in, Cond.initialized RX10, Cond.code yX10_in cX10_in 3 (some .boolean), Cond.methodLink RX10 237 yX10_hand, Cond.instanceMethod yX10_hand, Cond.selects RX10 yX10_hand yX10_hand, Cond.code yX10_hand cX10_hand 2 (some .boolean), Cond.fieldLink RX10 221 "ClapBankModel" "theatre" "I", Cond.fieldLink RX10 234 "ClapBankModel" "rate" "I", Cond.methodLink RX10 211 yX10_is, Cond.instanceMethod yX10_is, Cond.selects RX10 yX10_is yX10_is, Cond.code yX10_is cX10_is 3 (some .boolean), Cond.fieldLink RX10 23 "ClapBankModel" "many" "[I", Cond.methodLink RX10 224 yX10_of, Cond.instanceMethod yX10_of]
def wsX10_drawn_r2 : List Cond := [Cond.selects RX10 yX10_of yX10_of, Cond.code yX10_of cX10_of 2 (some .int), Cond.fieldLink RX10 26 "ClapBankModel" "theatres" "[I", Cond.methodLink RX10 323 yX10_begin, Cond.instanceMethod yX10_begin, Cond.selects RX10 yX10_begin yX10_begin, Cond.code yX10_begin cX10_begin 2 none, Cond.fieldLink RX10 261 "ClapBankModel" "encores" "I", Cond.fieldLink RX10 264 "ClapBankModel" "nights" "I", Cond.fieldLink RX10 270 "ClapBankModel" "claps" "I", Cond.fieldLink RX10 273 "ClapBankModel" "echoFor" "I", Cond.fieldLink RX10 44 "ClapBankModel" "owes" "[I", Cond.fieldLink RX10 47 "ClapBankModel" "got" "[I", Cond.fieldLink RX10 53 "ClapBankModel" "storms" "[I", Cond.fieldLink RX10 56 "ClapBankModel" "starved" "[I", Cond.methodLink RX10 276 yX10_morning, Cond.instanceMethod yX10_morning, Cond.selects RX10 yX10_morning yX10_morning, Cond.code yX10_morning cX10_morning 2 none, Cond.fieldLink RX10 41 "ClapBankModel" "left" "[I", Cond.fieldLink RX10 279 "ClapBankModel" "hushed" "I", Cond.methodLink RX10 368 yX10_ones, Cond.static yX10_ones, Cond.code yX10_ones cX10_ones 3 (some .int)]
def wsX10_drawn_r3 : List Cond := [Cond.methodLink RX10 84 yX10_has, Cond.static yX10_has, Cond.code yX10_has cX10_has 2 (some .boolean), Cond.methodLink RX10 425 yX10_draw, Cond.instanceMethod yX10_draw, Cond.selects RX10 yX10_draw yX10_draw, Cond.code yX10_draw cX10_draw 2 (some .int), Cond.constant RX10 424 (1103515245), Cond.methodLink RX10 428 yX10_livingOne, Cond.instanceMethod yX10_livingOne, Cond.selects RX10 yX10_livingOne yX10_livingOne, Cond.code yX10_livingOne cX10_livingOne 4 (some .int), Cond.methodLink RX10 288 yX10_handsOf, Cond.instanceMethod yX10_handsOf, Cond.selects RX10 yX10_handsOf yX10_handsOf, Cond.code yX10_handsOf cX10_handsOf 2 (some .int), Cond.methodLink RX10 291 yX10_gets, Cond.instanceMethod yX10_gets, Cond.selects RX10 yX10_gets yX10_gets, Cond.code yX10_gets cX10_gets 3 none, Cond.methodLink RX10 317 yX10_night, Cond.instanceMethod yX10_night, Cond.selects RX10 yX10_night yX10_night, Cond.code yX10_night cX10_night 2 none]
def wsX10_drawn_r4 : List Cond := [Cond.constantLong RX10 300 (100), Cond.fieldLink RX10 302 "ClapBankModel" "capped" "Z", Cond.constant RX10 306 (1000000), Cond.methodLink RX10 297 yX10_eatsNow, Cond.instanceMethod yX10_eatsNow, Cond.selects RX10 yX10_eatsNow yX10_eatsNow, Cond.code yX10_eatsNow cX10_eatsNow 3 (some .boolean), Cond.methodLink RX10 294 yX10_eats, Cond.instanceMethod yX10_eats, Cond.selects RX10 yX10_eats yX10_eats, Cond.code yX10_eats cX10_eats 3 (some .int), Cond.methodLink RX10 282 yX10_hungerOf, Cond.instanceMethod yX10_hungerOf, Cond.selects RX10 yX10_hungerOf yX10_hungerOf, Cond.code yX10_hungerOf cX10_hungerOf 2 (some .int), Cond.methodLink RX10 170 yX10_lesser, Cond.static yX10_lesser, Cond.code yX10_lesser cX10_lesser 2 (some .int)]
def wsX10_drawn : List Cond := .code yX10_drawn cX10_drawn 8 (some .int) :: ((wsX10_drawn_r1 ++ (wsX10_drawn_r2 ++ (wsX10_drawn_r3 ++ wsX10_drawn_r4))) ++ wsX100)
def wsX10_look_r1 : List Cond := [Cond.fieldLink RX10 80 "ClapBankModel" "code" "I", Cond.fieldLink RX10 231 "ClapBankModel" "actors" "I", Cond.methodLink RX10 332 yX10_layState, Cond.instanceMethod yX10_layState, Cond.selects RX10 yX10_layState yX10_layState, Cond.initialized RX10, Cond.code yX10_layState cX10_layState 4 (some .boolean), Cond.methodLink RX10 249 yX10_hasBook, Cond.instanceMethod yX10_hasBook, Cond.selects RX10 yX10_hasBook yX10_hasBook, Cond.code yX10_hasBook cX10_hasBook 2 (some .boolean), Cond.fieldLink RX10 246 "ClapBankModel" "book" "I", Cond.methodLink RX10 211 yX10_is, Cond.instanceMethod yX10_is, Cond.selects RX10 yX10_is yX10_is, Cond.code yX10_is cX10_is 3 (some .boolean), Cond.fieldLink RX10 23 "ClapBankModel" "many" "[I", Cond.methodLink RX10 92 yX10_in, Cond.static yX10_in, Cond.code yX10_in cX10_in 3 (some .boolean), Cond.methodLink RX10 237 yX10_hand, Cond.instanceMethod yX10_hand, Cond.selects RX10 yX10_hand yX10_hand, Cond.code yX10_hand cX10_hand 2 (some .boolean)]
def wsX10_look_r2 : List Cond := [Cond.fieldLink RX10 221 "ClapBankModel" "theatre" "I", Cond.fieldLink RX10 228 "ClapBankModel" "palms" "I", Cond.fieldLink RX10 234 "ClapBankModel" "rate" "I", Cond.methodLink RX10 224 yX10_of, Cond.instanceMethod yX10_of, Cond.selects RX10 yX10_of yX10_of, Cond.code yX10_of cX10_of 2 (some .int), Cond.fieldLink RX10 26 "ClapBankModel" "theatres" "[I", Cond.methodLink RX10 252 yX10_deeds, Cond.instanceMethod yX10_deeds, Cond.selects RX10 yX10_deeds yX10_deeds, Cond.code yX10_deeds cX10_deeds 1 (some .int), Cond.fieldLink RX10 29 "ClapBankModel" "books" "[I", Cond.methodLink RX10 329 yX10_play, Cond.instanceMethod yX10_play, Cond.selects RX10 yX10_play yX10_play, Cond.code yX10_play cX10_play 3 (some .int), Cond.methodLink RX10 323 yX10_begin, Cond.instanceMethod yX10_begin, Cond.selects RX10 yX10_begin yX10_begin, Cond.code yX10_begin cX10_begin 2 none, Cond.fieldLink RX10 258 "ClapBankModel" "chest" "I", Cond.fieldLink RX10 261 "ClapBankModel" "encores" "I", Cond.fieldLink RX10 264 "ClapBankModel" "nights" "I"]
def wsX10_look_r3 : List Cond := [Cond.fieldLink RX10 267 "ClapBankModel" "lives" "I", Cond.fieldLink RX10 270 "ClapBankModel" "claps" "I", Cond.fieldLink RX10 273 "ClapBankModel" "echoFor" "I", Cond.fieldLink RX10 44 "ClapBankModel" "owes" "[I", Cond.fieldLink RX10 47 "ClapBankModel" "got" "[I", Cond.fieldLink RX10 50 "ClapBankModel" "saved" "[I", Cond.fieldLink RX10 53 "ClapBankModel" "storms" "[I", Cond.fieldLink RX10 56 "ClapBankModel" "starved" "[I", Cond.methodLink RX10 276 yX10_morning, Cond.instanceMethod yX10_morning, Cond.selects RX10 yX10_morning yX10_morning, Cond.code yX10_morning cX10_morning 2 none, Cond.fieldLink RX10 41 "ClapBankModel" "left" "[I", Cond.fieldLink RX10 279 "ClapBankModel" "hushed" "I", Cond.methodLink RX10 326 yX10_doesNext, Cond.instanceMethod yX10_doesNext, Cond.selects RX10 yX10_doesNext yX10_doesNext, Cond.code yX10_doesNext cX10_doesNext 2 (some .boolean), Cond.methodLink RX10 320 yX10_does, Cond.instanceMethod yX10_does, Cond.selects RX10 yX10_does yX10_does, Cond.code yX10_does cX10_does 5 (some .boolean), Cond.methodLink RX10 255 yX10_deedOf, Cond.instanceMethod yX10_deedOf]
def wsX10_look_r4 : List Cond := [Cond.selects RX10 yX10_deedOf yX10_deedOf, Cond.code yX10_deedOf cX10_deedOf 3 (some .int), Cond.methodLink RX10 307 yX10_clapsFor, Cond.instanceMethod yX10_clapsFor, Cond.selects RX10 yX10_clapsFor yX10_clapsFor, Cond.code yX10_clapsFor cX10_clapsFor 5 (some .boolean), Cond.methodLink RX10 240 yX10_isPalm, Cond.instanceMethod yX10_isPalm, Cond.selects RX10 yX10_isPalm yX10_isPalm, Cond.code yX10_isPalm cX10_isPalm 2 (some .boolean), Cond.methodLink RX10 285 yX10_isLiving, Cond.instanceMethod yX10_isLiving, Cond.selects RX10 yX10_isLiving yX10_isLiving, Cond.code yX10_isLiving cX10_isLiving 2 (some .boolean), Cond.methodLink RX10 243 yX10_isActor, Cond.instanceMethod yX10_isActor, Cond.selects RX10 yX10_isActor yX10_isActor, Cond.code yX10_isActor cX10_isActor 2 (some .boolean), Cond.methodLink RX10 84 yX10_has, Cond.static yX10_has, Cond.code yX10_has cX10_has 2 (some .boolean), Cond.methodLink RX10 288 yX10_handsOf, Cond.instanceMethod yX10_handsOf, Cond.selects RX10 yX10_handsOf yX10_handsOf]
def wsX10_look_r5 : List Cond := [Cond.code yX10_handsOf cX10_handsOf 2 (some .int), Cond.methodLink RX10 291 yX10_gets, Cond.instanceMethod yX10_gets, Cond.selects RX10 yX10_gets yX10_gets, Cond.code yX10_gets cX10_gets 3 none, Cond.methodLink RX10 310 yX10_gives, Cond.instanceMethod yX10_gives, Cond.selects RX10 yX10_gives yX10_gives, Cond.code yX10_gives cX10_gives 5 (some .boolean), Cond.methodLink RX10 314 yX10_hushes, Cond.instanceMethod yX10_hushes, Cond.selects RX10 yX10_hushes yX10_hushes, Cond.code yX10_hushes cX10_hushes 4 (some .boolean), Cond.methodLink RX10 317 yX10_night, Cond.instanceMethod yX10_night, Cond.selects RX10 yX10_night yX10_night, Cond.code yX10_night cX10_night 2 none, Cond.constantLong RX10 300 (100), Cond.fieldLink RX10 302 "ClapBankModel" "capped" "Z", Cond.constant RX10 306 (1000000), Cond.methodLink RX10 297 yX10_eatsNow, Cond.instanceMethod yX10_eatsNow, Cond.selects RX10 yX10_eatsNow yX10_eatsNow, Cond.code yX10_eatsNow cX10_eatsNow 3 (some .boolean)]
def wsX10_look_r6 : List Cond := [Cond.methodLink RX10 294 yX10_eats, Cond.instanceMethod yX10_eats, Cond.selects RX10 yX10_eats yX10_eats, Cond.code yX10_eats cX10_eats 3 (some .int), Cond.methodLink RX10 282 yX10_hungerOf, Cond.instanceMethod yX10_hungerOf, Cond.selects RX10 yX10_hungerOf yX10_hungerOf, Cond.code yX10_hungerOf cX10_hungerOf 2 (some .int), Cond.methodLink RX10 170 yX10_lesser, Cond.static yX10_lesser, Cond.code yX10_lesser cX10_lesser 2 (some .int), Cond.methodLink RX10 434 yX10_tip, Cond.instanceMethod yX10_tip, Cond.selects RX10 yX10_tip yX10_tip, Cond.code yX10_tip cX10_tip 3 (some .int), Cond.methodLink RX10 431 yX10_eatsBy, Cond.instanceMethod yX10_eatsBy, Cond.selects RX10 yX10_eatsBy yX10_eatsBy, Cond.code yX10_eatsBy cX10_eatsBy 5 (some .boolean), Cond.methodLink RX10 437 yX10_mostOwing, Cond.instanceMethod yX10_mostOwing, Cond.selects RX10 yX10_mostOwing yX10_mostOwing, Cond.code yX10_mostOwing cX10_mostOwing 6 (some .int), Cond.methodLink RX10 338 yX10_greater]
def wsX10_look_r7 : List Cond := [Cond.static yX10_greater, Cond.code yX10_greater cX10_greater 2 (some .int), Cond.methodLink RX10 440 yX10_idol, Cond.instanceMethod yX10_idol, Cond.selects RX10 yX10_idol yX10_idol, Cond.code yX10_idol cX10_idol 6 (some .int), Cond.methodLink RX10 443 yX10_dear, Cond.instanceMethod yX10_dear, Cond.selects RX10 yX10_dear yX10_dear, Cond.code yX10_dear cX10_dear 3 (some .int)]
def wsX10_look : List Cond := .code yX10_look cX10_look 5 (some .int) :: ((wsX10_look_r1 ++ (wsX10_look_r2 ++ (wsX10_look_r3 ++ (wsX10_look_r4 ++ (wsX10_look_r5 ++ (wsX10_look_r6 ++ wsX10_look_r7)))))) ++ wsX100)
def wsX10_silence_r1 : List Cond := [Cond.fieldLink RX10 80 "ClapBankModel" "code" "I", Cond.fieldLink RX10 228 "ClapBankModel" "palms" "I", Cond.methodLink RX10 249 yX10_hasBook, Cond.instanceMethod yX10_hasBook, Cond.selects RX10 yX10_hasBook yX10_hasBook, Cond.initialized RX10, Cond.code yX10_hasBook cX10_hasBook 2 (some .boolean), Cond.fieldLink RX10 246 "ClapBankModel" "book" "I", Cond.methodLink RX10 211 yX10_is, Cond.instanceMethod yX10_is, Cond.selects RX10 yX10_is yX10_is, Cond.code yX10_is cX10_is 3 (some .boolean), Cond.fieldLink RX10 23 "ClapBankModel" "many" "[I", Cond.methodLink RX10 92 yX10_in, Cond.static yX10_in, Cond.code yX10_in cX10_in 3 (some .boolean), Cond.methodLink RX10 237 yX10_hand, Cond.instanceMethod yX10_hand, Cond.selects RX10 yX10_hand yX10_hand, Cond.code yX10_hand cX10_hand 2 (some .boolean), Cond.fieldLink RX10 221 "ClapBankModel" "theatre" "I", Cond.fieldLink RX10 231 "ClapBankModel" "actors" "I", Cond.fieldLink RX10 234 "ClapBankModel" "rate" "I", Cond.methodLink RX10 224 yX10_of]
def wsX10_silence_r2 : List Cond := [Cond.instanceMethod yX10_of, Cond.selects RX10 yX10_of yX10_of, Cond.code yX10_of cX10_of 2 (some .int), Cond.fieldLink RX10 26 "ClapBankModel" "theatres" "[I", Cond.methodLink RX10 252 yX10_deeds, Cond.instanceMethod yX10_deeds, Cond.selects RX10 yX10_deeds yX10_deeds, Cond.code yX10_deeds cX10_deeds 1 (some .int), Cond.fieldLink RX10 29 "ClapBankModel" "books" "[I", Cond.methodLink RX10 329 yX10_play, Cond.instanceMethod yX10_play, Cond.selects RX10 yX10_play yX10_play, Cond.code yX10_play cX10_play 3 (some .int), Cond.methodLink RX10 323 yX10_begin, Cond.instanceMethod yX10_begin, Cond.selects RX10 yX10_begin yX10_begin, Cond.code yX10_begin cX10_begin 2 none, Cond.fieldLink RX10 258 "ClapBankModel" "chest" "I", Cond.fieldLink RX10 261 "ClapBankModel" "encores" "I", Cond.fieldLink RX10 264 "ClapBankModel" "nights" "I", Cond.fieldLink RX10 267 "ClapBankModel" "lives" "I", Cond.fieldLink RX10 270 "ClapBankModel" "claps" "I", Cond.fieldLink RX10 273 "ClapBankModel" "echoFor" "I", Cond.fieldLink RX10 44 "ClapBankModel" "owes" "[I"]
def wsX10_silence_r3 : List Cond := [Cond.fieldLink RX10 47 "ClapBankModel" "got" "[I", Cond.fieldLink RX10 50 "ClapBankModel" "saved" "[I", Cond.fieldLink RX10 53 "ClapBankModel" "storms" "[I", Cond.fieldLink RX10 56 "ClapBankModel" "starved" "[I", Cond.methodLink RX10 276 yX10_morning, Cond.instanceMethod yX10_morning, Cond.selects RX10 yX10_morning yX10_morning, Cond.code yX10_morning cX10_morning 2 none, Cond.fieldLink RX10 41 "ClapBankModel" "left" "[I", Cond.fieldLink RX10 279 "ClapBankModel" "hushed" "I", Cond.methodLink RX10 326 yX10_doesNext, Cond.instanceMethod yX10_doesNext, Cond.selects RX10 yX10_doesNext yX10_doesNext, Cond.code yX10_doesNext cX10_doesNext 2 (some .boolean), Cond.methodLink RX10 320 yX10_does, Cond.instanceMethod yX10_does, Cond.selects RX10 yX10_does yX10_does, Cond.code yX10_does cX10_does 5 (some .boolean), Cond.methodLink RX10 255 yX10_deedOf, Cond.instanceMethod yX10_deedOf, Cond.selects RX10 yX10_deedOf yX10_deedOf, Cond.code yX10_deedOf cX10_deedOf 3 (some .int), Cond.methodLink RX10 307 yX10_clapsFor, Cond.instanceMethod yX10_clapsFor]
def wsX10_silence_r4 : List Cond := [Cond.selects RX10 yX10_clapsFor yX10_clapsFor, Cond.code yX10_clapsFor cX10_clapsFor 5 (some .boolean), Cond.methodLink RX10 240 yX10_isPalm, Cond.instanceMethod yX10_isPalm, Cond.selects RX10 yX10_isPalm yX10_isPalm, Cond.code yX10_isPalm cX10_isPalm 2 (some .boolean), Cond.methodLink RX10 285 yX10_isLiving, Cond.instanceMethod yX10_isLiving, Cond.selects RX10 yX10_isLiving yX10_isLiving, Cond.code yX10_isLiving cX10_isLiving 2 (some .boolean), Cond.methodLink RX10 243 yX10_isActor, Cond.instanceMethod yX10_isActor, Cond.selects RX10 yX10_isActor yX10_isActor, Cond.code yX10_isActor cX10_isActor 2 (some .boolean), Cond.methodLink RX10 84 yX10_has, Cond.static yX10_has, Cond.code yX10_has cX10_has 2 (some .boolean), Cond.methodLink RX10 288 yX10_handsOf, Cond.instanceMethod yX10_handsOf, Cond.selects RX10 yX10_handsOf yX10_handsOf, Cond.code yX10_handsOf cX10_handsOf 2 (some .int), Cond.methodLink RX10 291 yX10_gets, Cond.instanceMethod yX10_gets, Cond.selects RX10 yX10_gets yX10_gets]
def wsX10_silence_r5 : List Cond := [Cond.code yX10_gets cX10_gets 3 none, Cond.methodLink RX10 310 yX10_gives, Cond.instanceMethod yX10_gives, Cond.selects RX10 yX10_gives yX10_gives, Cond.code yX10_gives cX10_gives 5 (some .boolean), Cond.methodLink RX10 314 yX10_hushes, Cond.instanceMethod yX10_hushes, Cond.selects RX10 yX10_hushes yX10_hushes, Cond.code yX10_hushes cX10_hushes 4 (some .boolean), Cond.methodLink RX10 317 yX10_night, Cond.instanceMethod yX10_night, Cond.selects RX10 yX10_night yX10_night, Cond.code yX10_night cX10_night 2 none, Cond.constantLong RX10 300 (100), Cond.fieldLink RX10 302 "ClapBankModel" "capped" "Z", Cond.constant RX10 306 (1000000), Cond.methodLink RX10 297 yX10_eatsNow, Cond.instanceMethod yX10_eatsNow, Cond.selects RX10 yX10_eatsNow yX10_eatsNow, Cond.code yX10_eatsNow cX10_eatsNow 3 (some .boolean), Cond.methodLink RX10 294 yX10_eats, Cond.instanceMethod yX10_eats, Cond.selects RX10 yX10_eats yX10_eats, Cond.code yX10_eats cX10_eats 3 (some .int)]
def wsX10_silence_r6 : List Cond := [Cond.methodLink RX10 282 yX10_hungerOf, Cond.instanceMethod yX10_hungerOf, Cond.selects RX10 yX10_hungerOf yX10_hungerOf, Cond.code yX10_hungerOf cX10_hungerOf 2 (some .int), Cond.methodLink RX10 170 yX10_lesser, Cond.static yX10_lesser, Cond.code yX10_lesser cX10_lesser 2 (some .int), Cond.methodLink RX10 449 yX10_starvedWithout, Cond.instanceMethod yX10_starvedWithout, Cond.selects RX10 yX10_starvedWithout yX10_starvedWithout, Cond.code yX10_starvedWithout cX10_starvedWithout 5 (some .int), Cond.methodLink RX10 446 yX10_names, Cond.instanceMethod yX10_names, Cond.selects RX10 yX10_names yX10_names, Cond.code yX10_names cX10_names 4 (some .boolean), Cond.methodLink RX10 368 yX10_ones, Cond.static yX10_ones, Cond.code yX10_ones cX10_ones 3 (some .int), Cond.methodLink RX10 338 yX10_greater, Cond.static yX10_greater, Cond.code yX10_greater cX10_greater 2 (some .int)]
def wsX10_silence : List Cond := .code yX10_silence cX10_silence 9 (some .int) :: ((wsX10_silence_r1 ++ (wsX10_silence_r2 ++ (wsX10_silence_r3 ++ (wsX10_silence_r4 ++ (wsX10_silence_r5 ++ wsX10_silence_r6))))) ++ wsX100)
def wsX10_count : List Cond := .code yX10_count cX10_count 2 (some .int) :: ([.fieldLink RX10 80 "ClapBankModel" "code" "I", .fieldLink RX10 23 "ClapBankModel" "many" "[I", .methodLink RX10 92 yX10_in, .static yX10_in, .initialized RX10, .code yX10_in cX10_in 3 (some .boolean)] ++ wsX100)
def wsX10_image : List Cond := .code yX10_image cX10_image 2 (some .boolean) :: ([.fieldLink RX10 80 "ClapBankModel" "code" "I", .fieldLink RX10 76 "ClapBankModel" "kept" "[Z", .methodLink RX10 92 yX10_in, .static yX10_in, .initialized RX10, .code yX10_in cX10_in 3 (some .boolean), .methodLink RX10 452 yX10_copyAll, .instanceMethod yX10_copyAll, .selects RX10 yX10_copyAll yX10_copyAll, .code yX10_copyAll cX10_copyAll 4 none, .fieldLink RX10 7 "ClapBankModel" "tape" "[B", .fieldLink RX10 13 "ClapBankModel" "size" "[I", .fieldLink RX10 17 "ClapBankModel" "fault" "[I", .fieldLink RX10 20 "ClapBankModel" "faultPlace" "[I", .fieldLink RX10 23 "ClapBankModel" "many" "[I", .fieldLink RX10 26 "ClapBankModel" "theatres" "[I", .fieldLink RX10 29 "ClapBankModel" "books" "[I", .fieldLink RX10 32 "ClapBankModel" "darks" "[I", .methodLink RX10 88 yX10_copyRow, .static yX10_copyRow, .code yX10_copyRow cX10_copyRow 5 none] ++ wsX100)
def wsX10_again : List Cond := .code yX10_again cX10_again 2 (some .boolean) :: ([.fieldLink RX10 80 "ClapBankModel" "code" "I", .fieldLink RX10 76 "ClapBankModel" "kept" "[Z", .methodLink RX10 92 yX10_in, .static yX10_in, .initialized RX10, .code yX10_in cX10_in 3 (some .boolean), .methodLink RX10 452 yX10_copyAll, .instanceMethod yX10_copyAll, .selects RX10 yX10_copyAll yX10_copyAll, .code yX10_copyAll cX10_copyAll 4 none, .fieldLink RX10 7 "ClapBankModel" "tape" "[B", .fieldLink RX10 13 "ClapBankModel" "size" "[I", .fieldLink RX10 17 "ClapBankModel" "fault" "[I", .fieldLink RX10 20 "ClapBankModel" "faultPlace" "[I", .fieldLink RX10 23 "ClapBankModel" "many" "[I", .fieldLink RX10 26 "ClapBankModel" "theatres" "[I", .fieldLink RX10 29 "ClapBankModel" "books" "[I", .fieldLink RX10 32 "ClapBankModel" "darks" "[I", .methodLink RX10 88 yX10_copyRow, .static yX10_copyRow, .code yX10_copyRow cX10_copyRow 5 none] ++ wsX100)
theorem dX10_in_0 : decode cX10_in 0 = .ok (.iload_n 0, 1) := by decide +kernel
theorem dX10_in_1 : decode cX10_in 1 = .ok (.iload_n 1, 1) := by decide +kernel
theorem dX10_in_2 : decode cX10_in 2 = .ok (.if_icmp .lt 12, 3) := by decide +kernel
theorem dX10_in_5 : decode cX10_in 5 = .ok (.iload_n 0, 1) := by decide +kernel
theorem dX10_in_6 : decode cX10_in 6 = .ok (.iload_n 2, 1) := by decide +kernel
theorem dX10_in_7 : decode cX10_in 7 = .ok (.if_icmp .gt 7, 3) := by decide +kernel
theorem dX10_in_10 : decode cX10_in 10 = .ok (.iconst 1, 1) := by decide +kernel
theorem dX10_in_11 : decode cX10_in 11 = .ok (.goto 4, 3) := by decide +kernel
theorem dX10_in_14 : decode cX10_in 14 = .ok (.iconst 0, 1) := by decide +kernel
theorem dX10_in_15 : decode cX10_in 15 = .ok (.ireturn, 1) := by decide +kernel
theorem dX10_copyRow_0 : decode cX10_copyRow 0 = .ok (.iconst 0, 1) := by decide +kernel
theorem dX10_copyRow_1 : decode cX10_copyRow 1 = .ok (.istore 4, 2) := by decide +kernel
theorem dX10_copyRow_3 : decode cX10_copyRow 3 = .ok (.iload 4, 2) := by decide +kernel
theorem dX10_copyRow_5 : decode cX10_copyRow 5 = .ok (.iload_n 1, 1) := by decide +kernel
theorem dX10_copyRow_6 : decode cX10_copyRow 6 = .ok (.if_icmp .ge 25, 3) := by decide +kernel
theorem dX10_copyRow_9 : decode cX10_copyRow 9 = .ok (.aload_n 0, 1) := by decide +kernel
theorem dX10_copyRow_10 : decode cX10_copyRow 10 = .ok (.iload_n 1, 1) := by decide +kernel
theorem dX10_copyRow_11 : decode cX10_copyRow 11 = .ok (.iload_n 3, 1) := by decide +kernel
theorem dX10_copyRow_12 : decode cX10_copyRow 12 = .ok (.imul, 1) := by decide +kernel
theorem dX10_copyRow_13 : decode cX10_copyRow 13 = .ok (.iload 4, 2) := by decide +kernel
theorem dX10_copyRow_15 : decode cX10_copyRow 15 = .ok (.iadd, 1) := by decide +kernel
theorem dX10_copyRow_16 : decode cX10_copyRow 16 = .ok (.aload_n 0, 1) := by decide +kernel
theorem dX10_copyRow_17 : decode cX10_copyRow 17 = .ok (.iload_n 1, 1) := by decide +kernel
theorem dX10_copyRow_18 : decode cX10_copyRow 18 = .ok (.iload_n 2, 1) := by decide +kernel
theorem dX10_copyRow_19 : decode cX10_copyRow 19 = .ok (.imul, 1) := by decide +kernel
theorem dX10_copyRow_20 : decode cX10_copyRow 20 = .ok (.iload 4, 2) := by decide +kernel
theorem dX10_copyRow_22 : decode cX10_copyRow 22 = .ok (.iadd, 1) := by decide +kernel
theorem dX10_copyRow_23 : decode cX10_copyRow 23 = .ok (.iaload, 1) := by decide +kernel
theorem dX10_copyRow_24 : decode cX10_copyRow 24 = .ok (.iastore, 1) := by decide +kernel
theorem dX10_copyRow_25 : decode cX10_copyRow 25 = .ok (.iinc 4 1, 3) := by decide +kernel
theorem dX10_copyRow_28 : decode cX10_copyRow 28 = .ok (.goto (-25), 3) := by decide +kernel
theorem dX10_copyRow_31 : decode cX10_copyRow 31 = .ok (.return_, 1) := by decide +kernel
set_option maxRecDepth 20000 in
theorem ggX10_copyAll_X10_copyRow : GoodIn wsX10_copyAll wsX10_copyRow := goodIn_r _ [12] (by decide +kernel) (by decide +kernel)
set_option maxRecDepth 20000 in
theorem gX10_copyAll_X10_copyRow : GoodIn wsX10_copyAll (va_wsS RX10 88 yX10_copyRow wsX10_copyRow) := goodIn_app (goodIn_of _ (by decide +kernel)) ggX10_copyAll_X10_copyRow
theorem dX10_copyAll_0 : decode cX10_copyAll 0 = .ok (.iconst 0, 1) := by decide +kernel
theorem dX10_copyAll_1 : decode cX10_copyAll 1 = .ok (.istore_n 3, 1) := by decide +kernel
theorem dX10_copyAll_2 : decode cX10_copyAll 2 = .ok (.iload_n 3, 1) := by decide +kernel
theorem dX10_copyAll_3 : decode cX10_copyAll 3 = .ok (.sipush 600, 3) := by decide +kernel
theorem dX10_copyAll_6 : decode cX10_copyAll 6 = .ok (.if_icmp .ge 33, 3) := by decide +kernel
theorem dX10_copyAll_9 : decode cX10_copyAll 9 = .ok (.aload_n 0, 1) := by decide +kernel
theorem dX10_copyAll_10 : decode cX10_copyAll 10 = .ok (.getfield 7, 3) := by decide +kernel
theorem dX10_copyAll_13 : decode cX10_copyAll 13 = .ok (.sipush 600, 3) := by decide +kernel
theorem dX10_copyAll_16 : decode cX10_copyAll 16 = .ok (.iload_n 2, 1) := by decide +kernel
theorem dX10_copyAll_17 : decode cX10_copyAll 17 = .ok (.imul, 1) := by decide +kernel
theorem dX10_copyAll_18 : decode cX10_copyAll 18 = .ok (.iload_n 3, 1) := by decide +kernel
theorem dX10_copyAll_19 : decode cX10_copyAll 19 = .ok (.iadd, 1) := by decide +kernel
theorem dX10_copyAll_20 : decode cX10_copyAll 20 = .ok (.aload_n 0, 1) := by decide +kernel
theorem dX10_copyAll_21 : decode cX10_copyAll 21 = .ok (.getfield 7, 3) := by decide +kernel
theorem dX10_copyAll_24 : decode cX10_copyAll 24 = .ok (.sipush 600, 3) := by decide +kernel
theorem dX10_copyAll_27 : decode cX10_copyAll 27 = .ok (.iload_n 1, 1) := by decide +kernel
theorem dX10_copyAll_28 : decode cX10_copyAll 28 = .ok (.imul, 1) := by decide +kernel
theorem dX10_copyAll_29 : decode cX10_copyAll 29 = .ok (.iload_n 3, 1) := by decide +kernel
theorem dX10_copyAll_30 : decode cX10_copyAll 30 = .ok (.iadd, 1) := by decide +kernel
theorem dX10_copyAll_31 : decode cX10_copyAll 31 = .ok (.baload, 1) := by decide +kernel
theorem dX10_copyAll_32 : decode cX10_copyAll 32 = .ok (.bastore, 1) := by decide +kernel
theorem dX10_copyAll_33 : decode cX10_copyAll 33 = .ok (.iinc 3 1, 3) := by decide +kernel
theorem dX10_copyAll_36 : decode cX10_copyAll 36 = .ok (.goto (-34), 3) := by decide +kernel
theorem dX10_copyAll_39 : decode cX10_copyAll 39 = .ok (.aload_n 0, 1) := by decide +kernel
theorem dX10_copyAll_40 : decode cX10_copyAll 40 = .ok (.getfield 13, 3) := by decide +kernel
theorem dX10_copyAll_43 : decode cX10_copyAll 43 = .ok (.iconst 1, 1) := by decide +kernel
theorem dX10_copyAll_44 : decode cX10_copyAll 44 = .ok (.iload_n 1, 1) := by decide +kernel
theorem dX10_copyAll_45 : decode cX10_copyAll 45 = .ok (.iload_n 2, 1) := by decide +kernel
theorem dX10_copyAll_46 : decode cX10_copyAll 46 = .ok (.invokestatic 88, 3) := by decide +kernel
theorem dX10_copyAll_49 : decode cX10_copyAll 49 = .ok (.aload_n 0, 1) := by decide +kernel
theorem dX10_copyAll_50 : decode cX10_copyAll 50 = .ok (.getfield 17, 3) := by decide +kernel
theorem dX10_copyAll_53 : decode cX10_copyAll 53 = .ok (.iconst 1, 1) := by decide +kernel
theorem dX10_copyAll_54 : decode cX10_copyAll 54 = .ok (.iload_n 1, 1) := by decide +kernel
theorem dX10_copyAll_55 : decode cX10_copyAll 55 = .ok (.iload_n 2, 1) := by decide +kernel
theorem dX10_copyAll_56 : decode cX10_copyAll 56 = .ok (.invokestatic 88, 3) := by decide +kernel
theorem dX10_copyAll_59 : decode cX10_copyAll 59 = .ok (.aload_n 0, 1) := by decide +kernel
theorem dX10_copyAll_60 : decode cX10_copyAll 60 = .ok (.getfield 20, 3) := by decide +kernel
theorem dX10_copyAll_63 : decode cX10_copyAll 63 = .ok (.iconst 1, 1) := by decide +kernel
theorem dX10_copyAll_64 : decode cX10_copyAll 64 = .ok (.iload_n 1, 1) := by decide +kernel
theorem dX10_copyAll_65 : decode cX10_copyAll 65 = .ok (.iload_n 2, 1) := by decide +kernel
theorem dX10_copyAll_66 : decode cX10_copyAll 66 = .ok (.invokestatic 88, 3) := by decide +kernel
theorem dX10_copyAll_69 : decode cX10_copyAll 69 = .ok (.aload_n 0, 1) := by decide +kernel
theorem dX10_copyAll_70 : decode cX10_copyAll 70 = .ok (.getfield 23, 3) := by decide +kernel
theorem dX10_copyAll_73 : decode cX10_copyAll 73 = .ok (.iconst 3, 1) := by decide +kernel
theorem dX10_copyAll_74 : decode cX10_copyAll 74 = .ok (.iload_n 1, 1) := by decide +kernel
theorem dX10_copyAll_75 : decode cX10_copyAll 75 = .ok (.iload_n 2, 1) := by decide +kernel
theorem dX10_copyAll_76 : decode cX10_copyAll 76 = .ok (.invokestatic 88, 3) := by decide +kernel
theorem dX10_copyAll_79 : decode cX10_copyAll 79 = .ok (.aload_n 0, 1) := by decide +kernel
theorem dX10_copyAll_80 : decode cX10_copyAll 80 = .ok (.getfield 26, 3) := by decide +kernel
theorem dX10_copyAll_83 : decode cX10_copyAll 83 = .ok (.bipush 72, 2) := by decide +kernel
theorem dX10_copyAll_85 : decode cX10_copyAll 85 = .ok (.iload_n 1, 1) := by decide +kernel
theorem dX10_copyAll_86 : decode cX10_copyAll 86 = .ok (.iload_n 2, 1) := by decide +kernel
theorem dX10_copyAll_87 : decode cX10_copyAll 87 = .ok (.invokestatic 88, 3) := by decide +kernel
theorem dX10_copyAll_90 : decode cX10_copyAll 90 = .ok (.aload_n 0, 1) := by decide +kernel
theorem dX10_copyAll_91 : decode cX10_copyAll 91 = .ok (.getfield 29, 3) := by decide +kernel
theorem dX10_copyAll_94 : decode cX10_copyAll 94 = .ok (.sipush 242, 3) := by decide +kernel
theorem dX10_copyAll_97 : decode cX10_copyAll 97 = .ok (.iload_n 1, 1) := by decide +kernel
theorem dX10_copyAll_98 : decode cX10_copyAll 98 = .ok (.iload_n 2, 1) := by decide +kernel
theorem dX10_copyAll_99 : decode cX10_copyAll 99 = .ok (.invokestatic 88, 3) := by decide +kernel
theorem dX10_copyAll_102 : decode cX10_copyAll 102 = .ok (.aload_n 0, 1) := by decide +kernel
theorem dX10_copyAll_103 : decode cX10_copyAll 103 = .ok (.getfield 32, 3) := by decide +kernel
theorem dX10_copyAll_106 : decode cX10_copyAll 106 = .ok (.bipush 14, 2) := by decide +kernel
theorem dX10_copyAll_108 : decode cX10_copyAll 108 = .ok (.iload_n 1, 1) := by decide +kernel
theorem dX10_copyAll_109 : decode cX10_copyAll 109 = .ok (.iload_n 2, 1) := by decide +kernel
theorem dX10_copyAll_110 : decode cX10_copyAll 110 = .ok (.invokestatic 88, 3) := by decide +kernel
theorem dX10_copyAll_113 : decode cX10_copyAll 113 = .ok (.return_, 1) := by decide +kernel
set_option maxRecDepth 20000 in
theorem ggX10_is_X10_in : GoodIn wsX10_is wsX10_in := goodIn_r _ [5] (by decide +kernel) (by decide +kernel)
set_option maxRecDepth 20000 in
theorem gX10_is_X10_in : GoodIn wsX10_is (va_wsS RX10 92 yX10_in wsX10_in) := goodIn_app (goodIn_of _ (by decide +kernel)) ggX10_is_X10_in
theorem dX10_is_0 : decode cX10_is 0 = .ok (.iload_n 2, 1) := by decide +kernel
theorem dX10_is_1 : decode cX10_is 1 = .ok (.iconst 0, 1) := by decide +kernel
theorem dX10_is_2 : decode cX10_is 2 = .ok (.aload_n 0, 1) := by decide +kernel
theorem dX10_is_3 : decode cX10_is 3 = .ok (.getfield 23, 3) := by decide +kernel
theorem dX10_is_6 : decode cX10_is 6 = .ok (.iload_n 1, 1) := by decide +kernel
theorem dX10_is_7 : decode cX10_is 7 = .ok (.iaload, 1) := by decide +kernel
theorem dX10_is_8 : decode cX10_is 8 = .ok (.iconst 1, 1) := by decide +kernel
theorem dX10_is_9 : decode cX10_is 9 = .ok (.isub, 1) := by decide +kernel
theorem dX10_is_10 : decode cX10_is 10 = .ok (.invokestatic 92, 3) := by decide +kernel
theorem dX10_is_13 : decode cX10_is 13 = .ok (.ireturn, 1) := by decide +kernel
set_option maxRecDepth 20000 in
theorem ggX10_feed_X10_four : GoodIn wsX10_feed wsX10_four := goodIn_r _ [7, 8, 2, 9, 10, 11, 12, 13, 14, 15, 16, 17, 18, 19, 20, 21, 22, 23, 24, 25, 26, 27, 28, 29, 30, 31, 32, 33, 34, 35, 36, 37, 38, 39, 40, 41, 42, 43, 44, 45, 46, 47, 48, 49, 50, 51, 52, 53, 54, 55, 56, 57, 58] (by decide +kernel) (by decide +kernel)
set_option maxRecDepth 20000 in
theorem gX10_feed_X10_four : GoodIn wsX10_feed (wsV RX10 96 RX10 yX10_four wsX10_four) := goodIn_app (goodIn_of _ (by decide +kernel)) ggX10_feed_X10_four
theorem dX10_feed_0 : decode cX10_feed 0 = .ok (.aload_n 0, 1) := by decide +kernel
theorem dX10_feed_1 : decode cX10_feed 1 = .ok (.iconst 0, 1) := by decide +kernel
theorem dX10_feed_2 : decode cX10_feed 2 = .ok (.putfield 80, 3) := by decide +kernel
theorem dX10_feed_5 : decode cX10_feed 5 = .ok (.aload_n 0, 1) := by decide +kernel
theorem dX10_feed_6 : decode cX10_feed 6 = .ok (.getfield 13, 3) := by decide +kernel
theorem dX10_feed_9 : decode cX10_feed 9 = .ok (.iconst 0, 1) := by decide +kernel
theorem dX10_feed_10 : decode cX10_feed 10 = .ok (.iaload, 1) := by decide +kernel
theorem dX10_feed_11 : decode cX10_feed 11 = .ok (.bipush 20, 2) := by decide +kernel
theorem dX10_feed_13 : decode cX10_feed 13 = .ok (.iadd, 1) := by decide +kernel
theorem dX10_feed_14 : decode cX10_feed 14 = .ok (.sipush 600, 3) := by decide +kernel
theorem dX10_feed_17 : decode cX10_feed 17 = .ok (.if_icmp .le 5, 3) := by decide +kernel
theorem dX10_feed_22 : decode cX10_feed 22 = .ok (.aload_n 0, 1) := by decide +kernel
theorem dX10_feed_23 : decode cX10_feed 23 = .ok (.iload_n 1, 1) := by decide +kernel
theorem dX10_feed_24 : decode cX10_feed 24 = .ok (.invokevirtual 96, 3) := by decide +kernel
theorem dX10_feed_27 : decode cX10_feed 27 = .ok (.aload_n 0, 1) := by decide +kernel
theorem dX10_feed_28 : decode cX10_feed 28 = .ok (.iload_n 2, 1) := by decide +kernel
theorem dX10_feed_29 : decode cX10_feed 29 = .ok (.invokevirtual 96, 3) := by decide +kernel
theorem dX10_feed_32 : decode cX10_feed 32 = .ok (.aload_n 0, 1) := by decide +kernel
theorem dX10_feed_33 : decode cX10_feed 33 = .ok (.iload_n 3, 1) := by decide +kernel
theorem dX10_feed_34 : decode cX10_feed 34 = .ok (.invokevirtual 96, 3) := by decide +kernel
theorem dX10_feed_37 : decode cX10_feed 37 = .ok (.aload_n 0, 1) := by decide +kernel
theorem dX10_feed_38 : decode cX10_feed 38 = .ok (.iload 4, 2) := by decide +kernel
theorem dX10_feed_40 : decode cX10_feed 40 = .ok (.invokevirtual 96, 3) := by decide +kernel
theorem dX10_feed_43 : decode cX10_feed 43 = .ok (.aload_n 0, 1) := by decide +kernel
theorem dX10_feed_44 : decode cX10_feed 44 = .ok (.iload 5, 2) := by decide +kernel
theorem dX10_feed_46 : decode cX10_feed 46 = .ok (.invokevirtual 96, 3) := by decide +kernel
theorem dX10_feed_49 : decode cX10_feed 49 = .ok (.aload_n 0, 1) := by decide +kernel
theorem dX10_feed_50 : decode cX10_feed 50 = .ok (.getfield 13, 3) := by decide +kernel
theorem dX10_feed_53 : decode cX10_feed 53 = .ok (.iconst 0, 1) := by decide +kernel
theorem dX10_feed_54 : decode cX10_feed 54 = .ok (.iaload, 1) := by decide +kernel
theorem dX10_feed_55 : decode cX10_feed 55 = .ok (.ireturn, 1) := by decide +kernel
theorem dX10_four_0 : decode cX10_four 0 = .ok (.bipush 24, 2) := by decide +kernel
theorem dX10_four_2 : decode cX10_four 2 = .ok (.istore_n 2, 1) := by decide +kernel
theorem dX10_four_3 : decode cX10_four 3 = .ok (.iload_n 2, 1) := by decide +kernel
theorem dX10_four_4 : decode cX10_four 4 = .ok (.ifCond .lt 34, 3) := by decide +kernel
theorem dX10_four_7 : decode cX10_four 7 = .ok (.aload_n 0, 1) := by decide +kernel
theorem dX10_four_8 : decode cX10_four 8 = .ok (.getfield 7, 3) := by decide +kernel
theorem dX10_four_11 : decode cX10_four 11 = .ok (.aload_n 0, 1) := by decide +kernel
theorem dX10_four_12 : decode cX10_four 12 = .ok (.getfield 13, 3) := by decide +kernel
theorem dX10_four_15 : decode cX10_four 15 = .ok (.iconst 0, 1) := by decide +kernel
theorem dX10_four_16 : decode cX10_four 16 = .ok (.iaload, 1) := by decide +kernel
theorem dX10_four_17 : decode cX10_four 17 = .ok (.iload_n 1, 1) := by decide +kernel
theorem dX10_four_18 : decode cX10_four 18 = .ok (.iload_n 2, 1) := by decide +kernel
theorem dX10_four_19 : decode cX10_four 19 = .ok (.ishr, 1) := by decide +kernel
theorem dX10_four_20 : decode cX10_four 20 = .ok (.i2b, 1) := by decide +kernel
theorem dX10_four_21 : decode cX10_four 21 = .ok (.bastore, 1) := by decide +kernel
theorem dX10_four_22 : decode cX10_four 22 = .ok (.aload_n 0, 1) := by decide +kernel
theorem dX10_four_23 : decode cX10_four 23 = .ok (.getfield 13, 3) := by decide +kernel
theorem dX10_four_26 : decode cX10_four 26 = .ok (.iconst 0, 1) := by decide +kernel
theorem dX10_four_27 : decode cX10_four 27 = .ok (.dup2, 1) := by decide +kernel
theorem dX10_four_28 : decode cX10_four 28 = .ok (.iaload, 1) := by decide +kernel
theorem dX10_four_29 : decode cX10_four 29 = .ok (.iconst 1, 1) := by decide +kernel
theorem dX10_four_30 : decode cX10_four 30 = .ok (.iadd, 1) := by decide +kernel
theorem dX10_four_31 : decode cX10_four 31 = .ok (.iastore, 1) := by decide +kernel
theorem dX10_four_32 : decode cX10_four 32 = .ok (.iinc 2 (-8), 3) := by decide +kernel
theorem dX10_four_35 : decode cX10_four 35 = .ok (.goto (-32), 3) := by decide +kernel
theorem dX10_four_38 : decode cX10_four 38 = .ok (.return_, 1) := by decide +kernel
set_option maxRecDepth 20000 in
theorem ggX10_end_X10_in : GoodIn wsX10_end wsX10_in := goodIn_r _ [6] (by decide +kernel) (by decide +kernel)
set_option maxRecDepth 20000 in
theorem gX10_end_X10_in : GoodIn wsX10_end (va_wsS RX10 92 yX10_in wsX10_in) := goodIn_app (goodIn_of _ (by decide +kernel)) ggX10_end_X10_in
theorem dX10_end_0 : decode cX10_end 0 = .ok (.aload_n 0, 1) := by decide +kernel
theorem dX10_end_1 : decode cX10_end 1 = .ok (.iconst 0, 1) := by decide +kernel
theorem dX10_end_2 : decode cX10_end 2 = .ok (.putfield 80, 3) := by decide +kernel
theorem dX10_end_5 : decode cX10_end 5 = .ok (.iload_n 1, 1) := by decide +kernel
theorem dX10_end_6 : decode cX10_end 6 = .ok (.iconst 0, 1) := by decide +kernel
theorem dX10_end_7 : decode cX10_end 7 = .ok (.aload_n 0, 1) := by decide +kernel
theorem dX10_end_8 : decode cX10_end 8 = .ok (.getfield 13, 3) := by decide +kernel
theorem dX10_end_11 : decode cX10_end 11 = .ok (.iconst 0, 1) := by decide +kernel
theorem dX10_end_12 : decode cX10_end 12 = .ok (.iaload, 1) := by decide +kernel
theorem dX10_end_13 : decode cX10_end 13 = .ok (.invokestatic 92, 3) := by decide +kernel
theorem dX10_end_16 : decode cX10_end 16 = .ok (.ifCond .ne 5, 3) := by decide +kernel
theorem dX10_end_19 : decode cX10_end 19 = .ok (.iconst (-1), 1) := by decide +kernel
theorem dX10_end_20 : decode cX10_end 20 = .ok (.ireturn, 1) := by decide +kernel
theorem dX10_end_21 : decode cX10_end 21 = .ok (.aload_n 0, 1) := by decide +kernel
theorem dX10_end_22 : decode cX10_end 22 = .ok (.getfield 13, 3) := by decide +kernel
theorem dX10_end_25 : decode cX10_end 25 = .ok (.iconst 0, 1) := by decide +kernel
theorem dX10_end_26 : decode cX10_end 26 = .ok (.iload_n 1, 1) := by decide +kernel
theorem dX10_end_27 : decode cX10_end 27 = .ok (.iastore, 1) := by decide +kernel
theorem dX10_end_28 : decode cX10_end 28 = .ok (.iload_n 1, 1) := by decide +kernel
theorem dX10_end_29 : decode cX10_end 29 = .ok (.ireturn, 1) := by decide +kernel
theorem dX10_see_0 : decode cX10_see 0 = .ok (.aload_n 0, 1) := by decide +kernel
theorem dX10_see_1 : decode cX10_see 1 = .ok (.getfield 100, 3) := by decide +kernel
theorem dX10_see_4 : decode cX10_see 4 = .ok (.aload_n 0, 1) := by decide +kernel
theorem dX10_see_5 : decode cX10_see 5 = .ok (.getfield 103, 3) := by decide +kernel
theorem dX10_see_8 : decode cX10_see 8 = .ok (.if_icmp .ge 19, 3) := by decide +kernel
theorem dX10_see_27 : decode cX10_see 27 = .ok (.iconst (-1), 1) := by decide +kernel
theorem dX10_see_28 : decode cX10_see 28 = .ok (.ireturn, 1) := by decide +kernel
set_option maxRecDepth 20000 in
theorem ggX10_token_X10_see : GoodIn wsX10_token wsX10_see := goodIn_r _ [10, 1, 11, 12, 16, 17, 18, 19, 20, 21, 22, 23, 24, 25, 26, 27, 28, 29, 30, 31, 32, 33, 34, 35, 36, 37, 38, 39, 40, 41, 42, 43, 44, 45, 46, 47, 48, 49, 50, 51, 52, 53, 54, 55, 56, 57, 58, 59, 60, 61, 62, 63, 64, 65] (by decide +kernel) (by decide +kernel)
set_option maxRecDepth 20000 in
theorem gX10_token_X10_see : GoodIn wsX10_token (wsV RX10 106 RX10 yX10_see wsX10_see) := goodIn_app (goodIn_of _ (by decide +kernel)) ggX10_token_X10_see
theorem dX10_token_0 : decode cX10_token 0 = .ok (.aload_n 0, 1) := by decide +kernel
theorem dX10_token_1 : decode cX10_token 1 = .ok (.invokevirtual 106, 3) := by decide +kernel
theorem dX10_token_4 : decode cX10_token 4 = .ok (.bipush 10, 2) := by decide +kernel
theorem dX10_token_6 : decode cX10_token 6 = .ok (.if_icmp .eq 12, 3) := by decide +kernel
theorem dX10_token_9 : decode cX10_token 9 = .ok (.aload_n 0, 1) := by decide +kernel
theorem dX10_token_10 : decode cX10_token 10 = .ok (.invokevirtual 106, 3) := by decide +kernel
theorem dX10_token_13 : decode cX10_token 13 = .ok (.bipush 32, 2) := by decide +kernel
theorem dX10_token_15 : decode cX10_token 15 = .ok (.if_icmp .ne 16, 3) := by decide +kernel
theorem dX10_token_31 : decode cX10_token 31 = .ok (.aload_n 0, 1) := by decide +kernel
theorem dX10_token_32 : decode cX10_token 32 = .ok (.aload_n 0, 1) := by decide +kernel
theorem dX10_token_33 : decode cX10_token 33 = .ok (.getfield 100, 3) := by decide +kernel
theorem dX10_token_36 : decode cX10_token 36 = .ok (.putfield 110, 3) := by decide +kernel
theorem dX10_token_39 : decode cX10_token 39 = .ok (.aload_n 0, 1) := by decide +kernel
theorem dX10_token_40 : decode cX10_token 40 = .ok (.invokevirtual 106, 3) := by decide +kernel
theorem dX10_token_43 : decode cX10_token 43 = .ok (.istore_n 1, 1) := by decide +kernel
theorem dX10_token_44 : decode cX10_token 44 = .ok (.aload_n 0, 1) := by decide +kernel
theorem dX10_token_45 : decode cX10_token 45 = .ok (.lconst 0, 1) := by decide +kernel
theorem dX10_token_46 : decode cX10_token 46 = .ok (.putfield 113, 3) := by decide +kernel
theorem dX10_token_49 : decode cX10_token 49 = .ok (.iconst 0, 1) := by decide +kernel
theorem dX10_token_50 : decode cX10_token 50 = .ok (.istore_n 2, 1) := by decide +kernel
theorem dX10_token_51 : decode cX10_token 51 = .ok (.iload_n 1, 1) := by decide +kernel
theorem dX10_token_52 : decode cX10_token 52 = .ok (.ifCond .ge 11, 3) := by decide +kernel
theorem dX10_token_55 : decode cX10_token 55 = .ok (.aload_n 0, 1) := by decide +kernel
theorem dX10_token_56 : decode cX10_token 56 = .ok (.iconst 0, 1) := by decide +kernel
theorem dX10_token_57 : decode cX10_token 57 = .ok (.putfield 117, 3) := by decide +kernel
theorem dX10_token_60 : decode cX10_token 60 = .ok (.goto 206, 3) := by decide +kernel
theorem dX10_token_266 : decode cX10_token 266 = .ok (.return_, 1) := by decide +kernel
theorem dX10_lines_0 : decode cX10_lines 0 = .ok (.iconst 1, 1) := by decide +kernel
theorem dX10_lines_1 : decode cX10_lines 1 = .ok (.istore_n 2, 1) := by decide +kernel
theorem dX10_lines_2 : decode cX10_lines 2 = .ok (.iload_n 2, 1) := by decide +kernel
theorem dX10_lines_3 : decode cX10_lines 3 = .ok (.ifCond .eq 98, 3) := by decide +kernel
theorem dX10_lines_6 : decode cX10_lines 6 = .ok (.aload_n 0, 1) := by decide +kernel
theorem dX10_lines_7 : decode cX10_lines 7 = .ok (.getfield 117, 3) := by decide +kernel
theorem dX10_lines_10 : decode cX10_lines 10 = .ok (.ifCond .eq 91, 3) := by decide +kernel
theorem dX10_lines_101 : decode cX10_lines 101 = .ok (.iload_n 2, 1) := by decide +kernel
theorem dX10_lines_102 : decode cX10_lines 102 = .ok (.ireturn, 1) := by decide +kernel
set_option maxRecDepth 20000 in
theorem ggX10_readText_X10_token : GoodIn wsX10_readText wsX10_token := goodIn_r _ [12, 2, 13, 14, 15, 16, 17, 18, 19, 11, 20, 21, 22, 23, 24, 25, 91, 92, 93, 94, 95, 96, 97, 98, 99, 100, 101, 102, 103, 104, 105, 106, 107, 108, 109, 110, 111, 112, 113, 114, 115, 116, 117, 118, 119, 120, 121, 122, 123, 124, 125, 126, 127, 128, 129, 130, 131, 132, 133, 134, 135, 136, 137, 138, 139, 140] (by decide +kernel) (by decide +kernel)
set_option maxRecDepth 20000 in
theorem gX10_readText_X10_token : GoodIn wsX10_readText (wsV RX10 140 RX10 yX10_token wsX10_token) := goodIn_app (goodIn_of _ (by decide +kernel)) ggX10_readText_X10_token
set_option maxRecDepth 20000 in
theorem ggX10_readText_X10_lines : GoodIn wsX10_readText wsX10_lines := goodIn_r _ [29, 15, 13, 14, 30, 31, 32, 11, 33, 34, 35, 36, 37, 38, 39, 1, 40, 41, 42, 43, 44, 6, 45, 46, 47, 48, 49, 50, 51, 52, 3, 7, 8, 9, 10, 12, 2, 16, 17, 18, 19, 20, 21, 22, 23, 24, 25, 53, 54, 55, 56, 57, 58, 59, 60, 61, 62, 63, 64, 65, 66, 67, 68, 69, 70, 71, 72, 73, 74, 75, 76, 77, 78, 79, 80, 81, 82, 83, 84, 85, 86, 87, 88, 89, 90, 91, 92, 93, 94, 95, 96, 97, 98, 99, 100, 101, 102, 103, 104, 105, 106, 107, 108, 109, 110, 111, 112, 113, 114, 115, 116, 117, 118, 119, 120, 121, 122, 123, 124, 125, 126, 127, 128, 129, 130, 131, 132, 133, 134, 135, 136, 137, 138, 139, 140] (by decide +kernel) (by decide +kernel)
set_option maxRecDepth 20000 in
theorem gX10_readText_X10_lines : GoodIn wsX10_readText (wsV RX10 208 RX10 yX10_lines wsX10_lines) := goodIn_app (goodIn_of _ (by decide +kernel)) ggX10_readText_X10_lines
theorem dX10_readText_0 : decode cX10_readText 0 = .ok (.iconst 0, 1) := by decide +kernel
theorem dX10_readText_1 : decode cX10_readText 1 = .ok (.istore_n 2, 1) := by decide +kernel
theorem dX10_readText_2 : decode cX10_readText 2 = .ok (.iload_n 2, 1) := by decide +kernel
theorem dX10_readText_3 : decode cX10_readText 3 = .ok (.bipush 121, 2) := by decide +kernel
theorem dX10_readText_5 : decode cX10_readText 5 = .ok (.if_icmp .ge 16, 3) := by decide +kernel
theorem dX10_readText_8 : decode cX10_readText 8 = .ok (.aload_n 0, 1) := by decide +kernel
theorem dX10_readText_9 : decode cX10_readText 9 = .ok (.getfield 35, 3) := by decide +kernel
theorem dX10_readText_12 : decode cX10_readText 12 = .ok (.iload_n 2, 1) := by decide +kernel
theorem dX10_readText_13 : decode cX10_readText 13 = .ok (.iconst 0, 1) := by decide +kernel
theorem dX10_readText_14 : decode cX10_readText 14 = .ok (.iastore, 1) := by decide +kernel
theorem dX10_readText_15 : decode cX10_readText 15 = .ok (.iinc 2 1, 3) := by decide +kernel
theorem dX10_readText_18 : decode cX10_readText 18 = .ok (.goto (-16), 3) := by decide +kernel
theorem dX10_readText_21 : decode cX10_readText 21 = .ok (.aload_n 0, 1) := by decide +kernel
theorem dX10_readText_22 : decode cX10_readText 22 = .ok (.getfield 35, 3) := by decide +kernel
theorem dX10_readText_25 : decode cX10_readText 25 = .ok (.iconst 3, 1) := by decide +kernel
theorem dX10_readText_26 : decode cX10_readText 26 = .ok (.iload_n 1, 1) := by decide +kernel
theorem dX10_readText_27 : decode cX10_readText 27 = .ok (.ifCond .ne 9, 3) := by decide +kernel
theorem dX10_readText_30 : decode cX10_readText 30 = .ok (.sipush 999, 3) := by decide +kernel
theorem dX10_readText_33 : decode cX10_readText 33 = .ok (.goto 4, 3) := by decide +kernel
theorem dX10_readText_36 : decode cX10_readText 36 = .ok (.iconst 0, 1) := by decide +kernel
theorem dX10_readText_37 : decode cX10_readText 37 = .ok (.iastore, 1) := by decide +kernel
theorem dX10_readText_38 : decode cX10_readText 38 = .ok (.aload_n 0, 1) := by decide +kernel
theorem dX10_readText_39 : decode cX10_readText 39 = .ok (.iconst 0, 1) := by decide +kernel
theorem dX10_readText_40 : decode cX10_readText 40 = .ok (.putfield 100, 3) := by decide +kernel
theorem dX10_readText_43 : decode cX10_readText 43 = .ok (.aload_n 0, 1) := by decide +kernel
theorem dX10_readText_44 : decode cX10_readText 44 = .ok (.iconst 0, 1) := by decide +kernel
theorem dX10_readText_45 : decode cX10_readText 45 = .ok (.putfield 126, 3) := by decide +kernel
theorem dX10_readText_48 : decode cX10_readText 48 = .ok (.aload_n 0, 1) := by decide +kernel
theorem dX10_readText_49 : decode cX10_readText 49 = .ok (.invokevirtual 140, 3) := by decide +kernel
theorem dX10_readText_52 : decode cX10_readText 52 = .ok (.aload_n 0, 1) := by decide +kernel
theorem dX10_readText_53 : decode cX10_readText 53 = .ok (.iload_n 1, 1) := by decide +kernel
theorem dX10_readText_54 : decode cX10_readText 54 = .ok (.invokevirtual 208, 3) := by decide +kernel
theorem dX10_readText_57 : decode cX10_readText 57 = .ok (.istore_n 2, 1) := by decide +kernel
theorem dX10_readText_58 : decode cX10_readText 58 = .ok (.aload_n 0, 1) := by decide +kernel
theorem dX10_readText_59 : decode cX10_readText 59 = .ok (.getfield 17, 3) := by decide +kernel
theorem dX10_readText_62 : decode cX10_readText 62 = .ok (.iconst 0, 1) := by decide +kernel
theorem dX10_readText_63 : decode cX10_readText 63 = .ok (.iload_n 2, 1) := by decide +kernel
theorem dX10_readText_64 : decode cX10_readText 64 = .ok (.ifCond .eq 10, 3) := by decide +kernel
theorem dX10_readText_67 : decode cX10_readText 67 = .ok (.aload_n 0, 1) := by decide +kernel
theorem dX10_readText_68 : decode cX10_readText 68 = .ok (.getfield 126, 3) := by decide +kernel
theorem dX10_readText_71 : decode cX10_readText 71 = .ok (.goto 4, 3) := by decide +kernel
theorem dX10_readText_75 : decode cX10_readText 75 = .ok (.iastore, 1) := by decide +kernel
theorem dX10_readText_76 : decode cX10_readText 76 = .ok (.aload_n 0, 1) := by decide +kernel
theorem dX10_readText_77 : decode cX10_readText 77 = .ok (.getfield 20, 3) := by decide +kernel
theorem dX10_readText_80 : decode cX10_readText 80 = .ok (.iconst 0, 1) := by decide +kernel
theorem dX10_readText_81 : decode cX10_readText 81 = .ok (.iload_n 2, 1) := by decide +kernel
theorem dX10_readText_82 : decode cX10_readText 82 = .ok (.ifCond .ne 10, 3) := by decide +kernel
theorem dX10_readText_92 : decode cX10_readText 92 = .ok (.aload_n 0, 1) := by decide +kernel
theorem dX10_readText_93 : decode cX10_readText 93 = .ok (.getfield 126, 3) := by decide +kernel
theorem dX10_readText_96 : decode cX10_readText 96 = .ok (.ifCond .le 10, 3) := by decide +kernel
theorem dX10_readText_106 : decode cX10_readText 106 = .ok (.iconst (-1), 1) := by decide +kernel
theorem dX10_readText_107 : decode cX10_readText 107 = .ok (.iastore, 1) := by decide +kernel
theorem dX10_readText_108 : decode cX10_readText 108 = .ok (.aload_n 0, 1) := by decide +kernel
theorem dX10_readText_109 : decode cX10_readText 109 = .ok (.getfield 17, 3) := by decide +kernel
theorem dX10_readText_112 : decode cX10_readText 112 = .ok (.iconst 0, 1) := by decide +kernel
theorem dX10_readText_113 : decode cX10_readText 113 = .ok (.iaload, 1) := by decide +kernel
theorem dX10_readText_114 : decode cX10_readText 114 = .ok (.ifCond .ne 7, 3) := by decide +kernel
theorem dX10_readText_117 : decode cX10_readText 117 = .ok (.iconst 1, 1) := by decide +kernel
theorem dX10_readText_118 : decode cX10_readText 118 = .ok (.goto 4, 3) := by decide +kernel
theorem dX10_readText_122 : decode cX10_readText 122 = .ok (.ireturn, 1) := by decide +kernel
theorem dX10_store_0 : decode cX10_store 0 = .ok (.iconst 0, 1) := by decide +kernel
theorem dX10_store_1 : decode cX10_store 1 = .ok (.istore 4, 2) := by decide +kernel
theorem dX10_store_3 : decode cX10_store 3 = .ok (.iload 4, 2) := by decide +kernel
theorem dX10_store_5 : decode cX10_store 5 = .ok (.iload_n 2, 1) := by decide +kernel
theorem dX10_store_6 : decode cX10_store 6 = .ok (.if_icmp .ge 24, 3) := by decide +kernel
theorem dX10_store_9 : decode cX10_store 9 = .ok (.aload_n 1, 1) := by decide +kernel
theorem dX10_store_10 : decode cX10_store 10 = .ok (.iload_n 2, 1) := by decide +kernel
theorem dX10_store_11 : decode cX10_store 11 = .ok (.iload_n 3, 1) := by decide +kernel
theorem dX10_store_12 : decode cX10_store 12 = .ok (.imul, 1) := by decide +kernel
theorem dX10_store_13 : decode cX10_store 13 = .ok (.iload 4, 2) := by decide +kernel
theorem dX10_store_15 : decode cX10_store 15 = .ok (.iadd, 1) := by decide +kernel
theorem dX10_store_16 : decode cX10_store 16 = .ok (.aload_n 0, 1) := by decide +kernel
theorem dX10_store_17 : decode cX10_store 17 = .ok (.getfield 35, 3) := by decide +kernel
theorem dX10_store_20 : decode cX10_store 20 = .ok (.iload 4, 2) := by decide +kernel
theorem dX10_store_22 : decode cX10_store 22 = .ok (.iaload, 1) := by decide +kernel
theorem dX10_store_23 : decode cX10_store 23 = .ok (.iastore, 1) := by decide +kernel
theorem dX10_store_24 : decode cX10_store 24 = .ok (.iinc 4 1, 3) := by decide +kernel
theorem dX10_store_27 : decode cX10_store 27 = .ok (.goto (-24), 3) := by decide +kernel
theorem dX10_store_30 : decode cX10_store 30 = .ok (.return_, 1) := by decide +kernel
set_option maxRecDepth 20000 in
theorem ggX10_text_X10_in : GoodIn wsX10_text wsX10_in := goodIn_r _ [13] (by decide +kernel) (by decide +kernel)
set_option maxRecDepth 20000 in
theorem gX10_text_X10_in : GoodIn wsX10_text (va_wsS RX10 92 yX10_in wsX10_in) := goodIn_app (goodIn_of _ (by decide +kernel)) ggX10_text_X10_in
set_option maxRecDepth 20000 in
theorem ggX10_text_X10_is : GoodIn wsX10_text wsX10_is := goodIn_r _ [17, 6, 10, 11, 12, 13, 109, 110, 111, 112, 113, 114, 115, 116, 117, 118, 119, 120, 121, 122, 123, 124, 125, 126, 127, 128, 129, 130, 131, 132, 133, 134, 135, 136, 137, 138, 139, 140, 141, 142, 143, 144, 145, 146, 147, 148, 149, 150, 151, 152, 153, 154, 155, 156, 157, 158] (by decide +kernel) (by decide +kernel)
set_option maxRecDepth 20000 in
theorem gX10_text_X10_is : GoodIn wsX10_text (wsV RX10 211 RX10 yX10_is wsX10_is) := goodIn_app (goodIn_of _ (by decide +kernel)) ggX10_text_X10_is
set_option maxRecDepth 20000 in
theorem ggX10_text_X10_readText : GoodIn wsX10_text wsX10_readText := goodIn_r _ [21, 22, 23, 24, 4, 5, 25, 26, 27, 28, 29, 12, 30, 31, 32, 33, 34, 35, 36, 37, 38, 3, 39, 10, 11, 13, 40, 41, 42, 43, 44, 45, 46, 47, 48, 49, 50, 51, 52, 53, 54, 55, 56, 57, 58, 59, 60, 61, 62, 63, 64, 65, 66, 67, 68, 69, 70, 71, 72, 73, 74, 75, 76, 77, 78, 79, 80, 81, 82, 83, 84, 85, 86, 87, 88, 89, 90, 91, 92, 93, 94, 95, 96, 97, 98, 99, 100, 101, 102, 103, 104, 109, 110, 111, 112, 113, 114, 115, 116, 117, 118, 119, 120, 121, 122, 123, 124, 125, 126, 127, 128, 129, 130, 131, 132, 133, 134, 135, 136, 137, 138, 139, 140, 141, 142, 143, 144, 145, 146, 147, 148, 149, 150, 151, 152, 153, 154, 155, 156, 157, 158] (by decide +kernel) (by decide +kernel)
set_option maxRecDepth 20000 in
theorem gX10_text_X10_readText : GoodIn wsX10_text (wsV RX10 214 RX10 yX10_readText wsX10_readText) := goodIn_app (goodIn_of _ (by decide +kernel)) ggX10_text_X10_readText
set_option maxRecDepth 20000 in
theorem ggX10_text_X10_store : GoodIn wsX10_text wsX10_store := goodIn_r _ [108, 22, 109, 110, 111, 112, 113, 114, 115, 116, 117, 118, 119, 120, 121, 122, 123, 124, 125, 126, 127, 128, 129, 130, 131, 132, 133, 134, 135, 136, 137, 138, 139, 140, 141, 142, 143, 144, 145, 146, 147, 148, 149, 150, 151, 152, 153, 154, 155, 156, 157, 158] (by decide +kernel) (by decide +kernel)
set_option maxRecDepth 20000 in
theorem gX10_text_X10_store : GoodIn wsX10_text (wsV RX10 217 RX10 yX10_store wsX10_store) := goodIn_app (goodIn_of _ (by decide +kernel)) ggX10_text_X10_store
theorem dX10_text_0 : decode cX10_text 0 = .ok (.aload_n 0, 1) := by decide +kernel
theorem dX10_text_1 : decode cX10_text 1 = .ok (.iconst 0, 1) := by decide +kernel
theorem dX10_text_2 : decode cX10_text 2 = .ok (.putfield 80, 3) := by decide +kernel
theorem dX10_text_5 : decode cX10_text 5 = .ok (.aload_n 0, 1) := by decide +kernel
theorem dX10_text_6 : decode cX10_text 6 = .ok (.aload_n 0, 1) := by decide +kernel
theorem dX10_text_7 : decode cX10_text 7 = .ok (.getfield 13, 3) := by decide +kernel
theorem dX10_text_10 : decode cX10_text 10 = .ok (.iconst 0, 1) := by decide +kernel
theorem dX10_text_11 : decode cX10_text 11 = .ok (.iaload, 1) := by decide +kernel
theorem dX10_text_12 : decode cX10_text 12 = .ok (.putfield 103, 3) := by decide +kernel
theorem dX10_text_15 : decode cX10_text 15 = .ok (.aload_n 0, 1) := by decide +kernel
theorem dX10_text_16 : decode cX10_text 16 = .ok (.getfield 13, 3) := by decide +kernel
theorem dX10_text_19 : decode cX10_text 19 = .ok (.iconst 0, 1) := by decide +kernel
theorem dX10_text_20 : decode cX10_text 20 = .ok (.iconst 0, 1) := by decide +kernel
theorem dX10_text_21 : decode cX10_text 21 = .ok (.iastore, 1) := by decide +kernel
theorem dX10_text_22 : decode cX10_text 22 = .ok (.aload_n 0, 1) := by decide +kernel
theorem dX10_text_23 : decode cX10_text 23 = .ok (.getfield 17, 3) := by decide +kernel
theorem dX10_text_26 : decode cX10_text 26 = .ok (.iconst 0, 1) := by decide +kernel
theorem dX10_text_27 : decode cX10_text 27 = .ok (.iconst 0, 1) := by decide +kernel
theorem dX10_text_28 : decode cX10_text 28 = .ok (.iastore, 1) := by decide +kernel
theorem dX10_text_29 : decode cX10_text 29 = .ok (.aload_n 0, 1) := by decide +kernel
theorem dX10_text_30 : decode cX10_text 30 = .ok (.getfield 20, 3) := by decide +kernel
theorem dX10_text_33 : decode cX10_text 33 = .ok (.iconst 0, 1) := by decide +kernel
theorem dX10_text_34 : decode cX10_text 34 = .ok (.iconst (-1), 1) := by decide +kernel
theorem dX10_text_35 : decode cX10_text 35 = .ok (.iastore, 1) := by decide +kernel
theorem dX10_text_36 : decode cX10_text 36 = .ok (.iload_n 1, 1) := by decide +kernel
theorem dX10_text_37 : decode cX10_text 37 = .ok (.iconst 0, 1) := by decide +kernel
theorem dX10_text_38 : decode cX10_text 38 = .ok (.iconst 2, 1) := by decide +kernel
theorem dX10_text_39 : decode cX10_text 39 = .ok (.invokestatic 92, 3) := by decide +kernel
theorem dX10_text_42 : decode cX10_text 42 = .ok (.ifCond .eq 30, 3) := by decide +kernel
theorem dX10_text_45 : decode cX10_text 45 = .ok (.iload_n 2, 1) := by decide +kernel
theorem dX10_text_46 : decode cX10_text 46 = .ok (.iconst (-1), 1) := by decide +kernel
theorem dX10_text_47 : decode cX10_text 47 = .ok (.if_icmp .ne 16, 3) := by decide +kernel
theorem dX10_text_50 : decode cX10_text 50 = .ok (.aload_n 0, 1) := by decide +kernel
theorem dX10_text_51 : decode cX10_text 51 = .ok (.getfield 23, 3) := by decide +kernel
theorem dX10_text_54 : decode cX10_text 54 = .ok (.iload_n 1, 1) := by decide +kernel
theorem dX10_text_55 : decode cX10_text 55 = .ok (.iaload, 1) := by decide +kernel
theorem dX10_text_56 : decode cX10_text 56 = .ok (.iconst 2, 1) := by decide +kernel
theorem dX10_text_57 : decode cX10_text 57 = .ok (.if_icmp .ne 18, 3) := by decide +kernel
theorem dX10_text_63 : decode cX10_text 63 = .ok (.aload_n 0, 1) := by decide +kernel
theorem dX10_text_64 : decode cX10_text 64 = .ok (.iload_n 1, 1) := by decide +kernel
theorem dX10_text_65 : decode cX10_text 65 = .ok (.iload_n 2, 1) := by decide +kernel
theorem dX10_text_66 : decode cX10_text 66 = .ok (.invokevirtual 211, 3) := by decide +kernel
theorem dX10_text_69 : decode cX10_text 69 = .ok (.ifCond .ne 6, 3) := by decide +kernel
theorem dX10_text_72 : decode cX10_text 72 = .ok (.bipush (-2), 2) := by decide +kernel
theorem dX10_text_74 : decode cX10_text 74 = .ok (.ireturn, 1) := by decide +kernel
theorem dX10_text_75 : decode cX10_text 75 = .ok (.aload_n 0, 1) := by decide +kernel
theorem dX10_text_76 : decode cX10_text 76 = .ok (.iload_n 1, 1) := by decide +kernel
theorem dX10_text_77 : decode cX10_text 77 = .ok (.invokevirtual 214, 3) := by decide +kernel
theorem dX10_text_80 : decode cX10_text 80 = .ok (.ifCond .ne 5, 3) := by decide +kernel
theorem dX10_text_85 : decode cX10_text 85 = .ok (.iload_n 2, 1) := by decide +kernel
theorem dX10_text_86 : decode cX10_text 86 = .ok (.iconst (-1), 1) := by decide +kernel
theorem dX10_text_87 : decode cX10_text 87 = .ok (.if_icmp .ne 12, 3) := by decide +kernel
theorem dX10_text_90 : decode cX10_text 90 = .ok (.aload_n 0, 1) := by decide +kernel
theorem dX10_text_91 : decode cX10_text 91 = .ok (.getfield 23, 3) := by decide +kernel
theorem dX10_text_94 : decode cX10_text 94 = .ok (.iload_n 1, 1) := by decide +kernel
theorem dX10_text_95 : decode cX10_text 95 = .ok (.iaload, 1) := by decide +kernel
theorem dX10_text_96 : decode cX10_text 96 = .ok (.goto 4, 3) := by decide +kernel
theorem dX10_text_100 : decode cX10_text 100 = .ok (.istore_n 3, 1) := by decide +kernel
theorem dX10_text_101 : decode cX10_text 101 = .ok (.aload_n 0, 1) := by decide +kernel
theorem dX10_text_102 : decode cX10_text 102 = .ok (.getfield 23, 3) := by decide +kernel
theorem dX10_text_105 : decode cX10_text 105 = .ok (.iload_n 1, 1) := by decide +kernel
theorem dX10_text_106 : decode cX10_text 106 = .ok (.dup2, 1) := by decide +kernel
theorem dX10_text_107 : decode cX10_text 107 = .ok (.iaload, 1) := by decide +kernel
theorem dX10_text_108 : decode cX10_text 108 = .ok (.iload_n 2, 1) := by decide +kernel
theorem dX10_text_109 : decode cX10_text 109 = .ok (.iconst (-1), 1) := by decide +kernel
theorem dX10_text_110 : decode cX10_text 110 = .ok (.if_icmp .ne 7, 3) := by decide +kernel
theorem dX10_text_113 : decode cX10_text 113 = .ok (.iconst 1, 1) := by decide +kernel
theorem dX10_text_114 : decode cX10_text 114 = .ok (.goto 4, 3) := by decide +kernel
theorem dX10_text_118 : decode cX10_text 118 = .ok (.iadd, 1) := by decide +kernel
theorem dX10_text_119 : decode cX10_text 119 = .ok (.iastore, 1) := by decide +kernel
theorem dX10_text_120 : decode cX10_text 120 = .ok (.iload_n 1, 1) := by decide +kernel
theorem dX10_text_121 : decode cX10_text 121 = .ok (.ifCond .ne 17, 3) := by decide +kernel
theorem dX10_text_124 : decode cX10_text 124 = .ok (.aload_n 0, 1) := by decide +kernel
theorem dX10_text_125 : decode cX10_text 125 = .ok (.aload_n 0, 1) := by decide +kernel
theorem dX10_text_126 : decode cX10_text 126 = .ok (.getfield 26, 3) := by decide +kernel
theorem dX10_text_129 : decode cX10_text 129 = .ok (.bipush 36, 2) := by decide +kernel
theorem dX10_text_131 : decode cX10_text 131 = .ok (.iload_n 3, 1) := by decide +kernel
theorem dX10_text_132 : decode cX10_text 132 = .ok (.invokevirtual 217, 3) := by decide +kernel
theorem dX10_text_135 : decode cX10_text 135 = .ok (.goto 33, 3) := by decide +kernel
theorem dX10_text_138 : decode cX10_text 138 = .ok (.iload_n 1, 1) := by decide +kernel
theorem dX10_text_139 : decode cX10_text 139 = .ok (.iconst 1, 1) := by decide +kernel
theorem dX10_text_140 : decode cX10_text 140 = .ok (.if_icmp .ne 17, 3) := by decide +kernel
theorem dX10_text_143 : decode cX10_text 143 = .ok (.aload_n 0, 1) := by decide +kernel
theorem dX10_text_144 : decode cX10_text 144 = .ok (.aload_n 0, 1) := by decide +kernel
theorem dX10_text_145 : decode cX10_text 145 = .ok (.getfield 29, 3) := by decide +kernel
theorem dX10_text_148 : decode cX10_text 148 = .ok (.bipush 121, 2) := by decide +kernel
theorem dX10_text_150 : decode cX10_text 150 = .ok (.iload_n 3, 1) := by decide +kernel
theorem dX10_text_151 : decode cX10_text 151 = .ok (.invokevirtual 217, 3) := by decide +kernel
theorem dX10_text_154 : decode cX10_text 154 = .ok (.goto 14, 3) := by decide +kernel
theorem dX10_text_157 : decode cX10_text 157 = .ok (.aload_n 0, 1) := by decide +kernel
theorem dX10_text_158 : decode cX10_text 158 = .ok (.aload_n 0, 1) := by decide +kernel
theorem dX10_text_159 : decode cX10_text 159 = .ok (.getfield 32, 3) := by decide +kernel
theorem dX10_text_162 : decode cX10_text 162 = .ok (.bipush 7, 2) := by decide +kernel
theorem dX10_text_164 : decode cX10_text 164 = .ok (.iload_n 3, 1) := by decide +kernel
theorem dX10_text_165 : decode cX10_text 165 = .ok (.invokevirtual 217, 3) := by decide +kernel
theorem dX10_text_168 : decode cX10_text 168 = .ok (.iload_n 3, 1) := by decide +kernel
theorem dX10_text_169 : decode cX10_text 169 = .ok (.ireturn, 1) := by decide +kernel
theorem dX10_fault_0 : decode cX10_fault 0 = .ok (.aload_n 0, 1) := by decide +kernel
theorem dX10_fault_1 : decode cX10_fault 1 = .ok (.iconst 0, 1) := by decide +kernel
theorem dX10_fault_2 : decode cX10_fault 2 = .ok (.putfield 80, 3) := by decide +kernel
theorem dX10_fault_5 : decode cX10_fault 5 = .ok (.iload_n 1, 1) := by decide +kernel
theorem dX10_fault_6 : decode cX10_fault 6 = .ok (.ifCond .ne 12, 3) := by decide +kernel
theorem dX10_fault_9 : decode cX10_fault 9 = .ok (.aload_n 0, 1) := by decide +kernel
theorem dX10_fault_10 : decode cX10_fault 10 = .ok (.getfield 17, 3) := by decide +kernel
theorem dX10_fault_13 : decode cX10_fault 13 = .ok (.iconst 0, 1) := by decide +kernel
theorem dX10_fault_14 : decode cX10_fault 14 = .ok (.iaload, 1) := by decide +kernel
theorem dX10_fault_15 : decode cX10_fault 15 = .ok (.goto 18, 3) := by decide +kernel
theorem dX10_fault_18 : decode cX10_fault 18 = .ok (.iload_n 1, 1) := by decide +kernel
theorem dX10_fault_19 : decode cX10_fault 19 = .ok (.iconst 1, 1) := by decide +kernel
theorem dX10_fault_20 : decode cX10_fault 20 = .ok (.if_icmp .ne 12, 3) := by decide +kernel
theorem dX10_fault_23 : decode cX10_fault 23 = .ok (.aload_n 0, 1) := by decide +kernel
theorem dX10_fault_24 : decode cX10_fault 24 = .ok (.getfield 20, 3) := by decide +kernel
theorem dX10_fault_27 : decode cX10_fault 27 = .ok (.iconst 0, 1) := by decide +kernel
theorem dX10_fault_28 : decode cX10_fault 28 = .ok (.iaload, 1) := by decide +kernel
theorem dX10_fault_29 : decode cX10_fault 29 = .ok (.goto 4, 3) := by decide +kernel
theorem dX10_fault_32 : decode cX10_fault 32 = .ok (.iconst (-1), 1) := by decide +kernel
theorem dX10_fault_33 : decode cX10_fault 33 = .ok (.ireturn, 1) := by decide +kernel
set_option maxRecDepth 20000 in
theorem ggX10_hand_X10_is : GoodIn wsX10_hand wsX10_is := goodIn_r _ [9, 10, 11, 12, 8, 13, 19, 20, 21, 22, 23, 24, 25, 26, 27, 28, 29, 30, 31, 32, 33, 34, 35, 36, 37, 38, 39, 40, 41, 42, 43, 44, 45, 46, 47, 48, 49, 50, 51, 52, 53, 54, 55, 56, 57, 58, 59, 60, 61, 62, 63, 64, 65, 66, 67, 68] (by decide +kernel) (by decide +kernel)
set_option maxRecDepth 20000 in
theorem gX10_hand_X10_is : GoodIn wsX10_hand (wsV RX10 211 RX10 yX10_is wsX10_is) := goodIn_app (goodIn_of _ (by decide +kernel)) ggX10_hand_X10_is
theorem dX10_hand_0 : decode cX10_hand 0 = .ok (.aload_n 0, 1) := by decide +kernel
theorem dX10_hand_1 : decode cX10_hand 1 = .ok (.iconst 0, 1) := by decide +kernel
theorem dX10_hand_2 : decode cX10_hand 2 = .ok (.iload_n 1, 1) := by decide +kernel
theorem dX10_hand_3 : decode cX10_hand 3 = .ok (.invokevirtual 211, 3) := by decide +kernel
theorem dX10_hand_6 : decode cX10_hand 6 = .ok (.ifCond .ne 5, 3) := by decide +kernel
theorem dX10_hand_9 : decode cX10_hand 9 = .ok (.iconst 0, 1) := by decide +kernel
theorem dX10_hand_10 : decode cX10_hand 10 = .ok (.ireturn, 1) := by decide +kernel
set_option maxRecDepth 20000 in
theorem ggX10_theatre_X10_hand : GoodIn wsX10_theatre wsX10_hand := goodIn_r _ [6, 7, 8, 9, 10, 11, 12, 13, 5, 14, 15, 16, 17, 18, 19, 20, 21, 22, 23, 32, 33, 34, 35, 36, 37, 38, 39, 40, 41, 42, 43, 44, 45, 46, 47, 48, 49, 50, 51, 52, 53, 54, 55, 56, 57, 58, 59, 60, 61, 62, 63, 64, 65, 66, 67, 68, 69, 70, 71, 72, 73, 74, 75, 76, 77, 78, 79, 80, 81] (by decide +kernel) (by decide +kernel)
set_option maxRecDepth 20000 in
theorem gX10_theatre_X10_hand : GoodIn wsX10_theatre (wsV RX10 237 RX10 yX10_hand wsX10_hand) := goodIn_app (goodIn_of _ (by decide +kernel)) ggX10_theatre_X10_hand
theorem dX10_theatre_0 : decode cX10_theatre 0 = .ok (.aload_n 0, 1) := by decide +kernel
theorem dX10_theatre_1 : decode cX10_theatre 1 = .ok (.iconst 0, 1) := by decide +kernel
theorem dX10_theatre_2 : decode cX10_theatre 2 = .ok (.putfield 80, 3) := by decide +kernel
theorem dX10_theatre_5 : decode cX10_theatre 5 = .ok (.aload_n 0, 1) := by decide +kernel
theorem dX10_theatre_6 : decode cX10_theatre 6 = .ok (.iload_n 1, 1) := by decide +kernel
theorem dX10_theatre_7 : decode cX10_theatre 7 = .ok (.invokevirtual 237, 3) := by decide +kernel
theorem dX10_theatre_10 : decode cX10_theatre 10 = .ok (.ifCond .ne 5, 3) := by decide +kernel
theorem dX10_theatre_13 : decode cX10_theatre 13 = .ok (.iconst (-1), 1) := by decide +kernel
theorem dX10_theatre_14 : decode cX10_theatre 14 = .ok (.ireturn, 1) := by decide +kernel
set_option maxRecDepth 20000 in
theorem ggX10_hasBook_X10_is : GoodIn wsX10_hasBook wsX10_is := goodIn_r _ [6, 7, 8, 9, 5, 10, 11, 12, 13, 14, 15, 16, 17, 18, 19, 20, 21, 22, 23, 24, 25, 26, 27, 28, 29, 30, 31, 32, 33, 34, 35, 36, 37, 38, 39, 40, 41, 42, 43, 44, 45, 46, 47, 48, 49, 50, 51, 52, 53, 54, 55, 56, 57, 58, 59, 60] (by decide +kernel) (by decide +kernel)
set_option maxRecDepth 20000 in
theorem gX10_hasBook_X10_is : GoodIn wsX10_hasBook (wsV RX10 211 RX10 yX10_is wsX10_is) := goodIn_app (goodIn_of _ (by decide +kernel)) ggX10_hasBook_X10_is
theorem dX10_hasBook_0 : decode cX10_hasBook 0 = .ok (.aload_n 0, 1) := by decide +kernel
theorem dX10_hasBook_1 : decode cX10_hasBook 1 = .ok (.iload_n 1, 1) := by decide +kernel
theorem dX10_hasBook_2 : decode cX10_hasBook 2 = .ok (.putfield 246, 3) := by decide +kernel
theorem dX10_hasBook_5 : decode cX10_hasBook 5 = .ok (.aload_n 0, 1) := by decide +kernel
theorem dX10_hasBook_6 : decode cX10_hasBook 6 = .ok (.iconst 1, 1) := by decide +kernel
theorem dX10_hasBook_7 : decode cX10_hasBook 7 = .ok (.iload_n 1, 1) := by decide +kernel
theorem dX10_hasBook_8 : decode cX10_hasBook 8 = .ok (.invokevirtual 211, 3) := by decide +kernel
theorem dX10_hasBook_11 : decode cX10_hasBook 11 = .ok (.ireturn, 1) := by decide +kernel
set_option maxRecDepth 20000 in
theorem ggX10_deed_X10_hasBook : GoodIn wsX10_deed wsX10_hasBook := goodIn_r _ [6, 7, 8, 9, 10, 5, 11, 12, 13, 14, 15, 25, 26, 27, 28, 29, 30, 31, 32, 33, 34, 35, 36, 37, 38, 39, 40, 41, 42, 43, 44, 45, 46, 47, 48, 49, 50, 51, 52, 53, 54, 55, 56, 57, 58, 59, 60, 61, 62, 63, 64, 65, 66, 67, 68, 69, 70, 71, 72, 73, 74] (by decide +kernel) (by decide +kernel)
set_option maxRecDepth 20000 in
theorem gX10_deed_X10_hasBook : GoodIn wsX10_deed (wsV RX10 249 RX10 yX10_hasBook wsX10_hasBook) := goodIn_app (goodIn_of _ (by decide +kernel)) ggX10_deed_X10_hasBook
theorem dX10_deed_0 : decode cX10_deed 0 = .ok (.aload_n 0, 1) := by decide +kernel
theorem dX10_deed_1 : decode cX10_deed 1 = .ok (.iconst 0, 1) := by decide +kernel
theorem dX10_deed_2 : decode cX10_deed 2 = .ok (.putfield 80, 3) := by decide +kernel
theorem dX10_deed_5 : decode cX10_deed 5 = .ok (.aload_n 0, 1) := by decide +kernel
theorem dX10_deed_6 : decode cX10_deed 6 = .ok (.iload_n 1, 1) := by decide +kernel
theorem dX10_deed_7 : decode cX10_deed 7 = .ok (.invokevirtual 249, 3) := by decide +kernel
theorem dX10_deed_10 : decode cX10_deed 10 = .ok (.ifCond .ne 6, 3) := by decide +kernel
theorem dX10_deed_13 : decode cX10_deed 13 = .ok (.bipush (-2), 2) := by decide +kernel
theorem dX10_deed_15 : decode cX10_deed 15 = .ok (.ireturn, 1) := by decide +kernel
set_option maxRecDepth 20000 in
theorem ggX10_layState_X10_hasBook : GoodIn wsX10_layState wsX10_hasBook := goodIn_r _ [5, 6, 7, 8, 9, 4, 10, 11, 12, 13, 14, 127, 128, 129, 130, 131, 132, 133, 134, 135, 136, 137, 138, 139, 140, 141, 142, 143, 144, 145, 146, 147, 148, 149, 150, 151, 152, 153, 154, 155, 156, 157, 158, 159, 160, 161, 162, 163, 164, 165, 166, 167, 168, 169, 170, 171, 172, 173, 174, 175, 176] (by decide +kernel) (by decide +kernel)
set_option maxRecDepth 20000 in
theorem gX10_layState_X10_hasBook : GoodIn wsX10_layState (wsV RX10 249 RX10 yX10_hasBook wsX10_hasBook) := goodIn_app (goodIn_of _ (by decide +kernel)) ggX10_layState_X10_hasBook
theorem dX10_layState_0 : decode cX10_layState 0 = .ok (.aload_n 0, 1) := by decide +kernel
theorem dX10_layState_1 : decode cX10_layState 1 = .ok (.iload_n 2, 1) := by decide +kernel
theorem dX10_layState_2 : decode cX10_layState 2 = .ok (.invokevirtual 249, 3) := by decide +kernel
theorem dX10_layState_5 : decode cX10_layState 5 = .ok (.ifCond .eq 36, 3) := by decide +kernel
theorem dX10_layState_41 : decode cX10_layState 41 = .ok (.iconst 0, 1) := by decide +kernel
theorem dX10_layState_42 : decode cX10_layState 42 = .ok (.ireturn, 1) := by decide +kernel
set_option maxRecDepth 20000 in
theorem ggX10_stop_X10_hasBook : GoodIn wsX10_stop wsX10_hasBook := goodIn_r _ [6, 7, 8, 9, 10, 5, 11, 12, 13, 14, 15, 128, 129, 130, 131, 132, 133, 134, 135, 136, 137, 138, 139, 140, 141, 142, 143, 144, 145, 146, 147, 148, 149, 150, 151, 152, 153, 154, 155, 156, 157, 158, 159, 160, 161, 162, 163, 164, 165, 166, 167, 168, 169, 170, 171, 172, 173, 174, 175, 176, 177] (by decide +kernel) (by decide +kernel)
set_option maxRecDepth 20000 in
theorem gX10_stop_X10_hasBook : GoodIn wsX10_stop (wsV RX10 249 RX10 yX10_hasBook wsX10_hasBook) := goodIn_app (goodIn_of _ (by decide +kernel)) ggX10_stop_X10_hasBook
theorem dX10_stop_0 : decode cX10_stop 0 = .ok (.aload_n 0, 1) := by decide +kernel
theorem dX10_stop_1 : decode cX10_stop 1 = .ok (.iconst 0, 1) := by decide +kernel
theorem dX10_stop_2 : decode cX10_stop 2 = .ok (.putfield 80, 3) := by decide +kernel
theorem dX10_stop_5 : decode cX10_stop 5 = .ok (.aload_n 0, 1) := by decide +kernel
theorem dX10_stop_6 : decode cX10_stop 6 = .ok (.iload_n 2, 1) := by decide +kernel
theorem dX10_stop_7 : decode cX10_stop 7 = .ok (.invokevirtual 249, 3) := by decide +kernel
theorem dX10_stop_10 : decode cX10_stop 10 = .ok (.ifCond .eq 22, 3) := by decide +kernel
theorem dX10_stop_32 : decode cX10_stop 32 = .ok (.iconst (-1), 1) := by decide +kernel
theorem dX10_stop_33 : decode cX10_stop 33 = .ok (.ireturn, 1) := by decide +kernel
set_option maxRecDepth 20000 in
theorem ggX10_state_X10_layState : GoodIn wsX10_state wsX10_layState := goodIn_r _ [12, 13, 14, 15, 11, 16, 17, 18, 19, 20, 21, 22, 23, 24, 25, 26, 27, 28, 29, 30, 31, 32, 33, 34, 35, 36, 37, 38, 39, 40, 41, 42, 43, 44, 45, 46, 47, 48, 49, 50, 51, 2, 3, 4, 5, 7, 52, 53, 54, 55, 56, 57, 58, 59, 60, 61, 62, 6, 63, 64, 65, 66, 67, 68, 69, 70, 71, 72, 73, 74, 75, 76, 77, 78, 79, 80, 81, 82, 83, 84, 85, 86, 87, 88, 89, 90, 91, 92, 93, 94, 95, 96, 97, 98, 99, 100, 101, 102, 103, 104, 105, 106, 107, 108, 109, 110, 111, 112, 113, 114, 115, 116, 117, 118, 119, 120, 121, 122, 123, 124, 125, 126, 127, 128, 129, 130, 131, 136, 137, 138, 139, 140, 141, 142, 143, 144, 145, 146, 147, 148, 149, 150, 151, 152, 153, 154, 155, 156, 157, 158, 159, 160, 161, 162, 163, 164, 165, 166, 167, 168, 169, 170, 171, 172, 173, 174, 175, 176, 177, 178, 179, 180, 181, 182, 183, 184, 185] (by decide +kernel) (by decide +kernel)
set_option maxRecDepth 20000 in
theorem gX10_state_X10_layState : GoodIn wsX10_state (wsV RX10 332 RX10 yX10_layState wsX10_layState) := goodIn_app (goodIn_of _ (by decide +kernel)) ggX10_state_X10_layState
theorem dX10_state_0 : decode cX10_state 0 = .ok (.aload_n 0, 1) := by decide +kernel
theorem dX10_state_1 : decode cX10_state 1 = .ok (.iconst 0, 1) := by decide +kernel
theorem dX10_state_2 : decode cX10_state 2 = .ok (.putfield 80, 3) := by decide +kernel
theorem dX10_state_5 : decode cX10_state 5 = .ok (.aload_n 0, 1) := by decide +kernel
theorem dX10_state_6 : decode cX10_state 6 = .ok (.iload_n 1, 1) := by decide +kernel
theorem dX10_state_7 : decode cX10_state 7 = .ok (.iload_n 2, 1) := by decide +kernel
theorem dX10_state_8 : decode cX10_state 8 = .ok (.iload_n 3, 1) := by decide +kernel
theorem dX10_state_9 : decode cX10_state 9 = .ok (.invokevirtual 332, 3) := by decide +kernel
theorem dX10_state_12 : decode cX10_state 12 = .ok (.ifCond .ne 6, 3) := by decide +kernel
theorem dX10_state_15 : decode cX10_state 15 = .ok (.bipush (-2), 2) := by decide +kernel
theorem dX10_state_17 : decode cX10_state 17 = .ok (.ireturn, 1) := by decide +kernel
set_option maxRecDepth 20000 in
theorem ggX10_palm_X10_layState : GoodIn wsX10_palm wsX10_layState := goodIn_r _ [11, 12, 13, 14, 10, 15, 16, 17, 18, 19, 20, 21, 22, 23, 24, 25, 26, 27, 28, 29, 2, 5, 30, 31, 32, 33, 34, 35, 36, 37, 38, 39, 40, 41, 42, 43, 44, 45, 46, 47, 48, 49, 50, 51, 52, 53, 54, 3, 6, 55, 56, 57, 58, 59, 60, 61, 4, 62, 63, 64, 65, 66, 67, 68, 69, 70, 71, 72, 73, 74, 75, 76, 77, 78, 79, 80, 81, 82, 83, 84, 85, 86, 87, 88, 89, 90, 91, 92, 93, 94, 95, 96, 97, 98, 99, 100, 101, 102, 103, 104, 105, 106, 107, 108, 109, 110, 111, 112, 113, 114, 115, 116, 117, 118, 119, 120, 121, 122, 123, 124, 125, 126, 127, 128, 129, 130, 131, 132, 133, 134, 135, 136, 137, 138, 139, 140, 141, 142, 143, 144, 145, 146, 147, 148, 149, 150, 151, 152, 153, 154, 155, 156, 157, 158, 159, 160, 161, 162, 163, 164, 165, 166, 167, 168, 169, 170, 171, 172, 173, 174, 175, 176, 177, 178, 179, 180, 181] (by decide +kernel) (by decide +kernel)
set_option maxRecDepth 20000 in
theorem gX10_palm_X10_layState : GoodIn wsX10_palm (wsV RX10 332 RX10 yX10_layState wsX10_layState) := goodIn_app (goodIn_of _ (by decide +kernel)) ggX10_palm_X10_layState
theorem dX10_palm_0 : decode cX10_palm 0 = .ok (.aload_n 0, 1) := by decide +kernel
theorem dX10_palm_1 : decode cX10_palm 1 = .ok (.iconst 0, 1) := by decide +kernel
theorem dX10_palm_2 : decode cX10_palm 2 = .ok (.putfield 80, 3) := by decide +kernel
theorem dX10_palm_5 : decode cX10_palm 5 = .ok (.aload_n 0, 1) := by decide +kernel
theorem dX10_palm_6 : decode cX10_palm 6 = .ok (.iload_n 1, 1) := by decide +kernel
theorem dX10_palm_7 : decode cX10_palm 7 = .ok (.iload_n 2, 1) := by decide +kernel
theorem dX10_palm_8 : decode cX10_palm 8 = .ok (.iload_n 3, 1) := by decide +kernel
theorem dX10_palm_9 : decode cX10_palm 9 = .ok (.invokevirtual 332, 3) := by decide +kernel
theorem dX10_palm_12 : decode cX10_palm 12 = .ok (.ifCond .eq 12, 3) := by decide +kernel
theorem dX10_palm_24 : decode cX10_palm 24 = .ok (.bipush (-2), 2) := by decide +kernel
theorem dX10_palm_26 : decode cX10_palm 26 = .ok (.ireturn, 1) := by decide +kernel
set_option maxRecDepth 20000 in
theorem ggX10_actor_X10_layState : GoodIn wsX10_actor wsX10_layState := goodIn_r _ [10, 11, 12, 13, 9, 14, 15, 16, 17, 18, 19, 20, 21, 22, 23, 24, 25, 26, 27, 28, 29, 30, 31, 32, 33, 34, 35, 36, 37, 38, 39, 40, 41, 42, 43, 44, 45, 46, 47, 48, 49, 50, 51, 52, 2, 53, 54, 55, 56, 3, 5, 4, 57, 58, 59, 60, 61, 62, 63, 64, 65, 66, 67, 68, 69, 70, 71, 72, 73, 74, 75, 76, 77, 78, 79, 80, 81, 82, 83, 84, 85, 86, 87, 88, 89, 90, 91, 92, 93, 94, 95, 96, 97, 98, 99, 100, 101, 102, 103, 104, 105, 106, 107, 108, 109, 110, 111, 112, 113, 114, 115, 116, 117, 118, 119, 120, 121, 122, 123, 124, 125, 126, 127, 128, 129, 130, 131, 147, 148, 149, 150, 151, 152, 153, 154, 155, 156, 157, 158, 159, 160, 161, 162, 163, 164, 165, 166, 167, 168, 169, 170, 171, 172, 173, 174, 175, 176, 177, 178, 179, 180, 181, 182, 183, 184, 185, 186, 187, 188, 189, 190, 191, 192, 193, 194, 195, 196] (by decide +kernel) (by decide +kernel)
set_option maxRecDepth 20000 in
theorem gX10_actor_X10_layState : GoodIn wsX10_actor (wsV RX10 332 RX10 yX10_layState wsX10_layState) := goodIn_app (goodIn_of _ (by decide +kernel)) ggX10_actor_X10_layState
theorem dX10_actor_0 : decode cX10_actor 0 = .ok (.aload_n 0, 1) := by decide +kernel
theorem dX10_actor_1 : decode cX10_actor 1 = .ok (.iconst 0, 1) := by decide +kernel
theorem dX10_actor_2 : decode cX10_actor 2 = .ok (.putfield 80, 3) := by decide +kernel
theorem dX10_actor_5 : decode cX10_actor 5 = .ok (.aload_n 0, 1) := by decide +kernel
theorem dX10_actor_6 : decode cX10_actor 6 = .ok (.iload_n 1, 1) := by decide +kernel
theorem dX10_actor_7 : decode cX10_actor 7 = .ok (.iload_n 2, 1) := by decide +kernel
theorem dX10_actor_8 : decode cX10_actor 8 = .ok (.iload_n 3, 1) := by decide +kernel
theorem dX10_actor_9 : decode cX10_actor 9 = .ok (.invokevirtual 332, 3) := by decide +kernel
theorem dX10_actor_12 : decode cX10_actor 12 = .ok (.ifCond .eq 12, 3) := by decide +kernel
theorem dX10_actor_24 : decode cX10_actor 24 = .ok (.bipush (-2), 2) := by decide +kernel
theorem dX10_actor_26 : decode cX10_actor 26 = .ok (.ireturn, 1) := by decide +kernel
set_option maxRecDepth 20000 in
theorem ggX10_run_X10_layState : GoodIn wsX10_run wsX10_layState := goodIn_r _ [8, 9, 10, 11, 7, 12, 13, 14, 15, 16, 17, 18, 19, 20, 21, 22, 23, 24, 25, 26, 27, 2, 28, 29, 30, 31, 32, 33, 34, 35, 36, 37, 38, 39, 40, 41, 42, 43, 44, 45, 46, 47, 48, 49, 3, 50, 51, 52, 53, 54, 55, 56, 57, 58, 59, 60, 61, 62, 63, 64, 65, 66, 67, 68, 69, 70, 71, 72, 73, 74, 75, 76, 77, 78, 79, 80, 81, 82, 83, 84, 85, 86, 87, 88, 89, 90, 91, 92, 93, 94, 95, 96, 97, 98, 99, 100, 101, 102, 103, 104, 105, 106, 107, 108, 109, 110, 111, 112, 113, 114, 115, 116, 117, 118, 119, 120, 121, 122, 123, 124, 125, 126, 127, 128, 129, 130, 131, 140, 141, 142, 143, 144, 145, 146, 147, 148, 149, 150, 151, 152, 153, 154, 155, 156, 157, 158, 159, 160, 161, 162, 163, 164, 165, 166, 167, 168, 169, 170, 171, 172, 173, 174, 175, 176, 177, 178, 179, 180, 181, 182, 183, 184, 185, 186, 187, 188, 189] (by decide +kernel) (by decide +kernel)
set_option maxRecDepth 20000 in
theorem gX10_run_X10_layState : GoodIn wsX10_run (wsV RX10 332 RX10 yX10_layState wsX10_layState) := goodIn_app (goodIn_of _ (by decide +kernel)) ggX10_run_X10_layState
theorem dX10_run_0 : decode cX10_run 0 = .ok (.aload_n 0, 1) := by decide +kernel
theorem dX10_run_1 : decode cX10_run 1 = .ok (.iconst 0, 1) := by decide +kernel
theorem dX10_run_2 : decode cX10_run 2 = .ok (.putfield 80, 3) := by decide +kernel
theorem dX10_run_5 : decode cX10_run 5 = .ok (.aload_n 0, 1) := by decide +kernel
theorem dX10_run_6 : decode cX10_run 6 = .ok (.iload_n 1, 1) := by decide +kernel
theorem dX10_run_7 : decode cX10_run 7 = .ok (.iload_n 2, 1) := by decide +kernel
theorem dX10_run_8 : decode cX10_run 8 = .ok (.iload_n 3, 1) := by decide +kernel
theorem dX10_run_9 : decode cX10_run 9 = .ok (.invokevirtual 332, 3) := by decide +kernel
theorem dX10_run_12 : decode cX10_run 12 = .ok (.ifCond .eq 13, 3) := by decide +kernel
theorem dX10_run_25 : decode cX10_run 25 = .ok (.bipush (-2), 2) := by decide +kernel
theorem dX10_run_27 : decode cX10_run 27 = .ok (.ireturn, 1) := by decide +kernel
set_option maxRecDepth 20000 in
theorem ggX10_feast_X10_layState : GoodIn wsX10_feast wsX10_layState := goodIn_r _ [10, 11, 12, 13, 9, 14, 15, 16, 17, 18, 19, 20, 21, 22, 23, 24, 25, 26, 27, 28, 29, 2, 30, 31, 32, 33, 34, 35, 36, 37, 38, 39, 40, 41, 42, 43, 44, 45, 46, 47, 48, 49, 50, 51, 3, 52, 53, 54, 55, 56, 57, 58, 59, 60, 61, 62, 63, 64, 65, 66, 67, 68, 69, 70, 71, 72, 73, 74, 75, 76, 77, 78, 79, 80, 81, 82, 83, 84, 85, 86, 87, 88, 89, 90, 91, 92, 93, 94, 95, 96, 97, 98, 99, 100, 101, 102, 103, 104, 105, 106, 107, 108, 109, 110, 111, 112, 113, 114, 115, 116, 117, 118, 119, 120, 121, 122, 123, 124, 125, 126, 127, 128, 129, 130, 131, 132, 133, 152, 153, 154, 155, 156, 157, 158, 159, 160, 161, 162, 163, 164, 165, 166, 167, 168, 169, 170, 171, 172, 173, 174, 175, 176, 177, 178, 179, 180, 181, 182, 183, 184, 185, 186, 187, 188, 189, 190, 191, 192, 193, 194, 195, 196, 197, 198, 199, 200, 201] (by decide +kernel) (by decide +kernel)
set_option maxRecDepth 20000 in
theorem gX10_feast_X10_layState : GoodIn wsX10_feast (wsV RX10 332 RX10 yX10_layState wsX10_layState) := goodIn_app (goodIn_of _ (by decide +kernel)) ggX10_feast_X10_layState
theorem dX10_feast_0 : decode cX10_feast 0 = .ok (.aload_n 0, 1) := by decide +kernel
theorem dX10_feast_1 : decode cX10_feast 1 = .ok (.iconst 0, 1) := by decide +kernel
theorem dX10_feast_2 : decode cX10_feast 2 = .ok (.putfield 80, 3) := by decide +kernel
theorem dX10_feast_5 : decode cX10_feast 5 = .ok (.aload_n 0, 1) := by decide +kernel
theorem dX10_feast_6 : decode cX10_feast 6 = .ok (.iload_n 1, 1) := by decide +kernel
theorem dX10_feast_7 : decode cX10_feast 7 = .ok (.iload_n 2, 1) := by decide +kernel
theorem dX10_feast_8 : decode cX10_feast 8 = .ok (.iload_n 3, 1) := by decide +kernel
theorem dX10_feast_9 : decode cX10_feast 9 = .ok (.invokevirtual 332, 3) := by decide +kernel
theorem dX10_feast_12 : decode cX10_feast 12 = .ok (.ifCond .eq 13, 3) := by decide +kernel
theorem dX10_feast_25 : decode cX10_feast 25 = .ok (.bipush (-2), 2) := by decide +kernel
theorem dX10_feast_27 : decode cX10_feast 27 = .ok (.ireturn, 1) := by decide +kernel
set_option maxRecDepth 20000 in
theorem ggX10_fair_X10_layState : GoodIn wsX10_fair wsX10_layState := goodIn_r _ [9, 10, 11, 12, 8, 13, 14, 15, 16, 17, 18, 19, 20, 21, 22, 23, 24, 25, 26, 27, 3, 2, 28, 29, 30, 31, 32, 33, 34, 35, 36, 37, 38, 39, 40, 41, 42, 43, 44, 45, 46, 47, 48, 49, 50, 51, 52, 53, 54, 55, 56, 57, 58, 59, 60, 61, 4, 62, 63, 64, 65, 66, 67, 68, 69, 70, 71, 72, 73, 74, 75, 76, 77, 78, 79, 80, 81, 82, 83, 84, 85, 86, 87, 88, 89, 90, 91, 92, 93, 94, 95, 96, 97, 98, 99, 100, 101, 102, 103, 104, 105, 106, 107, 108, 109, 110, 111, 112, 113, 114, 115, 116, 117, 118, 119, 120, 121, 122, 123, 124, 125, 126, 127, 128, 129, 130, 131, 142, 143, 144, 145, 146, 147, 148, 149, 150, 151, 152, 153, 154, 155, 156, 157, 158, 159, 160, 161, 162, 163, 164, 165, 166, 167, 168, 169, 170, 171, 172, 173, 174, 175, 176, 177, 178, 179, 180, 181, 182, 183, 184, 185, 186, 187, 188, 189, 190, 191] (by decide +kernel) (by decide +kernel)
set_option maxRecDepth 20000 in
theorem gX10_fair_X10_layState : GoodIn wsX10_fair (wsV RX10 332 RX10 yX10_layState wsX10_layState) := goodIn_app (goodIn_of _ (by decide +kernel)) ggX10_fair_X10_layState
theorem dX10_fair_0 : decode cX10_fair 0 = .ok (.aload_n 0, 1) := by decide +kernel
theorem dX10_fair_1 : decode cX10_fair 1 = .ok (.iconst 0, 1) := by decide +kernel
theorem dX10_fair_2 : decode cX10_fair 2 = .ok (.putfield 80, 3) := by decide +kernel
theorem dX10_fair_5 : decode cX10_fair 5 = .ok (.aload_n 0, 1) := by decide +kernel
theorem dX10_fair_6 : decode cX10_fair 6 = .ok (.iload_n 1, 1) := by decide +kernel
theorem dX10_fair_7 : decode cX10_fair 7 = .ok (.iload_n 2, 1) := by decide +kernel
theorem dX10_fair_8 : decode cX10_fair 8 = .ok (.iload_n 3, 1) := by decide +kernel
theorem dX10_fair_9 : decode cX10_fair 9 = .ok (.invokevirtual 332, 3) := by decide +kernel
theorem dX10_fair_12 : decode cX10_fair 12 = .ok (.ifCond .ne 6, 3) := by decide +kernel
theorem dX10_fair_15 : decode cX10_fair 15 = .ok (.bipush (-2), 2) := by decide +kernel
theorem dX10_fair_17 : decode cX10_fair 17 = .ok (.ireturn, 1) := by decide +kernel
set_option maxRecDepth 20000 in
theorem ggX10_layUsurer_X10_hand : GoodIn wsX10_layUsurer wsX10_hand := goodIn_r _ [5, 6, 7, 8, 9, 10, 11, 12, 4, 13, 14, 15, 16, 17, 18, 19, 20, 21, 22, 39, 40, 41, 42, 43, 44, 45, 46, 47, 48, 49, 50, 51, 52, 53, 54, 55, 56, 57, 58, 59, 60, 61, 62, 63, 64, 65, 66, 67, 68, 69, 70, 71, 72, 73, 74, 75, 76, 77, 78, 79, 80, 81, 82, 83, 84, 85, 86, 87, 88] (by decide +kernel) (by decide +kernel)
set_option maxRecDepth 20000 in
theorem gX10_layUsurer_X10_hand : GoodIn wsX10_layUsurer (wsV RX10 237 RX10 yX10_hand wsX10_hand) := goodIn_app (goodIn_of _ (by decide +kernel)) ggX10_layUsurer_X10_hand
theorem dX10_layUsurer_0 : decode cX10_layUsurer 0 = .ok (.aload_n 0, 1) := by decide +kernel
theorem dX10_layUsurer_1 : decode cX10_layUsurer 1 = .ok (.iload_n 1, 1) := by decide +kernel
theorem dX10_layUsurer_2 : decode cX10_layUsurer 2 = .ok (.invokevirtual 237, 3) := by decide +kernel
theorem dX10_layUsurer_5 : decode cX10_layUsurer 5 = .ok (.ifCond .eq 28, 3) := by decide +kernel
theorem dX10_layUsurer_33 : decode cX10_layUsurer 33 = .ok (.iconst 0, 1) := by decide +kernel
theorem dX10_layUsurer_34 : decode cX10_layUsurer 34 = .ok (.ireturn, 1) := by decide +kernel
set_option maxRecDepth 20000 in
theorem ggX10_ask_X10_layUsurer : GoodIn wsX10_ask wsX10_layUsurer := goodIn_r _ [7, 8, 9, 10, 6, 11, 12, 13, 14, 15, 16, 17, 18, 19, 20, 21, 22, 23, 24, 25, 26, 27, 28, 29, 30, 31, 32, 33, 34, 35, 36, 2, 37, 38, 39, 40, 41, 42, 43, 44, 45, 46, 47, 48, 49, 50, 51, 52, 53, 54, 55, 56, 57, 58, 59, 60, 61, 62, 63, 64, 65, 66, 67, 68, 69, 70, 71, 72, 73, 74, 75, 76, 77, 78, 79, 80, 81, 82, 83, 84, 85, 86, 87, 88, 89, 90, 91, 92, 93] (by decide +kernel) (by decide +kernel)
set_option maxRecDepth 20000 in
theorem gX10_ask_X10_layUsurer : GoodIn wsX10_ask (wsV RX10 380 RX10 yX10_layUsurer wsX10_layUsurer) := goodIn_app (goodIn_of _ (by decide +kernel)) ggX10_ask_X10_layUsurer
theorem dX10_ask_0 : decode cX10_ask 0 = .ok (.aload_n 0, 1) := by decide +kernel
theorem dX10_ask_1 : decode cX10_ask 1 = .ok (.iconst 0, 1) := by decide +kernel
theorem dX10_ask_2 : decode cX10_ask 2 = .ok (.putfield 80, 3) := by decide +kernel
theorem dX10_ask_5 : decode cX10_ask 5 = .ok (.aload_n 0, 1) := by decide +kernel
theorem dX10_ask_6 : decode cX10_ask 6 = .ok (.iload_n 1, 1) := by decide +kernel
theorem dX10_ask_7 : decode cX10_ask 7 = .ok (.iload_n 2, 1) := by decide +kernel
theorem dX10_ask_8 : decode cX10_ask 8 = .ok (.iload_n 3, 1) := by decide +kernel
theorem dX10_ask_9 : decode cX10_ask 9 = .ok (.invokevirtual 380, 3) := by decide +kernel
theorem dX10_ask_12 : decode cX10_ask 12 = .ok (.ifCond .eq 16, 3) := by decide +kernel
theorem dX10_ask_28 : decode cX10_ask 28 = .ok (.iconst (-1), 1) := by decide +kernel
theorem dX10_ask_29 : decode cX10_ask 29 = .ok (.ireturn, 1) := by decide +kernel
set_option maxRecDepth 20000 in
theorem ggX10_taken_X10_layUsurer : GoodIn wsX10_taken wsX10_layUsurer := goodIn_r _ [8, 9, 10, 11, 7, 12, 13, 14, 15, 16, 17, 18, 19, 20, 21, 22, 23, 24, 25, 26, 27, 28, 29, 30, 31, 32, 33, 34, 35, 36, 37, 3, 2, 38, 39, 40, 41, 42, 43, 44, 45, 46, 47, 48, 49, 50, 51, 52, 53, 54, 55, 56, 57, 58, 59, 60, 61, 62, 63, 64, 65, 66, 67, 68, 69, 70, 71, 72, 73, 74, 75, 76, 77, 78, 79, 80, 81, 82, 83, 84, 85, 86, 87, 88, 89, 90, 91, 92, 93] (by decide +kernel) (by decide +kernel)
set_option maxRecDepth 20000 in
theorem gX10_taken_X10_layUsurer : GoodIn wsX10_taken (wsV RX10 380 RX10 yX10_layUsurer wsX10_layUsurer) := goodIn_app (goodIn_of _ (by decide +kernel)) ggX10_taken_X10_layUsurer
theorem dX10_taken_0 : decode cX10_taken 0 = .ok (.aload_n 0, 1) := by decide +kernel
theorem dX10_taken_1 : decode cX10_taken 1 = .ok (.iconst 0, 1) := by decide +kernel
theorem dX10_taken_2 : decode cX10_taken 2 = .ok (.putfield 80, 3) := by decide +kernel
theorem dX10_taken_5 : decode cX10_taken 5 = .ok (.aload_n 0, 1) := by decide +kernel
theorem dX10_taken_6 : decode cX10_taken 6 = .ok (.iload_n 1, 1) := by decide +kernel
theorem dX10_taken_7 : decode cX10_taken 7 = .ok (.iload_n 2, 1) := by decide +kernel
theorem dX10_taken_8 : decode cX10_taken 8 = .ok (.iload_n 3, 1) := by decide +kernel
theorem dX10_taken_9 : decode cX10_taken 9 = .ok (.invokevirtual 380, 3) := by decide +kernel
theorem dX10_taken_12 : decode cX10_taken 12 = .ok (.ifCond .ne 5, 3) := by decide +kernel
theorem dX10_taken_15 : decode cX10_taken 15 = .ok (.iconst (-1), 1) := by decide +kernel
theorem dX10_taken_16 : decode cX10_taken 16 = .ok (.ireturn, 1) := by decide +kernel
set_option maxRecDepth 20000 in
theorem ggX10_stands_X10_in : GoodIn wsX10_stands wsX10_in := goodIn_r _ [5] (by decide +kernel) (by decide +kernel)
set_option maxRecDepth 20000 in
theorem gX10_stands_X10_in : GoodIn wsX10_stands (va_wsS RX10 92 yX10_in wsX10_in) := goodIn_app (goodIn_of _ (by decide +kernel)) ggX10_stands_X10_in
set_option maxRecDepth 20000 in
theorem ggX10_stands_X10_hand : GoodIn wsX10_stands wsX10_hand := goodIn_r _ [9, 10, 11, 12, 13, 14, 15, 16, 4, 17, 18, 2, 3, 5, 19, 20, 21, 22, 23, 44, 45, 46, 47, 48, 49, 50, 51, 52, 53, 54, 55, 56, 57, 58, 59, 60, 61, 62, 63, 64, 65, 66, 67, 68, 69, 70, 71, 72, 73, 74, 75, 76, 77, 78, 79, 80, 81, 82, 83, 84, 85, 86, 87, 88, 89, 90, 91, 92, 93] (by decide +kernel) (by decide +kernel)
set_option maxRecDepth 20000 in
theorem gX10_stands_X10_hand : GoodIn wsX10_stands (wsV RX10 237 RX10 yX10_hand wsX10_hand) := goodIn_app (goodIn_of _ (by decide +kernel)) ggX10_stands_X10_hand
theorem dX10_stands_0 : decode cX10_stands 0 = .ok (.aload_n 0, 1) := by decide +kernel
theorem dX10_stands_1 : decode cX10_stands 1 = .ok (.iconst 0, 1) := by decide +kernel
theorem dX10_stands_2 : decode cX10_stands 2 = .ok (.putfield 80, 3) := by decide +kernel
theorem dX10_stands_5 : decode cX10_stands 5 = .ok (.iload_n 2, 1) := by decide +kernel
theorem dX10_stands_6 : decode cX10_stands 6 = .ok (.iconst 0, 1) := by decide +kernel
theorem dX10_stands_7 : decode cX10_stands 7 = .ok (.iconst 1, 1) := by decide +kernel
theorem dX10_stands_8 : decode cX10_stands 8 = .ok (.invokestatic 92, 3) := by decide +kernel
theorem dX10_stands_11 : decode cX10_stands 11 = .ok (.ifCond .eq 18, 3) := by decide +kernel
theorem dX10_stands_14 : decode cX10_stands 14 = .ok (.aload_n 0, 1) := by decide +kernel
theorem dX10_stands_15 : decode cX10_stands 15 = .ok (.iload_n 1, 1) := by decide +kernel
theorem dX10_stands_16 : decode cX10_stands 16 = .ok (.invokevirtual 237, 3) := by decide +kernel
theorem dX10_stands_19 : decode cX10_stands 19 = .ok (.ifCond .eq 10, 3) := by decide +kernel
theorem dX10_stands_29 : decode cX10_stands 29 = .ok (.iconst (-1), 1) := by decide +kernel
theorem dX10_stands_30 : decode cX10_stands 30 = .ok (.ireturn, 1) := by decide +kernel
set_option maxRecDepth 20000 in
theorem ggX10_hasDark_X10_is : GoodIn wsX10_hasDark wsX10_is := goodIn_r _ [8, 9, 10, 11, 7, 12, 13, 14, 15, 16, 17, 18, 19, 20, 21, 22, 23, 24, 25, 26, 27, 28, 29, 30, 31, 32, 33, 34, 35, 36, 37, 38, 39, 40, 41, 42, 43, 44, 45, 46, 47, 48, 49, 50, 51, 52, 53, 54, 55, 56, 57, 58, 59, 60, 61, 62] (by decide +kernel) (by decide +kernel)
set_option maxRecDepth 20000 in
theorem gX10_hasDark_X10_is : GoodIn wsX10_hasDark (wsV RX10 211 RX10 yX10_is wsX10_is) := goodIn_app (goodIn_of _ (by decide +kernel)) ggX10_hasDark_X10_is
theorem dX10_hasDark_0 : decode cX10_hasDark 0 = .ok (.aload_n 0, 1) := by decide +kernel
theorem dX10_hasDark_1 : decode cX10_hasDark 1 = .ok (.iload_n 1, 1) := by decide +kernel
theorem dX10_hasDark_2 : decode cX10_hasDark 2 = .ok (.putfield 386, 3) := by decide +kernel
theorem dX10_hasDark_5 : decode cX10_hasDark 5 = .ok (.aload_n 0, 1) := by decide +kernel
theorem dX10_hasDark_6 : decode cX10_hasDark 6 = .ok (.aload_n 0, 1) := by decide +kernel
theorem dX10_hasDark_7 : decode cX10_hasDark 7 = .ok (.iconst 2, 1) := by decide +kernel
theorem dX10_hasDark_8 : decode cX10_hasDark 8 = .ok (.iload_n 1, 1) := by decide +kernel
theorem dX10_hasDark_9 : decode cX10_hasDark 9 = .ok (.invokevirtual 211, 3) := by decide +kernel
theorem dX10_hasDark_12 : decode cX10_hasDark 12 = .ok (.ifCond .eq 15, 3) := by decide +kernel
theorem dX10_hasDark_27 : decode cX10_hasDark 27 = .ok (.iconst 0, 1) := by decide +kernel
theorem dX10_hasDark_28 : decode cX10_hasDark 28 = .ok (.putfield 389, 3) := by decide +kernel
theorem dX10_hasDark_31 : decode cX10_hasDark 31 = .ok (.aload_n 0, 1) := by decide +kernel
theorem dX10_hasDark_32 : decode cX10_hasDark 32 = .ok (.iconst 2, 1) := by decide +kernel
theorem dX10_hasDark_33 : decode cX10_hasDark 33 = .ok (.iload_n 1, 1) := by decide +kernel
theorem dX10_hasDark_34 : decode cX10_hasDark 34 = .ok (.invokevirtual 211, 3) := by decide +kernel
theorem dX10_hasDark_37 : decode cX10_hasDark 37 = .ok (.ireturn, 1) := by decide +kernel
set_option maxRecDepth 20000 in
theorem ggX10_heard_X10_hasDark : GoodIn wsX10_heard wsX10_hasDark := goodIn_r _ [7, 8, 9, 2, 10, 11, 12, 6, 13, 14, 15, 16, 17, 22, 23, 24, 25, 26, 27, 28, 29, 30, 31, 32, 33, 34, 35, 36, 37, 38, 39, 40, 41, 42, 43, 44, 45, 46, 47, 48, 49, 50, 51, 52, 53, 54, 55, 56, 57, 58, 59, 60, 61, 62, 63, 64, 65, 66, 67, 68, 69, 70, 71] (by decide +kernel) (by decide +kernel)
set_option maxRecDepth 20000 in
theorem gX10_heard_X10_hasDark : GoodIn wsX10_heard (wsV RX10 392 RX10 yX10_hasDark wsX10_hasDark) := goodIn_app (goodIn_of _ (by decide +kernel)) ggX10_heard_X10_hasDark
theorem dX10_heard_0 : decode cX10_heard 0 = .ok (.aload_n 0, 1) := by decide +kernel
theorem dX10_heard_1 : decode cX10_heard 1 = .ok (.iconst 0, 1) := by decide +kernel
theorem dX10_heard_2 : decode cX10_heard 2 = .ok (.putfield 80, 3) := by decide +kernel
theorem dX10_heard_5 : decode cX10_heard 5 = .ok (.aload_n 0, 1) := by decide +kernel
theorem dX10_heard_6 : decode cX10_heard 6 = .ok (.iload_n 1, 1) := by decide +kernel
theorem dX10_heard_7 : decode cX10_heard 7 = .ok (.invokevirtual 392, 3) := by decide +kernel
theorem dX10_heard_10 : decode cX10_heard 10 = .ok (.ifCond .ne 6, 3) := by decide +kernel
theorem dX10_heard_13 : decode cX10_heard 13 = .ok (.bipush (-2), 2) := by decide +kernel
theorem dX10_heard_15 : decode cX10_heard 15 = .ok (.ireturn, 1) := by decide +kernel
set_option maxRecDepth 20000 in
theorem ggX10_ways_X10_hasDark : GoodIn wsX10_ways wsX10_hasDark := goodIn_r _ [8, 9, 10, 11, 12, 13, 14, 7, 15, 16, 17, 18, 19, 73, 74, 75, 76, 77, 78, 79, 80, 81, 82, 83, 84, 85, 86, 87, 88, 89, 90, 91, 92, 93, 94, 95, 96, 97, 98, 99, 100, 101, 102, 103, 104, 105, 106, 107, 108, 109, 110, 111, 112, 113, 114, 115, 116, 117, 118, 119, 120, 121, 122] (by decide +kernel) (by decide +kernel)
set_option maxRecDepth 20000 in
theorem gX10_ways_X10_hasDark : GoodIn wsX10_ways (wsV RX10 392 RX10 yX10_hasDark wsX10_hasDark) := goodIn_app (goodIn_of _ (by decide +kernel)) ggX10_ways_X10_hasDark
theorem dX10_ways_0 : decode cX10_ways 0 = .ok (.aload_n 0, 1) := by decide +kernel
theorem dX10_ways_1 : decode cX10_ways 1 = .ok (.iconst 0, 1) := by decide +kernel
theorem dX10_ways_2 : decode cX10_ways 2 = .ok (.putfield 80, 3) := by decide +kernel
theorem dX10_ways_5 : decode cX10_ways 5 = .ok (.aload_n 0, 1) := by decide +kernel
theorem dX10_ways_6 : decode cX10_ways 6 = .ok (.iload_n 2, 1) := by decide +kernel
theorem dX10_ways_7 : decode cX10_ways 7 = .ok (.invokevirtual 392, 3) := by decide +kernel
theorem dX10_ways_10 : decode cX10_ways 10 = .ok (.ifCond .eq 11, 3) := by decide +kernel
theorem dX10_ways_21 : decode cX10_ways 21 = .ok (.ldc2_w 413, 3) := by decide +kernel
theorem dX10_ways_24 : decode cX10_ways 24 = .ok (.lreturn, 1) := by decide +kernel
set_option maxRecDepth 20000 in
theorem ggX10_whose_X10_hasDark : GoodIn wsX10_whose wsX10_hasDark := goodIn_r _ [9, 10, 11, 2, 12, 13, 14, 8, 15, 16, 17, 18, 19, 76, 77, 78, 79, 80, 81, 82, 83, 84, 85, 86, 87, 88, 89, 90, 91, 92, 93, 94, 95, 96, 97, 98, 99, 100, 101, 102, 103, 104, 105, 106, 107, 108, 109, 110, 111, 112, 113, 114, 115, 116, 117, 118, 119, 120, 121, 122, 123, 124, 125] (by decide +kernel) (by decide +kernel)
set_option maxRecDepth 20000 in
theorem gX10_whose_X10_hasDark : GoodIn wsX10_whose (wsV RX10 392 RX10 yX10_hasDark wsX10_hasDark) := goodIn_app (goodIn_of _ (by decide +kernel)) ggX10_whose_X10_hasDark
theorem dX10_whose_0 : decode cX10_whose 0 = .ok (.aload_n 0, 1) := by decide +kernel
theorem dX10_whose_1 : decode cX10_whose 1 = .ok (.iconst 0, 1) := by decide +kernel
theorem dX10_whose_2 : decode cX10_whose 2 = .ok (.putfield 80, 3) := by decide +kernel
theorem dX10_whose_5 : decode cX10_whose 5 = .ok (.aload_n 0, 1) := by decide +kernel
theorem dX10_whose_6 : decode cX10_whose 6 = .ok (.iload_n 2, 1) := by decide +kernel
theorem dX10_whose_7 : decode cX10_whose 7 = .ok (.invokevirtual 392, 3) := by decide +kernel
theorem dX10_whose_10 : decode cX10_whose 10 = .ok (.ifCond .eq 25, 3) := by decide +kernel
theorem dX10_whose_35 : decode cX10_whose 35 = .ok (.bipush (-2), 2) := by decide +kernel
theorem dX10_whose_37 : decode cX10_whose 37 = .ok (.ireturn, 1) := by decide +kernel
set_option maxRecDepth 20000 in
theorem ggX10_drawn_X10_in : GoodIn wsX10_drawn wsX10_in := goodIn_r _ [11] (by decide +kernel) (by decide +kernel)
set_option maxRecDepth 20000 in
theorem gX10_drawn_X10_in : GoodIn wsX10_drawn (va_wsS RX10 92 yX10_in wsX10_in) := goodIn_app (goodIn_of _ (by decide +kernel)) ggX10_drawn_X10_in
set_option maxRecDepth 20000 in
theorem ggX10_drawn_X10_hand : GoodIn wsX10_drawn wsX10_hand := goodIn_r _ [15, 16, 4, 2, 17, 18, 19, 20, 10, 21, 22, 8, 9, 11, 23, 24, 25, 26, 27, 91, 92, 93, 94, 95, 96, 97, 98, 99, 100, 101, 102, 103, 104, 105, 106, 107, 108, 109, 110, 111, 112, 113, 114, 115, 116, 117, 118, 119, 120, 121, 122, 123, 124, 125, 126, 127, 128, 129, 130, 131, 132, 133, 134, 135, 136, 137, 138, 139, 140] (by decide +kernel) (by decide +kernel)
set_option maxRecDepth 20000 in
theorem gX10_drawn_X10_hand : GoodIn wsX10_drawn (wsV RX10 237 RX10 yX10_hand wsX10_hand) := goodIn_app (goodIn_of _ (by decide +kernel)) ggX10_drawn_X10_hand
theorem dX10_drawn_0 : decode cX10_drawn 0 = .ok (.aload_n 0, 1) := by decide +kernel
theorem dX10_drawn_1 : decode cX10_drawn 1 = .ok (.iconst 0, 1) := by decide +kernel
theorem dX10_drawn_2 : decode cX10_drawn 2 = .ok (.putfield 80, 3) := by decide +kernel
theorem dX10_drawn_5 : decode cX10_drawn 5 = .ok (.iload_n 3, 1) := by decide +kernel
theorem dX10_drawn_6 : decode cX10_drawn 6 = .ok (.iconst 0, 1) := by decide +kernel
theorem dX10_drawn_7 : decode cX10_drawn 7 = .ok (.bipush 20, 2) := by decide +kernel
theorem dX10_drawn_9 : decode cX10_drawn 9 = .ok (.invokestatic 92, 3) := by decide +kernel
theorem dX10_drawn_12 : decode cX10_drawn 12 = .ok (.ifCond .eq 38, 3) := by decide +kernel
theorem dX10_drawn_15 : decode cX10_drawn 15 = .ok (.aload_n 0, 1) := by decide +kernel
theorem dX10_drawn_16 : decode cX10_drawn 16 = .ok (.iload_n 1, 1) := by decide +kernel
theorem dX10_drawn_17 : decode cX10_drawn 17 = .ok (.invokevirtual 237, 3) := by decide +kernel
theorem dX10_drawn_20 : decode cX10_drawn 20 = .ok (.ifCond .eq 30, 3) := by decide +kernel
theorem dX10_drawn_50 : decode cX10_drawn 50 = .ok (.iconst (-1), 1) := by decide +kernel
theorem dX10_drawn_51 : decode cX10_drawn 51 = .ok (.ireturn, 1) := by decide +kernel
set_option maxRecDepth 20000 in
theorem ggX10_look_X10_layState : GoodIn wsX10_look wsX10_layState := goodIn_r _ [7, 8, 9, 10, 6, 11, 12, 13, 14, 15, 16, 17, 18, 19, 20, 21, 22, 23, 24, 25, 26, 2, 27, 28, 29, 30, 31, 32, 33, 34, 35, 36, 37, 38, 39, 40, 41, 42, 43, 44, 45, 46, 47, 48, 49, 50, 51, 52, 53, 54, 55, 56, 57, 58, 59, 60, 61, 62, 63, 64, 65, 66, 67, 68, 69, 70, 71, 72, 73, 74, 75, 76, 77, 78, 79, 80, 81, 82, 83, 84, 85, 86, 87, 88, 89, 90, 91, 92, 93, 94, 95, 96, 97, 98, 99, 100, 101, 102, 103, 104, 105, 106, 107, 108, 109, 110, 111, 112, 113, 114, 115, 116, 117, 118, 119, 120, 121, 122, 123, 124, 125, 126, 127, 128, 129, 130, 131, 155, 156, 157, 158, 159, 160, 161, 162, 163, 164, 165, 166, 167, 168, 169, 170, 171, 172, 173, 174, 175, 176, 177, 178, 179, 180, 181, 182, 183, 184, 185, 186, 187, 188, 189, 190, 191, 192, 193, 194, 195, 196, 197, 198, 199, 200, 201, 202, 203, 204] (by decide +kernel) (by decide +kernel)
set_option maxRecDepth 20000 in
theorem gX10_look_X10_layState : GoodIn wsX10_look (wsV RX10 332 RX10 yX10_layState wsX10_layState) := goodIn_app (goodIn_of _ (by decide +kernel)) ggX10_look_X10_layState
theorem dX10_look_0 : decode cX10_look 0 = .ok (.aload_n 0, 1) := by decide +kernel
theorem dX10_look_1 : decode cX10_look 1 = .ok (.iconst 0, 1) := by decide +kernel
theorem dX10_look_2 : decode cX10_look 2 = .ok (.putfield 80, 3) := by decide +kernel
theorem dX10_look_5 : decode cX10_look 5 = .ok (.aload_n 0, 1) := by decide +kernel
theorem dX10_look_6 : decode cX10_look 6 = .ok (.iload_n 1, 1) := by decide +kernel
theorem dX10_look_7 : decode cX10_look 7 = .ok (.iload_n 2, 1) := by decide +kernel
theorem dX10_look_8 : decode cX10_look 8 = .ok (.iload_n 3, 1) := by decide +kernel
theorem dX10_look_9 : decode cX10_look 9 = .ok (.invokevirtual 332, 3) := by decide +kernel
theorem dX10_look_12 : decode cX10_look 12 = .ok (.ifCond .ne 6, 3) := by decide +kernel
theorem dX10_look_15 : decode cX10_look 15 = .ok (.bipush (-2), 2) := by decide +kernel
theorem dX10_look_17 : decode cX10_look 17 = .ok (.ireturn, 1) := by decide +kernel
set_option maxRecDepth 20000 in
theorem ggX10_silence_X10_hasBook : GoodIn wsX10_silence wsX10_hasBook := goodIn_r _ [7, 8, 9, 10, 11, 6, 12, 13, 14, 15, 16, 142, 143, 144, 145, 146, 147, 148, 149, 150, 151, 152, 153, 154, 155, 156, 157, 158, 159, 160, 161, 162, 163, 164, 165, 166, 167, 168, 169, 170, 171, 172, 173, 174, 175, 176, 177, 178, 179, 180, 181, 182, 183, 184, 185, 186, 187, 188, 189, 190, 191] (by decide +kernel) (by decide +kernel)
set_option maxRecDepth 20000 in
theorem gX10_silence_X10_hasBook : GoodIn wsX10_silence (wsV RX10 249 RX10 yX10_hasBook wsX10_hasBook) := goodIn_app (goodIn_of _ (by decide +kernel)) ggX10_silence_X10_hasBook
theorem dX10_silence_0 : decode cX10_silence 0 = .ok (.aload_n 0, 1) := by decide +kernel
theorem dX10_silence_1 : decode cX10_silence 1 = .ok (.iconst 0, 1) := by decide +kernel
theorem dX10_silence_2 : decode cX10_silence 2 = .ok (.putfield 80, 3) := by decide +kernel
theorem dX10_silence_5 : decode cX10_silence 5 = .ok (.aload_n 0, 1) := by decide +kernel
theorem dX10_silence_6 : decode cX10_silence 6 = .ok (.iload_n 2, 1) := by decide +kernel
theorem dX10_silence_7 : decode cX10_silence 7 = .ok (.invokevirtual 249, 3) := by decide +kernel
theorem dX10_silence_10 : decode cX10_silence 10 = .ok (.ifCond .eq 11, 3) := by decide +kernel
theorem dX10_silence_21 : decode cX10_silence 21 = .ok (.iconst (-1), 1) := by decide +kernel
theorem dX10_silence_22 : decode cX10_silence 22 = .ok (.ireturn, 1) := by decide +kernel
set_option maxRecDepth 20000 in
theorem ggX10_count_X10_in : GoodIn wsX10_count wsX10_in := goodIn_r _ [6] (by decide +kernel) (by decide +kernel)
set_option maxRecDepth 20000 in
theorem gX10_count_X10_in : GoodIn wsX10_count (va_wsS RX10 92 yX10_in wsX10_in) := goodIn_app (goodIn_of _ (by decide +kernel)) ggX10_count_X10_in
theorem dX10_count_0 : decode cX10_count 0 = .ok (.aload_n 0, 1) := by decide +kernel
theorem dX10_count_1 : decode cX10_count 1 = .ok (.iconst 0, 1) := by decide +kernel
theorem dX10_count_2 : decode cX10_count 2 = .ok (.putfield 80, 3) := by decide +kernel
theorem dX10_count_5 : decode cX10_count 5 = .ok (.iload_n 1, 1) := by decide +kernel
theorem dX10_count_6 : decode cX10_count 6 = .ok (.iconst 0, 1) := by decide +kernel
theorem dX10_count_7 : decode cX10_count 7 = .ok (.iconst 2, 1) := by decide +kernel
theorem dX10_count_8 : decode cX10_count 8 = .ok (.invokestatic 92, 3) := by decide +kernel
theorem dX10_count_11 : decode cX10_count 11 = .ok (.ifCond .eq 12, 3) := by decide +kernel
theorem dX10_count_14 : decode cX10_count 14 = .ok (.aload_n 0, 1) := by decide +kernel
theorem dX10_count_15 : decode cX10_count 15 = .ok (.getfield 23, 3) := by decide +kernel
theorem dX10_count_18 : decode cX10_count 18 = .ok (.iload_n 1, 1) := by decide +kernel
theorem dX10_count_19 : decode cX10_count 19 = .ok (.iaload, 1) := by decide +kernel
theorem dX10_count_20 : decode cX10_count 20 = .ok (.goto 5, 3) := by decide +kernel
theorem dX10_count_23 : decode cX10_count 23 = .ok (.bipush (-2), 2) := by decide +kernel
theorem dX10_count_25 : decode cX10_count 25 = .ok (.ireturn, 1) := by decide +kernel
set_option maxRecDepth 20000 in
theorem ggX10_image_X10_in : GoodIn wsX10_image wsX10_in := goodIn_r _ [6] (by decide +kernel) (by decide +kernel)
set_option maxRecDepth 20000 in
theorem gX10_image_X10_in : GoodIn wsX10_image (va_wsS RX10 92 yX10_in wsX10_in) := goodIn_app (goodIn_of _ (by decide +kernel)) ggX10_image_X10_in
set_option maxRecDepth 20000 in
theorem ggX10_image_X10_copyAll : GoodIn wsX10_image wsX10_copyAll := goodIn_r _ [10, 11, 12, 13, 14, 15, 16, 17, 18, 19, 20, 5, 21, 22, 23, 24, 25, 26, 27, 28, 29, 30, 31, 32, 33, 34, 35, 36, 37, 38, 39, 40, 41, 42, 43, 44, 45, 46, 47, 48, 49, 50, 51, 52, 53, 54, 55, 56, 57, 58, 59, 60, 61, 62, 63, 64, 65, 66, 67, 68, 69, 70, 71] (by decide +kernel) (by decide +kernel)
set_option maxRecDepth 20000 in
theorem gX10_image_X10_copyAll : GoodIn wsX10_image (wsV RX10 452 RX10 yX10_copyAll wsX10_copyAll) := goodIn_app (goodIn_of _ (by decide +kernel)) ggX10_image_X10_copyAll
theorem dX10_image_0 : decode cX10_image 0 = .ok (.aload_n 0, 1) := by decide +kernel
theorem dX10_image_1 : decode cX10_image 1 = .ok (.iconst 0, 1) := by decide +kernel
theorem dX10_image_2 : decode cX10_image 2 = .ok (.putfield 80, 3) := by decide +kernel
theorem dX10_image_5 : decode cX10_image 5 = .ok (.iload_n 1, 1) := by decide +kernel
theorem dX10_image_6 : decode cX10_image 6 = .ok (.iconst 0, 1) := by decide +kernel
theorem dX10_image_7 : decode cX10_image 7 = .ok (.iconst 2, 1) := by decide +kernel
theorem dX10_image_8 : decode cX10_image 8 = .ok (.invokestatic 92, 3) := by decide +kernel
theorem dX10_image_11 : decode cX10_image 11 = .ok (.ifCond .ne 5, 3) := by decide +kernel
theorem dX10_image_14 : decode cX10_image 14 = .ok (.iconst 0, 1) := by decide +kernel
theorem dX10_image_15 : decode cX10_image 15 = .ok (.ireturn, 1) := by decide +kernel
theorem dX10_image_16 : decode cX10_image 16 = .ok (.aload_n 0, 1) := by decide +kernel
theorem dX10_image_17 : decode cX10_image 17 = .ok (.iconst 0, 1) := by decide +kernel
theorem dX10_image_18 : decode cX10_image 18 = .ok (.iload_n 1, 1) := by decide +kernel
theorem dX10_image_19 : decode cX10_image 19 = .ok (.iconst 1, 1) := by decide +kernel
theorem dX10_image_20 : decode cX10_image 20 = .ok (.iadd, 1) := by decide +kernel
theorem dX10_image_21 : decode cX10_image 21 = .ok (.invokevirtual 452, 3) := by decide +kernel
theorem dX10_image_24 : decode cX10_image 24 = .ok (.aload_n 0, 1) := by decide +kernel
theorem dX10_image_25 : decode cX10_image 25 = .ok (.getfield 76, 3) := by decide +kernel
theorem dX10_image_28 : decode cX10_image 28 = .ok (.iload_n 1, 1) := by decide +kernel
theorem dX10_image_29 : decode cX10_image 29 = .ok (.iconst 1, 1) := by decide +kernel
theorem dX10_image_30 : decode cX10_image 30 = .ok (.bastore, 1) := by decide +kernel
theorem dX10_image_31 : decode cX10_image 31 = .ok (.iconst 1, 1) := by decide +kernel
theorem dX10_image_32 : decode cX10_image 32 = .ok (.ireturn, 1) := by decide +kernel
set_option maxRecDepth 20000 in
theorem ggX10_again_X10_in : GoodIn wsX10_again wsX10_in := goodIn_r _ [6] (by decide +kernel) (by decide +kernel)
set_option maxRecDepth 20000 in
theorem gX10_again_X10_in : GoodIn wsX10_again (va_wsS RX10 92 yX10_in wsX10_in) := goodIn_app (goodIn_of _ (by decide +kernel)) ggX10_again_X10_in
theorem dX10_again_0 : decode cX10_again 0 = .ok (.aload_n 0, 1) := by decide +kernel
theorem dX10_again_1 : decode cX10_again 1 = .ok (.iconst 0, 1) := by decide +kernel
theorem dX10_again_2 : decode cX10_again 2 = .ok (.putfield 80, 3) := by decide +kernel
theorem dX10_again_5 : decode cX10_again 5 = .ok (.iload_n 1, 1) := by decide +kernel
theorem dX10_again_6 : decode cX10_again 6 = .ok (.iconst 0, 1) := by decide +kernel
theorem dX10_again_7 : decode cX10_again 7 = .ok (.iconst 2, 1) := by decide +kernel
theorem dX10_again_8 : decode cX10_again 8 = .ok (.invokestatic 92, 3) := by decide +kernel
theorem dX10_again_11 : decode cX10_again 11 = .ok (.ifCond .eq 12, 3) := by decide +kernel
theorem dX10_again_14 : decode cX10_again 14 = .ok (.aload_n 0, 1) := by decide +kernel
theorem dX10_again_15 : decode cX10_again 15 = .ok (.getfield 76, 3) := by decide +kernel
theorem dX10_again_18 : decode cX10_again 18 = .ok (.iload_n 1, 1) := by decide +kernel
theorem dX10_again_19 : decode cX10_again 19 = .ok (.baload, 1) := by decide +kernel
theorem dX10_again_20 : decode cX10_again 20 = .ok (.ifCond .ne 5, 3) := by decide +kernel
theorem dX10_again_23 : decode cX10_again 23 = .ok (.iconst 0, 1) := by decide +kernel
theorem dX10_again_24 : decode cX10_again 24 = .ok (.ireturn, 1) := by decide +kernel
