theorem goodIn_app {big a b : List Cond} (ha : GoodIn big a) (hb : GoodIn big b) : GoodIn big (a ++ b) := fun w h => (List.mem_append.mp h).elim (ha w) (hb w)
abbrev cX0_copyFrom : ByteArray := prog_2_method_2_code
def yX0_copyFrom : MethodName := ⟨RX0, "copyFrom", "(LClapBank$Book;)V"⟩
abbrev cX0_addDeed : ByteArray := prog_2_method_3_code
def yX0_addDeed : MethodName := ⟨RX0, "addDeed", "(IIII)V"⟩
abbrev cX0_part : ByteArray := prog_2_method_4_code
def yX0_part : MethodName := ⟨RX0, "part", "(II)I"⟩
abbrev cX0_isOf : ByteArray := prog_2_method_5_code
def yX0_isOf : MethodName := ⟨RX0, "isOf", "(II)Z"⟩
abbrev cX1_copyFrom : ByteArray := prog_3_method_2_code
def yX1_copyFrom : MethodName := ⟨RX1, "copyFrom", "(LClapBank$Dark;)V"⟩
abbrev cX1_addMinute : ByteArray := prog_3_method_3_code
def yX1_addMinute : MethodName := ⟨RX1, "addMinute", "(I)V"⟩
abbrev cX1_hasMinute : ByteArray := prog_3_method_4_code
def yX1_hasMinute : MethodName := ⟨RX1, "hasMinute", "(I)Z"⟩
abbrev cX2_begin : ByteArray := prog_4_method_2_code
def yX2_begin : MethodName := ⟨RX2, "begin", "(LClapBank$Theatre;)V"⟩
abbrev cX2_playFirst : ByteArray := prog_4_method_3_code
def yX2_playFirst : MethodName := ⟨RX2, "playFirst", "(LClapBank$Theatre;LClapBank$Book;I)Z"⟩
abbrev cX2_playAll : ByteArray := prog_4_method_4_code
def yX2_playAll : MethodName := ⟨RX2, "playAll", "(LClapBank$Theatre;LClapBank$Book;)I"⟩
abbrev cX2_playWithout : ByteArray := prog_4_method_5_code
def yX2_playWithout : MethodName := ⟨RX2, "playWithout", "(LClapBank$Theatre;LClapBank$Book;II)V"⟩
abbrev cX2_playDrawn : ByteArray := prog_4_method_6_code
def yX2_playDrawn : MethodName := ⟨RX2, "playDrawn", "(LClapBank$Theatre;II)V"⟩
abbrev cX2_hasPalm : ByteArray := prog_4_method_7_code
def yX2_hasPalm : MethodName := ⟨RX2, "hasPalm", "(I)Z"⟩
abbrev cX2_hasActor : ByteArray := prog_4_method_8_code
def yX2_hasActor : MethodName := ⟨RX2, "hasActor", "(I)Z"⟩
abbrev cX2_lives : ByteArray := prog_4_method_9_code
def yX2_lives : MethodName := ⟨RX2, "lives", "(I)Z"⟩
abbrev cX2_isHushed : ByteArray := prog_4_method_10_code
def yX2_isHushed : MethodName := ⟨RX2, "isHushed", "(I)Z"⟩
abbrev cX2_canBe : ByteArray := prog_4_method_11_code
def yX2_canBe : MethodName := ⟨RX2, "canBe", "(LClapBank$Book;I)Z"⟩
abbrev cX2_canGive : ByteArray := prog_4_method_12_code
def yX2_canGive : MethodName := ⟨RX2, "canGive", "(II)Z"⟩
abbrev cX2_act : ByteArray := prog_4_method_13_code
def yX2_act : MethodName := ⟨RX2, "act", "(LClapBank$Book;I)V"⟩
abbrev cX2_clapFor : ByteArray := prog_4_method_14_code
def yX2_clapFor : MethodName := ⟨RX2, "clapFor", "(III)V"⟩
abbrev cX2_move : ByteArray := prog_4_method_15_code
def yX2_move : MethodName := ⟨RX2, "move", "(III)V"⟩
abbrev cX2_give : ByteArray := prog_4_method_16_code
def yX2_give : MethodName := ⟨RX2, "give", "(II)V"⟩
abbrev cX2_priceBehind : ByteArray := prog_4_method_17_code
def yX2_priceBehind : MethodName := ⟨RX2, "priceBehind", "(II)I"⟩
abbrev cX2_price : ByteArray := prog_4_method_18_code
def yX2_price : MethodName := ⟨RX2, "price", "(I)I"⟩
abbrev cX2_need : ByteArray := prog_4_method_19_code
def yX2_need : MethodName := ⟨RX2, "need", "(I)I"⟩
abbrev cX2_grown : ByteArray := prog_4_method_20_code
def yX2_grown : MethodName := ⟨RX2, "grown", "(I)I"⟩
abbrev cX2_passNight : ByteArray := prog_4_method_21_code
def yX2_passNight : MethodName := ⟨RX2, "passNight", "()V"⟩
abbrev cX2_dine : ByteArray := prog_4_method_22_code
def yX2_dine : MethodName := ⟨RX2, "dine", "(I)V"⟩
abbrev cX2_living : ByteArray := prog_4_method_23_code
def yX2_living : MethodName := ⟨RX2, "living", "()I"⟩
abbrev cX2_allLeft : ByteArray := prog_4_method_24_code
def yX2_allLeft : MethodName := ⟨RX2, "allLeft", "()I"⟩
abbrev cX2_allNeeds : ByteArray := prog_4_method_25_code
def yX2_allNeeds : MethodName := ⟨RX2, "allNeeds", "()I"⟩
abbrev cX2_allSaved : ByteArray := prog_4_method_26_code
def yX2_allSaved : MethodName := ⟨RX2, "allSaved", "()I"⟩
abbrev cX2_tell : ByteArray := prog_4_method_27_code
def yX2_tell : MethodName := ⟨RX2, "tell", "(I)I"⟩
abbrev cX2_tellPalm : ByteArray := prog_4_method_28_code
def yX2_tellPalm : MethodName := ⟨RX2, "tellPalm", "(II)I"⟩
abbrev cX2_tellActor : ByteArray := prog_4_method_29_code
def yX2_tellActor : MethodName := ⟨RX2, "tellActor", "(II)I"⟩
abbrev cX2_friday : ByteArray := prog_4_method_30_code
def yX2_friday : MethodName := ⟨RX2, "friday", "(I)I"⟩
abbrev cX2_star : ByteArray := prog_4_method_31_code
def yX2_star : MethodName := ⟨RX2, "star", "(I)I"⟩
abbrev cX2_doomed : ByteArray := prog_4_method_32_code
def yX2_doomed : MethodName := ⟨RX2, "doomed", "()I"⟩
abbrev cX2_danger : ByteArray := prog_4_method_33_code
def yX2_danger : MethodName := ⟨RX2, "danger", "()I"⟩
abbrev cX2_pricesOf : ByteArray := prog_4_method_34_code
def yX2_pricesOf : MethodName := ⟨RX2, "pricesOf", "(I)I"⟩
abbrev cX2_dearerThan : ByteArray := prog_4_method_35_code
def yX2_dearerThan : MethodName := ⟨RX2, "dearerThan", "(I)I"⟩
abbrev cX2_loan : ByteArray := prog_4_method_36_code
def yX2_loan : MethodName := ⟨RX2, "loan", "()I"⟩
abbrev cX2_idol : ByteArray := prog_4_method_37_code
def yX2_idol : MethodName := ⟨RX2, "idol", "()I"⟩
abbrev cX2_tip : ByteArray := prog_4_method_38_code
def yX2_tip : MethodName := ⟨RX2, "tip", "(I)I"⟩
abbrev cX2_eatsWith : ByteArray := prog_4_method_39_code
def yX2_eatsWith : MethodName := ⟨RX2, "eatsWith", "(II)Z"⟩
abbrev cX2_dear : ByteArray := prog_4_method_40_code
def yX2_dear : MethodName := ⟨RX2, "dear", "(I)I"⟩
abbrev cX3_lay : ByteArray := prog_5_method_2_code
def yX3_lay : MethodName := ⟨RX3, "lay", "(LClapBank$Evening;)V"⟩
abbrev cX3_tryGuests : ByteArray := prog_5_method_3_code
def yX3_tryGuests : MethodName := ⟨RX3, "tryGuests", "(LClapBank$Evening;III)V"⟩
abbrev cX3_isBetter : ByteArray := prog_5_method_4_code
def yX3_isBetter : MethodName := ⟨RX3, "isBetter", "(III)Z"⟩
abbrev cX3_tell : ByteArray := prog_5_method_5_code
def yX3_tell : MethodName := ⟨RX3, "tell", "(I)I"⟩
abbrev cX4_listen : ByteArray := prog_6_method_2_code
def yX4_listen : MethodName := ⟨RX4, "listen", "(LClapBank$Theatre;LClapBank$Dark;)V"⟩
abbrev cX4_tally : ByteArray := prog_6_method_3_code
def yX4_tally : MethodName := ⟨RX4, "tally", "(II)J"⟩
abbrev cX4_fill : ByteArray := prog_6_method_4_code
def yX4_fill : MethodName := ⟨RX4, "fill", "([IIIII)V"⟩
abbrev cX4_spread : ByteArray := prog_6_method_5_code
def yX4_spread : MethodName := ⟨RX4, "spread", "([IIII)V"⟩
abbrev cX4_addUp : ByteArray := prog_6_method_6_code
def yX4_addUp : MethodName := ⟨RX4, "addUp", "([I)V"⟩
abbrev cX4_roomBehind : ByteArray := prog_6_method_7_code
def yX4_roomBehind : MethodName := ⟨RX4, "roomBehind", "(I)I"⟩
abbrev cX4_compareMinute : ByteArray := prog_6_method_8_code
def yX4_compareMinute : MethodName := ⟨RX4, "compareMinute", "(I)V"⟩
abbrev cX5_read : ByteArray := prog_7_method_2_code
def yX5_read : MethodName := ⟨RX5, "read", "([BII)V"⟩
abbrev cX5_readLine : ByteArray := prog_7_method_3_code
def yX5_readLine : MethodName := ⟨RX5, "readLine", "([BII)Z"⟩
abbrev cX5_refuse : ByteArray := prog_7_method_4_code
def yX5_refuse : MethodName := ⟨RX5, "refuse", "()Z"⟩
abbrev cX5_note : ByteArray := prog_7_method_5_code
def yX5_note : MethodName := ⟨RX5, "note", "(I)V"⟩
abbrev cX5_step : ByteArray := prog_7_method_6_code
def yX5_step : MethodName := ⟨RX5, "step", "([BI)V"⟩
abbrev cX5_isLetter : ByteArray := prog_7_method_7_code
def yX5_isLetter : MethodName := ⟨RX5, "isLetter", "(B)Z"⟩
abbrev cX5_isDigit : ByteArray := prog_7_method_8_code
def yX5_isDigit : MethodName := ⟨RX5, "isDigit", "(B)Z"⟩
abbrev cX5_kindOf : ByteArray := prog_7_method_9_code
def yX5_kindOf : MethodName := ⟨RX5, "kindOf", "([BI)I"⟩
abbrev cX5_spells : ByteArray := prog_7_method_10_code
def yX5_spells : MethodName := ⟨RX5, "spells", "([BLjava/lang/String;)Z"⟩
abbrev cX5_wordOf : ByteArray := prog_7_method_11_code
def yX5_wordOf : MethodName := ⟨RX5, "wordOf", "(I)Ljava/lang/String;"⟩
abbrev cX5_isFull : ByteArray := prog_7_method_12_code
def yX5_isFull : MethodName := ⟨RX5, "isFull", "(I)Z"⟩
abbrev cX5_cannotBe : ByteArray := prog_7_method_13_code
def yX5_cannotBe : MethodName := ⟨RX5, "cannotBe", "(II)Z"⟩
abbrev cX5_keepLine : ByteArray := prog_7_method_14_code
def yX5_keepLine : MethodName := ⟨RX5, "keepLine", "(I)V"⟩
abbrev cX6_begin : ByteArray := prog_8_method_2_code
def yX6_begin : MethodName := ⟨RX6, "begin", "(LClapBank$Theatre;)V"⟩
abbrev cX6_goRound : ByteArray := prog_8_method_3_code
def yX6_goRound : MethodName := ⟨RX6, "goRound", "()V"⟩
abbrev cX6_cheapest : ByteArray := prog_8_method_4_code
def yX6_cheapest : MethodName := ⟨RX6, "cheapest", "()I"⟩
abbrev cX6_findRepeat : ByteArray := prog_8_method_5_code
def yX6_findRepeat : MethodName := ⟨RX6, "findRepeat", "(LClapBank$Theatre;)I"⟩
abbrev cX6_allAsks : ByteArray := prog_8_method_6_code
def yX6_allAsks : MethodName := ⟨RX6, "allAsks", "()I"⟩
abbrev cX7_clear : ByteArray := prog_9_method_2_code
def yX7_clear : MethodName := ⟨RX7, "clear", "()V"⟩
abbrev cX7_copyFrom : ByteArray := prog_9_method_3_code
def yX7_copyFrom : MethodName := ⟨RX7, "copyFrom", "(LClapBank$Theatre;)V"⟩
abbrev cX7_addPalm : ByteArray := prog_9_method_4_code
def yX7_addPalm : MethodName := ⟨RX7, "addPalm", "(II)V"⟩
abbrev cX7_addActor : ByteArray := prog_9_method_5_code
def yX7_addActor : MethodName := ⟨RX7, "addActor", "(II)V"⟩
abbrev cX7_addUsurer : ByteArray := prog_9_method_6_code
def yX7_addUsurer : MethodName := ⟨RX7, "addUsurer", "(II)V"⟩
abbrev cX7_tell : ByteArray := prog_9_method_7_code
def yX7_tell : MethodName := ⟨RX7, "tell", "(I)I"⟩
abbrev cX7_tellWhole : ByteArray := prog_9_method_8_code
def yX7_tellWhole : MethodName := ⟨RX7, "tellWhole", "(I)I"⟩
abbrev cX8_append : ByteArray := prog_10_method_2_code
def yX8_append : MethodName := ⟨RX8, "append", "(I)V"⟩
abbrev cX8_howMany : ByteArray := prog_10_method_3_code
def yX8_howMany : MethodName := ⟨RX8, "howMany", "(I)I"⟩
abbrev cX8_theatreAt : ByteArray := prog_10_method_4_code
def yX8_theatreAt : MethodName := ⟨RX8, "theatreAt", "(I)LClapBank$Theatre;"⟩
abbrev cX8_bookAt : ByteArray := prog_10_method_5_code
def yX8_bookAt : MethodName := ⟨RX8, "bookAt", "(I)LClapBank$Book;"⟩
abbrev cX8_darkAt : ByteArray := prog_10_method_6_code
def yX8_darkAt : MethodName := ⟨RX8, "darkAt", "(I)LClapBank$Dark;"⟩
abbrev cX8_put : ByteArray := prog_10_method_7_code
def yX8_put : MethodName := ⟨RX8, "put", "(IILClapBank$Reader;)V"⟩
abbrev cX8_copyFrom : ByteArray := prog_10_method_8_code
def yX8_copyFrom : MethodName := ⟨RX8, "copyFrom", "(LClapBank$Told;)V"⟩
abbrev cX9_feed : ByteArray := prog_1_method_2_code
def yX9_feed : MethodName := ⟨RX9, "feed", "(IIIII)I"⟩
abbrev cX9_end : ByteArray := prog_1_method_3_code
def yX9_end : MethodName := ⟨RX9, "end", "(I)I"⟩
abbrev cX9_text : ByteArray := prog_1_method_4_code
def yX9_text : MethodName := ⟨RX9, "text", "(II)I"⟩
abbrev cX9_fault : ByteArray := prog_1_method_5_code
def yX9_fault : MethodName := ⟨RX9, "fault", "(I)I"⟩
abbrev cX9_theatre : ByteArray := prog_1_method_6_code
def yX9_theatre : MethodName := ⟨RX9, "theatre", "(II)I"⟩
abbrev cX9_deed : ByteArray := prog_1_method_7_code
def yX9_deed : MethodName := ⟨RX9, "deed", "(III)I"⟩
abbrev cX9_stop : ByteArray := prog_1_method_8_code
def yX9_stop : MethodName := ⟨RX9, "stop", "(II)I"⟩
abbrev cX9_state : ByteArray := prog_1_method_9_code
def yX9_state : MethodName := ⟨RX9, "state", "(IIII)I"⟩
abbrev cX9_palm : ByteArray := prog_1_method_10_code
def yX9_palm : MethodName := ⟨RX9, "palm", "(IIIII)I"⟩
abbrev cX9_actor : ByteArray := prog_1_method_11_code
def yX9_actor : MethodName := ⟨RX9, "actor", "(IIIII)I"⟩
abbrev cX9_run : ByteArray := prog_1_method_12_code
def yX9_run : MethodName := ⟨RX9, "run", "(IIII)I"⟩
abbrev cX9_feast : ByteArray := prog_1_method_13_code
def yX9_feast : MethodName := ⟨RX9, "feast", "(IIII)I"⟩
abbrev cX9_fair : ByteArray := prog_1_method_14_code
def yX9_fair : MethodName := ⟨RX9, "fair", "(IIIZ)I"⟩
abbrev cX9_ask : ByteArray := prog_1_method_15_code
def yX9_ask : MethodName := ⟨RX9, "ask", "(III)I"⟩
abbrev cX9_taken : ByteArray := prog_1_method_16_code
def yX9_taken : MethodName := ⟨RX9, "taken", "(III)I"⟩
abbrev cX9_stands : ByteArray := prog_1_method_17_code
def yX9_stands : MethodName := ⟨RX9, "stands", "(II)I"⟩
abbrev cX9_heard : ByteArray := prog_1_method_18_code
def yX9_heard : MethodName := ⟨RX9, "heard", "(II)I"⟩
abbrev cX9_ways : ByteArray := prog_1_method_19_code
def yX9_ways : MethodName := ⟨RX9, "ways", "(II)J"⟩
abbrev cX9_whose : ByteArray := prog_1_method_20_code
def yX9_whose : MethodName := ⟨RX9, "whose", "(IIIZ)I"⟩
abbrev cX9_drawn : ByteArray := prog_1_method_21_code
def yX9_drawn : MethodName := ⟨RX9, "drawn", "(IIII)I"⟩
abbrev cX9_look : ByteArray := prog_1_method_22_code
def yX9_look : MethodName := ⟨RX9, "look", "(IIII)I"⟩
abbrev cX9_silence : ByteArray := prog_1_method_23_code
def yX9_silence : MethodName := ⟨RX9, "silence", "(IIZ)I"⟩
abbrev cX9_count : ByteArray := prog_1_method_24_code
def yX9_count : MethodName := ⟨RX9, "count", "(I)I"⟩
abbrev cX9_image : ByteArray := prog_1_method_25_code
def yX9_image : MethodName := ⟨RX9, "image", "(I)Z"⟩
abbrev cX9_again : ByteArray := prog_1_method_26_code
def yX9_again : MethodName := ⟨RX9, "again", "(I)Z"⟩
abbrev cX9_reach : ByteArray := prog_1_method_27_code
def yX9_reach : MethodName := ⟨RX9, "reach", "(III)Z"⟩
abbrev cX9_lendFor : ByteArray := prog_1_method_28_code
def yX9_lendFor : MethodName := ⟨RX9, "lendFor", "(III)Z"⟩
abbrev cX9_commonPart : ByteArray := prog_1_method_29_code
def yX9_commonPart : MethodName := ⟨RX9, "commonPart", "(II)I"⟩
def RJ6 : String := "java/lang/Integer"
abbrev cJ6_bitCount_0f7a4 : ByteArray := prog_13_method_49_code
def yJ6_bitCount_0f7a4 : MethodName := ⟨RJ6, "bitCount", "(I)I"⟩
def RJ0 : String := "java/lang/String"
abbrev cJ0_length_8abf5 : ByteArray := prog_15_method_54_code
def yJ0_length_8abf5 : MethodName := ⟨RJ0, "length", "()I"⟩
abbrev cJ0_charAt_5068e : ByteArray := prog_15_method_56_code
def yJ0_charAt_5068e : MethodName := ⟨RJ0, "charAt", "(I)C"⟩
abbrev cJ0_coder_7d493 : ByteArray := prog_15_method_152_code
def yJ0_coder_7d493 : MethodName := ⟨RJ0, "coder", "()B"⟩
abbrev cJ0_isLatin1_aae02 : ByteArray := prog_15_method_154_code
def yJ0_isLatin1_aae02 : MethodName := ⟨RJ0, "isLatin1", "()Z"⟩
abbrev cJ0_checkIndex_df160 : ByteArray := prog_15_method_155_code
def yJ0_checkIndex_df160 : MethodName := ⟨RJ0, "checkIndex", "(II)V"⟩
def RJ1 : String := "java/lang/StringLatin1"
abbrev cJ1_charAt_3b067 : ByteArray := prog_16_method_2_code
def yJ1_charAt_3b067 : MethodName := ⟨RJ1, "charAt", "([BI)C"⟩
def RJ2 : String := "java/lang/StringUTF16"
abbrev cJ2_getChar_3b067 : ByteArray := prog_17_method_5_code
def yJ2_getChar_3b067 : MethodName := ⟨RJ2, "getChar", "([BI)C"⟩
abbrev cJ2_length_9d52b : ByteArray := prog_17_method_6_code
def yJ2_length_9d52b : MethodName := ⟨RJ2, "length", "([B)I"⟩
abbrev cJ2_charAt_3b067 : ByteArray := prog_17_method_83_code
def yJ2_charAt_3b067 : MethodName := ⟨RJ2, "charAt", "([BI)C"⟩
abbrev cJ2_checkIndex_2214a : ByteArray := prog_17_method_91_code
def yJ2_checkIndex_2214a : MethodName := ⟨RJ2, "checkIndex", "(I[B)V"⟩
def RJ7 : String := "java/util/Arrays"
abbrev cJ7_fill_53178 : ByteArray := prog_19_method_103_code
def yJ7_fill_53178 : MethodName := ⟨RJ7, "fill", "([II)V"⟩
def RJ3 : String := "jdk/internal/util/Preconditions"
abbrev cJ3_checkIndex_8e157 : ByteArray := prog_20_method_11_code
def yJ3_checkIndex_8e157 : MethodName := ⟨RJ3, "checkIndex", "(IILjava/util/function/BiFunction;)I"⟩
def wsX0_copyFrom : List Cond := .code yX0_copyFrom cX0_copyFrom 2 none :: ([.fieldLink RX0 15 "ClapBank$Book" "deeds" "I", .fieldLink RX0 9 "ClapBank$Book" "parts" "[I", .methodLink RX0 19 arraycopyName, .native arraycopyName, .static arraycopyName, .initialized "java/lang/System"] ++ wsX00)
def wsX1_copyFrom : List Cond := .code yX1_copyFrom cX1_copyFrom 2 none :: ([.fieldLink RX1 15 "ClapBank$Dark" "minutes" "I", .fieldLink RX1 9 "ClapBank$Dark" "halves" "[I", .methodLink RX1 19 arraycopyName, .native arraycopyName, .static arraycopyName, .initialized "java/lang/System"] ++ wsX10)
def wsX7_clear : List Cond := .code yX7_clear cX7_clear 1 none :: ([.fieldLink RX7 30 "ClapBank$Theatre" "palms" "I", .fieldLink RX7 34 "ClapBank$Theatre" "actors" "I", .fieldLink RX7 37 "ClapBank$Theatre" "usurers" "I", .fieldLink RX7 40 "ClapBank$Theatre" "rate" "I", .fieldLink RX7 43 "ClapBank$Theatre" "chest" "I", .fieldLink RX7 46 "ClapBank$Theatre" "borrowers" "I"] ++ wsX70)
def wsX5_step : List Cond := .code yX5_step cX5_step 4 none :: ([.fieldLink RX5 52 "ClapBank$Reader" "to" "I", .fieldLink RX5 101 "ClapBank$Reader" "from" "I", .fieldLink RX5 59 "ClapBank$Reader" "token" "I", .fieldLink RX5 91 "ClapBank$Reader" "value" "I", .methodLink RX5 111 Lib.Math.min.name, .static Lib.Math.min.name, .initialized "java/lang/Math", .code Lib.Math.min.name Lib.Math.min.code 2 (some .int), .methodLink RX5 104 yX5_isLetter, .static yX5_isLetter, .initialized RX5, .code yX5_isLetter cX5_isLetter 1 (some .boolean), .methodLink RX5 108 yX5_isDigit, .static yX5_isDigit, .code yX5_isDigit cX5_isDigit 1 (some .boolean)] ++ wsX50)
def wsX5_read_r1 : List Cond := [Cond.fieldLink RX5 12 "ClapBank$Reader" "theatre" "LClapBank$Theatre;", Cond.fieldLink RX5 21 "ClapBank$Reader" "book" "LClapBank$Book;", Cond.fieldLink RX5 28 "ClapBank$Reader" "dark" "LClapBank$Dark;", Cond.fieldLink RX5 46 "ClapBank$Reader" "fault" "I", Cond.fieldLink RX5 49 "ClapBank$Reader" "place" "I", Cond.fieldLink RX5 52 "ClapBank$Reader" "to" "I", Cond.fieldLink RX5 59 "ClapBank$Reader" "token" "I", Cond.methodLink RX5 36 yX7_clear, Cond.instanceMethod yX7_clear, Cond.selects RX7 yX7_clear yX7_clear, Cond.initialized RX7, Cond.code yX7_clear cX7_clear 1 none, Cond.fieldLink RX7 30 "ClapBank$Theatre" "palms" "I", Cond.fieldLink RX7 34 "ClapBank$Theatre" "actors" "I", Cond.fieldLink RX7 37 "ClapBank$Theatre" "usurers" "I", Cond.fieldLink RX7 40 "ClapBank$Theatre" "rate" "I", Cond.fieldLink RX7 43 "ClapBank$Theatre" "chest" "I", Cond.fieldLink RX7 46 "ClapBank$Theatre" "borrowers" "I", Cond.methodLink RX5 55 yX5_step, Cond.instanceMethod yX5_step, Cond.selects RX5 yX5_step yX5_step, Cond.initialized RX5, Cond.code yX5_step cX5_step 4 none, Cond.fieldLink RX5 101 "ClapBank$Reader" "from" "I"]
def wsX5_read_r2 : List Cond := [Cond.fieldLink RX5 91 "ClapBank$Reader" "value" "I", Cond.methodLink RX5 111 Lib.Math.min.name, Cond.static Lib.Math.min.name, Cond.initialized "java/lang/Math", Cond.code Lib.Math.min.name Lib.Math.min.code 2 (some .int), Cond.methodLink RX5 104 yX5_isLetter, Cond.static yX5_isLetter, Cond.code yX5_isLetter cX5_isLetter 1 (some .boolean), Cond.methodLink RX5 108 yX5_isDigit, Cond.static yX5_isDigit, Cond.code yX5_isDigit cX5_isDigit 1 (some .boolean), Cond.methodLink RX5 62 yX5_readLine, Cond.instanceMethod yX5_readLine, Cond.selects RX5 yX5_readLine yX5_readLine, Cond.code yX5_readLine cX5_readLine 6 (some .boolean), Cond.fieldLink RX5 32 "ClapBank$Reader" "numbers" "[I", Cond.fieldLink RX5 88 "ClapBank$Reader" "NUMBERS" "[I", Cond.methodLink RX5 66 yX5_kindOf, Cond.instanceMethod yX5_kindOf, Cond.selects RX5 yX5_kindOf yX5_kindOf, Cond.code yX5_kindOf cX5_kindOf 4 (some .int), Cond.fieldLink RX5 117 "ClapBank$Reader" "FIRST_LINE" "[I", Cond.methodLink RX5 120 yX5_wordOf, Cond.static yX5_wordOf]
def wsX5_read_r3 : List Cond := [Cond.code yX5_wordOf cX5_wordOf 1 (some (.object "java/lang/String")), Cond.methodLink RX5 124 yX5_spells, Cond.instanceMethod yX5_spells, Cond.selects RX5 yX5_spells yX5_spells, Cond.code yX5_spells cX5_spells 4 (some .boolean), Cond.methodLink RX5 128 yJ0_length_8abf5, Cond.instanceMethod yJ0_length_8abf5, Cond.selects RJ0 yJ0_length_8abf5 yJ0_length_8abf5, Cond.initialized RJ0, Cond.code yJ0_length_8abf5 cJ0_length_8abf5 1 (some .int), Cond.fieldLink RJ0 9 "java/lang/String" "value" "[B", Cond.methodLink RJ0 335 yJ0_coder_7d493, Cond.instanceMethod yJ0_coder_7d493, Cond.selects RJ0 yJ0_coder_7d493 yJ0_coder_7d493, Cond.code yJ0_coder_7d493 cJ0_coder_7d493 1 (some .byte), Cond.fieldLink RJ0 38 "java/lang/String" "COMPACT_STRINGS" "Z", Cond.fieldLink RJ0 15 "java/lang/String" "coder" "B", Cond.methodLink RX5 134 yJ0_charAt_5068e, Cond.instanceMethod yJ0_charAt_5068e, Cond.selects RJ0 yJ0_charAt_5068e yJ0_charAt_5068e, Cond.code yJ0_charAt_5068e cJ0_charAt_5068e 2 (some .char), Cond.methodLink RJ0 492 yJ0_isLatin1_aae02, Cond.instanceMethod yJ0_isLatin1_aae02, Cond.selects RJ0 yJ0_isLatin1_aae02 yJ0_isLatin1_aae02]
def wsX5_read_r4 : List Cond := [Cond.code yJ0_isLatin1_aae02 cJ0_isLatin1_aae02 1 (some .boolean), Cond.methodLink RJ0 495 yJ1_charAt_3b067, Cond.static yJ1_charAt_3b067, Cond.initialized RJ1, Cond.code yJ1_charAt_3b067 cJ1_charAt_3b067 2 (some .char), Cond.methodLink RJ1 9 yJ0_checkIndex_df160, Cond.static yJ0_checkIndex_df160, Cond.code yJ0_checkIndex_df160 cJ0_checkIndex_df160 2 none, Cond.fieldLink RJ0 1053 "jdk/internal/util/Preconditions" "SIOOBE_FORMATTER" "Ljava/util/function/BiFunction;", Cond.methodLink RJ0 1059 yJ3_checkIndex_8e157, Cond.static yJ3_checkIndex_8e157, Cond.initialized RJ3, Cond.code yJ3_checkIndex_8e157 cJ3_checkIndex_8e157 3 (some .int), Cond.methodLink RJ0 498 yJ2_charAt_3b067, Cond.static yJ2_charAt_3b067, Cond.initialized RJ2, Cond.code yJ2_charAt_3b067 cJ2_charAt_3b067 2 (some .char), Cond.methodLink RJ2 67 yJ2_checkIndex_2214a, Cond.static yJ2_checkIndex_2214a, Cond.code yJ2_checkIndex_2214a cJ2_checkIndex_2214a 2 none, Cond.methodLink RJ2 48 yJ2_length_9d52b, Cond.static yJ2_length_9d52b, Cond.code yJ2_length_9d52b cJ2_length_9d52b 1 (some .int), Cond.methodLink RJ2 414 yJ0_checkIndex_df160]
def wsX5_read_r5 : List Cond := [Cond.methodLink RJ2 71 yJ2_getChar_3b067, Cond.static yJ2_getChar_3b067, Cond.code yJ2_getChar_3b067 cJ2_getChar_3b067 2 (some .char), Cond.fieldLink RJ2 44 "java/lang/StringUTF16" "$assertionsDisabled" "Z", Cond.fieldLink RJ2 59 "java/lang/StringUTF16" "HI_BYTE_SHIFT" "I", Cond.fieldLink RJ2 63 "java/lang/StringUTF16" "LO_BYTE_SHIFT" "I", Cond.methodLink RX5 70 yX5_refuse, Cond.instanceMethod yX5_refuse, Cond.selects RX5 yX5_refuse yX5_refuse, Cond.code yX5_refuse cX5_refuse 1 (some .boolean), Cond.methodLink RX5 74 yX5_isFull, Cond.instanceMethod yX5_isFull, Cond.selects RX5 yX5_isFull yX5_isFull, Cond.code yX5_isFull cX5_isFull 2 (some .boolean), Cond.methodLink RX5 78 yX5_note, Cond.instanceMethod yX5_note, Cond.selects RX5 yX5_note yX5_note, Cond.code yX5_note cX5_note 2 none, Cond.methodLink RX5 82 yJ7_fill_53178, Cond.static yJ7_fill_53178, Cond.initialized RJ7, Cond.code yJ7_fill_53178 cJ7_fill_53178 4 none, Cond.methodLink RX5 94 yX5_cannotBe, Cond.instanceMethod yX5_cannotBe]
def wsX5_read_r6 : List Cond := [Cond.selects RX5 yX5_cannotBe yX5_cannotBe, Cond.code yX5_cannotBe cX5_cannotBe 5 (some .boolean), Cond.fieldLink RX5 175 "ClapBank$Reader" "LEAST" "[I", Cond.fieldLink RX5 178 "ClapBank$Reader" "HIGHEST" "[I", Cond.methodLink RX5 98 yX5_keepLine, Cond.instanceMethod yX5_keepLine, Cond.selects RX5 yX5_keepLine yX5_keepLine, Cond.code yX5_keepLine cX5_keepLine 2 none, Cond.methodLink RX5 181 yX7_addPalm, Cond.instanceMethod yX7_addPalm, Cond.selects RX7 yX7_addPalm yX7_addPalm, Cond.code yX7_addPalm cX7_addPalm 3 none, Cond.fieldLink RX7 9 "ClapBank$Theatre" "claps" "[I", Cond.fieldLink RX7 15 "ClapBank$Theatre" "hands" "[I", Cond.methodLink RX5 185 yX7_addActor, Cond.instanceMethod yX7_addActor, Cond.selects RX7 yX7_addActor yX7_addActor, Cond.code yX7_addActor cX7_addActor 3 none, Cond.fieldLink RX7 18 "ClapBank$Theatre" "hunger" "[I", Cond.fieldLink RX7 21 "ClapBank$Theatre" "saved" "[I", Cond.methodLink RX5 188 yX7_addUsurer, Cond.instanceMethod yX7_addUsurer, Cond.selects RX7 yX7_addUsurer yX7_addUsurer, Cond.code yX7_addUsurer cX7_addUsurer 3 none]
def wsX5_read_r7 : List Cond := [Cond.fieldLink RX7 24 "ClapBank$Theatre" "asks" "[I", Cond.fieldLink RX7 27 "ClapBank$Theatre" "floors" "[I", Cond.methodLink RX5 198 yX1_addMinute, Cond.instanceMethod yX1_addMinute, Cond.selects RX1 yX1_addMinute yX1_addMinute, Cond.initialized RX1, Cond.code yX1_addMinute cX1_addMinute 2 none, Cond.fieldLink RX1 15 "ClapBank$Dark" "minutes" "I", Cond.fieldLink RX1 9 "ClapBank$Dark" "halves" "[I", Cond.methodLink RX5 201 yX0_addDeed, Cond.instanceMethod yX0_addDeed, Cond.selects RX0 yX0_addDeed yX0_addDeed, Cond.initialized RX0, Cond.code yX0_addDeed cX0_addDeed 6 none, Cond.fieldLink RX0 15 "ClapBank$Book" "deeds" "I", Cond.fieldLink RX0 9 "ClapBank$Book" "parts" "[I"]
def wsX5_read : List Cond := .code yX5_read cX5_read 5 none :: ((wsX5_read_r1 ++ (wsX5_read_r2 ++ (wsX5_read_r3 ++ (wsX5_read_r4 ++ (wsX5_read_r5 ++ (wsX5_read_r6 ++ wsX5_read_r7)))))) ++ wsX50 ++ wsX00 ++ wsX10 ++ wsX70)
def wsX7_copyFrom : List Cond := .code yX7_copyFrom cX7_copyFrom 2 none :: ([.fieldLink RX7 30 "ClapBank$Theatre" "palms" "I", .fieldLink RX7 34 "ClapBank$Theatre" "actors" "I", .fieldLink RX7 37 "ClapBank$Theatre" "usurers" "I", .fieldLink RX7 40 "ClapBank$Theatre" "rate" "I", .fieldLink RX7 43 "ClapBank$Theatre" "chest" "I", .fieldLink RX7 46 "ClapBank$Theatre" "borrowers" "I", .fieldLink RX7 9 "ClapBank$Theatre" "claps" "[I", .methodLink RX7 49 arraycopyName, .native arraycopyName, .static arraycopyName, .initialized "java/lang/System", .fieldLink RX7 15 "ClapBank$Theatre" "hands" "[I", .fieldLink RX7 18 "ClapBank$Theatre" "hunger" "[I", .fieldLink RX7 21 "ClapBank$Theatre" "saved" "[I", .fieldLink RX7 24 "ClapBank$Theatre" "asks" "[I", .fieldLink RX7 27 "ClapBank$Theatre" "floors" "[I"] ++ wsX70)
def wsX8_append : List Cond := .code yX8_append cX8_append 3 none :: ([.fieldLink RX8 49 "ClapBank$Told" "length" "I", .fieldLink RX8 9 "ClapBank$Told" "tape" "[B"] ++ wsX80)
def wsX8_howMany : List Cond := .code yX8_howMany cX8_howMany 2 (some .int) :: ([.fieldLink RX8 52 "ClapBank$Told" "theatres" "I", .fieldLink RX8 55 "ClapBank$Told" "books" "I", .fieldLink RX8 58 "ClapBank$Told" "darks" "I"] ++ wsX80)
def wsX8_theatreAt : List Cond := .code yX8_theatreAt cX8_theatreAt 2 (some (.object "ClapBank$Theatre")) :: ([.fieldLink RX8 52 "ClapBank$Told" "theatres" "I", .fieldLink RX8 22 "ClapBank$Told" "firstTheatre" "LClapBank$Theatre;", .fieldLink RX8 26 "ClapBank$Told" "secondTheatre" "LClapBank$Theatre;"] ++ wsX80)
def wsX8_bookAt : List Cond := .code yX8_bookAt cX8_bookAt 2 (some (.object "ClapBank$Book")) :: ([.fieldLink RX8 55 "ClapBank$Told" "books" "I", .fieldLink RX8 32 "ClapBank$Told" "firstBook" "LClapBank$Book;", .fieldLink RX8 36 "ClapBank$Told" "secondBook" "LClapBank$Book;"] ++ wsX80)
def wsX8_darkAt : List Cond := .code yX8_darkAt cX8_darkAt 2 (some (.object "ClapBank$Dark")) :: ([.fieldLink RX8 58 "ClapBank$Told" "darks" "I", .fieldLink RX8 42 "ClapBank$Told" "firstDark" "LClapBank$Dark;", .fieldLink RX8 46 "ClapBank$Told" "secondDark" "LClapBank$Dark;"] ++ wsX80)
def wsX8_put_r1 : List Cond := [Cond.fieldLink RX8 22 "ClapBank$Told" "firstTheatre" "LClapBank$Theatre;", Cond.fieldLink RX8 26 "ClapBank$Told" "secondTheatre" "LClapBank$Theatre;", Cond.fieldLink RX8 52 "ClapBank$Told" "theatres" "I", Cond.methodLink RX8 70 Lib.Math.max.name, Cond.static Lib.Math.max.name, Cond.initialized "java/lang/Math", Cond.code Lib.Math.max.name Lib.Math.max.code 2 (some .int), Cond.fieldLink RX8 32 "ClapBank$Told" "firstBook" "LClapBank$Book;", Cond.fieldLink RX8 36 "ClapBank$Told" "secondBook" "LClapBank$Book;", Cond.fieldLink RX8 55 "ClapBank$Told" "books" "I", Cond.fieldLink RX8 42 "ClapBank$Told" "firstDark" "LClapBank$Dark;", Cond.fieldLink RX8 46 "ClapBank$Told" "secondDark" "LClapBank$Dark;", Cond.fieldLink RX8 58 "ClapBank$Told" "darks" "I", Cond.methodLink RX8 66 yX7_copyFrom, Cond.instanceMethod yX7_copyFrom, Cond.selects RX7 yX7_copyFrom yX7_copyFrom, Cond.initialized RX7, Cond.code yX7_copyFrom cX7_copyFrom 2 none, Cond.fieldLink RX7 30 "ClapBank$Theatre" "palms" "I", Cond.fieldLink RX7 34 "ClapBank$Theatre" "actors" "I", Cond.fieldLink RX7 37 "ClapBank$Theatre" "usurers" "I", Cond.fieldLink RX7 40 "ClapBank$Theatre" "rate" "I", Cond.fieldLink RX7 43 "ClapBank$Theatre" "chest" "I", Cond.fieldLink RX7 46 "ClapBank$Theatre" "borrowers" "I"]
def wsX8_put_r2 : List Cond := [Cond.fieldLink RX7 9 "ClapBank$Theatre" "claps" "[I", Cond.methodLink RX7 49 arraycopyName, Cond.native arraycopyName, Cond.static arraycopyName, Cond.initialized "java/lang/System", Cond.fieldLink RX7 15 "ClapBank$Theatre" "hands" "[I", Cond.fieldLink RX7 18 "ClapBank$Theatre" "hunger" "[I", Cond.fieldLink RX7 21 "ClapBank$Theatre" "saved" "[I", Cond.fieldLink RX7 24 "ClapBank$Theatre" "asks" "[I", Cond.fieldLink RX7 27 "ClapBank$Theatre" "floors" "[I", Cond.methodLink RX8 79 yX0_copyFrom, Cond.instanceMethod yX0_copyFrom, Cond.selects RX0 yX0_copyFrom yX0_copyFrom, Cond.initialized RX0, Cond.code yX0_copyFrom cX0_copyFrom 2 none, Cond.fieldLink RX0 15 "ClapBank$Book" "deeds" "I", Cond.fieldLink RX0 9 "ClapBank$Book" "parts" "[I", Cond.methodLink RX0 19 arraycopyName, Cond.methodLink RX8 85 yX1_copyFrom, Cond.instanceMethod yX1_copyFrom, Cond.selects RX1 yX1_copyFrom yX1_copyFrom, Cond.initialized RX1, Cond.code yX1_copyFrom cX1_copyFrom 2 none, Cond.fieldLink RX1 15 "ClapBank$Dark" "minutes" "I"]
def wsX8_put_r3 : List Cond := [Cond.fieldLink RX1 9 "ClapBank$Dark" "halves" "[I", Cond.methodLink RX1 19 arraycopyName]
def wsX8_put : List Cond := .code yX8_put cX8_put 4 none :: ((wsX8_put_r1 ++ (wsX8_put_r2 ++ wsX8_put_r3)) ++ wsX80 ++ wsX50 ++ wsX70 ++ wsX00 ++ wsX10)
def wsX8_copyFrom_r1 : List Cond := [Cond.fieldLink RX8 9 "ClapBank$Told" "tape" "[B", Cond.methodLink RX8 88 arraycopyName, Cond.native arraycopyName, Cond.static arraycopyName, Cond.initialized "java/lang/System", Cond.fieldLink RX8 49 "ClapBank$Told" "length" "I", Cond.fieldLink RX8 94 "ClapBank$Told" "fault" "I", Cond.fieldLink RX8 15 "ClapBank$Told" "place" "I", Cond.fieldLink RX8 52 "ClapBank$Told" "theatres" "I", Cond.fieldLink RX8 55 "ClapBank$Told" "books" "I", Cond.fieldLink RX8 58 "ClapBank$Told" "darks" "I", Cond.fieldLink RX8 22 "ClapBank$Told" "firstTheatre" "LClapBank$Theatre;", Cond.fieldLink RX8 26 "ClapBank$Told" "secondTheatre" "LClapBank$Theatre;", Cond.fieldLink RX8 32 "ClapBank$Told" "firstBook" "LClapBank$Book;", Cond.fieldLink RX8 36 "ClapBank$Told" "secondBook" "LClapBank$Book;", Cond.fieldLink RX8 42 "ClapBank$Told" "firstDark" "LClapBank$Dark;", Cond.fieldLink RX8 46 "ClapBank$Told" "secondDark" "LClapBank$Dark;", Cond.methodLink RX8 66 yX7_copyFrom, Cond.instanceMethod yX7_copyFrom, Cond.selects RX7 yX7_copyFrom yX7_copyFrom, Cond.initialized RX7, Cond.code yX7_copyFrom cX7_copyFrom 2 none, Cond.fieldLink RX7 30 "ClapBank$Theatre" "palms" "I", Cond.fieldLink RX7 34 "ClapBank$Theatre" "actors" "I"]
def wsX8_copyFrom_r2 : List Cond := [Cond.fieldLink RX7 37 "ClapBank$Theatre" "usurers" "I", Cond.fieldLink RX7 40 "ClapBank$Theatre" "rate" "I", Cond.fieldLink RX7 43 "ClapBank$Theatre" "chest" "I", Cond.fieldLink RX7 46 "ClapBank$Theatre" "borrowers" "I", Cond.fieldLink RX7 9 "ClapBank$Theatre" "claps" "[I", Cond.methodLink RX7 49 arraycopyName, Cond.fieldLink RX7 15 "ClapBank$Theatre" "hands" "[I", Cond.fieldLink RX7 18 "ClapBank$Theatre" "hunger" "[I", Cond.fieldLink RX7 21 "ClapBank$Theatre" "saved" "[I", Cond.fieldLink RX7 24 "ClapBank$Theatre" "asks" "[I", Cond.fieldLink RX7 27 "ClapBank$Theatre" "floors" "[I", Cond.methodLink RX8 79 yX0_copyFrom, Cond.instanceMethod yX0_copyFrom, Cond.selects RX0 yX0_copyFrom yX0_copyFrom, Cond.initialized RX0, Cond.code yX0_copyFrom cX0_copyFrom 2 none, Cond.fieldLink RX0 15 "ClapBank$Book" "deeds" "I", Cond.fieldLink RX0 9 "ClapBank$Book" "parts" "[I", Cond.methodLink RX0 19 arraycopyName, Cond.methodLink RX8 85 yX1_copyFrom, Cond.instanceMethod yX1_copyFrom, Cond.selects RX1 yX1_copyFrom yX1_copyFrom, Cond.initialized RX1, Cond.code yX1_copyFrom cX1_copyFrom 2 none]
def wsX8_copyFrom_r3 : List Cond := [Cond.fieldLink RX1 15 "ClapBank$Dark" "minutes" "I", Cond.fieldLink RX1 9 "ClapBank$Dark" "halves" "[I", Cond.methodLink RX1 19 arraycopyName]
def wsX8_copyFrom : List Cond := .code yX8_copyFrom cX8_copyFrom 2 none :: ((wsX8_copyFrom_r1 ++ (wsX8_copyFrom_r2 ++ wsX8_copyFrom_r3)) ++ wsX80 ++ wsX70 ++ wsX00 ++ wsX10)
def wsX9_feed : List Cond := .code yX9_feed cX9_feed 6 (some .int) :: ([.fieldLink RX9 10 "ClapBank" "told" "LClapBank$Told;", .methodLink RX9 59 yX8_append, .instanceMethod yX8_append, .selects RX8 yX8_append yX8_append, .initialized RX8, .code yX8_append cX8_append 3 none, .fieldLink RX8 49 "ClapBank$Told" "length" "I", .fieldLink RX8 9 "ClapBank$Told" "tape" "[B"] ++ wsX90 ++ wsX80)
def wsX9_end : List Cond := .code yX9_end cX9_end 2 (some .int) :: ([.fieldLink RX9 10 "ClapBank" "told" "LClapBank$Told;"] ++ wsX90 ++ wsX80)
def wsX9_text_r1 : List Cond := [Cond.fieldLink RX9 10 "ClapBank" "told" "LClapBank$Told;", Cond.fieldLink RX9 23 "ClapBank" "reader" "LClapBank$Reader;", Cond.methodLink RX9 69 yX8_howMany, Cond.instanceMethod yX8_howMany, Cond.selects RX8 yX8_howMany yX8_howMany, Cond.initialized RX8, Cond.code yX8_howMany cX8_howMany 2 (some .int), Cond.fieldLink RX8 52 "ClapBank$Told" "theatres" "I", Cond.fieldLink RX8 55 "ClapBank$Told" "books" "I", Cond.fieldLink RX8 58 "ClapBank$Told" "darks" "I", Cond.methodLink RX9 77 yX5_read, Cond.instanceMethod yX5_read, Cond.selects RX5 yX5_read yX5_read, Cond.initialized RX5, Cond.code yX5_read cX5_read 5 none, Cond.fieldLink RX5 12 "ClapBank$Reader" "theatre" "LClapBank$Theatre;", Cond.fieldLink RX5 21 "ClapBank$Reader" "book" "LClapBank$Book;", Cond.fieldLink RX5 28 "ClapBank$Reader" "dark" "LClapBank$Dark;", Cond.fieldLink RX5 46 "ClapBank$Reader" "fault" "I", Cond.fieldLink RX5 49 "ClapBank$Reader" "place" "I", Cond.fieldLink RX5 52 "ClapBank$Reader" "to" "I", Cond.fieldLink RX5 59 "ClapBank$Reader" "token" "I", Cond.methodLink RX5 36 yX7_clear, Cond.instanceMethod yX7_clear]
def wsX9_text_r2 : List Cond := [Cond.selects RX7 yX7_clear yX7_clear, Cond.initialized RX7, Cond.code yX7_clear cX7_clear 1 none, Cond.fieldLink RX7 30 "ClapBank$Theatre" "palms" "I", Cond.fieldLink RX7 34 "ClapBank$Theatre" "actors" "I", Cond.fieldLink RX7 37 "ClapBank$Theatre" "usurers" "I", Cond.fieldLink RX7 40 "ClapBank$Theatre" "rate" "I", Cond.fieldLink RX7 43 "ClapBank$Theatre" "chest" "I", Cond.fieldLink RX7 46 "ClapBank$Theatre" "borrowers" "I", Cond.methodLink RX5 55 yX5_step, Cond.instanceMethod yX5_step, Cond.selects RX5 yX5_step yX5_step, Cond.code yX5_step cX5_step 4 none, Cond.fieldLink RX5 101 "ClapBank$Reader" "from" "I", Cond.fieldLink RX5 91 "ClapBank$Reader" "value" "I", Cond.methodLink RX5 111 Lib.Math.min.name, Cond.static Lib.Math.min.name, Cond.initialized "java/lang/Math", Cond.code Lib.Math.min.name Lib.Math.min.code 2 (some .int), Cond.methodLink RX5 104 yX5_isLetter, Cond.static yX5_isLetter, Cond.code yX5_isLetter cX5_isLetter 1 (some .boolean), Cond.methodLink RX5 108 yX5_isDigit, Cond.static yX5_isDigit]
def wsX9_text_r3 : List Cond := [Cond.code yX5_isDigit cX5_isDigit 1 (some .boolean), Cond.methodLink RX5 62 yX5_readLine, Cond.instanceMethod yX5_readLine, Cond.selects RX5 yX5_readLine yX5_readLine, Cond.code yX5_readLine cX5_readLine 6 (some .boolean), Cond.fieldLink RX5 32 "ClapBank$Reader" "numbers" "[I", Cond.fieldLink RX5 88 "ClapBank$Reader" "NUMBERS" "[I", Cond.methodLink RX5 66 yX5_kindOf, Cond.instanceMethod yX5_kindOf, Cond.selects RX5 yX5_kindOf yX5_kindOf, Cond.code yX5_kindOf cX5_kindOf 4 (some .int), Cond.fieldLink RX5 117 "ClapBank$Reader" "FIRST_LINE" "[I", Cond.methodLink RX5 120 yX5_wordOf, Cond.static yX5_wordOf, Cond.code yX5_wordOf cX5_wordOf 1 (some (.object "java/lang/String")), Cond.methodLink RX5 124 yX5_spells, Cond.instanceMethod yX5_spells, Cond.selects RX5 yX5_spells yX5_spells, Cond.code yX5_spells cX5_spells 4 (some .boolean), Cond.methodLink RX5 128 yJ0_length_8abf5, Cond.instanceMethod yJ0_length_8abf5, Cond.selects RJ0 yJ0_length_8abf5 yJ0_length_8abf5, Cond.initialized RJ0, Cond.code yJ0_length_8abf5 cJ0_length_8abf5 1 (some .int)]
def wsX9_text_r4 : List Cond := [Cond.fieldLink RJ0 9 "java/lang/String" "value" "[B", Cond.methodLink RJ0 335 yJ0_coder_7d493, Cond.instanceMethod yJ0_coder_7d493, Cond.selects RJ0 yJ0_coder_7d493 yJ0_coder_7d493, Cond.code yJ0_coder_7d493 cJ0_coder_7d493 1 (some .byte), Cond.fieldLink RJ0 38 "java/lang/String" "COMPACT_STRINGS" "Z", Cond.fieldLink RJ0 15 "java/lang/String" "coder" "B", Cond.methodLink RX5 134 yJ0_charAt_5068e, Cond.instanceMethod yJ0_charAt_5068e, Cond.selects RJ0 yJ0_charAt_5068e yJ0_charAt_5068e, Cond.code yJ0_charAt_5068e cJ0_charAt_5068e 2 (some .char), Cond.methodLink RJ0 492 yJ0_isLatin1_aae02, Cond.instanceMethod yJ0_isLatin1_aae02, Cond.selects RJ0 yJ0_isLatin1_aae02 yJ0_isLatin1_aae02, Cond.code yJ0_isLatin1_aae02 cJ0_isLatin1_aae02 1 (some .boolean), Cond.methodLink RJ0 495 yJ1_charAt_3b067, Cond.static yJ1_charAt_3b067, Cond.initialized RJ1, Cond.code yJ1_charAt_3b067 cJ1_charAt_3b067 2 (some .char), Cond.methodLink RJ1 9 yJ0_checkIndex_df160, Cond.static yJ0_checkIndex_df160, Cond.code yJ0_checkIndex_df160 cJ0_checkIndex_df160 2 none, Cond.fieldLink RJ0 1053 "jdk/internal/util/Preconditions" "SIOOBE_FORMATTER" "Ljava/util/function/BiFunction;", Cond.methodLink RJ0 1059 yJ3_checkIndex_8e157]
def wsX9_text_r5 : List Cond := [Cond.static yJ3_checkIndex_8e157, Cond.initialized RJ3, Cond.code yJ3_checkIndex_8e157 cJ3_checkIndex_8e157 3 (some .int), Cond.methodLink RJ0 498 yJ2_charAt_3b067, Cond.static yJ2_charAt_3b067, Cond.initialized RJ2, Cond.code yJ2_charAt_3b067 cJ2_charAt_3b067 2 (some .char), Cond.methodLink RJ2 67 yJ2_checkIndex_2214a, Cond.static yJ2_checkIndex_2214a, Cond.code yJ2_checkIndex_2214a cJ2_checkIndex_2214a 2 none, Cond.methodLink RJ2 48 yJ2_length_9d52b, Cond.static yJ2_length_9d52b, Cond.code yJ2_length_9d52b cJ2_length_9d52b 1 (some .int), Cond.methodLink RJ2 414 yJ0_checkIndex_df160, Cond.methodLink RJ2 71 yJ2_getChar_3b067, Cond.static yJ2_getChar_3b067, Cond.code yJ2_getChar_3b067 cJ2_getChar_3b067 2 (some .char), Cond.fieldLink RJ2 44 "java/lang/StringUTF16" "$assertionsDisabled" "Z", Cond.fieldLink RJ2 59 "java/lang/StringUTF16" "HI_BYTE_SHIFT" "I", Cond.fieldLink RJ2 63 "java/lang/StringUTF16" "LO_BYTE_SHIFT" "I", Cond.methodLink RX5 70 yX5_refuse, Cond.instanceMethod yX5_refuse, Cond.selects RX5 yX5_refuse yX5_refuse, Cond.code yX5_refuse cX5_refuse 1 (some .boolean)]
def wsX9_text_r6 : List Cond := [Cond.methodLink RX5 74 yX5_isFull, Cond.instanceMethod yX5_isFull, Cond.selects RX5 yX5_isFull yX5_isFull, Cond.code yX5_isFull cX5_isFull 2 (some .boolean), Cond.methodLink RX5 78 yX5_note, Cond.instanceMethod yX5_note, Cond.selects RX5 yX5_note yX5_note, Cond.code yX5_note cX5_note 2 none, Cond.methodLink RX5 82 yJ7_fill_53178, Cond.static yJ7_fill_53178, Cond.initialized RJ7, Cond.code yJ7_fill_53178 cJ7_fill_53178 4 none, Cond.methodLink RX5 94 yX5_cannotBe, Cond.instanceMethod yX5_cannotBe, Cond.selects RX5 yX5_cannotBe yX5_cannotBe, Cond.code yX5_cannotBe cX5_cannotBe 5 (some .boolean), Cond.fieldLink RX5 175 "ClapBank$Reader" "LEAST" "[I", Cond.fieldLink RX5 178 "ClapBank$Reader" "HIGHEST" "[I", Cond.methodLink RX5 98 yX5_keepLine, Cond.instanceMethod yX5_keepLine, Cond.selects RX5 yX5_keepLine yX5_keepLine, Cond.code yX5_keepLine cX5_keepLine 2 none, Cond.methodLink RX5 181 yX7_addPalm, Cond.instanceMethod yX7_addPalm]
def wsX9_text_r7 : List Cond := [Cond.selects RX7 yX7_addPalm yX7_addPalm, Cond.code yX7_addPalm cX7_addPalm 3 none, Cond.fieldLink RX7 9 "ClapBank$Theatre" "claps" "[I", Cond.fieldLink RX7 15 "ClapBank$Theatre" "hands" "[I", Cond.methodLink RX5 185 yX7_addActor, Cond.instanceMethod yX7_addActor, Cond.selects RX7 yX7_addActor yX7_addActor, Cond.code yX7_addActor cX7_addActor 3 none, Cond.fieldLink RX7 18 "ClapBank$Theatre" "hunger" "[I", Cond.fieldLink RX7 21 "ClapBank$Theatre" "saved" "[I", Cond.methodLink RX5 188 yX7_addUsurer, Cond.instanceMethod yX7_addUsurer, Cond.selects RX7 yX7_addUsurer yX7_addUsurer, Cond.code yX7_addUsurer cX7_addUsurer 3 none, Cond.fieldLink RX7 24 "ClapBank$Theatre" "asks" "[I", Cond.fieldLink RX7 27 "ClapBank$Theatre" "floors" "[I", Cond.methodLink RX5 198 yX1_addMinute, Cond.instanceMethod yX1_addMinute, Cond.selects RX1 yX1_addMinute yX1_addMinute, Cond.initialized RX1, Cond.code yX1_addMinute cX1_addMinute 2 none, Cond.fieldLink RX1 15 "ClapBank$Dark" "minutes" "I", Cond.fieldLink RX1 9 "ClapBank$Dark" "halves" "[I", Cond.methodLink RX5 201 yX0_addDeed]
def wsX9_text_r8 : List Cond := [Cond.instanceMethod yX0_addDeed, Cond.selects RX0 yX0_addDeed yX0_addDeed, Cond.initialized RX0, Cond.code yX0_addDeed cX0_addDeed 6 none, Cond.fieldLink RX0 15 "ClapBank$Book" "deeds" "I", Cond.fieldLink RX0 9 "ClapBank$Book" "parts" "[I", Cond.methodLink RX9 83 yX8_put, Cond.instanceMethod yX8_put, Cond.selects RX8 yX8_put yX8_put, Cond.code yX8_put cX8_put 4 none, Cond.fieldLink RX8 22 "ClapBank$Told" "firstTheatre" "LClapBank$Theatre;", Cond.fieldLink RX8 26 "ClapBank$Told" "secondTheatre" "LClapBank$Theatre;", Cond.methodLink RX8 70 Lib.Math.max.name, Cond.static Lib.Math.max.name, Cond.code Lib.Math.max.name Lib.Math.max.code 2 (some .int), Cond.fieldLink RX8 32 "ClapBank$Told" "firstBook" "LClapBank$Book;", Cond.fieldLink RX8 36 "ClapBank$Told" "secondBook" "LClapBank$Book;", Cond.fieldLink RX8 42 "ClapBank$Told" "firstDark" "LClapBank$Dark;", Cond.fieldLink RX8 46 "ClapBank$Told" "secondDark" "LClapBank$Dark;", Cond.methodLink RX8 66 yX7_copyFrom, Cond.instanceMethod yX7_copyFrom, Cond.selects RX7 yX7_copyFrom yX7_copyFrom, Cond.code yX7_copyFrom cX7_copyFrom 2 none, Cond.methodLink RX7 49 arraycopyName]
def wsX9_text_r9 : List Cond := [Cond.native arraycopyName, Cond.static arraycopyName, Cond.initialized "java/lang/System", Cond.methodLink RX8 79 yX0_copyFrom, Cond.instanceMethod yX0_copyFrom, Cond.selects RX0 yX0_copyFrom yX0_copyFrom, Cond.code yX0_copyFrom cX0_copyFrom 2 none, Cond.methodLink RX0 19 arraycopyName, Cond.methodLink RX8 85 yX1_copyFrom, Cond.instanceMethod yX1_copyFrom, Cond.selects RX1 yX1_copyFrom yX1_copyFrom, Cond.code yX1_copyFrom cX1_copyFrom 2 none, Cond.methodLink RX1 19 arraycopyName]
def wsX9_text : List Cond := .code yX9_text cX9_text 7 (some .int) :: ((wsX9_text_r1 ++ (wsX9_text_r2 ++ (wsX9_text_r3 ++ (wsX9_text_r4 ++ (wsX9_text_r5 ++ (wsX9_text_r6 ++ (wsX9_text_r7 ++ (wsX9_text_r8 ++ wsX9_text_r9)))))))) ++ wsX90 ++ wsX80 ++ wsX50 ++ wsX00 ++ wsX10 ++ wsX70)
def wsX9_fault : List Cond := .code yX9_fault cX9_fault 2 (some .int) :: ([.fieldLink RX9 10 "ClapBank" "told" "LClapBank$Told;"] ++ wsX90 ++ wsX80)
def wsX9_theatre_r1 : List Cond := [Cond.fieldLink RX9 10 "ClapBank" "told" "LClapBank$Told;", Cond.methodLink RX9 87 yX8_theatreAt, Cond.instanceMethod yX8_theatreAt, Cond.selects RX8 yX8_theatreAt yX8_theatreAt, Cond.initialized RX8, Cond.code yX8_theatreAt cX8_theatreAt 2 (some (.object "ClapBank$Theatre")), Cond.fieldLink RX8 52 "ClapBank$Told" "theatres" "I", Cond.fieldLink RX8 22 "ClapBank$Told" "firstTheatre" "LClapBank$Theatre;", Cond.fieldLink RX8 26 "ClapBank$Told" "secondTheatre" "LClapBank$Theatre;", Cond.methodLink RX9 91 yX7_tell, Cond.instanceMethod yX7_tell, Cond.selects RX7 yX7_tell yX7_tell, Cond.initialized RX7, Cond.code yX7_tell cX7_tell 3 (some .int), Cond.fieldLink RX7 30 "ClapBank$Theatre" "palms" "I", Cond.fieldLink RX7 9 "ClapBank$Theatre" "claps" "[I", Cond.fieldLink RX7 15 "ClapBank$Theatre" "hands" "[I", Cond.fieldLink RX7 34 "ClapBank$Theatre" "actors" "I", Cond.fieldLink RX7 18 "ClapBank$Theatre" "hunger" "[I", Cond.fieldLink RX7 21 "ClapBank$Theatre" "saved" "[I", Cond.fieldLink RX7 37 "ClapBank$Theatre" "usurers" "I", Cond.fieldLink RX7 24 "ClapBank$Theatre" "asks" "[I", Cond.fieldLink RX7 27 "ClapBank$Theatre" "floors" "[I", Cond.methodLink RX7 55 yX7_tellWhole]
def wsX9_theatre_r2 : List Cond := [Cond.instanceMethod yX7_tellWhole, Cond.selects RX7 yX7_tellWhole yX7_tellWhole, Cond.code yX7_tellWhole cX7_tellWhole 2 (some .int), Cond.fieldLink RX7 40 "ClapBank$Theatre" "rate" "I", Cond.fieldLink RX7 43 "ClapBank$Theatre" "chest" "I", Cond.fieldLink RX7 46 "ClapBank$Theatre" "borrowers" "I"]
def wsX9_theatre : List Cond := .code yX9_theatre cX9_theatre 4 (some .int) :: ((wsX9_theatre_r1 ++ wsX9_theatre_r2) ++ wsX90 ++ wsX80 ++ wsX70)
def wsX9_deed : List Cond := .code yX9_deed cX9_deed 5 (some .int) :: ([.fieldLink RX9 10 "ClapBank" "told" "LClapBank$Told;", .methodLink RX9 96 yX8_bookAt, .instanceMethod yX8_bookAt, .selects RX8 yX8_bookAt yX8_bookAt, .initialized RX8, .code yX8_bookAt cX8_bookAt 2 (some (.object "ClapBank$Book")), .fieldLink RX8 55 "ClapBank$Told" "books" "I", .fieldLink RX8 32 "ClapBank$Told" "firstBook" "LClapBank$Book;", .fieldLink RX8 36 "ClapBank$Told" "secondBook" "LClapBank$Book;", .methodLink RX9 105 yX0_part, .instanceMethod yX0_part, .selects RX0 yX0_part yX0_part, .initialized RX0, .code yX0_part cX0_part 3 (some .int), .fieldLink RX0 9 "ClapBank$Book" "parts" "[I"] ++ wsX90 ++ wsX00 ++ wsX80)
def wsX9_stop_r1 : List Cond := [Cond.fieldLink RX9 10 "ClapBank" "told" "LClapBank$Told;", Cond.fieldLink RX9 30 "ClapBank" "evening" "LClapBank$Evening;", Cond.methodLink RX9 87 yX8_theatreAt, Cond.instanceMethod yX8_theatreAt, Cond.selects RX8 yX8_theatreAt yX8_theatreAt, Cond.initialized RX8, Cond.code yX8_theatreAt cX8_theatreAt 2 (some (.object "ClapBank$Theatre")), Cond.fieldLink RX8 52 "ClapBank$Told" "theatres" "I", Cond.fieldLink RX8 22 "ClapBank$Told" "firstTheatre" "LClapBank$Theatre;", Cond.fieldLink RX8 26 "ClapBank$Told" "secondTheatre" "LClapBank$Theatre;", Cond.methodLink RX9 96 yX8_bookAt, Cond.instanceMethod yX8_bookAt, Cond.selects RX8 yX8_bookAt yX8_bookAt, Cond.code yX8_bookAt cX8_bookAt 2 (some (.object "ClapBank$Book")), Cond.fieldLink RX8 55 "ClapBank$Told" "books" "I", Cond.fieldLink RX8 32 "ClapBank$Told" "firstBook" "LClapBank$Book;", Cond.fieldLink RX8 36 "ClapBank$Told" "secondBook" "LClapBank$Book;", Cond.methodLink RX9 109 yX2_playAll, Cond.instanceMethod yX2_playAll, Cond.selects RX2 yX2_playAll yX2_playAll, Cond.initialized RX2, Cond.code yX2_playAll cX2_playAll 4 (some .int), Cond.methodLink RX2 75 yX2_begin, Cond.instanceMethod yX2_begin]
def wsX9_stop_r2 : List Cond := [Cond.selects RX2 yX2_begin yX2_begin, Cond.code yX2_begin cX2_begin 2 none, Cond.fieldLink RX2 12 "ClapBank$Evening" "house" "LClapBank$Theatre;", Cond.fieldLink RX2 18 "ClapBank$Evening" "left" "[I", Cond.methodLink RX2 43 arraycopyName, Cond.native arraycopyName, Cond.static arraycopyName, Cond.initialized "java/lang/System", Cond.fieldLink RX2 28 "ClapBank$Evening" "saved" "[I", Cond.fieldLink RX2 22 "ClapBank$Evening" "owes" "[I", Cond.fieldLink RX2 25 "ClapBank$Evening" "got" "[I", Cond.fieldLink RX2 31 "ClapBank$Evening" "starved" "[I", Cond.fieldLink RX2 34 "ClapBank$Evening" "storms" "[I", Cond.fieldLink RX2 60 "ClapBank$Evening" "chest" "I", Cond.fieldLink RX2 61 "ClapBank$Evening" "encores" "I", Cond.fieldLink RX2 64 "ClapBank$Evening" "nights" "I", Cond.fieldLink RX2 67 "ClapBank$Evening" "claps" "I", Cond.fieldLink RX2 69 "ClapBank$Evening" "hushed" "I", Cond.fieldLink RX2 72 "ClapBank$Evening" "echo" "I", Cond.methodLink RX2 50 yJ7_fill_53178, Cond.static yJ7_fill_53178, Cond.initialized RJ7, Cond.code yJ7_fill_53178 cJ7_fill_53178 4 none, Cond.methodLink RX2 79 yX2_canBe]
def wsX9_stop_r3 : List Cond := [Cond.instanceMethod yX2_canBe, Cond.selects RX2 yX2_canBe yX2_canBe, Cond.code yX2_canBe cX2_canBe 6 (some .boolean), Cond.methodLink RX2 120 yX0_part, Cond.instanceMethod yX0_part, Cond.selects RX0 yX0_part yX0_part, Cond.initialized RX0, Cond.code yX0_part cX0_part 3 (some .int), Cond.fieldLink RX0 9 "ClapBank$Book" "parts" "[I", Cond.methodLink RX2 124 yX2_canGive, Cond.instanceMethod yX2_canGive, Cond.selects RX2 yX2_canGive yX2_canGive, Cond.code yX2_canGive cX2_canGive 3 (some .boolean), Cond.methodLink RX2 127 yX2_hasPalm, Cond.instanceMethod yX2_hasPalm, Cond.selects RX2 yX2_hasPalm yX2_hasPalm, Cond.code yX2_hasPalm cX2_hasPalm 2 (some .boolean), Cond.methodLink RX2 130 yX2_isHushed, Cond.instanceMethod yX2_isHushed, Cond.selects RX2 yX2_isHushed yX2_isHushed, Cond.code yX2_isHushed cX2_isHushed 2 (some .boolean), Cond.methodLink RX2 99 yX2_lives, Cond.instanceMethod yX2_lives, Cond.selects RX2 yX2_lives yX2_lives]
def wsX9_stop_r4 : List Cond := [Cond.code yX2_lives cX2_lives 2 (some .boolean), Cond.methodLink RX2 117 yX2_hasActor, Cond.instanceMethod yX2_hasActor, Cond.selects RX2 yX2_hasActor yX2_hasActor, Cond.code yX2_hasActor cX2_hasActor 2 (some .boolean), Cond.methodLink RX2 83 yX2_act, Cond.instanceMethod yX2_act, Cond.selects RX2 yX2_act yX2_act, Cond.code yX2_act cX2_act 7 none, Cond.methodLink RX2 133 yX2_clapFor, Cond.instanceMethod yX2_clapFor, Cond.selects RX2 yX2_clapFor yX2_clapFor, Cond.code yX2_clapFor cX2_clapFor 5 none, Cond.methodLink RX2 110 yX2_give, Cond.instanceMethod yX2_give, Cond.selects RX2 yX2_give yX2_give, Cond.code yX2_give cX2_give 3 none, Cond.methodLink RX2 137 yX2_move, Cond.instanceMethod yX2_move, Cond.selects RX2 yX2_move yX2_move, Cond.code yX2_move cX2_move 4 none, Cond.methodLink RX2 114 yX2_passNight, Cond.instanceMethod yX2_passNight, Cond.selects RX2 yX2_passNight yX2_passNight]
def wsX9_stop_r5 : List Cond := [Cond.code yX2_passNight cX2_passNight 2 none, Cond.methodLink RX2 166 yX2_dine, Cond.instanceMethod yX2_dine, Cond.selects RX2 yX2_dine yX2_dine, Cond.code yX2_dine cX2_dine 3 none, Cond.methodLink RX2 146 yX2_price, Cond.instanceMethod yX2_price, Cond.selects RX2 yX2_price yX2_price, Cond.code yX2_price cX2_price 2 (some .int), Cond.methodLink RX2 143 yX2_priceBehind, Cond.instanceMethod yX2_priceBehind, Cond.selects RX2 yX2_priceBehind yX2_priceBehind, Cond.code yX2_priceBehind cX2_priceBehind 3 (some .int), Cond.methodLink RX2 170 yX2_grown, Cond.instanceMethod yX2_grown, Cond.selects RX2 yX2_grown yX2_grown, Cond.code yX2_grown cX2_grown 4 (some .int), Cond.constantLong RX2 158 (100), Cond.constantLong RX2 160 (1000000000), Cond.methodLink RX2 162 Lib.MathLoose.min_long.x, Cond.static Lib.MathLoose.min_long.x, Cond.initialized "java/lang/Math", Cond.code Lib.MathLoose.min_long.x Lib.MathLoose.min_long.code 4 (some .long)]
def wsX9_stop : List Cond := .code yX9_stop cX9_stop 5 (some .int) :: ((wsX9_stop_r1 ++ (wsX9_stop_r2 ++ (wsX9_stop_r3 ++ (wsX9_stop_r4 ++ wsX9_stop_r5)))) ++ wsX90 ++ wsX80 ++ wsX00 ++ wsX20 ++ wsX70)
def wsX9_reach_r1 : List Cond := [Cond.fieldLink RX9 10 "ClapBank" "told" "LClapBank$Told;", Cond.fieldLink RX9 30 "ClapBank" "evening" "LClapBank$Evening;", Cond.methodLink RX9 87 yX8_theatreAt, Cond.instanceMethod yX8_theatreAt, Cond.selects RX8 yX8_theatreAt yX8_theatreAt, Cond.initialized RX8, Cond.code yX8_theatreAt cX8_theatreAt 2 (some (.object "ClapBank$Theatre")), Cond.fieldLink RX8 52 "ClapBank$Told" "theatres" "I", Cond.fieldLink RX8 22 "ClapBank$Told" "firstTheatre" "LClapBank$Theatre;", Cond.fieldLink RX8 26 "ClapBank$Told" "secondTheatre" "LClapBank$Theatre;", Cond.methodLink RX9 96 yX8_bookAt, Cond.instanceMethod yX8_bookAt, Cond.selects RX8 yX8_bookAt yX8_bookAt, Cond.code yX8_bookAt cX8_bookAt 2 (some (.object "ClapBank$Book")), Cond.fieldLink RX8 55 "ClapBank$Told" "books" "I", Cond.fieldLink RX8 32 "ClapBank$Told" "firstBook" "LClapBank$Book;", Cond.fieldLink RX8 36 "ClapBank$Told" "secondBook" "LClapBank$Book;", Cond.methodLink RX9 250 yX2_playFirst, Cond.instanceMethod yX2_playFirst, Cond.selects RX2 yX2_playFirst yX2_playFirst, Cond.initialized RX2, Cond.code yX2_playFirst cX2_playFirst 5 (some .boolean), Cond.methodLink RX2 75 yX2_begin, Cond.instanceMethod yX2_begin]
def wsX9_reach_r2 : List Cond := [Cond.selects RX2 yX2_begin yX2_begin, Cond.code yX2_begin cX2_begin 2 none, Cond.fieldLink RX2 12 "ClapBank$Evening" "house" "LClapBank$Theatre;", Cond.fieldLink RX2 18 "ClapBank$Evening" "left" "[I", Cond.methodLink RX2 43 arraycopyName, Cond.native arraycopyName, Cond.static arraycopyName, Cond.initialized "java/lang/System", Cond.fieldLink RX2 28 "ClapBank$Evening" "saved" "[I", Cond.fieldLink RX2 22 "ClapBank$Evening" "owes" "[I", Cond.fieldLink RX2 25 "ClapBank$Evening" "got" "[I", Cond.fieldLink RX2 31 "ClapBank$Evening" "starved" "[I", Cond.fieldLink RX2 34 "ClapBank$Evening" "storms" "[I", Cond.fieldLink RX2 60 "ClapBank$Evening" "chest" "I", Cond.fieldLink RX2 61 "ClapBank$Evening" "encores" "I", Cond.fieldLink RX2 64 "ClapBank$Evening" "nights" "I", Cond.fieldLink RX2 67 "ClapBank$Evening" "claps" "I", Cond.fieldLink RX2 69 "ClapBank$Evening" "hushed" "I", Cond.fieldLink RX2 72 "ClapBank$Evening" "echo" "I", Cond.methodLink RX2 50 yJ7_fill_53178, Cond.static yJ7_fill_53178, Cond.initialized RJ7, Cond.code yJ7_fill_53178 cJ7_fill_53178 4 none, Cond.methodLink RX2 79 yX2_canBe]
def wsX9_reach_r3 : List Cond := [Cond.instanceMethod yX2_canBe, Cond.selects RX2 yX2_canBe yX2_canBe, Cond.code yX2_canBe cX2_canBe 6 (some .boolean), Cond.methodLink RX2 120 yX0_part, Cond.instanceMethod yX0_part, Cond.selects RX0 yX0_part yX0_part, Cond.initialized RX0, Cond.code yX0_part cX0_part 3 (some .int), Cond.fieldLink RX0 9 "ClapBank$Book" "parts" "[I", Cond.methodLink RX2 124 yX2_canGive, Cond.instanceMethod yX2_canGive, Cond.selects RX2 yX2_canGive yX2_canGive, Cond.code yX2_canGive cX2_canGive 3 (some .boolean), Cond.methodLink RX2 127 yX2_hasPalm, Cond.instanceMethod yX2_hasPalm, Cond.selects RX2 yX2_hasPalm yX2_hasPalm, Cond.code yX2_hasPalm cX2_hasPalm 2 (some .boolean), Cond.methodLink RX2 130 yX2_isHushed, Cond.instanceMethod yX2_isHushed, Cond.selects RX2 yX2_isHushed yX2_isHushed, Cond.code yX2_isHushed cX2_isHushed 2 (some .boolean), Cond.methodLink RX2 99 yX2_lives, Cond.instanceMethod yX2_lives, Cond.selects RX2 yX2_lives yX2_lives]
def wsX9_reach_r4 : List Cond := [Cond.code yX2_lives cX2_lives 2 (some .boolean), Cond.methodLink RX2 117 yX2_hasActor, Cond.instanceMethod yX2_hasActor, Cond.selects RX2 yX2_hasActor yX2_hasActor, Cond.code yX2_hasActor cX2_hasActor 2 (some .boolean), Cond.methodLink RX2 83 yX2_act, Cond.instanceMethod yX2_act, Cond.selects RX2 yX2_act yX2_act, Cond.code yX2_act cX2_act 7 none, Cond.methodLink RX2 133 yX2_clapFor, Cond.instanceMethod yX2_clapFor, Cond.selects RX2 yX2_clapFor yX2_clapFor, Cond.code yX2_clapFor cX2_clapFor 5 none, Cond.methodLink RX2 110 yX2_give, Cond.instanceMethod yX2_give, Cond.selects RX2 yX2_give yX2_give, Cond.code yX2_give cX2_give 3 none, Cond.methodLink RX2 137 yX2_move, Cond.instanceMethod yX2_move, Cond.selects RX2 yX2_move yX2_move, Cond.code yX2_move cX2_move 4 none, Cond.methodLink RX2 114 yX2_passNight, Cond.instanceMethod yX2_passNight, Cond.selects RX2 yX2_passNight yX2_passNight]
def wsX9_reach_r5 : List Cond := [Cond.code yX2_passNight cX2_passNight 2 none, Cond.methodLink RX2 166 yX2_dine, Cond.instanceMethod yX2_dine, Cond.selects RX2 yX2_dine yX2_dine, Cond.code yX2_dine cX2_dine 3 none, Cond.methodLink RX2 146 yX2_price, Cond.instanceMethod yX2_price, Cond.selects RX2 yX2_price yX2_price, Cond.code yX2_price cX2_price 2 (some .int), Cond.methodLink RX2 143 yX2_priceBehind, Cond.instanceMethod yX2_priceBehind, Cond.selects RX2 yX2_priceBehind yX2_priceBehind, Cond.code yX2_priceBehind cX2_priceBehind 3 (some .int), Cond.methodLink RX2 170 yX2_grown, Cond.instanceMethod yX2_grown, Cond.selects RX2 yX2_grown yX2_grown, Cond.code yX2_grown cX2_grown 4 (some .int), Cond.constantLong RX2 158 (100), Cond.constantLong RX2 160 (1000000000), Cond.methodLink RX2 162 Lib.MathLoose.min_long.x, Cond.static Lib.MathLoose.min_long.x, Cond.initialized "java/lang/Math", Cond.code Lib.MathLoose.min_long.x Lib.MathLoose.min_long.code 4 (some .long)]
def wsX9_reach : List Cond := .code yX9_reach cX9_reach 6 (some .boolean) :: ((wsX9_reach_r1 ++ (wsX9_reach_r2 ++ (wsX9_reach_r3 ++ (wsX9_reach_r4 ++ wsX9_reach_r5)))) ++ wsX90 ++ wsX00 ++ wsX80 ++ wsX20 ++ wsX70)
def wsX9_state_r1 : List Cond := [Cond.fieldLink RX9 30 "ClapBank" "evening" "LClapBank$Evening;", Cond.methodLink RX9 113 yX9_reach, Cond.instanceMethod yX9_reach, Cond.selects RX9 yX9_reach yX9_reach, Cond.initialized RX9, Cond.code yX9_reach cX9_reach 6 (some .boolean), Cond.fieldLink RX9 10 "ClapBank" "told" "LClapBank$Told;", Cond.methodLink RX9 87 yX8_theatreAt, Cond.instanceMethod yX8_theatreAt, Cond.selects RX8 yX8_theatreAt yX8_theatreAt, Cond.initialized RX8, Cond.code yX8_theatreAt cX8_theatreAt 2 (some (.object "ClapBank$Theatre")), Cond.fieldLink RX8 52 "ClapBank$Told" "theatres" "I", Cond.fieldLink RX8 22 "ClapBank$Told" "firstTheatre" "LClapBank$Theatre;", Cond.fieldLink RX8 26 "ClapBank$Told" "secondTheatre" "LClapBank$Theatre;", Cond.methodLink RX9 96 yX8_bookAt, Cond.instanceMethod yX8_bookAt, Cond.selects RX8 yX8_bookAt yX8_bookAt, Cond.code yX8_bookAt cX8_bookAt 2 (some (.object "ClapBank$Book")), Cond.fieldLink RX8 55 "ClapBank$Told" "books" "I", Cond.fieldLink RX8 32 "ClapBank$Told" "firstBook" "LClapBank$Book;", Cond.fieldLink RX8 36 "ClapBank$Told" "secondBook" "LClapBank$Book;", Cond.methodLink RX9 250 yX2_playFirst, Cond.instanceMethod yX2_playFirst]
def wsX9_state_r2 : List Cond := [Cond.selects RX2 yX2_playFirst yX2_playFirst, Cond.initialized RX2, Cond.code yX2_playFirst cX2_playFirst 5 (some .boolean), Cond.methodLink RX2 75 yX2_begin, Cond.instanceMethod yX2_begin, Cond.selects RX2 yX2_begin yX2_begin, Cond.code yX2_begin cX2_begin 2 none, Cond.fieldLink RX2 12 "ClapBank$Evening" "house" "LClapBank$Theatre;", Cond.fieldLink RX2 18 "ClapBank$Evening" "left" "[I", Cond.methodLink RX2 43 arraycopyName, Cond.native arraycopyName, Cond.static arraycopyName, Cond.initialized "java/lang/System", Cond.fieldLink RX2 28 "ClapBank$Evening" "saved" "[I", Cond.fieldLink RX2 22 "ClapBank$Evening" "owes" "[I", Cond.fieldLink RX2 25 "ClapBank$Evening" "got" "[I", Cond.fieldLink RX2 31 "ClapBank$Evening" "starved" "[I", Cond.fieldLink RX2 34 "ClapBank$Evening" "storms" "[I", Cond.fieldLink RX2 60 "ClapBank$Evening" "chest" "I", Cond.fieldLink RX2 61 "ClapBank$Evening" "encores" "I", Cond.fieldLink RX2 64 "ClapBank$Evening" "nights" "I", Cond.fieldLink RX2 67 "ClapBank$Evening" "claps" "I", Cond.fieldLink RX2 69 "ClapBank$Evening" "hushed" "I", Cond.fieldLink RX2 72 "ClapBank$Evening" "echo" "I"]
def wsX9_state_r3 : List Cond := [Cond.methodLink RX2 50 yJ7_fill_53178, Cond.static yJ7_fill_53178, Cond.initialized RJ7, Cond.code yJ7_fill_53178 cJ7_fill_53178 4 none, Cond.methodLink RX2 79 yX2_canBe, Cond.instanceMethod yX2_canBe, Cond.selects RX2 yX2_canBe yX2_canBe, Cond.code yX2_canBe cX2_canBe 6 (some .boolean), Cond.methodLink RX2 120 yX0_part, Cond.instanceMethod yX0_part, Cond.selects RX0 yX0_part yX0_part, Cond.initialized RX0, Cond.code yX0_part cX0_part 3 (some .int), Cond.fieldLink RX0 9 "ClapBank$Book" "parts" "[I", Cond.methodLink RX2 124 yX2_canGive, Cond.instanceMethod yX2_canGive, Cond.selects RX2 yX2_canGive yX2_canGive, Cond.code yX2_canGive cX2_canGive 3 (some .boolean), Cond.methodLink RX2 127 yX2_hasPalm, Cond.instanceMethod yX2_hasPalm, Cond.selects RX2 yX2_hasPalm yX2_hasPalm, Cond.code yX2_hasPalm cX2_hasPalm 2 (some .boolean), Cond.methodLink RX2 130 yX2_isHushed, Cond.instanceMethod yX2_isHushed]
def wsX9_state_r4 : List Cond := [Cond.selects RX2 yX2_isHushed yX2_isHushed, Cond.code yX2_isHushed cX2_isHushed 2 (some .boolean), Cond.methodLink RX2 99 yX2_lives, Cond.instanceMethod yX2_lives, Cond.selects RX2 yX2_lives yX2_lives, Cond.code yX2_lives cX2_lives 2 (some .boolean), Cond.methodLink RX2 117 yX2_hasActor, Cond.instanceMethod yX2_hasActor, Cond.selects RX2 yX2_hasActor yX2_hasActor, Cond.code yX2_hasActor cX2_hasActor 2 (some .boolean), Cond.methodLink RX2 83 yX2_act, Cond.instanceMethod yX2_act, Cond.selects RX2 yX2_act yX2_act, Cond.code yX2_act cX2_act 7 none, Cond.methodLink RX2 133 yX2_clapFor, Cond.instanceMethod yX2_clapFor, Cond.selects RX2 yX2_clapFor yX2_clapFor, Cond.code yX2_clapFor cX2_clapFor 5 none, Cond.methodLink RX2 110 yX2_give, Cond.instanceMethod yX2_give, Cond.selects RX2 yX2_give yX2_give, Cond.code yX2_give cX2_give 3 none, Cond.methodLink RX2 137 yX2_move, Cond.instanceMethod yX2_move]
def wsX9_state_r5 : List Cond := [Cond.selects RX2 yX2_move yX2_move, Cond.code yX2_move cX2_move 4 none, Cond.methodLink RX2 114 yX2_passNight, Cond.instanceMethod yX2_passNight, Cond.selects RX2 yX2_passNight yX2_passNight, Cond.code yX2_passNight cX2_passNight 2 none, Cond.methodLink RX2 166 yX2_dine, Cond.instanceMethod yX2_dine, Cond.selects RX2 yX2_dine yX2_dine, Cond.code yX2_dine cX2_dine 3 none, Cond.methodLink RX2 146 yX2_price, Cond.instanceMethod yX2_price, Cond.selects RX2 yX2_price yX2_price, Cond.code yX2_price cX2_price 2 (some .int), Cond.methodLink RX2 143 yX2_priceBehind, Cond.instanceMethod yX2_priceBehind, Cond.selects RX2 yX2_priceBehind yX2_priceBehind, Cond.code yX2_priceBehind cX2_priceBehind 3 (some .int), Cond.methodLink RX2 170 yX2_grown, Cond.instanceMethod yX2_grown, Cond.selects RX2 yX2_grown yX2_grown, Cond.code yX2_grown cX2_grown 4 (some .int), Cond.constantLong RX2 158 (100), Cond.constantLong RX2 160 (1000000000)]
def wsX9_state_r6 : List Cond := [Cond.methodLink RX2 162 Lib.MathLoose.min_long.x, Cond.static Lib.MathLoose.min_long.x, Cond.initialized "java/lang/Math", Cond.code Lib.MathLoose.min_long.x Lib.MathLoose.min_long.code 4 (some .long), Cond.methodLink RX9 117 yX2_tell, Cond.instanceMethod yX2_tell, Cond.selects RX2 yX2_tell yX2_tell, Cond.code yX2_tell cX2_tell 2 (some .int), Cond.methodLink RX2 176 yX2_living, Cond.instanceMethod yX2_living, Cond.selects RX2 yX2_living yX2_living, Cond.code yX2_living cX2_living 3 (some .int), Cond.methodLink RX2 180 yX2_allSaved, Cond.instanceMethod yX2_allSaved, Cond.selects RX2 yX2_allSaved yX2_allSaved, Cond.code yX2_allSaved cX2_allSaved 3 (some .int)]
def wsX9_state : List Cond := .code yX9_state cX9_state 5 (some .int) :: ((wsX9_state_r1 ++ (wsX9_state_r2 ++ (wsX9_state_r3 ++ (wsX9_state_r4 ++ (wsX9_state_r5 ++ wsX9_state_r6))))) ++ wsX90 ++ wsX00 ++ wsX80 ++ wsX20 ++ wsX70)
def wsX9_palm_r1 : List Cond := [Cond.fieldLink RX9 30 "ClapBank" "evening" "LClapBank$Evening;", Cond.methodLink RX9 113 yX9_reach, Cond.instanceMethod yX9_reach, Cond.selects RX9 yX9_reach yX9_reach, Cond.initialized RX9, Cond.code yX9_reach cX9_reach 6 (some .boolean), Cond.fieldLink RX9 10 "ClapBank" "told" "LClapBank$Told;", Cond.methodLink RX9 87 yX8_theatreAt, Cond.instanceMethod yX8_theatreAt, Cond.selects RX8 yX8_theatreAt yX8_theatreAt, Cond.initialized RX8, Cond.code yX8_theatreAt cX8_theatreAt 2 (some (.object "ClapBank$Theatre")), Cond.fieldLink RX8 52 "ClapBank$Told" "theatres" "I", Cond.fieldLink RX8 22 "ClapBank$Told" "firstTheatre" "LClapBank$Theatre;", Cond.fieldLink RX8 26 "ClapBank$Told" "secondTheatre" "LClapBank$Theatre;", Cond.methodLink RX9 96 yX8_bookAt, Cond.instanceMethod yX8_bookAt, Cond.selects RX8 yX8_bookAt yX8_bookAt, Cond.code yX8_bookAt cX8_bookAt 2 (some (.object "ClapBank$Book")), Cond.fieldLink RX8 55 "ClapBank$Told" "books" "I", Cond.fieldLink RX8 32 "ClapBank$Told" "firstBook" "LClapBank$Book;", Cond.fieldLink RX8 36 "ClapBank$Told" "secondBook" "LClapBank$Book;", Cond.methodLink RX9 250 yX2_playFirst, Cond.instanceMethod yX2_playFirst]
def wsX9_palm_r2 : List Cond := [Cond.selects RX2 yX2_playFirst yX2_playFirst, Cond.initialized RX2, Cond.code yX2_playFirst cX2_playFirst 5 (some .boolean), Cond.methodLink RX2 75 yX2_begin, Cond.instanceMethod yX2_begin, Cond.selects RX2 yX2_begin yX2_begin, Cond.code yX2_begin cX2_begin 2 none, Cond.fieldLink RX2 12 "ClapBank$Evening" "house" "LClapBank$Theatre;", Cond.fieldLink RX2 18 "ClapBank$Evening" "left" "[I", Cond.methodLink RX2 43 arraycopyName, Cond.native arraycopyName, Cond.static arraycopyName, Cond.initialized "java/lang/System", Cond.fieldLink RX2 28 "ClapBank$Evening" "saved" "[I", Cond.fieldLink RX2 22 "ClapBank$Evening" "owes" "[I", Cond.fieldLink RX2 25 "ClapBank$Evening" "got" "[I", Cond.fieldLink RX2 31 "ClapBank$Evening" "starved" "[I", Cond.fieldLink RX2 34 "ClapBank$Evening" "storms" "[I", Cond.fieldLink RX2 60 "ClapBank$Evening" "chest" "I", Cond.fieldLink RX2 61 "ClapBank$Evening" "encores" "I", Cond.fieldLink RX2 64 "ClapBank$Evening" "nights" "I", Cond.fieldLink RX2 67 "ClapBank$Evening" "claps" "I", Cond.fieldLink RX2 69 "ClapBank$Evening" "hushed" "I", Cond.fieldLink RX2 72 "ClapBank$Evening" "echo" "I"]
def wsX9_palm_r3 : List Cond := [Cond.methodLink RX2 50 yJ7_fill_53178, Cond.static yJ7_fill_53178, Cond.initialized RJ7, Cond.code yJ7_fill_53178 cJ7_fill_53178 4 none, Cond.methodLink RX2 79 yX2_canBe, Cond.instanceMethod yX2_canBe, Cond.selects RX2 yX2_canBe yX2_canBe, Cond.code yX2_canBe cX2_canBe 6 (some .boolean), Cond.methodLink RX2 120 yX0_part, Cond.instanceMethod yX0_part, Cond.selects RX0 yX0_part yX0_part, Cond.initialized RX0, Cond.code yX0_part cX0_part 3 (some .int), Cond.fieldLink RX0 9 "ClapBank$Book" "parts" "[I", Cond.methodLink RX2 124 yX2_canGive, Cond.instanceMethod yX2_canGive, Cond.selects RX2 yX2_canGive yX2_canGive, Cond.code yX2_canGive cX2_canGive 3 (some .boolean), Cond.methodLink RX2 127 yX2_hasPalm, Cond.instanceMethod yX2_hasPalm, Cond.selects RX2 yX2_hasPalm yX2_hasPalm, Cond.code yX2_hasPalm cX2_hasPalm 2 (some .boolean), Cond.methodLink RX2 130 yX2_isHushed, Cond.instanceMethod yX2_isHushed]
def wsX9_palm_r4 : List Cond := [Cond.selects RX2 yX2_isHushed yX2_isHushed, Cond.code yX2_isHushed cX2_isHushed 2 (some .boolean), Cond.methodLink RX2 99 yX2_lives, Cond.instanceMethod yX2_lives, Cond.selects RX2 yX2_lives yX2_lives, Cond.code yX2_lives cX2_lives 2 (some .boolean), Cond.methodLink RX2 117 yX2_hasActor, Cond.instanceMethod yX2_hasActor, Cond.selects RX2 yX2_hasActor yX2_hasActor, Cond.code yX2_hasActor cX2_hasActor 2 (some .boolean), Cond.methodLink RX2 83 yX2_act, Cond.instanceMethod yX2_act, Cond.selects RX2 yX2_act yX2_act, Cond.code yX2_act cX2_act 7 none, Cond.methodLink RX2 133 yX2_clapFor, Cond.instanceMethod yX2_clapFor, Cond.selects RX2 yX2_clapFor yX2_clapFor, Cond.code yX2_clapFor cX2_clapFor 5 none, Cond.methodLink RX2 110 yX2_give, Cond.instanceMethod yX2_give, Cond.selects RX2 yX2_give yX2_give, Cond.code yX2_give cX2_give 3 none, Cond.methodLink RX2 137 yX2_move, Cond.instanceMethod yX2_move]
def wsX9_palm_r5 : List Cond := [Cond.selects RX2 yX2_move yX2_move, Cond.code yX2_move cX2_move 4 none, Cond.methodLink RX2 114 yX2_passNight, Cond.instanceMethod yX2_passNight, Cond.selects RX2 yX2_passNight yX2_passNight, Cond.code yX2_passNight cX2_passNight 2 none, Cond.methodLink RX2 166 yX2_dine, Cond.instanceMethod yX2_dine, Cond.selects RX2 yX2_dine yX2_dine, Cond.code yX2_dine cX2_dine 3 none, Cond.methodLink RX2 146 yX2_price, Cond.instanceMethod yX2_price, Cond.selects RX2 yX2_price yX2_price, Cond.code yX2_price cX2_price 2 (some .int), Cond.methodLink RX2 143 yX2_priceBehind, Cond.instanceMethod yX2_priceBehind, Cond.selects RX2 yX2_priceBehind yX2_priceBehind, Cond.code yX2_priceBehind cX2_priceBehind 3 (some .int), Cond.methodLink RX2 170 yX2_grown, Cond.instanceMethod yX2_grown, Cond.selects RX2 yX2_grown yX2_grown, Cond.code yX2_grown cX2_grown 4 (some .int), Cond.constantLong RX2 158 (100), Cond.constantLong RX2 160 (1000000000)]
def wsX9_palm_r6 : List Cond := [Cond.methodLink RX2 162 Lib.MathLoose.min_long.x, Cond.static Lib.MathLoose.min_long.x, Cond.initialized "java/lang/Math", Cond.code Lib.MathLoose.min_long.x Lib.MathLoose.min_long.code 4 (some .long), Cond.methodLink RX9 118 yX2_hasPalm, Cond.methodLink RX9 122 yX2_tellPalm, Cond.instanceMethod yX2_tellPalm, Cond.selects RX2 yX2_tellPalm yX2_tellPalm, Cond.code yX2_tellPalm cX2_tellPalm 3 (some .int)]
def wsX9_palm : List Cond := .code yX9_palm cX9_palm 6 (some .int) :: ((wsX9_palm_r1 ++ (wsX9_palm_r2 ++ (wsX9_palm_r3 ++ (wsX9_palm_r4 ++ (wsX9_palm_r5 ++ wsX9_palm_r6))))) ++ wsX90 ++ wsX00 ++ wsX80 ++ wsX20 ++ wsX70)
def wsX9_actor_r1 : List Cond := [Cond.fieldLink RX9 30 "ClapBank" "evening" "LClapBank$Evening;", Cond.methodLink RX9 113 yX9_reach, Cond.instanceMethod yX9_reach, Cond.selects RX9 yX9_reach yX9_reach, Cond.initialized RX9, Cond.code yX9_reach cX9_reach 6 (some .boolean), Cond.fieldLink RX9 10 "ClapBank" "told" "LClapBank$Told;", Cond.methodLink RX9 87 yX8_theatreAt, Cond.instanceMethod yX8_theatreAt, Cond.selects RX8 yX8_theatreAt yX8_theatreAt, Cond.initialized RX8, Cond.code yX8_theatreAt cX8_theatreAt 2 (some (.object "ClapBank$Theatre")), Cond.fieldLink RX8 52 "ClapBank$Told" "theatres" "I", Cond.fieldLink RX8 22 "ClapBank$Told" "firstTheatre" "LClapBank$Theatre;", Cond.fieldLink RX8 26 "ClapBank$Told" "secondTheatre" "LClapBank$Theatre;", Cond.methodLink RX9 96 yX8_bookAt, Cond.instanceMethod yX8_bookAt, Cond.selects RX8 yX8_bookAt yX8_bookAt, Cond.code yX8_bookAt cX8_bookAt 2 (some (.object "ClapBank$Book")), Cond.fieldLink RX8 55 "ClapBank$Told" "books" "I", Cond.fieldLink RX8 32 "ClapBank$Told" "firstBook" "LClapBank$Book;", Cond.fieldLink RX8 36 "ClapBank$Told" "secondBook" "LClapBank$Book;", Cond.methodLink RX9 250 yX2_playFirst, Cond.instanceMethod yX2_playFirst]
def wsX9_actor_r2 : List Cond := [Cond.selects RX2 yX2_playFirst yX2_playFirst, Cond.initialized RX2, Cond.code yX2_playFirst cX2_playFirst 5 (some .boolean), Cond.methodLink RX2 75 yX2_begin, Cond.instanceMethod yX2_begin, Cond.selects RX2 yX2_begin yX2_begin, Cond.code yX2_begin cX2_begin 2 none, Cond.fieldLink RX2 12 "ClapBank$Evening" "house" "LClapBank$Theatre;", Cond.fieldLink RX2 18 "ClapBank$Evening" "left" "[I", Cond.methodLink RX2 43 arraycopyName, Cond.native arraycopyName, Cond.static arraycopyName, Cond.initialized "java/lang/System", Cond.fieldLink RX2 28 "ClapBank$Evening" "saved" "[I", Cond.fieldLink RX2 22 "ClapBank$Evening" "owes" "[I", Cond.fieldLink RX2 25 "ClapBank$Evening" "got" "[I", Cond.fieldLink RX2 31 "ClapBank$Evening" "starved" "[I", Cond.fieldLink RX2 34 "ClapBank$Evening" "storms" "[I", Cond.fieldLink RX2 60 "ClapBank$Evening" "chest" "I", Cond.fieldLink RX2 61 "ClapBank$Evening" "encores" "I", Cond.fieldLink RX2 64 "ClapBank$Evening" "nights" "I", Cond.fieldLink RX2 67 "ClapBank$Evening" "claps" "I", Cond.fieldLink RX2 69 "ClapBank$Evening" "hushed" "I", Cond.fieldLink RX2 72 "ClapBank$Evening" "echo" "I"]
def wsX9_actor_r3 : List Cond := [Cond.methodLink RX2 50 yJ7_fill_53178, Cond.static yJ7_fill_53178, Cond.initialized RJ7, Cond.code yJ7_fill_53178 cJ7_fill_53178 4 none, Cond.methodLink RX2 79 yX2_canBe, Cond.instanceMethod yX2_canBe, Cond.selects RX2 yX2_canBe yX2_canBe, Cond.code yX2_canBe cX2_canBe 6 (some .boolean), Cond.methodLink RX2 120 yX0_part, Cond.instanceMethod yX0_part, Cond.selects RX0 yX0_part yX0_part, Cond.initialized RX0, Cond.code yX0_part cX0_part 3 (some .int), Cond.fieldLink RX0 9 "ClapBank$Book" "parts" "[I", Cond.methodLink RX2 124 yX2_canGive, Cond.instanceMethod yX2_canGive, Cond.selects RX2 yX2_canGive yX2_canGive, Cond.code yX2_canGive cX2_canGive 3 (some .boolean), Cond.methodLink RX2 127 yX2_hasPalm, Cond.instanceMethod yX2_hasPalm, Cond.selects RX2 yX2_hasPalm yX2_hasPalm, Cond.code yX2_hasPalm cX2_hasPalm 2 (some .boolean), Cond.methodLink RX2 130 yX2_isHushed, Cond.instanceMethod yX2_isHushed]
def wsX9_actor_r4 : List Cond := [Cond.selects RX2 yX2_isHushed yX2_isHushed, Cond.code yX2_isHushed cX2_isHushed 2 (some .boolean), Cond.methodLink RX2 99 yX2_lives, Cond.instanceMethod yX2_lives, Cond.selects RX2 yX2_lives yX2_lives, Cond.code yX2_lives cX2_lives 2 (some .boolean), Cond.methodLink RX2 117 yX2_hasActor, Cond.instanceMethod yX2_hasActor, Cond.selects RX2 yX2_hasActor yX2_hasActor, Cond.code yX2_hasActor cX2_hasActor 2 (some .boolean), Cond.methodLink RX2 83 yX2_act, Cond.instanceMethod yX2_act, Cond.selects RX2 yX2_act yX2_act, Cond.code yX2_act cX2_act 7 none, Cond.methodLink RX2 133 yX2_clapFor, Cond.instanceMethod yX2_clapFor, Cond.selects RX2 yX2_clapFor yX2_clapFor, Cond.code yX2_clapFor cX2_clapFor 5 none, Cond.methodLink RX2 110 yX2_give, Cond.instanceMethod yX2_give, Cond.selects RX2 yX2_give yX2_give, Cond.code yX2_give cX2_give 3 none, Cond.methodLink RX2 137 yX2_move, Cond.instanceMethod yX2_move]
def wsX9_actor_r5 : List Cond := [Cond.selects RX2 yX2_move yX2_move, Cond.code yX2_move cX2_move 4 none, Cond.methodLink RX2 114 yX2_passNight, Cond.instanceMethod yX2_passNight, Cond.selects RX2 yX2_passNight yX2_passNight, Cond.code yX2_passNight cX2_passNight 2 none, Cond.methodLink RX2 166 yX2_dine, Cond.instanceMethod yX2_dine, Cond.selects RX2 yX2_dine yX2_dine, Cond.code yX2_dine cX2_dine 3 none, Cond.methodLink RX2 146 yX2_price, Cond.instanceMethod yX2_price, Cond.selects RX2 yX2_price yX2_price, Cond.code yX2_price cX2_price 2 (some .int), Cond.methodLink RX2 143 yX2_priceBehind, Cond.instanceMethod yX2_priceBehind, Cond.selects RX2 yX2_priceBehind yX2_priceBehind, Cond.code yX2_priceBehind cX2_priceBehind 3 (some .int), Cond.methodLink RX2 170 yX2_grown, Cond.instanceMethod yX2_grown, Cond.selects RX2 yX2_grown yX2_grown, Cond.code yX2_grown cX2_grown 4 (some .int), Cond.constantLong RX2 158 (100), Cond.constantLong RX2 160 (1000000000)]
def wsX9_actor_r6 : List Cond := [Cond.methodLink RX2 162 Lib.MathLoose.min_long.x, Cond.static Lib.MathLoose.min_long.x, Cond.initialized "java/lang/Math", Cond.code Lib.MathLoose.min_long.x Lib.MathLoose.min_long.code 4 (some .long), Cond.methodLink RX9 125 yX2_hasActor, Cond.methodLink RX9 128 yX2_tellActor, Cond.instanceMethod yX2_tellActor, Cond.selects RX2 yX2_tellActor yX2_tellActor, Cond.code yX2_tellActor cX2_tellActor 3 (some .int), Cond.methodLink RX2 173 yX2_need, Cond.instanceMethod yX2_need, Cond.selects RX2 yX2_need yX2_need, Cond.code yX2_need cX2_need 2 (some .int), Cond.methodLink RX2 150 Lib.Math.max.name, Cond.static Lib.Math.max.name, Cond.code Lib.Math.max.name Lib.Math.max.code 2 (some .int), Cond.methodLink RX2 183 yX2_friday, Cond.instanceMethod yX2_friday, Cond.selects RX2 yX2_friday yX2_friday, Cond.code yX2_friday cX2_friday 3 (some .int), Cond.methodLink RX2 186 yX2_star, Cond.instanceMethod yX2_star, Cond.selects RX2 yX2_star yX2_star, Cond.code yX2_star cX2_star 5 (some .int)]
def wsX9_actor : List Cond := .code yX9_actor cX9_actor 6 (some .int) :: ((wsX9_actor_r1 ++ (wsX9_actor_r2 ++ (wsX9_actor_r3 ++ (wsX9_actor_r4 ++ (wsX9_actor_r5 ++ wsX9_actor_r6))))) ++ wsX90 ++ wsX00 ++ wsX80 ++ wsX20 ++ wsX70)
def wsX9_run_r1 : List Cond := [Cond.fieldLink RX9 30 "ClapBank" "evening" "LClapBank$Evening;", Cond.methodLink RX9 113 yX9_reach, Cond.instanceMethod yX9_reach, Cond.selects RX9 yX9_reach yX9_reach, Cond.initialized RX9, Cond.code yX9_reach cX9_reach 6 (some .boolean), Cond.fieldLink RX9 10 "ClapBank" "told" "LClapBank$Told;", Cond.methodLink RX9 87 yX8_theatreAt, Cond.instanceMethod yX8_theatreAt, Cond.selects RX8 yX8_theatreAt yX8_theatreAt, Cond.initialized RX8, Cond.code yX8_theatreAt cX8_theatreAt 2 (some (.object "ClapBank$Theatre")), Cond.fieldLink RX8 52 "ClapBank$Told" "theatres" "I", Cond.fieldLink RX8 22 "ClapBank$Told" "firstTheatre" "LClapBank$Theatre;", Cond.fieldLink RX8 26 "ClapBank$Told" "secondTheatre" "LClapBank$Theatre;", Cond.methodLink RX9 96 yX8_bookAt, Cond.instanceMethod yX8_bookAt, Cond.selects RX8 yX8_bookAt yX8_bookAt, Cond.code yX8_bookAt cX8_bookAt 2 (some (.object "ClapBank$Book")), Cond.fieldLink RX8 55 "ClapBank$Told" "books" "I", Cond.fieldLink RX8 32 "ClapBank$Told" "firstBook" "LClapBank$Book;", Cond.fieldLink RX8 36 "ClapBank$Told" "secondBook" "LClapBank$Book;", Cond.methodLink RX9 250 yX2_playFirst, Cond.instanceMethod yX2_playFirst]
def wsX9_run_r2 : List Cond := [Cond.selects RX2 yX2_playFirst yX2_playFirst, Cond.initialized RX2, Cond.code yX2_playFirst cX2_playFirst 5 (some .boolean), Cond.methodLink RX2 75 yX2_begin, Cond.instanceMethod yX2_begin, Cond.selects RX2 yX2_begin yX2_begin, Cond.code yX2_begin cX2_begin 2 none, Cond.fieldLink RX2 12 "ClapBank$Evening" "house" "LClapBank$Theatre;", Cond.fieldLink RX2 18 "ClapBank$Evening" "left" "[I", Cond.methodLink RX2 43 arraycopyName, Cond.native arraycopyName, Cond.static arraycopyName, Cond.initialized "java/lang/System", Cond.fieldLink RX2 28 "ClapBank$Evening" "saved" "[I", Cond.fieldLink RX2 22 "ClapBank$Evening" "owes" "[I", Cond.fieldLink RX2 25 "ClapBank$Evening" "got" "[I", Cond.fieldLink RX2 31 "ClapBank$Evening" "starved" "[I", Cond.fieldLink RX2 34 "ClapBank$Evening" "storms" "[I", Cond.fieldLink RX2 60 "ClapBank$Evening" "chest" "I", Cond.fieldLink RX2 61 "ClapBank$Evening" "encores" "I", Cond.fieldLink RX2 64 "ClapBank$Evening" "nights" "I", Cond.fieldLink RX2 67 "ClapBank$Evening" "claps" "I", Cond.fieldLink RX2 69 "ClapBank$Evening" "hushed" "I", Cond.fieldLink RX2 72 "ClapBank$Evening" "echo" "I"]
def wsX9_run_r3 : List Cond := [Cond.methodLink RX2 50 yJ7_fill_53178, Cond.static yJ7_fill_53178, Cond.initialized RJ7, Cond.code yJ7_fill_53178 cJ7_fill_53178 4 none, Cond.methodLink RX2 79 yX2_canBe, Cond.instanceMethod yX2_canBe, Cond.selects RX2 yX2_canBe yX2_canBe, Cond.code yX2_canBe cX2_canBe 6 (some .boolean), Cond.methodLink RX2 120 yX0_part, Cond.instanceMethod yX0_part, Cond.selects RX0 yX0_part yX0_part, Cond.initialized RX0, Cond.code yX0_part cX0_part 3 (some .int), Cond.fieldLink RX0 9 "ClapBank$Book" "parts" "[I", Cond.methodLink RX2 124 yX2_canGive, Cond.instanceMethod yX2_canGive, Cond.selects RX2 yX2_canGive yX2_canGive, Cond.code yX2_canGive cX2_canGive 3 (some .boolean), Cond.methodLink RX2 127 yX2_hasPalm, Cond.instanceMethod yX2_hasPalm, Cond.selects RX2 yX2_hasPalm yX2_hasPalm, Cond.code yX2_hasPalm cX2_hasPalm 2 (some .boolean), Cond.methodLink RX2 130 yX2_isHushed, Cond.instanceMethod yX2_isHushed]
def wsX9_run_r4 : List Cond := [Cond.selects RX2 yX2_isHushed yX2_isHushed, Cond.code yX2_isHushed cX2_isHushed 2 (some .boolean), Cond.methodLink RX2 99 yX2_lives, Cond.instanceMethod yX2_lives, Cond.selects RX2 yX2_lives yX2_lives, Cond.code yX2_lives cX2_lives 2 (some .boolean), Cond.methodLink RX2 117 yX2_hasActor, Cond.instanceMethod yX2_hasActor, Cond.selects RX2 yX2_hasActor yX2_hasActor, Cond.code yX2_hasActor cX2_hasActor 2 (some .boolean), Cond.methodLink RX2 83 yX2_act, Cond.instanceMethod yX2_act, Cond.selects RX2 yX2_act yX2_act, Cond.code yX2_act cX2_act 7 none, Cond.methodLink RX2 133 yX2_clapFor, Cond.instanceMethod yX2_clapFor, Cond.selects RX2 yX2_clapFor yX2_clapFor, Cond.code yX2_clapFor cX2_clapFor 5 none, Cond.methodLink RX2 110 yX2_give, Cond.instanceMethod yX2_give, Cond.selects RX2 yX2_give yX2_give, Cond.code yX2_give cX2_give 3 none, Cond.methodLink RX2 137 yX2_move, Cond.instanceMethod yX2_move]
def wsX9_run_r5 : List Cond := [Cond.selects RX2 yX2_move yX2_move, Cond.code yX2_move cX2_move 4 none, Cond.methodLink RX2 114 yX2_passNight, Cond.instanceMethod yX2_passNight, Cond.selects RX2 yX2_passNight yX2_passNight, Cond.code yX2_passNight cX2_passNight 2 none, Cond.methodLink RX2 166 yX2_dine, Cond.instanceMethod yX2_dine, Cond.selects RX2 yX2_dine yX2_dine, Cond.code yX2_dine cX2_dine 3 none, Cond.methodLink RX2 146 yX2_price, Cond.instanceMethod yX2_price, Cond.selects RX2 yX2_price yX2_price, Cond.code yX2_price cX2_price 2 (some .int), Cond.methodLink RX2 143 yX2_priceBehind, Cond.instanceMethod yX2_priceBehind, Cond.selects RX2 yX2_priceBehind yX2_priceBehind, Cond.code yX2_priceBehind cX2_priceBehind 3 (some .int), Cond.methodLink RX2 170 yX2_grown, Cond.instanceMethod yX2_grown, Cond.selects RX2 yX2_grown yX2_grown, Cond.code yX2_grown cX2_grown 4 (some .int), Cond.constantLong RX2 158 (100), Cond.constantLong RX2 160 (1000000000)]
def wsX9_run_r6 : List Cond := [Cond.methodLink RX2 162 Lib.MathLoose.min_long.x, Cond.static Lib.MathLoose.min_long.x, Cond.initialized "java/lang/Math", Cond.code Lib.MathLoose.min_long.x Lib.MathLoose.min_long.code 4 (some .long), Cond.methodLink RX9 131 yX2_doomed, Cond.instanceMethod yX2_doomed, Cond.selects RX2 yX2_doomed yX2_doomed, Cond.code yX2_doomed cX2_doomed 3 (some .int), Cond.methodLink RX9 135 yX2_danger, Cond.instanceMethod yX2_danger, Cond.selects RX2 yX2_danger yX2_danger, Cond.code yX2_danger cX2_danger 5 (some .int), Cond.methodLink RX2 189 yX2_doomed, Cond.methodLink RX2 176 yX2_living, Cond.instanceMethod yX2_living, Cond.selects RX2 yX2_living yX2_living, Cond.code yX2_living cX2_living 3 (some .int), Cond.methodLink RX2 192 yX2_pricesOf, Cond.instanceMethod yX2_pricesOf, Cond.selects RX2 yX2_pricesOf yX2_pricesOf, Cond.code yX2_pricesOf cX2_pricesOf 4 (some .int), Cond.methodLink RX2 195 yX2_dearerThan, Cond.instanceMethod yX2_dearerThan, Cond.selects RX2 yX2_dearerThan yX2_dearerThan]
def wsX9_run_r7 : List Cond := [Cond.code yX2_dearerThan cX2_dearerThan 4 (some .int)]
def wsX9_run : List Cond := .code yX9_run cX9_run 5 (some .int) :: ((wsX9_run_r1 ++ (wsX9_run_r2 ++ (wsX9_run_r3 ++ (wsX9_run_r4 ++ (wsX9_run_r5 ++ (wsX9_run_r6 ++ wsX9_run_r7)))))) ++ wsX90 ++ wsX00 ++ wsX80 ++ wsX20 ++ wsX70)
def wsX9_feast_r1 : List Cond := [Cond.fieldLink RX9 37 "ClapBank" "table" "LClapBank$Feast;", Cond.fieldLink RX9 30 "ClapBank" "evening" "LClapBank$Evening;", Cond.methodLink RX9 113 yX9_reach, Cond.instanceMethod yX9_reach, Cond.selects RX9 yX9_reach yX9_reach, Cond.initialized RX9, Cond.code yX9_reach cX9_reach 6 (some .boolean), Cond.fieldLink RX9 10 "ClapBank" "told" "LClapBank$Told;", Cond.methodLink RX9 87 yX8_theatreAt, Cond.instanceMethod yX8_theatreAt, Cond.selects RX8 yX8_theatreAt yX8_theatreAt, Cond.initialized RX8, Cond.code yX8_theatreAt cX8_theatreAt 2 (some (.object "ClapBank$Theatre")), Cond.fieldLink RX8 52 "ClapBank$Told" "theatres" "I", Cond.fieldLink RX8 22 "ClapBank$Told" "firstTheatre" "LClapBank$Theatre;", Cond.fieldLink RX8 26 "ClapBank$Told" "secondTheatre" "LClapBank$Theatre;", Cond.methodLink RX9 96 yX8_bookAt, Cond.instanceMethod yX8_bookAt, Cond.selects RX8 yX8_bookAt yX8_bookAt, Cond.code yX8_bookAt cX8_bookAt 2 (some (.object "ClapBank$Book")), Cond.fieldLink RX8 55 "ClapBank$Told" "books" "I", Cond.fieldLink RX8 32 "ClapBank$Told" "firstBook" "LClapBank$Book;", Cond.fieldLink RX8 36 "ClapBank$Told" "secondBook" "LClapBank$Book;", Cond.methodLink RX9 250 yX2_playFirst]
def wsX9_feast_r2 : List Cond := [Cond.instanceMethod yX2_playFirst, Cond.selects RX2 yX2_playFirst yX2_playFirst, Cond.initialized RX2, Cond.code yX2_playFirst cX2_playFirst 5 (some .boolean), Cond.methodLink RX2 75 yX2_begin, Cond.instanceMethod yX2_begin, Cond.selects RX2 yX2_begin yX2_begin, Cond.code yX2_begin cX2_begin 2 none, Cond.fieldLink RX2 12 "ClapBank$Evening" "house" "LClapBank$Theatre;", Cond.fieldLink RX2 18 "ClapBank$Evening" "left" "[I", Cond.methodLink RX2 43 arraycopyName, Cond.native arraycopyName, Cond.static arraycopyName, Cond.initialized "java/lang/System", Cond.fieldLink RX2 28 "ClapBank$Evening" "saved" "[I", Cond.fieldLink RX2 22 "ClapBank$Evening" "owes" "[I", Cond.fieldLink RX2 25 "ClapBank$Evening" "got" "[I", Cond.fieldLink RX2 31 "ClapBank$Evening" "starved" "[I", Cond.fieldLink RX2 34 "ClapBank$Evening" "storms" "[I", Cond.fieldLink RX2 60 "ClapBank$Evening" "chest" "I", Cond.fieldLink RX2 61 "ClapBank$Evening" "encores" "I", Cond.fieldLink RX2 64 "ClapBank$Evening" "nights" "I", Cond.fieldLink RX2 67 "ClapBank$Evening" "claps" "I", Cond.fieldLink RX2 69 "ClapBank$Evening" "hushed" "I"]
def wsX9_feast_r3 : List Cond := [Cond.fieldLink RX2 72 "ClapBank$Evening" "echo" "I", Cond.methodLink RX2 50 yJ7_fill_53178, Cond.static yJ7_fill_53178, Cond.initialized RJ7, Cond.code yJ7_fill_53178 cJ7_fill_53178 4 none, Cond.methodLink RX2 79 yX2_canBe, Cond.instanceMethod yX2_canBe, Cond.selects RX2 yX2_canBe yX2_canBe, Cond.code yX2_canBe cX2_canBe 6 (some .boolean), Cond.methodLink RX2 120 yX0_part, Cond.instanceMethod yX0_part, Cond.selects RX0 yX0_part yX0_part, Cond.initialized RX0, Cond.code yX0_part cX0_part 3 (some .int), Cond.fieldLink RX0 9 "ClapBank$Book" "parts" "[I", Cond.methodLink RX2 124 yX2_canGive, Cond.instanceMethod yX2_canGive, Cond.selects RX2 yX2_canGive yX2_canGive, Cond.code yX2_canGive cX2_canGive 3 (some .boolean), Cond.methodLink RX2 127 yX2_hasPalm, Cond.instanceMethod yX2_hasPalm, Cond.selects RX2 yX2_hasPalm yX2_hasPalm, Cond.code yX2_hasPalm cX2_hasPalm 2 (some .boolean), Cond.methodLink RX2 130 yX2_isHushed]
def wsX9_feast_r4 : List Cond := [Cond.instanceMethod yX2_isHushed, Cond.selects RX2 yX2_isHushed yX2_isHushed, Cond.code yX2_isHushed cX2_isHushed 2 (some .boolean), Cond.methodLink RX2 99 yX2_lives, Cond.instanceMethod yX2_lives, Cond.selects RX2 yX2_lives yX2_lives, Cond.code yX2_lives cX2_lives 2 (some .boolean), Cond.methodLink RX2 117 yX2_hasActor, Cond.instanceMethod yX2_hasActor, Cond.selects RX2 yX2_hasActor yX2_hasActor, Cond.code yX2_hasActor cX2_hasActor 2 (some .boolean), Cond.methodLink RX2 83 yX2_act, Cond.instanceMethod yX2_act, Cond.selects RX2 yX2_act yX2_act, Cond.code yX2_act cX2_act 7 none, Cond.methodLink RX2 133 yX2_clapFor, Cond.instanceMethod yX2_clapFor, Cond.selects RX2 yX2_clapFor yX2_clapFor, Cond.code yX2_clapFor cX2_clapFor 5 none, Cond.methodLink RX2 110 yX2_give, Cond.instanceMethod yX2_give, Cond.selects RX2 yX2_give yX2_give, Cond.code yX2_give cX2_give 3 none, Cond.methodLink RX2 137 yX2_move]
def wsX9_feast_r5 : List Cond := [Cond.instanceMethod yX2_move, Cond.selects RX2 yX2_move yX2_move, Cond.code yX2_move cX2_move 4 none, Cond.methodLink RX2 114 yX2_passNight, Cond.instanceMethod yX2_passNight, Cond.selects RX2 yX2_passNight yX2_passNight, Cond.code yX2_passNight cX2_passNight 2 none, Cond.methodLink RX2 166 yX2_dine, Cond.instanceMethod yX2_dine, Cond.selects RX2 yX2_dine yX2_dine, Cond.code yX2_dine cX2_dine 3 none, Cond.methodLink RX2 146 yX2_price, Cond.instanceMethod yX2_price, Cond.selects RX2 yX2_price yX2_price, Cond.code yX2_price cX2_price 2 (some .int), Cond.methodLink RX2 143 yX2_priceBehind, Cond.instanceMethod yX2_priceBehind, Cond.selects RX2 yX2_priceBehind yX2_priceBehind, Cond.code yX2_priceBehind cX2_priceBehind 3 (some .int), Cond.methodLink RX2 170 yX2_grown, Cond.instanceMethod yX2_grown, Cond.selects RX2 yX2_grown yX2_grown, Cond.code yX2_grown cX2_grown 4 (some .int), Cond.constantLong RX2 158 (100)]
def wsX9_feast_r6 : List Cond := [Cond.constantLong RX2 160 (1000000000), Cond.methodLink RX2 162 Lib.MathLoose.min_long.x, Cond.static Lib.MathLoose.min_long.x, Cond.initialized "java/lang/Math", Cond.code Lib.MathLoose.min_long.x Lib.MathLoose.min_long.code 4 (some .long), Cond.methodLink RX9 138 yX3_lay, Cond.instanceMethod yX3_lay, Cond.selects RX3 yX3_lay yX3_lay, Cond.initialized RX3, Cond.code yX3_lay cX3_lay 6 none, Cond.fieldLink RX3 32 "ClapBank$Feast" "who" "I", Cond.fieldLink RX3 37 "ClapBank$Feast" "two" "I", Cond.fieldLink RX3 40 "ClapBank$Feast" "one" "I", Cond.methodLink RX3 21 yX2_isHushed, Cond.methodLink RX3 43 yX2_living, Cond.instanceMethod yX2_living, Cond.selects RX2 yX2_living yX2_living, Cond.code yX2_living cX2_living 3 (some .int), Cond.methodLink RX3 47 yX3_tryGuests, Cond.instanceMethod yX3_tryGuests, Cond.selects RX3 yX3_tryGuests yX3_tryGuests, Cond.code yX3_tryGuests cX3_tryGuests 9 none, Cond.methodLink RX3 55 Lib.Math.min.name, Cond.static Lib.Math.min.name]
def wsX9_feast_r7 : List Cond := [Cond.code Lib.Math.min.name Lib.Math.min.code 2 (some .int), Cond.methodLink RX3 51 yX2_need, Cond.instanceMethod yX2_need, Cond.selects RX2 yX2_need yX2_need, Cond.code yX2_need cX2_need 2 (some .int), Cond.methodLink RX2 150 Lib.Math.max.name, Cond.static Lib.Math.max.name, Cond.code Lib.Math.max.name Lib.Math.max.code 2 (some .int), Cond.methodLink RX3 61 yX3_isBetter, Cond.instanceMethod yX3_isBetter, Cond.selects RX3 yX3_isBetter yX3_isBetter, Cond.code yX3_isBetter cX3_isBetter 6 (some .boolean), Cond.methodLink RX3 65 yJ6_bitCount_0f7a4, Cond.static yJ6_bitCount_0f7a4, Cond.initialized RJ6, Cond.code yJ6_bitCount_0f7a4 cJ6_bitCount_0f7a4 1 (some .int), Cond.constant RJ6 265 (1431655765), Cond.constant RJ6 266 (858993459), Cond.constant RJ6 267 (252645135), Cond.methodLink RX9 142 yX3_tell, Cond.instanceMethod yX3_tell, Cond.selects RX3 yX3_tell yX3_tell, Cond.code yX3_tell cX3_tell 2 (some .int)]
def wsX9_feast : List Cond := .code yX9_feast cX9_feast 5 (some .int) :: ((wsX9_feast_r1 ++ (wsX9_feast_r2 ++ (wsX9_feast_r3 ++ (wsX9_feast_r4 ++ (wsX9_feast_r5 ++ (wsX9_feast_r6 ++ wsX9_feast_r7)))))) ++ wsX90 ++ wsX00 ++ wsX80 ++ wsX20 ++ wsX70 ++ wsX30)
def wsX9_fair_r1 : List Cond := [Cond.fieldLink RX9 30 "ClapBank" "evening" "LClapBank$Evening;", Cond.methodLink RX9 113 yX9_reach, Cond.instanceMethod yX9_reach, Cond.selects RX9 yX9_reach yX9_reach, Cond.initialized RX9, Cond.code yX9_reach cX9_reach 6 (some .boolean), Cond.fieldLink RX9 10 "ClapBank" "told" "LClapBank$Told;", Cond.methodLink RX9 87 yX8_theatreAt, Cond.instanceMethod yX8_theatreAt, Cond.selects RX8 yX8_theatreAt yX8_theatreAt, Cond.initialized RX8, Cond.code yX8_theatreAt cX8_theatreAt 2 (some (.object "ClapBank$Theatre")), Cond.fieldLink RX8 52 "ClapBank$Told" "theatres" "I", Cond.fieldLink RX8 22 "ClapBank$Told" "firstTheatre" "LClapBank$Theatre;", Cond.fieldLink RX8 26 "ClapBank$Told" "secondTheatre" "LClapBank$Theatre;", Cond.methodLink RX9 96 yX8_bookAt, Cond.instanceMethod yX8_bookAt, Cond.selects RX8 yX8_bookAt yX8_bookAt, Cond.code yX8_bookAt cX8_bookAt 2 (some (.object "ClapBank$Book")), Cond.fieldLink RX8 55 "ClapBank$Told" "books" "I", Cond.fieldLink RX8 32 "ClapBank$Told" "firstBook" "LClapBank$Book;", Cond.fieldLink RX8 36 "ClapBank$Told" "secondBook" "LClapBank$Book;", Cond.methodLink RX9 250 yX2_playFirst, Cond.instanceMethod yX2_playFirst]
def wsX9_fair_r2 : List Cond := [Cond.selects RX2 yX2_playFirst yX2_playFirst, Cond.initialized RX2, Cond.code yX2_playFirst cX2_playFirst 5 (some .boolean), Cond.methodLink RX2 75 yX2_begin, Cond.instanceMethod yX2_begin, Cond.selects RX2 yX2_begin yX2_begin, Cond.code yX2_begin cX2_begin 2 none, Cond.fieldLink RX2 12 "ClapBank$Evening" "house" "LClapBank$Theatre;", Cond.fieldLink RX2 18 "ClapBank$Evening" "left" "[I", Cond.methodLink RX2 43 arraycopyName, Cond.native arraycopyName, Cond.static arraycopyName, Cond.initialized "java/lang/System", Cond.fieldLink RX2 28 "ClapBank$Evening" "saved" "[I", Cond.fieldLink RX2 22 "ClapBank$Evening" "owes" "[I", Cond.fieldLink RX2 25 "ClapBank$Evening" "got" "[I", Cond.fieldLink RX2 31 "ClapBank$Evening" "starved" "[I", Cond.fieldLink RX2 34 "ClapBank$Evening" "storms" "[I", Cond.fieldLink RX2 60 "ClapBank$Evening" "chest" "I", Cond.fieldLink RX2 61 "ClapBank$Evening" "encores" "I", Cond.fieldLink RX2 64 "ClapBank$Evening" "nights" "I", Cond.fieldLink RX2 67 "ClapBank$Evening" "claps" "I", Cond.fieldLink RX2 69 "ClapBank$Evening" "hushed" "I", Cond.fieldLink RX2 72 "ClapBank$Evening" "echo" "I"]
def wsX9_fair_r3 : List Cond := [Cond.methodLink RX2 50 yJ7_fill_53178, Cond.static yJ7_fill_53178, Cond.initialized RJ7, Cond.code yJ7_fill_53178 cJ7_fill_53178 4 none, Cond.methodLink RX2 79 yX2_canBe, Cond.instanceMethod yX2_canBe, Cond.selects RX2 yX2_canBe yX2_canBe, Cond.code yX2_canBe cX2_canBe 6 (some .boolean), Cond.methodLink RX2 120 yX0_part, Cond.instanceMethod yX0_part, Cond.selects RX0 yX0_part yX0_part, Cond.initialized RX0, Cond.code yX0_part cX0_part 3 (some .int), Cond.fieldLink RX0 9 "ClapBank$Book" "parts" "[I", Cond.methodLink RX2 124 yX2_canGive, Cond.instanceMethod yX2_canGive, Cond.selects RX2 yX2_canGive yX2_canGive, Cond.code yX2_canGive cX2_canGive 3 (some .boolean), Cond.methodLink RX2 127 yX2_hasPalm, Cond.instanceMethod yX2_hasPalm, Cond.selects RX2 yX2_hasPalm yX2_hasPalm, Cond.code yX2_hasPalm cX2_hasPalm 2 (some .boolean), Cond.methodLink RX2 130 yX2_isHushed, Cond.instanceMethod yX2_isHushed]
def wsX9_fair_r4 : List Cond := [Cond.selects RX2 yX2_isHushed yX2_isHushed, Cond.code yX2_isHushed cX2_isHushed 2 (some .boolean), Cond.methodLink RX2 99 yX2_lives, Cond.instanceMethod yX2_lives, Cond.selects RX2 yX2_lives yX2_lives, Cond.code yX2_lives cX2_lives 2 (some .boolean), Cond.methodLink RX2 117 yX2_hasActor, Cond.instanceMethod yX2_hasActor, Cond.selects RX2 yX2_hasActor yX2_hasActor, Cond.code yX2_hasActor cX2_hasActor 2 (some .boolean), Cond.methodLink RX2 83 yX2_act, Cond.instanceMethod yX2_act, Cond.selects RX2 yX2_act yX2_act, Cond.code yX2_act cX2_act 7 none, Cond.methodLink RX2 133 yX2_clapFor, Cond.instanceMethod yX2_clapFor, Cond.selects RX2 yX2_clapFor yX2_clapFor, Cond.code yX2_clapFor cX2_clapFor 5 none, Cond.methodLink RX2 110 yX2_give, Cond.instanceMethod yX2_give, Cond.selects RX2 yX2_give yX2_give, Cond.code yX2_give cX2_give 3 none, Cond.methodLink RX2 137 yX2_move, Cond.instanceMethod yX2_move]
def wsX9_fair_r5 : List Cond := [Cond.selects RX2 yX2_move yX2_move, Cond.code yX2_move cX2_move 4 none, Cond.methodLink RX2 114 yX2_passNight, Cond.instanceMethod yX2_passNight, Cond.selects RX2 yX2_passNight yX2_passNight, Cond.code yX2_passNight cX2_passNight 2 none, Cond.methodLink RX2 166 yX2_dine, Cond.instanceMethod yX2_dine, Cond.selects RX2 yX2_dine yX2_dine, Cond.code yX2_dine cX2_dine 3 none, Cond.methodLink RX2 146 yX2_price, Cond.instanceMethod yX2_price, Cond.selects RX2 yX2_price yX2_price, Cond.code yX2_price cX2_price 2 (some .int), Cond.methodLink RX2 143 yX2_priceBehind, Cond.instanceMethod yX2_priceBehind, Cond.selects RX2 yX2_priceBehind yX2_priceBehind, Cond.code yX2_priceBehind cX2_priceBehind 3 (some .int), Cond.methodLink RX2 170 yX2_grown, Cond.instanceMethod yX2_grown, Cond.selects RX2 yX2_grown yX2_grown, Cond.code yX2_grown cX2_grown 4 (some .int), Cond.constantLong RX2 158 (100), Cond.constantLong RX2 160 (1000000000)]
def wsX9_fair_r6 : List Cond := [Cond.methodLink RX2 162 Lib.MathLoose.min_long.x, Cond.static Lib.MathLoose.min_long.x, Cond.initialized "java/lang/Math", Cond.code Lib.MathLoose.min_long.x Lib.MathLoose.min_long.code 4 (some .long), Cond.methodLink RX9 143 yX2_allLeft, Cond.instanceMethod yX2_allLeft, Cond.selects RX2 yX2_allLeft yX2_allLeft, Cond.code yX2_allLeft cX2_allLeft 3 (some .int), Cond.methodLink RX9 146 yX2_allNeeds, Cond.instanceMethod yX2_allNeeds, Cond.selects RX2 yX2_allNeeds yX2_allNeeds, Cond.code yX2_allNeeds cX2_allNeeds 3 (some .int), Cond.methodLink RX2 173 yX2_need, Cond.instanceMethod yX2_need, Cond.selects RX2 yX2_need yX2_need, Cond.code yX2_need cX2_need 2 (some .int), Cond.methodLink RX2 150 Lib.Math.max.name, Cond.static Lib.Math.max.name, Cond.code Lib.Math.max.name Lib.Math.max.code 2 (some .int), Cond.methodLink RX9 149 yX9_commonPart, Cond.static yX9_commonPart, Cond.code yX9_commonPart cX9_commonPart 6 (some .int)]
def wsX9_fair : List Cond := .code yX9_fair cX9_fair 8 (some .int) :: ((wsX9_fair_r1 ++ (wsX9_fair_r2 ++ (wsX9_fair_r3 ++ (wsX9_fair_r4 ++ (wsX9_fair_r5 ++ wsX9_fair_r6))))) ++ wsX90 ++ wsX00 ++ wsX80 ++ wsX20 ++ wsX70)
def wsX9_lendFor_r1 : List Cond := [Cond.fieldLink RX9 10 "ClapBank" "told" "LClapBank$Told;", Cond.fieldLink RX9 44 "ClapBank" "rounds" "LClapBank$Rounds;", Cond.methodLink RX9 87 yX8_theatreAt, Cond.instanceMethod yX8_theatreAt, Cond.selects RX8 yX8_theatreAt yX8_theatreAt, Cond.initialized RX8, Cond.code yX8_theatreAt cX8_theatreAt 2 (some (.object "ClapBank$Theatre")), Cond.fieldLink RX8 52 "ClapBank$Told" "theatres" "I", Cond.fieldLink RX8 22 "ClapBank$Told" "firstTheatre" "LClapBank$Theatre;", Cond.fieldLink RX8 26 "ClapBank$Told" "secondTheatre" "LClapBank$Theatre;", Cond.methodLink RX9 254 yX6_begin, Cond.instanceMethod yX6_begin, Cond.selects RX6 yX6_begin yX6_begin, Cond.initialized RX6, Cond.code yX6_begin cX6_begin 2 none, Cond.fieldLink RX6 30 "ClapBank$Rounds" "usurers" "I", Cond.fieldLink RX6 34 "ClapBank$Rounds" "borrowers" "I", Cond.fieldLink RX6 9 "ClapBank$Rounds" "asks" "[I", Cond.methodLink RX6 36 arraycopyName, Cond.native arraycopyName, Cond.static arraycopyName, Cond.initialized "java/lang/System", Cond.fieldLink RX6 15 "ClapBank$Rounds" "floors" "[I", Cond.fieldLink RX6 18 "ClapBank$Rounds" "gains" "[I"]
def wsX9_lendFor_r2 : List Cond := [Cond.methodLink RX6 43 yJ7_fill_53178, Cond.static yJ7_fill_53178, Cond.initialized RJ7, Cond.code yJ7_fill_53178 cJ7_fill_53178 4 none, Cond.methodLink RX9 258 yX6_goRound, Cond.instanceMethod yX6_goRound, Cond.selects RX6 yX6_goRound yX6_goRound, Cond.code yX6_goRound cX6_goRound 3 none, Cond.methodLink RX6 53 Lib.Math.min.name, Cond.static Lib.Math.min.name, Cond.initialized "java/lang/Math", Cond.code Lib.Math.min.name Lib.Math.min.code 2 (some .int), Cond.methodLink RX6 59 Lib.Math.max.name, Cond.static Lib.Math.max.name, Cond.code Lib.Math.max.name Lib.Math.max.code 2 (some .int), Cond.methodLink RX6 49 yX6_cheapest, Cond.instanceMethod yX6_cheapest, Cond.selects RX6 yX6_cheapest yX6_cheapest, Cond.code yX6_cheapest cX6_cheapest 3 (some .int)]
def wsX9_lendFor : List Cond := .code yX9_lendFor cX9_lendFor 6 (some .boolean) :: ((wsX9_lendFor_r1 ++ wsX9_lendFor_r2) ++ wsX90 ++ wsX70 ++ wsX80 ++ wsX60)
def wsX9_ask_r1 : List Cond := [Cond.fieldLink RX9 44 "ClapBank" "rounds" "LClapBank$Rounds;", Cond.methodLink RX9 152 yX9_lendFor, Cond.instanceMethod yX9_lendFor, Cond.selects RX9 yX9_lendFor yX9_lendFor, Cond.initialized RX9, Cond.code yX9_lendFor cX9_lendFor 6 (some .boolean), Cond.fieldLink RX9 10 "ClapBank" "told" "LClapBank$Told;", Cond.methodLink RX9 87 yX8_theatreAt, Cond.instanceMethod yX8_theatreAt, Cond.selects RX8 yX8_theatreAt yX8_theatreAt, Cond.initialized RX8, Cond.code yX8_theatreAt cX8_theatreAt 2 (some (.object "ClapBank$Theatre")), Cond.fieldLink RX8 52 "ClapBank$Told" "theatres" "I", Cond.fieldLink RX8 22 "ClapBank$Told" "firstTheatre" "LClapBank$Theatre;", Cond.fieldLink RX8 26 "ClapBank$Told" "secondTheatre" "LClapBank$Theatre;", Cond.methodLink RX9 254 yX6_begin, Cond.instanceMethod yX6_begin, Cond.selects RX6 yX6_begin yX6_begin, Cond.initialized RX6, Cond.code yX6_begin cX6_begin 2 none, Cond.fieldLink RX6 30 "ClapBank$Rounds" "usurers" "I", Cond.fieldLink RX6 34 "ClapBank$Rounds" "borrowers" "I", Cond.fieldLink RX6 9 "ClapBank$Rounds" "asks" "[I", Cond.methodLink RX6 36 arraycopyName]
def wsX9_ask_r2 : List Cond := [Cond.native arraycopyName, Cond.static arraycopyName, Cond.initialized "java/lang/System", Cond.fieldLink RX6 15 "ClapBank$Rounds" "floors" "[I", Cond.fieldLink RX6 18 "ClapBank$Rounds" "gains" "[I", Cond.methodLink RX6 43 yJ7_fill_53178, Cond.static yJ7_fill_53178, Cond.initialized RJ7, Cond.code yJ7_fill_53178 cJ7_fill_53178 4 none, Cond.methodLink RX9 258 yX6_goRound, Cond.instanceMethod yX6_goRound, Cond.selects RX6 yX6_goRound yX6_goRound, Cond.code yX6_goRound cX6_goRound 3 none, Cond.methodLink RX6 53 Lib.Math.min.name, Cond.static Lib.Math.min.name, Cond.initialized "java/lang/Math", Cond.code Lib.Math.min.name Lib.Math.min.code 2 (some .int), Cond.methodLink RX6 59 Lib.Math.max.name, Cond.static Lib.Math.max.name, Cond.code Lib.Math.max.name Lib.Math.max.code 2 (some .int), Cond.methodLink RX6 49 yX6_cheapest, Cond.instanceMethod yX6_cheapest, Cond.selects RX6 yX6_cheapest yX6_cheapest, Cond.code yX6_cheapest cX6_cheapest 3 (some .int)]
def wsX9_ask : List Cond := .code yX9_ask cX9_ask 4 (some .int) :: ((wsX9_ask_r1 ++ wsX9_ask_r2) ++ wsX90 ++ wsX60 ++ wsX70 ++ wsX80)
def wsX9_taken_r1 : List Cond := [Cond.fieldLink RX9 44 "ClapBank" "rounds" "LClapBank$Rounds;", Cond.methodLink RX9 152 yX9_lendFor, Cond.instanceMethod yX9_lendFor, Cond.selects RX9 yX9_lendFor yX9_lendFor, Cond.initialized RX9, Cond.code yX9_lendFor cX9_lendFor 6 (some .boolean), Cond.fieldLink RX9 10 "ClapBank" "told" "LClapBank$Told;", Cond.methodLink RX9 87 yX8_theatreAt, Cond.instanceMethod yX8_theatreAt, Cond.selects RX8 yX8_theatreAt yX8_theatreAt, Cond.initialized RX8, Cond.code yX8_theatreAt cX8_theatreAt 2 (some (.object "ClapBank$Theatre")), Cond.fieldLink RX8 52 "ClapBank$Told" "theatres" "I", Cond.fieldLink RX8 22 "ClapBank$Told" "firstTheatre" "LClapBank$Theatre;", Cond.fieldLink RX8 26 "ClapBank$Told" "secondTheatre" "LClapBank$Theatre;", Cond.methodLink RX9 254 yX6_begin, Cond.instanceMethod yX6_begin, Cond.selects RX6 yX6_begin yX6_begin, Cond.initialized RX6, Cond.code yX6_begin cX6_begin 2 none, Cond.fieldLink RX6 30 "ClapBank$Rounds" "usurers" "I", Cond.fieldLink RX6 34 "ClapBank$Rounds" "borrowers" "I", Cond.fieldLink RX6 9 "ClapBank$Rounds" "asks" "[I", Cond.methodLink RX6 36 arraycopyName]
def wsX9_taken_r2 : List Cond := [Cond.native arraycopyName, Cond.static arraycopyName, Cond.initialized "java/lang/System", Cond.fieldLink RX6 15 "ClapBank$Rounds" "floors" "[I", Cond.fieldLink RX6 18 "ClapBank$Rounds" "gains" "[I", Cond.methodLink RX6 43 yJ7_fill_53178, Cond.static yJ7_fill_53178, Cond.initialized RJ7, Cond.code yJ7_fill_53178 cJ7_fill_53178 4 none, Cond.methodLink RX9 258 yX6_goRound, Cond.instanceMethod yX6_goRound, Cond.selects RX6 yX6_goRound yX6_goRound, Cond.code yX6_goRound cX6_goRound 3 none, Cond.methodLink RX6 53 Lib.Math.min.name, Cond.static Lib.Math.min.name, Cond.initialized "java/lang/Math", Cond.code Lib.Math.min.name Lib.Math.min.code 2 (some .int), Cond.methodLink RX6 59 Lib.Math.max.name, Cond.static Lib.Math.max.name, Cond.code Lib.Math.max.name Lib.Math.max.code 2 (some .int), Cond.methodLink RX6 49 yX6_cheapest, Cond.instanceMethod yX6_cheapest, Cond.selects RX6 yX6_cheapest yX6_cheapest, Cond.code yX6_cheapest cX6_cheapest 3 (some .int)]
def wsX9_taken : List Cond := .code yX9_taken cX9_taken 4 (some .int) :: ((wsX9_taken_r1 ++ wsX9_taken_r2) ++ wsX90 ++ wsX60 ++ wsX70 ++ wsX80)
def wsX9_stands_r1 : List Cond := [Cond.fieldLink RX9 10 "ClapBank" "told" "LClapBank$Told;", Cond.fieldLink RX9 44 "ClapBank" "rounds" "LClapBank$Rounds;", Cond.methodLink RX9 87 yX8_theatreAt, Cond.instanceMethod yX8_theatreAt, Cond.selects RX8 yX8_theatreAt yX8_theatreAt, Cond.initialized RX8, Cond.code yX8_theatreAt cX8_theatreAt 2 (some (.object "ClapBank$Theatre")), Cond.fieldLink RX8 52 "ClapBank$Told" "theatres" "I", Cond.fieldLink RX8 22 "ClapBank$Told" "firstTheatre" "LClapBank$Theatre;", Cond.fieldLink RX8 26 "ClapBank$Told" "secondTheatre" "LClapBank$Theatre;", Cond.methodLink RX9 165 yX6_findRepeat, Cond.instanceMethod yX6_findRepeat, Cond.selects RX6 yX6_findRepeat yX6_findRepeat, Cond.initialized RX6, Cond.code yX6_findRepeat cX6_findRepeat 4 (some .int), Cond.fieldLink RX6 21 "ClapBank$Rounds" "seen" "[I", Cond.fieldLink RX6 72 "ClapBank$Rounds" "period" "I", Cond.methodLink RX6 62 yX6_begin, Cond.instanceMethod yX6_begin, Cond.selects RX6 yX6_begin yX6_begin, Cond.code yX6_begin cX6_begin 2 none, Cond.fieldLink RX6 30 "ClapBank$Rounds" "usurers" "I", Cond.fieldLink RX6 34 "ClapBank$Rounds" "borrowers" "I", Cond.fieldLink RX6 9 "ClapBank$Rounds" "asks" "[I"]
def wsX9_stands_r2 : List Cond := [Cond.methodLink RX6 36 arraycopyName, Cond.native arraycopyName, Cond.static arraycopyName, Cond.initialized "java/lang/System", Cond.fieldLink RX6 15 "ClapBank$Rounds" "floors" "[I", Cond.fieldLink RX6 18 "ClapBank$Rounds" "gains" "[I", Cond.methodLink RX6 43 yJ7_fill_53178, Cond.static yJ7_fill_53178, Cond.initialized RJ7, Cond.code yJ7_fill_53178 cJ7_fill_53178 4 none, Cond.methodLink RX6 66 yX6_allAsks, Cond.instanceMethod yX6_allAsks, Cond.selects RX6 yX6_allAsks yX6_allAsks, Cond.code yX6_allAsks cX6_allAsks 3 (some .int), Cond.methodLink RX6 69 yX6_goRound, Cond.instanceMethod yX6_goRound, Cond.selects RX6 yX6_goRound yX6_goRound, Cond.code yX6_goRound cX6_goRound 3 none, Cond.methodLink RX6 53 Lib.Math.min.name, Cond.static Lib.Math.min.name, Cond.initialized "java/lang/Math", Cond.code Lib.Math.min.name Lib.Math.min.code 2 (some .int), Cond.methodLink RX6 59 Lib.Math.max.name, Cond.static Lib.Math.max.name]
def wsX9_stands_r3 : List Cond := [Cond.code Lib.Math.max.name Lib.Math.max.code 2 (some .int), Cond.methodLink RX6 49 yX6_cheapest, Cond.instanceMethod yX6_cheapest, Cond.selects RX6 yX6_cheapest yX6_cheapest, Cond.code yX6_cheapest cX6_cheapest 3 (some .int)]
def wsX9_stands : List Cond := .code yX9_stands cX9_stands 5 (some .int) :: ((wsX9_stands_r1 ++ (wsX9_stands_r2 ++ wsX9_stands_r3)) ++ wsX90 ++ wsX70 ++ wsX60 ++ wsX80)
def wsX9_heard : List Cond := .code yX9_heard cX9_heard 4 (some .int) :: ([.fieldLink RX9 10 "ClapBank" "told" "LClapBank$Told;", .methodLink RX9 172 yX8_darkAt, .instanceMethod yX8_darkAt, .selects RX8 yX8_darkAt yX8_darkAt, .initialized RX8, .code yX8_darkAt cX8_darkAt 2 (some (.object "ClapBank$Dark")), .fieldLink RX8 58 "ClapBank$Told" "darks" "I", .fieldLink RX8 42 "ClapBank$Told" "firstDark" "LClapBank$Dark;", .fieldLink RX8 46 "ClapBank$Told" "secondDark" "LClapBank$Dark;", .methodLink RX9 181 yX1_hasMinute, .instanceMethod yX1_hasMinute, .selects RX1 yX1_hasMinute yX1_hasMinute, .initialized RX1, .code yX1_hasMinute cX1_hasMinute 2 (some .boolean), .fieldLink RX1 15 "ClapBank$Dark" "minutes" "I"] ++ wsX90 ++ wsX10 ++ wsX80)
def wsX9_ways_r1 : List Cond := [Cond.fieldLink RX9 10 "ClapBank" "told" "LClapBank$Told;", Cond.constantLong RX9 187 (-1), Cond.fieldLink RX9 51 "ClapBank" "hearing" "LClapBank$Hearing;", Cond.methodLink RX9 87 yX8_theatreAt, Cond.instanceMethod yX8_theatreAt, Cond.selects RX8 yX8_theatreAt yX8_theatreAt, Cond.initialized RX8, Cond.code yX8_theatreAt cX8_theatreAt 2 (some (.object "ClapBank$Theatre")), Cond.fieldLink RX8 52 "ClapBank$Told" "theatres" "I", Cond.fieldLink RX8 22 "ClapBank$Told" "firstTheatre" "LClapBank$Theatre;", Cond.fieldLink RX8 26 "ClapBank$Told" "secondTheatre" "LClapBank$Theatre;", Cond.methodLink RX9 172 yX8_darkAt, Cond.instanceMethod yX8_darkAt, Cond.selects RX8 yX8_darkAt yX8_darkAt, Cond.code yX8_darkAt cX8_darkAt 2 (some (.object "ClapBank$Dark")), Cond.fieldLink RX8 58 "ClapBank$Told" "darks" "I", Cond.fieldLink RX8 42 "ClapBank$Told" "firstDark" "LClapBank$Dark;", Cond.fieldLink RX8 46 "ClapBank$Told" "secondDark" "LClapBank$Dark;", Cond.methodLink RX9 189 yX4_listen, Cond.instanceMethod yX4_listen, Cond.selects RX4 yX4_listen yX4_listen, Cond.initialized RX4, Cond.code yX4_listen cX4_listen 5 none, Cond.fieldLink RX4 12 "ClapBank$Hearing" "house" "LClapBank$Theatre;"]
def wsX9_ways_r2 : List Cond := [Cond.fieldLink RX4 21 "ClapBank$Hearing" "dark" "LClapBank$Dark;", Cond.fieldLink RX4 38 "ClapBank$Hearing" "sets" "I", Cond.fieldLink RX4 32 "ClapBank$Hearing" "halvesOf" "[I", Cond.fieldLink RX4 35 "ClapBank$Hearing" "onceOf" "[I", Cond.methodLink RX9 193 yX4_tally, Cond.instanceMethod yX4_tally, Cond.selects RX4 yX4_tally yX4_tally, Cond.code yX4_tally cX4_tally 7 (some .long), Cond.fieldLink RX4 25 "ClapBank$Hearing" "early" "[I", Cond.methodLink RX4 51 Lib.Math.min.name, Cond.static Lib.Math.min.name, Cond.initialized "java/lang/Math", Cond.code Lib.Math.min.name Lib.Math.min.code 2 (some .int), Cond.fieldLink RX4 29 "ClapBank$Hearing" "late" "[I", Cond.methodLink RX4 57 yX4_fill, Cond.instanceMethod yX4_fill, Cond.selects RX4 yX4_fill yX4_fill, Cond.code yX4_fill cX4_fill 8 none, Cond.methodLink RX4 69 yJ7_fill_53178, Cond.static yJ7_fill_53178, Cond.initialized RJ7, Cond.code yJ7_fill_53178 cJ7_fill_53178 4 none, Cond.methodLink RX4 77 yX4_spread, Cond.instanceMethod yX4_spread]
def wsX9_ways_r3 : List Cond := [Cond.selects RX4 yX4_spread yX4_spread, Cond.code yX4_spread cX4_spread 8 none, Cond.methodLink RX4 61 yX4_addUp, Cond.static yX4_addUp, Cond.code yX4_addUp cX4_addUp 3 none, Cond.methodLink RX4 65 yX4_roomBehind, Cond.instanceMethod yX4_roomBehind, Cond.selects RX4 yX4_roomBehind yX4_roomBehind, Cond.code yX4_roomBehind cX4_roomBehind 5 (some .int)]
def wsX9_ways : List Cond := .code yX9_ways cX9_ways 5 (some .long) :: ((wsX9_ways_r1 ++ (wsX9_ways_r2 ++ wsX9_ways_r3)) ++ wsX90 ++ wsX80 ++ wsX40 ++ wsX70 ++ wsX10)
def wsX9_whose_r1 : List Cond := [Cond.fieldLink RX9 10 "ClapBank" "told" "LClapBank$Told;", Cond.fieldLink RX9 51 "ClapBank" "hearing" "LClapBank$Hearing;", Cond.methodLink RX9 87 yX8_theatreAt, Cond.instanceMethod yX8_theatreAt, Cond.selects RX8 yX8_theatreAt yX8_theatreAt, Cond.initialized RX8, Cond.code yX8_theatreAt cX8_theatreAt 2 (some (.object "ClapBank$Theatre")), Cond.fieldLink RX8 52 "ClapBank$Told" "theatres" "I", Cond.fieldLink RX8 22 "ClapBank$Told" "firstTheatre" "LClapBank$Theatre;", Cond.fieldLink RX8 26 "ClapBank$Told" "secondTheatre" "LClapBank$Theatre;", Cond.methodLink RX9 172 yX8_darkAt, Cond.instanceMethod yX8_darkAt, Cond.selects RX8 yX8_darkAt yX8_darkAt, Cond.code yX8_darkAt cX8_darkAt 2 (some (.object "ClapBank$Dark")), Cond.fieldLink RX8 58 "ClapBank$Told" "darks" "I", Cond.fieldLink RX8 42 "ClapBank$Told" "firstDark" "LClapBank$Dark;", Cond.fieldLink RX8 46 "ClapBank$Told" "secondDark" "LClapBank$Dark;", Cond.methodLink RX9 181 yX1_hasMinute, Cond.instanceMethod yX1_hasMinute, Cond.selects RX1 yX1_hasMinute yX1_hasMinute, Cond.initialized RX1, Cond.code yX1_hasMinute cX1_hasMinute 2 (some .boolean), Cond.fieldLink RX1 15 "ClapBank$Dark" "minutes" "I", Cond.methodLink RX9 189 yX4_listen]
def wsX9_whose_r2 : List Cond := [Cond.instanceMethod yX4_listen, Cond.selects RX4 yX4_listen yX4_listen, Cond.initialized RX4, Cond.code yX4_listen cX4_listen 5 none, Cond.fieldLink RX4 12 "ClapBank$Hearing" "house" "LClapBank$Theatre;", Cond.fieldLink RX4 21 "ClapBank$Hearing" "dark" "LClapBank$Dark;", Cond.fieldLink RX4 38 "ClapBank$Hearing" "sets" "I", Cond.fieldLink RX4 32 "ClapBank$Hearing" "halvesOf" "[I", Cond.fieldLink RX4 35 "ClapBank$Hearing" "onceOf" "[I", Cond.methodLink RX9 197 yX4_compareMinute, Cond.instanceMethod yX4_compareMinute, Cond.selects RX4 yX4_compareMinute yX4_compareMinute, Cond.code yX4_compareMinute cX4_compareMinute 3 none, Cond.fieldLink RX4 84 "ClapBank$Hearing" "any" "I", Cond.fieldLink RX4 87 "ClapBank$Hearing" "all" "I", Cond.methodLink RX4 90 yX4_tally, Cond.instanceMethod yX4_tally, Cond.selects RX4 yX4_tally yX4_tally, Cond.code yX4_tally cX4_tally 7 (some .long), Cond.fieldLink RX4 25 "ClapBank$Hearing" "early" "[I", Cond.methodLink RX4 51 Lib.Math.min.name, Cond.static Lib.Math.min.name, Cond.initialized "java/lang/Math", Cond.code Lib.Math.min.name Lib.Math.min.code 2 (some .int)]
def wsX9_whose_r3 : List Cond := [Cond.fieldLink RX4 29 "ClapBank$Hearing" "late" "[I", Cond.methodLink RX4 57 yX4_fill, Cond.instanceMethod yX4_fill, Cond.selects RX4 yX4_fill yX4_fill, Cond.code yX4_fill cX4_fill 8 none, Cond.methodLink RX4 69 yJ7_fill_53178, Cond.static yJ7_fill_53178, Cond.initialized RJ7, Cond.code yJ7_fill_53178 cJ7_fill_53178 4 none, Cond.methodLink RX4 77 yX4_spread, Cond.instanceMethod yX4_spread, Cond.selects RX4 yX4_spread yX4_spread, Cond.code yX4_spread cX4_spread 8 none, Cond.methodLink RX4 61 yX4_addUp, Cond.static yX4_addUp, Cond.code yX4_addUp cX4_addUp 3 none, Cond.methodLink RX4 65 yX4_roomBehind, Cond.instanceMethod yX4_roomBehind, Cond.selects RX4 yX4_roomBehind yX4_roomBehind, Cond.code yX4_roomBehind cX4_roomBehind 5 (some .int)]
def wsX9_whose : List Cond := .code yX9_whose cX9_whose 7 (some .int) :: ((wsX9_whose_r1 ++ (wsX9_whose_r2 ++ wsX9_whose_r3)) ++ wsX90 ++ wsX40 ++ wsX80 ++ wsX10 ++ wsX70)
def wsX9_drawn_r1 : List Cond := [Cond.fieldLink RX9 10 "ClapBank" "told" "LClapBank$Told;", Cond.fieldLink RX9 30 "ClapBank" "evening" "LClapBank$Evening;", Cond.methodLink RX9 87 yX8_theatreAt, Cond.instanceMethod yX8_theatreAt, Cond.selects RX8 yX8_theatreAt yX8_theatreAt, Cond.initialized RX8, Cond.code yX8_theatreAt cX8_theatreAt 2 (some (.object "ClapBank$Theatre")), Cond.fieldLink RX8 52 "ClapBank$Told" "theatres" "I", Cond.fieldLink RX8 22 "ClapBank$Told" "firstTheatre" "LClapBank$Theatre;", Cond.fieldLink RX8 26 "ClapBank$Told" "secondTheatre" "LClapBank$Theatre;", Cond.methodLink RX9 209 yX2_playDrawn, Cond.instanceMethod yX2_playDrawn, Cond.selects RX2 yX2_playDrawn yX2_playDrawn, Cond.initialized RX2, Cond.code yX2_playDrawn cX2_playDrawn 9 none, Cond.fieldLink RX2 12 "ClapBank$Evening" "house" "LClapBank$Theatre;", Cond.fieldLink RX2 37 "ClapBank$Evening" "drawnFrom" "[I", Cond.constant RX2 106 (1103515245), Cond.methodLink RX2 75 yX2_begin, Cond.instanceMethod yX2_begin, Cond.selects RX2 yX2_begin yX2_begin, Cond.code yX2_begin cX2_begin 2 none, Cond.fieldLink RX2 18 "ClapBank$Evening" "left" "[I", Cond.methodLink RX2 43 arraycopyName]
def wsX9_drawn_r2 : List Cond := [Cond.native arraycopyName, Cond.static arraycopyName, Cond.initialized "java/lang/System", Cond.fieldLink RX2 28 "ClapBank$Evening" "saved" "[I", Cond.fieldLink RX2 22 "ClapBank$Evening" "owes" "[I", Cond.fieldLink RX2 25 "ClapBank$Evening" "got" "[I", Cond.fieldLink RX2 31 "ClapBank$Evening" "starved" "[I", Cond.fieldLink RX2 34 "ClapBank$Evening" "storms" "[I", Cond.fieldLink RX2 60 "ClapBank$Evening" "chest" "I", Cond.fieldLink RX2 61 "ClapBank$Evening" "encores" "I", Cond.fieldLink RX2 64 "ClapBank$Evening" "nights" "I", Cond.fieldLink RX2 67 "ClapBank$Evening" "claps" "I", Cond.fieldLink RX2 69 "ClapBank$Evening" "hushed" "I", Cond.fieldLink RX2 72 "ClapBank$Evening" "echo" "I", Cond.methodLink RX2 50 yJ7_fill_53178, Cond.static yJ7_fill_53178, Cond.initialized RJ7, Cond.code yJ7_fill_53178 cJ7_fill_53178 4 none, Cond.methodLink RX2 99 yX2_lives, Cond.instanceMethod yX2_lives, Cond.selects RX2 yX2_lives yX2_lives, Cond.code yX2_lives cX2_lives 2 (some .boolean), Cond.methodLink RX2 117 yX2_hasActor, Cond.instanceMethod yX2_hasActor]
def wsX9_drawn_r3 : List Cond := [Cond.selects RX2 yX2_hasActor yX2_hasActor, Cond.code yX2_hasActor cX2_hasActor 2 (some .boolean), Cond.methodLink RX2 110 yX2_give, Cond.instanceMethod yX2_give, Cond.selects RX2 yX2_give yX2_give, Cond.code yX2_give cX2_give 3 none, Cond.methodLink RX2 114 yX2_passNight, Cond.instanceMethod yX2_passNight, Cond.selects RX2 yX2_passNight yX2_passNight, Cond.code yX2_passNight cX2_passNight 2 none, Cond.methodLink RX2 166 yX2_dine, Cond.instanceMethod yX2_dine, Cond.selects RX2 yX2_dine yX2_dine, Cond.code yX2_dine cX2_dine 3 none, Cond.methodLink RX2 146 yX2_price, Cond.instanceMethod yX2_price, Cond.selects RX2 yX2_price yX2_price, Cond.code yX2_price cX2_price 2 (some .int), Cond.methodLink RX2 143 yX2_priceBehind, Cond.instanceMethod yX2_priceBehind, Cond.selects RX2 yX2_priceBehind yX2_priceBehind, Cond.code yX2_priceBehind cX2_priceBehind 3 (some .int), Cond.methodLink RX2 170 yX2_grown, Cond.instanceMethod yX2_grown]
def wsX9_drawn_r4 : List Cond := [Cond.selects RX2 yX2_grown yX2_grown, Cond.code yX2_grown cX2_grown 4 (some .int), Cond.constantLong RX2 158 (100), Cond.constantLong RX2 160 (1000000000), Cond.methodLink RX2 162 Lib.MathLoose.min_long.x, Cond.static Lib.MathLoose.min_long.x, Cond.initialized "java/lang/Math", Cond.code Lib.MathLoose.min_long.x Lib.MathLoose.min_long.code 4 (some .long), Cond.methodLink RX9 216 yX2_living, Cond.instanceMethod yX2_living, Cond.selects RX2 yX2_living yX2_living, Cond.code yX2_living cX2_living 3 (some .int)]
def wsX9_drawn : List Cond := .code yX9_drawn cX9_drawn 7 (some .int) :: ((wsX9_drawn_r1 ++ (wsX9_drawn_r2 ++ (wsX9_drawn_r3 ++ wsX9_drawn_r4))) ++ wsX90 ++ wsX70 ++ wsX20 ++ wsX80)
def wsX9_look_r1 : List Cond := [Cond.fieldLink RX9 30 "ClapBank" "evening" "LClapBank$Evening;", Cond.methodLink RX9 113 yX9_reach, Cond.instanceMethod yX9_reach, Cond.selects RX9 yX9_reach yX9_reach, Cond.initialized RX9, Cond.code yX9_reach cX9_reach 6 (some .boolean), Cond.fieldLink RX9 10 "ClapBank" "told" "LClapBank$Told;", Cond.methodLink RX9 87 yX8_theatreAt, Cond.instanceMethod yX8_theatreAt, Cond.selects RX8 yX8_theatreAt yX8_theatreAt, Cond.initialized RX8, Cond.code yX8_theatreAt cX8_theatreAt 2 (some (.object "ClapBank$Theatre")), Cond.fieldLink RX8 52 "ClapBank$Told" "theatres" "I", Cond.fieldLink RX8 22 "ClapBank$Told" "firstTheatre" "LClapBank$Theatre;", Cond.fieldLink RX8 26 "ClapBank$Told" "secondTheatre" "LClapBank$Theatre;", Cond.methodLink RX9 96 yX8_bookAt, Cond.instanceMethod yX8_bookAt, Cond.selects RX8 yX8_bookAt yX8_bookAt, Cond.code yX8_bookAt cX8_bookAt 2 (some (.object "ClapBank$Book")), Cond.fieldLink RX8 55 "ClapBank$Told" "books" "I", Cond.fieldLink RX8 32 "ClapBank$Told" "firstBook" "LClapBank$Book;", Cond.fieldLink RX8 36 "ClapBank$Told" "secondBook" "LClapBank$Book;", Cond.methodLink RX9 250 yX2_playFirst, Cond.instanceMethod yX2_playFirst]
def wsX9_look_r2 : List Cond := [Cond.selects RX2 yX2_playFirst yX2_playFirst, Cond.initialized RX2, Cond.code yX2_playFirst cX2_playFirst 5 (some .boolean), Cond.methodLink RX2 75 yX2_begin, Cond.instanceMethod yX2_begin, Cond.selects RX2 yX2_begin yX2_begin, Cond.code yX2_begin cX2_begin 2 none, Cond.fieldLink RX2 12 "ClapBank$Evening" "house" "LClapBank$Theatre;", Cond.fieldLink RX2 18 "ClapBank$Evening" "left" "[I", Cond.methodLink RX2 43 arraycopyName, Cond.native arraycopyName, Cond.static arraycopyName, Cond.initialized "java/lang/System", Cond.fieldLink RX2 28 "ClapBank$Evening" "saved" "[I", Cond.fieldLink RX2 22 "ClapBank$Evening" "owes" "[I", Cond.fieldLink RX2 25 "ClapBank$Evening" "got" "[I", Cond.fieldLink RX2 31 "ClapBank$Evening" "starved" "[I", Cond.fieldLink RX2 34 "ClapBank$Evening" "storms" "[I", Cond.fieldLink RX2 60 "ClapBank$Evening" "chest" "I", Cond.fieldLink RX2 61 "ClapBank$Evening" "encores" "I", Cond.fieldLink RX2 64 "ClapBank$Evening" "nights" "I", Cond.fieldLink RX2 67 "ClapBank$Evening" "claps" "I", Cond.fieldLink RX2 69 "ClapBank$Evening" "hushed" "I", Cond.fieldLink RX2 72 "ClapBank$Evening" "echo" "I"]
def wsX9_look_r3 : List Cond := [Cond.methodLink RX2 50 yJ7_fill_53178, Cond.static yJ7_fill_53178, Cond.initialized RJ7, Cond.code yJ7_fill_53178 cJ7_fill_53178 4 none, Cond.methodLink RX2 79 yX2_canBe, Cond.instanceMethod yX2_canBe, Cond.selects RX2 yX2_canBe yX2_canBe, Cond.code yX2_canBe cX2_canBe 6 (some .boolean), Cond.methodLink RX2 120 yX0_part, Cond.instanceMethod yX0_part, Cond.selects RX0 yX0_part yX0_part, Cond.initialized RX0, Cond.code yX0_part cX0_part 3 (some .int), Cond.fieldLink RX0 9 "ClapBank$Book" "parts" "[I", Cond.methodLink RX2 124 yX2_canGive, Cond.instanceMethod yX2_canGive, Cond.selects RX2 yX2_canGive yX2_canGive, Cond.code yX2_canGive cX2_canGive 3 (some .boolean), Cond.methodLink RX2 127 yX2_hasPalm, Cond.instanceMethod yX2_hasPalm, Cond.selects RX2 yX2_hasPalm yX2_hasPalm, Cond.code yX2_hasPalm cX2_hasPalm 2 (some .boolean), Cond.methodLink RX2 130 yX2_isHushed, Cond.instanceMethod yX2_isHushed]
def wsX9_look_r4 : List Cond := [Cond.selects RX2 yX2_isHushed yX2_isHushed, Cond.code yX2_isHushed cX2_isHushed 2 (some .boolean), Cond.methodLink RX2 99 yX2_lives, Cond.instanceMethod yX2_lives, Cond.selects RX2 yX2_lives yX2_lives, Cond.code yX2_lives cX2_lives 2 (some .boolean), Cond.methodLink RX2 117 yX2_hasActor, Cond.instanceMethod yX2_hasActor, Cond.selects RX2 yX2_hasActor yX2_hasActor, Cond.code yX2_hasActor cX2_hasActor 2 (some .boolean), Cond.methodLink RX2 83 yX2_act, Cond.instanceMethod yX2_act, Cond.selects RX2 yX2_act yX2_act, Cond.code yX2_act cX2_act 7 none, Cond.methodLink RX2 133 yX2_clapFor, Cond.instanceMethod yX2_clapFor, Cond.selects RX2 yX2_clapFor yX2_clapFor, Cond.code yX2_clapFor cX2_clapFor 5 none, Cond.methodLink RX2 110 yX2_give, Cond.instanceMethod yX2_give, Cond.selects RX2 yX2_give yX2_give, Cond.code yX2_give cX2_give 3 none, Cond.methodLink RX2 137 yX2_move, Cond.instanceMethod yX2_move]
def wsX9_look_r5 : List Cond := [Cond.selects RX2 yX2_move yX2_move, Cond.code yX2_move cX2_move 4 none, Cond.methodLink RX2 114 yX2_passNight, Cond.instanceMethod yX2_passNight, Cond.selects RX2 yX2_passNight yX2_passNight, Cond.code yX2_passNight cX2_passNight 2 none, Cond.methodLink RX2 166 yX2_dine, Cond.instanceMethod yX2_dine, Cond.selects RX2 yX2_dine yX2_dine, Cond.code yX2_dine cX2_dine 3 none, Cond.methodLink RX2 146 yX2_price, Cond.instanceMethod yX2_price, Cond.selects RX2 yX2_price yX2_price, Cond.code yX2_price cX2_price 2 (some .int), Cond.methodLink RX2 143 yX2_priceBehind, Cond.instanceMethod yX2_priceBehind, Cond.selects RX2 yX2_priceBehind yX2_priceBehind, Cond.code yX2_priceBehind cX2_priceBehind 3 (some .int), Cond.methodLink RX2 170 yX2_grown, Cond.instanceMethod yX2_grown, Cond.selects RX2 yX2_grown yX2_grown, Cond.code yX2_grown cX2_grown 4 (some .int), Cond.constantLong RX2 158 (100), Cond.constantLong RX2 160 (1000000000)]
def wsX9_look_r6 : List Cond := [Cond.methodLink RX2 162 Lib.MathLoose.min_long.x, Cond.static Lib.MathLoose.min_long.x, Cond.initialized "java/lang/Math", Cond.code Lib.MathLoose.min_long.x Lib.MathLoose.min_long.code 4 (some .long), Cond.methodLink RX9 222 yX2_loan, Cond.instanceMethod yX2_loan, Cond.selects RX2 yX2_loan yX2_loan, Cond.code yX2_loan cX2_loan 6 (some .int), Cond.methodLink RX9 225 yX2_idol, Cond.instanceMethod yX2_idol, Cond.selects RX2 yX2_idol yX2_idol, Cond.code yX2_idol cX2_idol 6 (some .int), Cond.methodLink RX9 125 yX2_hasActor, Cond.methodLink RX9 228 yX2_tip, Cond.instanceMethod yX2_tip, Cond.selects RX2 yX2_tip yX2_tip, Cond.code yX2_tip cX2_tip 3 (some .int), Cond.methodLink RX2 198 yX2_eatsWith, Cond.instanceMethod yX2_eatsWith, Cond.selects RX2 yX2_eatsWith yX2_eatsWith, Cond.code yX2_eatsWith cX2_eatsWith 5 (some .boolean), Cond.methodLink RX9 231 yX2_dear, Cond.instanceMethod yX2_dear, Cond.selects RX2 yX2_dear yX2_dear]
def wsX9_look_r7 : List Cond := [Cond.code yX2_dear cX2_dear 3 (some .int)]
def wsX9_look : List Cond := .code yX9_look cX9_look 5 (some .int) :: ((wsX9_look_r1 ++ (wsX9_look_r2 ++ (wsX9_look_r3 ++ (wsX9_look_r4 ++ (wsX9_look_r5 ++ (wsX9_look_r6 ++ wsX9_look_r7)))))) ++ wsX90 ++ wsX00 ++ wsX80 ++ wsX20 ++ wsX70)
def wsX9_silence_r1 : List Cond := [Cond.fieldLink RX9 10 "ClapBank" "told" "LClapBank$Told;", Cond.fieldLink RX9 30 "ClapBank" "evening" "LClapBank$Evening;", Cond.methodLink RX9 87 yX8_theatreAt, Cond.instanceMethod yX8_theatreAt, Cond.selects RX8 yX8_theatreAt yX8_theatreAt, Cond.initialized RX8, Cond.code yX8_theatreAt cX8_theatreAt 2 (some (.object "ClapBank$Theatre")), Cond.fieldLink RX8 52 "ClapBank$Told" "theatres" "I", Cond.fieldLink RX8 22 "ClapBank$Told" "firstTheatre" "LClapBank$Theatre;", Cond.fieldLink RX8 26 "ClapBank$Told" "secondTheatre" "LClapBank$Theatre;", Cond.methodLink RX9 96 yX8_bookAt, Cond.instanceMethod yX8_bookAt, Cond.selects RX8 yX8_bookAt yX8_bookAt, Cond.code yX8_bookAt cX8_bookAt 2 (some (.object "ClapBank$Book")), Cond.fieldLink RX8 55 "ClapBank$Told" "books" "I", Cond.fieldLink RX8 32 "ClapBank$Told" "firstBook" "LClapBank$Book;", Cond.fieldLink RX8 36 "ClapBank$Told" "secondBook" "LClapBank$Book;", Cond.methodLink RX9 109 yX2_playAll, Cond.instanceMethod yX2_playAll, Cond.selects RX2 yX2_playAll yX2_playAll, Cond.initialized RX2, Cond.code yX2_playAll cX2_playAll 4 (some .int), Cond.methodLink RX2 75 yX2_begin, Cond.instanceMethod yX2_begin]
def wsX9_silence_r2 : List Cond := [Cond.selects RX2 yX2_begin yX2_begin, Cond.code yX2_begin cX2_begin 2 none, Cond.fieldLink RX2 12 "ClapBank$Evening" "house" "LClapBank$Theatre;", Cond.fieldLink RX2 18 "ClapBank$Evening" "left" "[I", Cond.methodLink RX2 43 arraycopyName, Cond.native arraycopyName, Cond.static arraycopyName, Cond.initialized "java/lang/System", Cond.fieldLink RX2 28 "ClapBank$Evening" "saved" "[I", Cond.fieldLink RX2 22 "ClapBank$Evening" "owes" "[I", Cond.fieldLink RX2 25 "ClapBank$Evening" "got" "[I", Cond.fieldLink RX2 31 "ClapBank$Evening" "starved" "[I", Cond.fieldLink RX2 34 "ClapBank$Evening" "storms" "[I", Cond.fieldLink RX2 60 "ClapBank$Evening" "chest" "I", Cond.fieldLink RX2 61 "ClapBank$Evening" "encores" "I", Cond.fieldLink RX2 64 "ClapBank$Evening" "nights" "I", Cond.fieldLink RX2 67 "ClapBank$Evening" "claps" "I", Cond.fieldLink RX2 69 "ClapBank$Evening" "hushed" "I", Cond.fieldLink RX2 72 "ClapBank$Evening" "echo" "I", Cond.methodLink RX2 50 yJ7_fill_53178, Cond.static yJ7_fill_53178, Cond.initialized RJ7, Cond.code yJ7_fill_53178 cJ7_fill_53178 4 none, Cond.methodLink RX2 79 yX2_canBe]
def wsX9_silence_r3 : List Cond := [Cond.instanceMethod yX2_canBe, Cond.selects RX2 yX2_canBe yX2_canBe, Cond.code yX2_canBe cX2_canBe 6 (some .boolean), Cond.methodLink RX2 120 yX0_part, Cond.instanceMethod yX0_part, Cond.selects RX0 yX0_part yX0_part, Cond.initialized RX0, Cond.code yX0_part cX0_part 3 (some .int), Cond.fieldLink RX0 9 "ClapBank$Book" "parts" "[I", Cond.methodLink RX2 124 yX2_canGive, Cond.instanceMethod yX2_canGive, Cond.selects RX2 yX2_canGive yX2_canGive, Cond.code yX2_canGive cX2_canGive 3 (some .boolean), Cond.methodLink RX2 127 yX2_hasPalm, Cond.instanceMethod yX2_hasPalm, Cond.selects RX2 yX2_hasPalm yX2_hasPalm, Cond.code yX2_hasPalm cX2_hasPalm 2 (some .boolean), Cond.methodLink RX2 130 yX2_isHushed, Cond.instanceMethod yX2_isHushed, Cond.selects RX2 yX2_isHushed yX2_isHushed, Cond.code yX2_isHushed cX2_isHushed 2 (some .boolean), Cond.methodLink RX2 99 yX2_lives, Cond.instanceMethod yX2_lives, Cond.selects RX2 yX2_lives yX2_lives]
def wsX9_silence_r4 : List Cond := [Cond.code yX2_lives cX2_lives 2 (some .boolean), Cond.methodLink RX2 117 yX2_hasActor, Cond.instanceMethod yX2_hasActor, Cond.selects RX2 yX2_hasActor yX2_hasActor, Cond.code yX2_hasActor cX2_hasActor 2 (some .boolean), Cond.methodLink RX2 83 yX2_act, Cond.instanceMethod yX2_act, Cond.selects RX2 yX2_act yX2_act, Cond.code yX2_act cX2_act 7 none, Cond.methodLink RX2 133 yX2_clapFor, Cond.instanceMethod yX2_clapFor, Cond.selects RX2 yX2_clapFor yX2_clapFor, Cond.code yX2_clapFor cX2_clapFor 5 none, Cond.methodLink RX2 110 yX2_give, Cond.instanceMethod yX2_give, Cond.selects RX2 yX2_give yX2_give, Cond.code yX2_give cX2_give 3 none, Cond.methodLink RX2 137 yX2_move, Cond.instanceMethod yX2_move, Cond.selects RX2 yX2_move yX2_move, Cond.code yX2_move cX2_move 4 none, Cond.methodLink RX2 114 yX2_passNight, Cond.instanceMethod yX2_passNight, Cond.selects RX2 yX2_passNight yX2_passNight]
def wsX9_silence_r5 : List Cond := [Cond.code yX2_passNight cX2_passNight 2 none, Cond.methodLink RX2 166 yX2_dine, Cond.instanceMethod yX2_dine, Cond.selects RX2 yX2_dine yX2_dine, Cond.code yX2_dine cX2_dine 3 none, Cond.methodLink RX2 146 yX2_price, Cond.instanceMethod yX2_price, Cond.selects RX2 yX2_price yX2_price, Cond.code yX2_price cX2_price 2 (some .int), Cond.methodLink RX2 143 yX2_priceBehind, Cond.instanceMethod yX2_priceBehind, Cond.selects RX2 yX2_priceBehind yX2_priceBehind, Cond.code yX2_priceBehind cX2_priceBehind 3 (some .int), Cond.methodLink RX2 170 yX2_grown, Cond.instanceMethod yX2_grown, Cond.selects RX2 yX2_grown yX2_grown, Cond.code yX2_grown cX2_grown 4 (some .int), Cond.constantLong RX2 158 (100), Cond.constantLong RX2 160 (1000000000), Cond.methodLink RX2 162 Lib.MathLoose.min_long.x, Cond.static Lib.MathLoose.min_long.x, Cond.initialized "java/lang/Math", Cond.code Lib.MathLoose.min_long.x Lib.MathLoose.min_long.code 4 (some .long), Cond.methodLink RX9 237 yX2_playWithout]
def wsX9_silence_r6 : List Cond := [Cond.instanceMethod yX2_playWithout, Cond.selects RX2 yX2_playWithout yX2_playWithout, Cond.code yX2_playWithout cX2_playWithout 6 none, Cond.methodLink RX2 92 yX0_isOf, Cond.instanceMethod yX0_isOf, Cond.selects RX0 yX0_isOf yX0_isOf, Cond.code yX0_isOf cX0_isOf 5 (some .boolean), Cond.methodLink RX0 25 yX0_part, Cond.methodLink RX9 216 yX2_living, Cond.instanceMethod yX2_living, Cond.selects RX2 yX2_living yX2_living, Cond.code yX2_living cX2_living 3 (some .int), Cond.methodLink RX9 241 yJ6_bitCount_0f7a4, Cond.static yJ6_bitCount_0f7a4, Cond.initialized RJ6, Cond.code yJ6_bitCount_0f7a4 cJ6_bitCount_0f7a4 1 (some .int), Cond.constant RJ6 265 (1431655765), Cond.constant RJ6 266 (858993459), Cond.constant RJ6 267 (252645135)]
def wsX9_silence : List Cond := .code yX9_silence cX9_silence 11 (some .int) :: ((wsX9_silence_r1 ++ (wsX9_silence_r2 ++ (wsX9_silence_r3 ++ (wsX9_silence_r4 ++ (wsX9_silence_r5 ++ wsX9_silence_r6))))) ++ wsX90 ++ wsX70 ++ wsX80 ++ wsX00 ++ wsX20)
def wsX9_count : List Cond := .code yX9_count cX9_count 2 (some .int) :: ([.fieldLink RX9 10 "ClapBank" "told" "LClapBank$Told;", .methodLink RX9 69 yX8_howMany, .instanceMethod yX8_howMany, .selects RX8 yX8_howMany yX8_howMany, .initialized RX8, .code yX8_howMany cX8_howMany 2 (some .int), .fieldLink RX8 52 "ClapBank$Told" "theatres" "I", .fieldLink RX8 55 "ClapBank$Told" "books" "I", .fieldLink RX8 58 "ClapBank$Told" "darks" "I"] ++ wsX90 ++ wsX80)
def wsX9_image_r1 : List Cond := [Cond.fieldLink RX9 16 "ClapBank" "images" "[LClapBank$Told;", Cond.classLink RX9 7 RX8, Cond.instantiable RX8 13, Cond.initialized RX8, Cond.fieldLink RX9 10 "ClapBank" "told" "LClapBank$Told;", Cond.instanceMethod yX8_init, Cond.code yX8_init cX8_init 1 none, Cond.methodLink RX8 3 objectInit, Cond.instanceMethod objectInit, Cond.code objectInit ⟨#[0xb1]⟩ 1 none, Cond.arrayClass .byte, Cond.fieldLink RX8 9 "ClapBank$Told" "tape" "[B", Cond.fieldLink RX8 15 "ClapBank$Told" "place" "I", Cond.classLink RX8 19 RX7, Cond.instantiable RX7 12, Cond.initialized RX7, Cond.fieldLink RX8 22 "ClapBank$Told" "firstTheatre" "LClapBank$Theatre;", Cond.fieldLink RX8 26 "ClapBank$Told" "secondTheatre" "LClapBank$Theatre;", Cond.classLink RX8 29 RX0, Cond.instantiable RX0 2, Cond.initialized RX0, Cond.fieldLink RX8 32 "ClapBank$Told" "firstBook" "LClapBank$Book;", Cond.fieldLink RX8 36 "ClapBank$Told" "secondBook" "LClapBank$Book;", Cond.classLink RX8 39 RX1]
def wsX9_image_r2 : List Cond := [Cond.instantiable RX1 2, Cond.initialized RX1, Cond.fieldLink RX8 42 "ClapBank$Told" "firstDark" "LClapBank$Dark;", Cond.fieldLink RX8 46 "ClapBank$Told" "secondDark" "LClapBank$Dark;", Cond.instanceMethod yX7_init, Cond.code yX7_init cX7_init 1 none, Cond.methodLink RX7 3 objectInit, Cond.arrayClass .int, Cond.fieldLink RX7 9 "ClapBank$Theatre" "claps" "[I", Cond.fieldLink RX7 15 "ClapBank$Theatre" "hands" "[I", Cond.fieldLink RX7 18 "ClapBank$Theatre" "hunger" "[I", Cond.fieldLink RX7 21 "ClapBank$Theatre" "saved" "[I", Cond.fieldLink RX7 24 "ClapBank$Theatre" "asks" "[I", Cond.fieldLink RX7 27 "ClapBank$Theatre" "floors" "[I", Cond.instanceMethod yX0_init, Cond.code yX0_init cX0_init 1 none, Cond.methodLink RX0 3 objectInit, Cond.fieldLink RX0 9 "ClapBank$Book" "parts" "[I", Cond.instanceMethod yX1_init, Cond.code yX1_init cX1_init 1 none, Cond.methodLink RX1 3 objectInit, Cond.fieldLink RX1 9 "ClapBank$Dark" "halves" "[I", Cond.methodLink RX9 246 yX8_copyFrom, Cond.instanceMethod yX8_copyFrom]
def wsX9_image_r3 : List Cond := [Cond.selects RX8 yX8_copyFrom yX8_copyFrom, Cond.code yX8_copyFrom cX8_copyFrom 2 none, Cond.methodLink RX8 88 arraycopyName, Cond.native arraycopyName, Cond.static arraycopyName, Cond.initialized "java/lang/System", Cond.fieldLink RX8 49 "ClapBank$Told" "length" "I", Cond.fieldLink RX8 94 "ClapBank$Told" "fault" "I", Cond.fieldLink RX8 52 "ClapBank$Told" "theatres" "I", Cond.fieldLink RX8 55 "ClapBank$Told" "books" "I", Cond.fieldLink RX8 58 "ClapBank$Told" "darks" "I", Cond.methodLink RX8 66 yX7_copyFrom, Cond.instanceMethod yX7_copyFrom, Cond.selects RX7 yX7_copyFrom yX7_copyFrom, Cond.code yX7_copyFrom cX7_copyFrom 2 none, Cond.fieldLink RX7 30 "ClapBank$Theatre" "palms" "I", Cond.fieldLink RX7 34 "ClapBank$Theatre" "actors" "I", Cond.fieldLink RX7 37 "ClapBank$Theatre" "usurers" "I", Cond.fieldLink RX7 40 "ClapBank$Theatre" "rate" "I", Cond.fieldLink RX7 43 "ClapBank$Theatre" "chest" "I", Cond.fieldLink RX7 46 "ClapBank$Theatre" "borrowers" "I", Cond.methodLink RX7 49 arraycopyName, Cond.methodLink RX8 79 yX0_copyFrom, Cond.instanceMethod yX0_copyFrom]
def wsX9_image_r4 : List Cond := [Cond.selects RX0 yX0_copyFrom yX0_copyFrom, Cond.code yX0_copyFrom cX0_copyFrom 2 none, Cond.fieldLink RX0 15 "ClapBank$Book" "deeds" "I", Cond.methodLink RX0 19 arraycopyName, Cond.methodLink RX8 85 yX1_copyFrom, Cond.instanceMethod yX1_copyFrom, Cond.selects RX1 yX1_copyFrom yX1_copyFrom, Cond.code yX1_copyFrom cX1_copyFrom 2 none, Cond.fieldLink RX1 15 "ClapBank$Dark" "minutes" "I", Cond.methodLink RX1 19 arraycopyName]
def wsX9_image : List Cond := .code yX9_image cX9_image 3 (some .boolean) :: ((wsX9_image_r1 ++ (wsX9_image_r2 ++ (wsX9_image_r3 ++ wsX9_image_r4))) ++ wsX90 ++ wsX80 ++ wsX70 ++ wsX00 ++ wsX10)
def wsX9_again_r1 : List Cond := [Cond.fieldLink RX9 16 "ClapBank" "images" "[LClapBank$Told;", Cond.fieldLink RX9 10 "ClapBank" "told" "LClapBank$Told;", Cond.methodLink RX9 246 yX8_copyFrom, Cond.instanceMethod yX8_copyFrom, Cond.selects RX8 yX8_copyFrom yX8_copyFrom, Cond.initialized RX8, Cond.code yX8_copyFrom cX8_copyFrom 2 none, Cond.fieldLink RX8 9 "ClapBank$Told" "tape" "[B", Cond.methodLink RX8 88 arraycopyName, Cond.native arraycopyName, Cond.static arraycopyName, Cond.initialized "java/lang/System", Cond.fieldLink RX8 49 "ClapBank$Told" "length" "I", Cond.fieldLink RX8 94 "ClapBank$Told" "fault" "I", Cond.fieldLink RX8 15 "ClapBank$Told" "place" "I", Cond.fieldLink RX8 52 "ClapBank$Told" "theatres" "I", Cond.fieldLink RX8 55 "ClapBank$Told" "books" "I", Cond.fieldLink RX8 58 "ClapBank$Told" "darks" "I", Cond.fieldLink RX8 22 "ClapBank$Told" "firstTheatre" "LClapBank$Theatre;", Cond.fieldLink RX8 26 "ClapBank$Told" "secondTheatre" "LClapBank$Theatre;", Cond.fieldLink RX8 32 "ClapBank$Told" "firstBook" "LClapBank$Book;", Cond.fieldLink RX8 36 "ClapBank$Told" "secondBook" "LClapBank$Book;", Cond.fieldLink RX8 42 "ClapBank$Told" "firstDark" "LClapBank$Dark;", Cond.fieldLink RX8 46 "ClapBank$Told" "secondDark" "LClapBank$Dark;"]
def wsX9_again_r2 : List Cond := [Cond.methodLink RX8 66 yX7_copyFrom, Cond.instanceMethod yX7_copyFrom, Cond.selects RX7 yX7_copyFrom yX7_copyFrom, Cond.initialized RX7, Cond.code yX7_copyFrom cX7_copyFrom 2 none, Cond.fieldLink RX7 30 "ClapBank$Theatre" "palms" "I", Cond.fieldLink RX7 34 "ClapBank$Theatre" "actors" "I", Cond.fieldLink RX7 37 "ClapBank$Theatre" "usurers" "I", Cond.fieldLink RX7 40 "ClapBank$Theatre" "rate" "I", Cond.fieldLink RX7 43 "ClapBank$Theatre" "chest" "I", Cond.fieldLink RX7 46 "ClapBank$Theatre" "borrowers" "I", Cond.fieldLink RX7 9 "ClapBank$Theatre" "claps" "[I", Cond.methodLink RX7 49 arraycopyName, Cond.fieldLink RX7 15 "ClapBank$Theatre" "hands" "[I", Cond.fieldLink RX7 18 "ClapBank$Theatre" "hunger" "[I", Cond.fieldLink RX7 21 "ClapBank$Theatre" "saved" "[I", Cond.fieldLink RX7 24 "ClapBank$Theatre" "asks" "[I", Cond.fieldLink RX7 27 "ClapBank$Theatre" "floors" "[I", Cond.methodLink RX8 79 yX0_copyFrom, Cond.instanceMethod yX0_copyFrom, Cond.selects RX0 yX0_copyFrom yX0_copyFrom, Cond.initialized RX0, Cond.code yX0_copyFrom cX0_copyFrom 2 none, Cond.fieldLink RX0 15 "ClapBank$Book" "deeds" "I"]
def wsX9_again_r3 : List Cond := [Cond.fieldLink RX0 9 "ClapBank$Book" "parts" "[I", Cond.methodLink RX0 19 arraycopyName, Cond.methodLink RX8 85 yX1_copyFrom, Cond.instanceMethod yX1_copyFrom, Cond.selects RX1 yX1_copyFrom yX1_copyFrom, Cond.initialized RX1, Cond.code yX1_copyFrom cX1_copyFrom 2 none, Cond.fieldLink RX1 15 "ClapBank$Dark" "minutes" "I", Cond.fieldLink RX1 9 "ClapBank$Dark" "halves" "[I", Cond.methodLink RX1 19 arraycopyName]
def wsX9_again : List Cond := .code yX9_again cX9_again 3 (some .boolean) :: ((wsX9_again_r1 ++ (wsX9_again_r2 ++ wsX9_again_r3)) ++ wsX90 ++ wsX80 ++ wsX70 ++ wsX00 ++ wsX10)
theorem dX0_copyFrom_0 : decode cX0_copyFrom 0 = .ok (.aload_n 0, 1) := by decide +kernel
theorem dX0_copyFrom_1 : decode cX0_copyFrom 1 = .ok (.aload_n 1, 1) := by decide +kernel
theorem dX0_copyFrom_2 : decode cX0_copyFrom 2 = .ok (.getfield 15, 3) := by decide +kernel
theorem dX0_copyFrom_5 : decode cX0_copyFrom 5 = .ok (.putfield 15, 3) := by decide +kernel
theorem dX0_copyFrom_8 : decode cX0_copyFrom 8 = .ok (.aload_n 1, 1) := by decide +kernel
theorem dX0_copyFrom_9 : decode cX0_copyFrom 9 = .ok (.getfield 9, 3) := by decide +kernel
theorem dX0_copyFrom_12 : decode cX0_copyFrom 12 = .ok (.iconst 0, 1) := by decide +kernel
theorem dX0_copyFrom_13 : decode cX0_copyFrom 13 = .ok (.aload_n 0, 1) := by decide +kernel
theorem dX0_copyFrom_14 : decode cX0_copyFrom 14 = .ok (.getfield 9, 3) := by decide +kernel
theorem dX0_copyFrom_17 : decode cX0_copyFrom 17 = .ok (.iconst 0, 1) := by decide +kernel
theorem dX0_copyFrom_18 : decode cX0_copyFrom 18 = .ok (.bipush 120, 2) := by decide +kernel
theorem dX0_copyFrom_20 : decode cX0_copyFrom 20 = .ok (.invokestatic 19, 3) := by decide +kernel
theorem dX0_copyFrom_23 : decode cX0_copyFrom 23 = .ok (.return_, 1) := by decide +kernel
theorem dX1_copyFrom_0 : decode cX1_copyFrom 0 = .ok (.aload_n 0, 1) := by decide +kernel
theorem dX1_copyFrom_1 : decode cX1_copyFrom 1 = .ok (.aload_n 1, 1) := by decide +kernel
theorem dX1_copyFrom_2 : decode cX1_copyFrom 2 = .ok (.getfield 15, 3) := by decide +kernel
theorem dX1_copyFrom_5 : decode cX1_copyFrom 5 = .ok (.putfield 15, 3) := by decide +kernel
theorem dX1_copyFrom_8 : decode cX1_copyFrom 8 = .ok (.aload_n 1, 1) := by decide +kernel
theorem dX1_copyFrom_9 : decode cX1_copyFrom 9 = .ok (.getfield 9, 3) := by decide +kernel
theorem dX1_copyFrom_12 : decode cX1_copyFrom 12 = .ok (.iconst 0, 1) := by decide +kernel
theorem dX1_copyFrom_13 : decode cX1_copyFrom 13 = .ok (.aload_n 0, 1) := by decide +kernel
theorem dX1_copyFrom_14 : decode cX1_copyFrom 14 = .ok (.getfield 9, 3) := by decide +kernel
theorem dX1_copyFrom_17 : decode cX1_copyFrom 17 = .ok (.iconst 0, 1) := by decide +kernel
theorem dX1_copyFrom_18 : decode cX1_copyFrom 18 = .ok (.bipush 6, 2) := by decide +kernel
theorem dX1_copyFrom_20 : decode cX1_copyFrom 20 = .ok (.invokestatic 19, 3) := by decide +kernel
theorem dX1_copyFrom_23 : decode cX1_copyFrom 23 = .ok (.return_, 1) := by decide +kernel
set_option maxRecDepth 20000 in
theorem ggX5_read_X7_clear : GoodIn wsX5_read wsX7_clear := goodIn_r _ [12, 13, 14, 15, 16, 17, 18, 175, 176, 177, 178, 179, 180, 181, 182, 183, 184, 185, 186] (by decide +kernel) (by decide +kernel)
set_option maxRecDepth 20000 in
theorem gX5_read_X7_clear : GoodIn wsX5_read (wsV RX5 36 RX7 yX7_clear wsX7_clear) := goodIn_app (goodIn_of _ (by decide +kernel)) ggX5_read_X7_clear
set_option maxRecDepth 20000 in
theorem ggX5_read_X5_step : GoodIn wsX5_read wsX5_step := goodIn_r _ [23, 6, 24, 7, 25, 26, 27, 28, 29, 30, 31, 22, 32, 33, 34, 35, 161, 162, 163, 164, 165, 166, 167, 168, 169, 170] (by decide +kernel) (by decide +kernel)
set_option maxRecDepth 20000 in
theorem gX5_read_X5_step : GoodIn wsX5_read (wsV RX5 55 RX5 yX5_step wsX5_step) := goodIn_app (goodIn_of _ (by decide +kernel)) ggX5_read_X5_step
theorem dX5_read_0 : decode cX5_read 0 = .ok (.aload_n 0, 1) := by decide +kernel
theorem dX5_read_1 : decode cX5_read 1 = .ok (.getfield 12, 3) := by decide +kernel
theorem dX5_read_4 : decode cX5_read 4 = .ok (.invokevirtual 36, 3) := by decide +kernel
theorem dX5_read_7 : decode cX5_read 7 = .ok (.aload_n 0, 1) := by decide +kernel
theorem dX5_read_8 : decode cX5_read 8 = .ok (.getfield 21, 3) := by decide +kernel
theorem dX5_read_11 : decode cX5_read 11 = .ok (.iconst 0, 1) := by decide +kernel
theorem dX5_read_12 : decode cX5_read 12 = .ok (.putfield 39, 3) := by decide +kernel
theorem dX5_read_15 : decode cX5_read 15 = .ok (.aload_n 0, 1) := by decide +kernel
theorem dX5_read_16 : decode cX5_read 16 = .ok (.getfield 28, 3) := by decide +kernel
theorem dX5_read_19 : decode cX5_read 19 = .ok (.iconst 0, 1) := by decide +kernel
theorem dX5_read_20 : decode cX5_read 20 = .ok (.putfield 43, 3) := by decide +kernel
theorem dX5_read_23 : decode cX5_read 23 = .ok (.aload_n 0, 1) := by decide +kernel
theorem dX5_read_24 : decode cX5_read 24 = .ok (.iconst 0, 1) := by decide +kernel
theorem dX5_read_25 : decode cX5_read 25 = .ok (.putfield 46, 3) := by decide +kernel
theorem dX5_read_28 : decode cX5_read 28 = .ok (.aload_n 0, 1) := by decide +kernel
theorem dX5_read_29 : decode cX5_read 29 = .ok (.iconst (-1), 1) := by decide +kernel
theorem dX5_read_30 : decode cX5_read 30 = .ok (.putfield 49, 3) := by decide +kernel
theorem dX5_read_33 : decode cX5_read 33 = .ok (.aload_n 0, 1) := by decide +kernel
theorem dX5_read_34 : decode cX5_read 34 = .ok (.iconst 0, 1) := by decide +kernel
theorem dX5_read_35 : decode cX5_read 35 = .ok (.putfield 52, 3) := by decide +kernel
theorem dX5_read_38 : decode cX5_read 38 = .ok (.iconst 0, 1) := by decide +kernel
theorem dX5_read_39 : decode cX5_read 39 = .ok (.istore 4, 2) := by decide +kernel
theorem dX5_read_41 : decode cX5_read 41 = .ok (.iload 4, 2) := by decide +kernel
theorem dX5_read_43 : decode cX5_read 43 = .ok (.sipush 600, 3) := by decide +kernel
theorem dX5_read_46 : decode cX5_read 46 = .ok (.if_icmp .gt 33, 3) := by decide +kernel
theorem dX5_read_49 : decode cX5_read 49 = .ok (.aload_n 0, 1) := by decide +kernel
theorem dX5_read_50 : decode cX5_read 50 = .ok (.aload_n 1, 1) := by decide +kernel
theorem dX5_read_51 : decode cX5_read 51 = .ok (.iload_n 2, 1) := by decide +kernel
theorem dX5_read_52 : decode cX5_read 52 = .ok (.invokevirtual 55, 3) := by decide +kernel
theorem dX5_read_55 : decode cX5_read 55 = .ok (.aload_n 0, 1) := by decide +kernel
theorem dX5_read_56 : decode cX5_read 56 = .ok (.getfield 59, 3) := by decide +kernel
theorem dX5_read_59 : decode cX5_read 59 = .ok (.ifCond .eq 13, 3) := by decide +kernel
theorem dX5_read_72 : decode cX5_read 72 = .ok (.return_, 1) := by decide +kernel
theorem dX5_step_0 : decode cX5_step 0 = .ok (.aload_n 0, 1) := by decide +kernel
theorem dX5_step_1 : decode cX5_step 1 = .ok (.getfield 52, 3) := by decide +kernel
theorem dX5_step_4 : decode cX5_step 4 = .ok (.istore_n 3, 1) := by decide +kernel
theorem dX5_step_5 : decode cX5_step 5 = .ok (.iload_n 3, 1) := by decide +kernel
theorem dX5_step_6 : decode cX5_step 6 = .ok (.iload_n 2, 1) := by decide +kernel
theorem dX5_step_7 : decode cX5_step 7 = .ok (.if_icmp .ge 25, 3) := by decide +kernel
theorem dX5_step_32 : decode cX5_step 32 = .ok (.aload_n 0, 1) := by decide +kernel
theorem dX5_step_33 : decode cX5_step 33 = .ok (.iload_n 3, 1) := by decide +kernel
theorem dX5_step_34 : decode cX5_step 34 = .ok (.putfield 101, 3) := by decide +kernel
theorem dX5_step_37 : decode cX5_step 37 = .ok (.iload_n 3, 1) := by decide +kernel
theorem dX5_step_38 : decode cX5_step 38 = .ok (.iload_n 2, 1) := by decide +kernel
theorem dX5_step_39 : decode cX5_step 39 = .ok (.if_icmp .lt 11, 3) := by decide +kernel
theorem dX5_step_42 : decode cX5_step 42 = .ok (.aload_n 0, 1) := by decide +kernel
theorem dX5_step_43 : decode cX5_step 43 = .ok (.iconst 0, 1) := by decide +kernel
theorem dX5_step_44 : decode cX5_step 44 = .ok (.putfield 59, 3) := by decide +kernel
theorem dX5_step_47 : decode cX5_step 47 = .ok (.goto 137, 3) := by decide +kernel
theorem dX5_step_184 : decode cX5_step 184 = .ok (.aload_n 0, 1) := by decide +kernel
theorem dX5_step_185 : decode cX5_step 185 = .ok (.iload_n 3, 1) := by decide +kernel
theorem dX5_step_186 : decode cX5_step 186 = .ok (.putfield 52, 3) := by decide +kernel
theorem dX5_step_189 : decode cX5_step 189 = .ok (.return_, 1) := by decide +kernel
theorem dX7_clear_0 : decode cX7_clear 0 = .ok (.aload_n 0, 1) := by decide +kernel
theorem dX7_clear_1 : decode cX7_clear 1 = .ok (.iconst 0, 1) := by decide +kernel
theorem dX7_clear_2 : decode cX7_clear 2 = .ok (.putfield 30, 3) := by decide +kernel
theorem dX7_clear_5 : decode cX7_clear 5 = .ok (.aload_n 0, 1) := by decide +kernel
theorem dX7_clear_6 : decode cX7_clear 6 = .ok (.iconst 0, 1) := by decide +kernel
theorem dX7_clear_7 : decode cX7_clear 7 = .ok (.putfield 34, 3) := by decide +kernel
theorem dX7_clear_10 : decode cX7_clear 10 = .ok (.aload_n 0, 1) := by decide +kernel
theorem dX7_clear_11 : decode cX7_clear 11 = .ok (.iconst 0, 1) := by decide +kernel
theorem dX7_clear_12 : decode cX7_clear 12 = .ok (.putfield 37, 3) := by decide +kernel
theorem dX7_clear_15 : decode cX7_clear 15 = .ok (.aload_n 0, 1) := by decide +kernel
theorem dX7_clear_16 : decode cX7_clear 16 = .ok (.iconst 0, 1) := by decide +kernel
theorem dX7_clear_17 : decode cX7_clear 17 = .ok (.putfield 40, 3) := by decide +kernel
theorem dX7_clear_20 : decode cX7_clear 20 = .ok (.aload_n 0, 1) := by decide +kernel
theorem dX7_clear_21 : decode cX7_clear 21 = .ok (.sipush 999, 3) := by decide +kernel
theorem dX7_clear_24 : decode cX7_clear 24 = .ok (.putfield 43, 3) := by decide +kernel
theorem dX7_clear_27 : decode cX7_clear 27 = .ok (.aload_n 0, 1) := by decide +kernel
theorem dX7_clear_28 : decode cX7_clear 28 = .ok (.iconst 0, 1) := by decide +kernel
theorem dX7_clear_29 : decode cX7_clear 29 = .ok (.putfield 46, 3) := by decide +kernel
theorem dX7_clear_32 : decode cX7_clear 32 = .ok (.return_, 1) := by decide +kernel
theorem dX7_copyFrom_0 : decode cX7_copyFrom 0 = .ok (.aload_n 0, 1) := by decide +kernel
theorem dX7_copyFrom_1 : decode cX7_copyFrom 1 = .ok (.aload_n 1, 1) := by decide +kernel
theorem dX7_copyFrom_2 : decode cX7_copyFrom 2 = .ok (.getfield 30, 3) := by decide +kernel
theorem dX7_copyFrom_5 : decode cX7_copyFrom 5 = .ok (.putfield 30, 3) := by decide +kernel
theorem dX7_copyFrom_8 : decode cX7_copyFrom 8 = .ok (.aload_n 0, 1) := by decide +kernel
theorem dX7_copyFrom_9 : decode cX7_copyFrom 9 = .ok (.aload_n 1, 1) := by decide +kernel
theorem dX7_copyFrom_10 : decode cX7_copyFrom 10 = .ok (.getfield 34, 3) := by decide +kernel
theorem dX7_copyFrom_13 : decode cX7_copyFrom 13 = .ok (.putfield 34, 3) := by decide +kernel
theorem dX7_copyFrom_16 : decode cX7_copyFrom 16 = .ok (.aload_n 0, 1) := by decide +kernel
theorem dX7_copyFrom_17 : decode cX7_copyFrom 17 = .ok (.aload_n 1, 1) := by decide +kernel
theorem dX7_copyFrom_18 : decode cX7_copyFrom 18 = .ok (.getfield 37, 3) := by decide +kernel
theorem dX7_copyFrom_21 : decode cX7_copyFrom 21 = .ok (.putfield 37, 3) := by decide +kernel
theorem dX7_copyFrom_24 : decode cX7_copyFrom 24 = .ok (.aload_n 0, 1) := by decide +kernel
theorem dX7_copyFrom_25 : decode cX7_copyFrom 25 = .ok (.aload_n 1, 1) := by decide +kernel
theorem dX7_copyFrom_26 : decode cX7_copyFrom 26 = .ok (.getfield 40, 3) := by decide +kernel
theorem dX7_copyFrom_29 : decode cX7_copyFrom 29 = .ok (.putfield 40, 3) := by decide +kernel
theorem dX7_copyFrom_32 : decode cX7_copyFrom 32 = .ok (.aload_n 0, 1) := by decide +kernel
theorem dX7_copyFrom_33 : decode cX7_copyFrom 33 = .ok (.aload_n 1, 1) := by decide +kernel
theorem dX7_copyFrom_34 : decode cX7_copyFrom 34 = .ok (.getfield 43, 3) := by decide +kernel
theorem dX7_copyFrom_37 : decode cX7_copyFrom 37 = .ok (.putfield 43, 3) := by decide +kernel
theorem dX7_copyFrom_40 : decode cX7_copyFrom 40 = .ok (.aload_n 0, 1) := by decide +kernel
theorem dX7_copyFrom_41 : decode cX7_copyFrom 41 = .ok (.aload_n 1, 1) := by decide +kernel
theorem dX7_copyFrom_42 : decode cX7_copyFrom 42 = .ok (.getfield 46, 3) := by decide +kernel
theorem dX7_copyFrom_45 : decode cX7_copyFrom 45 = .ok (.putfield 46, 3) := by decide +kernel
theorem dX7_copyFrom_48 : decode cX7_copyFrom 48 = .ok (.aload_n 1, 1) := by decide +kernel
theorem dX7_copyFrom_49 : decode cX7_copyFrom 49 = .ok (.getfield 9, 3) := by decide +kernel
theorem dX7_copyFrom_52 : decode cX7_copyFrom 52 = .ok (.iconst 0, 1) := by decide +kernel
theorem dX7_copyFrom_53 : decode cX7_copyFrom 53 = .ok (.aload_n 0, 1) := by decide +kernel
theorem dX7_copyFrom_54 : decode cX7_copyFrom 54 = .ok (.getfield 9, 3) := by decide +kernel
theorem dX7_copyFrom_57 : decode cX7_copyFrom 57 = .ok (.iconst 0, 1) := by decide +kernel
theorem dX7_copyFrom_58 : decode cX7_copyFrom 58 = .ok (.iconst 5, 1) := by decide +kernel
theorem dX7_copyFrom_59 : decode cX7_copyFrom 59 = .ok (.invokestatic 49, 3) := by decide +kernel
theorem dX7_copyFrom_62 : decode cX7_copyFrom 62 = .ok (.aload_n 1, 1) := by decide +kernel
theorem dX7_copyFrom_63 : decode cX7_copyFrom 63 = .ok (.getfield 15, 3) := by decide +kernel
theorem dX7_copyFrom_66 : decode cX7_copyFrom 66 = .ok (.iconst 0, 1) := by decide +kernel
theorem dX7_copyFrom_67 : decode cX7_copyFrom 67 = .ok (.aload_n 0, 1) := by decide +kernel
theorem dX7_copyFrom_68 : decode cX7_copyFrom 68 = .ok (.getfield 15, 3) := by decide +kernel
theorem dX7_copyFrom_71 : decode cX7_copyFrom 71 = .ok (.iconst 0, 1) := by decide +kernel
theorem dX7_copyFrom_72 : decode cX7_copyFrom 72 = .ok (.iconst 5, 1) := by decide +kernel
theorem dX7_copyFrom_73 : decode cX7_copyFrom 73 = .ok (.invokestatic 49, 3) := by decide +kernel
theorem dX7_copyFrom_76 : decode cX7_copyFrom 76 = .ok (.aload_n 1, 1) := by decide +kernel
theorem dX7_copyFrom_77 : decode cX7_copyFrom 77 = .ok (.getfield 18, 3) := by decide +kernel
theorem dX7_copyFrom_80 : decode cX7_copyFrom 80 = .ok (.iconst 0, 1) := by decide +kernel
theorem dX7_copyFrom_81 : decode cX7_copyFrom 81 = .ok (.aload_n 0, 1) := by decide +kernel
theorem dX7_copyFrom_82 : decode cX7_copyFrom 82 = .ok (.getfield 18, 3) := by decide +kernel
theorem dX7_copyFrom_85 : decode cX7_copyFrom 85 = .ok (.iconst 0, 1) := by decide +kernel
theorem dX7_copyFrom_86 : decode cX7_copyFrom 86 = .ok (.bipush 6, 2) := by decide +kernel
theorem dX7_copyFrom_88 : decode cX7_copyFrom 88 = .ok (.invokestatic 49, 3) := by decide +kernel
theorem dX7_copyFrom_91 : decode cX7_copyFrom 91 = .ok (.aload_n 1, 1) := by decide +kernel
theorem dX7_copyFrom_92 : decode cX7_copyFrom 92 = .ok (.getfield 21, 3) := by decide +kernel
theorem dX7_copyFrom_95 : decode cX7_copyFrom 95 = .ok (.iconst 0, 1) := by decide +kernel
theorem dX7_copyFrom_96 : decode cX7_copyFrom 96 = .ok (.aload_n 0, 1) := by decide +kernel
theorem dX7_copyFrom_97 : decode cX7_copyFrom 97 = .ok (.getfield 21, 3) := by decide +kernel
theorem dX7_copyFrom_100 : decode cX7_copyFrom 100 = .ok (.iconst 0, 1) := by decide +kernel
theorem dX7_copyFrom_101 : decode cX7_copyFrom 101 = .ok (.bipush 6, 2) := by decide +kernel
theorem dX7_copyFrom_103 : decode cX7_copyFrom 103 = .ok (.invokestatic 49, 3) := by decide +kernel
theorem dX7_copyFrom_106 : decode cX7_copyFrom 106 = .ok (.aload_n 1, 1) := by decide +kernel
theorem dX7_copyFrom_107 : decode cX7_copyFrom 107 = .ok (.getfield 24, 3) := by decide +kernel
theorem dX7_copyFrom_110 : decode cX7_copyFrom 110 = .ok (.iconst 0, 1) := by decide +kernel
theorem dX7_copyFrom_111 : decode cX7_copyFrom 111 = .ok (.aload_n 0, 1) := by decide +kernel
theorem dX7_copyFrom_112 : decode cX7_copyFrom 112 = .ok (.getfield 24, 3) := by decide +kernel
theorem dX7_copyFrom_115 : decode cX7_copyFrom 115 = .ok (.iconst 0, 1) := by decide +kernel
theorem dX7_copyFrom_116 : decode cX7_copyFrom 116 = .ok (.iconst 4, 1) := by decide +kernel
theorem dX7_copyFrom_117 : decode cX7_copyFrom 117 = .ok (.invokestatic 49, 3) := by decide +kernel
theorem dX7_copyFrom_120 : decode cX7_copyFrom 120 = .ok (.aload_n 1, 1) := by decide +kernel
theorem dX7_copyFrom_121 : decode cX7_copyFrom 121 = .ok (.getfield 27, 3) := by decide +kernel
theorem dX7_copyFrom_124 : decode cX7_copyFrom 124 = .ok (.iconst 0, 1) := by decide +kernel
theorem dX7_copyFrom_125 : decode cX7_copyFrom 125 = .ok (.aload_n 0, 1) := by decide +kernel
theorem dX7_copyFrom_126 : decode cX7_copyFrom 126 = .ok (.getfield 27, 3) := by decide +kernel
theorem dX7_copyFrom_129 : decode cX7_copyFrom 129 = .ok (.iconst 0, 1) := by decide +kernel
theorem dX7_copyFrom_130 : decode cX7_copyFrom 130 = .ok (.iconst 4, 1) := by decide +kernel
theorem dX7_copyFrom_131 : decode cX7_copyFrom 131 = .ok (.invokestatic 49, 3) := by decide +kernel
theorem dX7_copyFrom_134 : decode cX7_copyFrom 134 = .ok (.return_, 1) := by decide +kernel
theorem dX8_append_0 : decode cX8_append 0 = .ok (.bipush 24, 2) := by decide +kernel
theorem dX8_append_2 : decode cX8_append 2 = .ok (.istore_n 2, 1) := by decide +kernel
theorem dX8_append_3 : decode cX8_append 3 = .ok (.iload_n 2, 1) := by decide +kernel
theorem dX8_append_4 : decode cX8_append 4 = .ok (.ifCond .lt 42, 3) := by decide +kernel
theorem dX8_append_7 : decode cX8_append 7 = .ok (.aload_n 0, 1) := by decide +kernel
theorem dX8_append_8 : decode cX8_append 8 = .ok (.getfield 49, 3) := by decide +kernel
theorem dX8_append_11 : decode cX8_append 11 = .ok (.sipush 600, 3) := by decide +kernel
theorem dX8_append_14 : decode cX8_append 14 = .ok (.if_icmp .ge 32, 3) := by decide +kernel
theorem dX8_append_17 : decode cX8_append 17 = .ok (.aload_n 0, 1) := by decide +kernel
theorem dX8_append_18 : decode cX8_append 18 = .ok (.getfield 9, 3) := by decide +kernel
theorem dX8_append_21 : decode cX8_append 21 = .ok (.aload_n 0, 1) := by decide +kernel
theorem dX8_append_22 : decode cX8_append 22 = .ok (.getfield 49, 3) := by decide +kernel
theorem dX8_append_25 : decode cX8_append 25 = .ok (.iload_n 1, 1) := by decide +kernel
theorem dX8_append_26 : decode cX8_append 26 = .ok (.iload_n 2, 1) := by decide +kernel
theorem dX8_append_27 : decode cX8_append 27 = .ok (.iushr, 1) := by decide +kernel
theorem dX8_append_28 : decode cX8_append 28 = .ok (.i2b, 1) := by decide +kernel
theorem dX8_append_29 : decode cX8_append 29 = .ok (.bastore, 1) := by decide +kernel
theorem dX8_append_30 : decode cX8_append 30 = .ok (.aload_n 0, 1) := by decide +kernel
theorem dX8_append_31 : decode cX8_append 31 = .ok (.dup, 1) := by decide +kernel
theorem dX8_append_32 : decode cX8_append 32 = .ok (.getfield 49, 3) := by decide +kernel
theorem dX8_append_35 : decode cX8_append 35 = .ok (.iconst 1, 1) := by decide +kernel
theorem dX8_append_36 : decode cX8_append 36 = .ok (.iadd, 1) := by decide +kernel
theorem dX8_append_37 : decode cX8_append 37 = .ok (.putfield 49, 3) := by decide +kernel
theorem dX8_append_40 : decode cX8_append 40 = .ok (.iinc 2 (-8), 3) := by decide +kernel
theorem dX8_append_43 : decode cX8_append 43 = .ok (.goto (-40), 3) := by decide +kernel
theorem dX8_append_46 : decode cX8_append 46 = .ok (.return_, 1) := by decide +kernel
theorem dX8_howMany_0 : decode cX8_howMany 0 = .ok (.iload_n 1, 1) := by decide +kernel
theorem dX8_howMany_1 : decode cX8_howMany 1 = .ok (.tableswitch 42 0 2 #[27, 32, 37], 27) := by decide +kernel
theorem dX8_howMany_28 : decode cX8_howMany 28 = .ok (.aload_n 0, 1) := by decide +kernel
theorem dX8_howMany_29 : decode cX8_howMany 29 = .ok (.getfield 52, 3) := by decide +kernel
theorem dX8_howMany_32 : decode cX8_howMany 32 = .ok (.ireturn, 1) := by decide +kernel
theorem dX8_howMany_33 : decode cX8_howMany 33 = .ok (.aload_n 0, 1) := by decide +kernel
theorem dX8_howMany_34 : decode cX8_howMany 34 = .ok (.getfield 55, 3) := by decide +kernel
theorem dX8_howMany_37 : decode cX8_howMany 37 = .ok (.ireturn, 1) := by decide +kernel
theorem dX8_howMany_38 : decode cX8_howMany 38 = .ok (.aload_n 0, 1) := by decide +kernel
theorem dX8_howMany_39 : decode cX8_howMany 39 = .ok (.getfield 58, 3) := by decide +kernel
theorem dX8_howMany_42 : decode cX8_howMany 42 = .ok (.ireturn, 1) := by decide +kernel
theorem dX8_howMany_43 : decode cX8_howMany 43 = .ok (.bipush (-2), 2) := by decide +kernel
theorem dX8_howMany_45 : decode cX8_howMany 45 = .ok (.ireturn, 1) := by decide +kernel
theorem dX8_theatreAt_0 : decode cX8_theatreAt 0 = .ok (.iload_n 1, 1) := by decide +kernel
theorem dX8_theatreAt_1 : decode cX8_theatreAt 1 = .ok (.ifCond .lt 11, 3) := by decide +kernel
theorem dX8_theatreAt_4 : decode cX8_theatreAt 4 = .ok (.iload_n 1, 1) := by decide +kernel
theorem dX8_theatreAt_5 : decode cX8_theatreAt 5 = .ok (.aload_n 0, 1) := by decide +kernel
theorem dX8_theatreAt_6 : decode cX8_theatreAt 6 = .ok (.getfield 52, 3) := by decide +kernel
theorem dX8_theatreAt_9 : decode cX8_theatreAt 9 = .ok (.if_icmp .lt 5, 3) := by decide +kernel
theorem dX8_theatreAt_12 : decode cX8_theatreAt 12 = .ok (.aconst_null, 1) := by decide +kernel
theorem dX8_theatreAt_13 : decode cX8_theatreAt 13 = .ok (.areturn, 1) := by decide +kernel
theorem dX8_bookAt_0 : decode cX8_bookAt 0 = .ok (.iload_n 1, 1) := by decide +kernel
theorem dX8_bookAt_1 : decode cX8_bookAt 1 = .ok (.ifCond .lt 11, 3) := by decide +kernel
theorem dX8_bookAt_4 : decode cX8_bookAt 4 = .ok (.iload_n 1, 1) := by decide +kernel
theorem dX8_bookAt_5 : decode cX8_bookAt 5 = .ok (.aload_n 0, 1) := by decide +kernel
theorem dX8_bookAt_6 : decode cX8_bookAt 6 = .ok (.getfield 55, 3) := by decide +kernel
theorem dX8_bookAt_9 : decode cX8_bookAt 9 = .ok (.if_icmp .lt 5, 3) := by decide +kernel
theorem dX8_bookAt_12 : decode cX8_bookAt 12 = .ok (.aconst_null, 1) := by decide +kernel
theorem dX8_bookAt_13 : decode cX8_bookAt 13 = .ok (.areturn, 1) := by decide +kernel
theorem dX8_darkAt_0 : decode cX8_darkAt 0 = .ok (.iload_n 1, 1) := by decide +kernel
theorem dX8_darkAt_1 : decode cX8_darkAt 1 = .ok (.ifCond .lt 11, 3) := by decide +kernel
theorem dX8_darkAt_4 : decode cX8_darkAt 4 = .ok (.iload_n 1, 1) := by decide +kernel
theorem dX8_darkAt_5 : decode cX8_darkAt 5 = .ok (.aload_n 0, 1) := by decide +kernel
theorem dX8_darkAt_6 : decode cX8_darkAt 6 = .ok (.getfield 58, 3) := by decide +kernel
theorem dX8_darkAt_9 : decode cX8_darkAt 9 = .ok (.if_icmp .lt 5, 3) := by decide +kernel
theorem dX8_darkAt_12 : decode cX8_darkAt 12 = .ok (.aconst_null, 1) := by decide +kernel
theorem dX8_darkAt_13 : decode cX8_darkAt 13 = .ok (.areturn, 1) := by decide +kernel
set_option maxRecDepth 20000 in
theorem ggX8_put_X7_copyFrom : GoodIn wsX8_put wsX7_copyFrom := goodIn_r _ [18, 19, 20, 21, 22, 23, 24, 25, 26, 27, 28, 29, 30, 31, 32, 33, 34, 74, 75, 76, 77, 78, 79, 80, 81, 82, 83, 84, 85] (by decide +kernel) (by decide +kernel)
set_option maxRecDepth 20000 in
theorem gX8_put_X7_copyFrom : GoodIn wsX8_put (wsV RX8 66 RX7 yX7_copyFrom wsX7_copyFrom) := goodIn_app (goodIn_of _ (by decide +kernel)) ggX8_put_X7_copyFrom
set_option maxRecDepth 20000 in
theorem ggX8_put_X0_copyFrom : GoodIn wsX8_put wsX0_copyFrom := goodIn_r _ [39, 40, 41, 42, 27, 28, 29, 86, 87] (by decide +kernel) (by decide +kernel)
set_option maxRecDepth 20000 in
theorem gX8_put_X0_copyFrom : GoodIn wsX8_put (wsV RX8 79 RX0 yX0_copyFrom wsX0_copyFrom) := goodIn_app (goodIn_of _ (by decide +kernel)) ggX8_put_X0_copyFrom
set_option maxRecDepth 20000 in
theorem ggX8_put_X1_copyFrom : GoodIn wsX8_put wsX1_copyFrom := goodIn_r _ [47, 48, 49, 50, 27, 28, 29, 88, 89] (by decide +kernel) (by decide +kernel)
set_option maxRecDepth 20000 in
theorem gX8_put_X1_copyFrom : GoodIn wsX8_put (wsV RX8 85 RX1 yX1_copyFrom wsX1_copyFrom) := goodIn_app (goodIn_of _ (by decide +kernel)) ggX8_put_X1_copyFrom
theorem dX8_put_0 : decode cX8_put 0 = .ok (.iload_n 1, 1) := by decide +kernel
theorem dX8_put_1 : decode cX8_put 1 = .ok (.ifCond .ne 42, 3) := by decide +kernel
theorem dX8_put_4 : decode cX8_put 4 = .ok (.iload_n 2, 1) := by decide +kernel
theorem dX8_put_5 : decode cX8_put 5 = .ok (.ifCond .ne 10, 3) := by decide +kernel
theorem dX8_put_8 : decode cX8_put 8 = .ok (.aload_n 0, 1) := by decide +kernel
theorem dX8_put_9 : decode cX8_put 9 = .ok (.getfield 22, 3) := by decide +kernel
theorem dX8_put_12 : decode cX8_put 12 = .ok (.goto 7, 3) := by decide +kernel
theorem dX8_put_19 : decode cX8_put 19 = .ok (.aload_n 3, 1) := by decide +kernel
theorem dX8_put_20 : decode cX8_put 20 = .ok (.getfield 61, 3) := by decide +kernel
theorem dX8_put_23 : decode cX8_put 23 = .ok (.invokevirtual 66, 3) := by decide +kernel
theorem dX8_put_26 : decode cX8_put 26 = .ok (.aload_n 0, 1) := by decide +kernel
theorem dX8_put_27 : decode cX8_put 27 = .ok (.aload_n 0, 1) := by decide +kernel
theorem dX8_put_28 : decode cX8_put 28 = .ok (.getfield 52, 3) := by decide +kernel
theorem dX8_put_31 : decode cX8_put 31 = .ok (.iload_n 2, 1) := by decide +kernel
theorem dX8_put_32 : decode cX8_put 32 = .ok (.iconst 1, 1) := by decide +kernel
theorem dX8_put_33 : decode cX8_put 33 = .ok (.iadd, 1) := by decide +kernel
theorem dX8_put_34 : decode cX8_put 34 = .ok (.invokestatic 70, 3) := by decide +kernel
theorem dX8_put_37 : decode cX8_put 37 = .ok (.putfield 52, 3) := by decide +kernel
theorem dX8_put_40 : decode cX8_put 40 = .ok (.goto 83, 3) := by decide +kernel
theorem dX8_put_43 : decode cX8_put 43 = .ok (.iload_n 1, 1) := by decide +kernel
theorem dX8_put_44 : decode cX8_put 44 = .ok (.iconst 1, 1) := by decide +kernel
theorem dX8_put_45 : decode cX8_put 45 = .ok (.if_icmp .ne 42, 3) := by decide +kernel
theorem dX8_put_48 : decode cX8_put 48 = .ok (.iload_n 2, 1) := by decide +kernel
theorem dX8_put_49 : decode cX8_put 49 = .ok (.ifCond .ne 10, 3) := by decide +kernel
theorem dX8_put_52 : decode cX8_put 52 = .ok (.aload_n 0, 1) := by decide +kernel
theorem dX8_put_53 : decode cX8_put 53 = .ok (.getfield 32, 3) := by decide +kernel
theorem dX8_put_56 : decode cX8_put 56 = .ok (.goto 7, 3) := by decide +kernel
theorem dX8_put_63 : decode cX8_put 63 = .ok (.aload_n 3, 1) := by decide +kernel
theorem dX8_put_64 : decode cX8_put 64 = .ok (.getfield 76, 3) := by decide +kernel
theorem dX8_put_67 : decode cX8_put 67 = .ok (.invokevirtual 79, 3) := by decide +kernel
theorem dX8_put_70 : decode cX8_put 70 = .ok (.aload_n 0, 1) := by decide +kernel
theorem dX8_put_71 : decode cX8_put 71 = .ok (.aload_n 0, 1) := by decide +kernel
theorem dX8_put_72 : decode cX8_put 72 = .ok (.getfield 55, 3) := by decide +kernel
theorem dX8_put_75 : decode cX8_put 75 = .ok (.iload_n 2, 1) := by decide +kernel
theorem dX8_put_76 : decode cX8_put 76 = .ok (.iconst 1, 1) := by decide +kernel
theorem dX8_put_77 : decode cX8_put 77 = .ok (.iadd, 1) := by decide +kernel
theorem dX8_put_78 : decode cX8_put 78 = .ok (.invokestatic 70, 3) := by decide +kernel
theorem dX8_put_81 : decode cX8_put 81 = .ok (.putfield 55, 3) := by decide +kernel
theorem dX8_put_84 : decode cX8_put 84 = .ok (.goto 39, 3) := by decide +kernel
theorem dX8_put_87 : decode cX8_put 87 = .ok (.iload_n 2, 1) := by decide +kernel
theorem dX8_put_88 : decode cX8_put 88 = .ok (.ifCond .ne 10, 3) := by decide +kernel
theorem dX8_put_91 : decode cX8_put 91 = .ok (.aload_n 0, 1) := by decide +kernel
theorem dX8_put_92 : decode cX8_put 92 = .ok (.getfield 42, 3) := by decide +kernel
theorem dX8_put_95 : decode cX8_put 95 = .ok (.goto 7, 3) := by decide +kernel
theorem dX8_put_102 : decode cX8_put 102 = .ok (.aload_n 3, 1) := by decide +kernel
theorem dX8_put_103 : decode cX8_put 103 = .ok (.getfield 82, 3) := by decide +kernel
theorem dX8_put_106 : decode cX8_put 106 = .ok (.invokevirtual 85, 3) := by decide +kernel
theorem dX8_put_109 : decode cX8_put 109 = .ok (.aload_n 0, 1) := by decide +kernel
theorem dX8_put_110 : decode cX8_put 110 = .ok (.aload_n 0, 1) := by decide +kernel
theorem dX8_put_111 : decode cX8_put 111 = .ok (.getfield 58, 3) := by decide +kernel
theorem dX8_put_114 : decode cX8_put 114 = .ok (.iload_n 2, 1) := by decide +kernel
theorem dX8_put_115 : decode cX8_put 115 = .ok (.iconst 1, 1) := by decide +kernel
theorem dX8_put_116 : decode cX8_put 116 = .ok (.iadd, 1) := by decide +kernel
theorem dX8_put_117 : decode cX8_put 117 = .ok (.invokestatic 70, 3) := by decide +kernel
theorem dX8_put_120 : decode cX8_put 120 = .ok (.putfield 58, 3) := by decide +kernel
theorem dX8_put_123 : decode cX8_put 123 = .ok (.return_, 1) := by decide +kernel
set_option maxRecDepth 20000 in
theorem ggX8_copyFrom_X7_copyFrom : GoodIn wsX8_copyFrom wsX7_copyFrom := goodIn_r _ [22, 23, 24, 25, 26, 27, 28, 29, 30, 3, 4, 5, 31, 32, 33, 34, 35, 65, 66, 67, 68, 69, 70, 71, 72, 73, 74, 75, 76] (by decide +kernel) (by decide +kernel)
set_option maxRecDepth 20000 in
theorem gX8_copyFrom_X7_copyFrom : GoodIn wsX8_copyFrom (wsV RX8 66 RX7 yX7_copyFrom wsX7_copyFrom) := goodIn_app (goodIn_of _ (by decide +kernel)) ggX8_copyFrom_X7_copyFrom
set_option maxRecDepth 20000 in
theorem ggX8_copyFrom_X0_copyFrom : GoodIn wsX8_copyFrom wsX0_copyFrom := goodIn_r _ [40, 41, 42, 43, 3, 4, 5, 77, 78] (by decide +kernel) (by decide +kernel)
set_option maxRecDepth 20000 in
theorem gX8_copyFrom_X0_copyFrom : GoodIn wsX8_copyFrom (wsV RX8 79 RX0 yX0_copyFrom wsX0_copyFrom) := goodIn_app (goodIn_of _ (by decide +kernel)) ggX8_copyFrom_X0_copyFrom
set_option maxRecDepth 20000 in
theorem ggX8_copyFrom_X1_copyFrom : GoodIn wsX8_copyFrom wsX1_copyFrom := goodIn_r _ [48, 49, 50, 51, 3, 4, 5, 79, 80] (by decide +kernel) (by decide +kernel)
set_option maxRecDepth 20000 in
theorem gX8_copyFrom_X1_copyFrom : GoodIn wsX8_copyFrom (wsV RX8 85 RX1 yX1_copyFrom wsX1_copyFrom) := goodIn_app (goodIn_of _ (by decide +kernel)) ggX8_copyFrom_X1_copyFrom
theorem dX8_copyFrom_0 : decode cX8_copyFrom 0 = .ok (.aload_n 1, 1) := by decide +kernel
theorem dX8_copyFrom_1 : decode cX8_copyFrom 1 = .ok (.getfield 9, 3) := by decide +kernel
theorem dX8_copyFrom_4 : decode cX8_copyFrom 4 = .ok (.iconst 0, 1) := by decide +kernel
theorem dX8_copyFrom_5 : decode cX8_copyFrom 5 = .ok (.aload_n 0, 1) := by decide +kernel
theorem dX8_copyFrom_6 : decode cX8_copyFrom 6 = .ok (.getfield 9, 3) := by decide +kernel
theorem dX8_copyFrom_9 : decode cX8_copyFrom 9 = .ok (.iconst 0, 1) := by decide +kernel
theorem dX8_copyFrom_10 : decode cX8_copyFrom 10 = .ok (.sipush 600, 3) := by decide +kernel
theorem dX8_copyFrom_13 : decode cX8_copyFrom 13 = .ok (.invokestatic 88, 3) := by decide +kernel
theorem dX8_copyFrom_16 : decode cX8_copyFrom 16 = .ok (.aload_n 0, 1) := by decide +kernel
theorem dX8_copyFrom_17 : decode cX8_copyFrom 17 = .ok (.aload_n 1, 1) := by decide +kernel
theorem dX8_copyFrom_18 : decode cX8_copyFrom 18 = .ok (.getfield 49, 3) := by decide +kernel
theorem dX8_copyFrom_21 : decode cX8_copyFrom 21 = .ok (.putfield 49, 3) := by decide +kernel
theorem dX8_copyFrom_24 : decode cX8_copyFrom 24 = .ok (.aload_n 0, 1) := by decide +kernel
theorem dX8_copyFrom_25 : decode cX8_copyFrom 25 = .ok (.aload_n 1, 1) := by decide +kernel
theorem dX8_copyFrom_26 : decode cX8_copyFrom 26 = .ok (.getfield 94, 3) := by decide +kernel
theorem dX8_copyFrom_29 : decode cX8_copyFrom 29 = .ok (.putfield 94, 3) := by decide +kernel
theorem dX8_copyFrom_32 : decode cX8_copyFrom 32 = .ok (.aload_n 0, 1) := by decide +kernel
theorem dX8_copyFrom_33 : decode cX8_copyFrom 33 = .ok (.aload_n 1, 1) := by decide +kernel
theorem dX8_copyFrom_34 : decode cX8_copyFrom 34 = .ok (.getfield 15, 3) := by decide +kernel
theorem dX8_copyFrom_37 : decode cX8_copyFrom 37 = .ok (.putfield 15, 3) := by decide +kernel
theorem dX8_copyFrom_40 : decode cX8_copyFrom 40 = .ok (.aload_n 0, 1) := by decide +kernel
theorem dX8_copyFrom_41 : decode cX8_copyFrom 41 = .ok (.aload_n 1, 1) := by decide +kernel
theorem dX8_copyFrom_42 : decode cX8_copyFrom 42 = .ok (.getfield 52, 3) := by decide +kernel
theorem dX8_copyFrom_45 : decode cX8_copyFrom 45 = .ok (.putfield 52, 3) := by decide +kernel
theorem dX8_copyFrom_48 : decode cX8_copyFrom 48 = .ok (.aload_n 0, 1) := by decide +kernel
theorem dX8_copyFrom_49 : decode cX8_copyFrom 49 = .ok (.aload_n 1, 1) := by decide +kernel
theorem dX8_copyFrom_50 : decode cX8_copyFrom 50 = .ok (.getfield 55, 3) := by decide +kernel
theorem dX8_copyFrom_53 : decode cX8_copyFrom 53 = .ok (.putfield 55, 3) := by decide +kernel
theorem dX8_copyFrom_56 : decode cX8_copyFrom 56 = .ok (.aload_n 0, 1) := by decide +kernel
theorem dX8_copyFrom_57 : decode cX8_copyFrom 57 = .ok (.aload_n 1, 1) := by decide +kernel
theorem dX8_copyFrom_58 : decode cX8_copyFrom 58 = .ok (.getfield 58, 3) := by decide +kernel
theorem dX8_copyFrom_61 : decode cX8_copyFrom 61 = .ok (.putfield 58, 3) := by decide +kernel
theorem dX8_copyFrom_64 : decode cX8_copyFrom 64 = .ok (.aload_n 0, 1) := by decide +kernel
theorem dX8_copyFrom_65 : decode cX8_copyFrom 65 = .ok (.getfield 22, 3) := by decide +kernel
theorem dX8_copyFrom_68 : decode cX8_copyFrom 68 = .ok (.aload_n 1, 1) := by decide +kernel
theorem dX8_copyFrom_69 : decode cX8_copyFrom 69 = .ok (.getfield 22, 3) := by decide +kernel
theorem dX8_copyFrom_72 : decode cX8_copyFrom 72 = .ok (.invokevirtual 66, 3) := by decide +kernel
theorem dX8_copyFrom_75 : decode cX8_copyFrom 75 = .ok (.aload_n 0, 1) := by decide +kernel
theorem dX8_copyFrom_76 : decode cX8_copyFrom 76 = .ok (.getfield 26, 3) := by decide +kernel
theorem dX8_copyFrom_79 : decode cX8_copyFrom 79 = .ok (.aload_n 1, 1) := by decide +kernel
theorem dX8_copyFrom_80 : decode cX8_copyFrom 80 = .ok (.getfield 26, 3) := by decide +kernel
theorem dX8_copyFrom_83 : decode cX8_copyFrom 83 = .ok (.invokevirtual 66, 3) := by decide +kernel
theorem dX8_copyFrom_86 : decode cX8_copyFrom 86 = .ok (.aload_n 0, 1) := by decide +kernel
theorem dX8_copyFrom_87 : decode cX8_copyFrom 87 = .ok (.getfield 32, 3) := by decide +kernel
theorem dX8_copyFrom_90 : decode cX8_copyFrom 90 = .ok (.aload_n 1, 1) := by decide +kernel
theorem dX8_copyFrom_91 : decode cX8_copyFrom 91 = .ok (.getfield 32, 3) := by decide +kernel
theorem dX8_copyFrom_94 : decode cX8_copyFrom 94 = .ok (.invokevirtual 79, 3) := by decide +kernel
theorem dX8_copyFrom_97 : decode cX8_copyFrom 97 = .ok (.aload_n 0, 1) := by decide +kernel
theorem dX8_copyFrom_98 : decode cX8_copyFrom 98 = .ok (.getfield 36, 3) := by decide +kernel
theorem dX8_copyFrom_101 : decode cX8_copyFrom 101 = .ok (.aload_n 1, 1) := by decide +kernel
theorem dX8_copyFrom_102 : decode cX8_copyFrom 102 = .ok (.getfield 36, 3) := by decide +kernel
theorem dX8_copyFrom_105 : decode cX8_copyFrom 105 = .ok (.invokevirtual 79, 3) := by decide +kernel
theorem dX8_copyFrom_108 : decode cX8_copyFrom 108 = .ok (.aload_n 0, 1) := by decide +kernel
theorem dX8_copyFrom_109 : decode cX8_copyFrom 109 = .ok (.getfield 42, 3) := by decide +kernel
theorem dX8_copyFrom_112 : decode cX8_copyFrom 112 = .ok (.aload_n 1, 1) := by decide +kernel
theorem dX8_copyFrom_113 : decode cX8_copyFrom 113 = .ok (.getfield 42, 3) := by decide +kernel
theorem dX8_copyFrom_116 : decode cX8_copyFrom 116 = .ok (.invokevirtual 85, 3) := by decide +kernel
theorem dX8_copyFrom_119 : decode cX8_copyFrom 119 = .ok (.aload_n 0, 1) := by decide +kernel
theorem dX8_copyFrom_120 : decode cX8_copyFrom 120 = .ok (.getfield 46, 3) := by decide +kernel
theorem dX8_copyFrom_123 : decode cX8_copyFrom 123 = .ok (.aload_n 1, 1) := by decide +kernel
theorem dX8_copyFrom_124 : decode cX8_copyFrom 124 = .ok (.getfield 46, 3) := by decide +kernel
theorem dX8_copyFrom_127 : decode cX8_copyFrom 127 = .ok (.invokevirtual 85, 3) := by decide +kernel
theorem dX8_copyFrom_130 : decode cX8_copyFrom 130 = .ok (.return_, 1) := by decide +kernel
set_option maxRecDepth 20000 in
theorem ggX9_feed_X8_append : GoodIn wsX9_feed wsX8_append := goodIn_r _ [6, 7, 8, 16, 17, 18, 19, 20, 21, 22, 23, 24, 25, 26, 27, 28] (by decide +kernel) (by decide +kernel)
set_option maxRecDepth 20000 in
theorem gX9_feed_X8_append : GoodIn wsX9_feed (wsV RX9 59 RX8 yX8_append wsX8_append) := goodIn_app (goodIn_of _ (by decide +kernel)) ggX9_feed_X8_append
theorem dX9_feed_0 : decode cX9_feed 0 = .ok (.aload_n 0, 1) := by decide +kernel
theorem dX9_feed_1 : decode cX9_feed 1 = .ok (.getfield 10, 3) := by decide +kernel
theorem dX9_feed_4 : decode cX9_feed 4 = .ok (.getfield 55, 3) := by decide +kernel
theorem dX9_feed_7 : decode cX9_feed 7 = .ok (.bipush 20, 2) := by decide +kernel
theorem dX9_feed_9 : decode cX9_feed 9 = .ok (.iadd, 1) := by decide +kernel
theorem dX9_feed_10 : decode cX9_feed 10 = .ok (.sipush 600, 3) := by decide +kernel
theorem dX9_feed_13 : decode cX9_feed 13 = .ok (.if_icmp .le 5, 3) := by decide +kernel
theorem dX9_feed_18 : decode cX9_feed 18 = .ok (.aload_n 0, 1) := by decide +kernel
theorem dX9_feed_19 : decode cX9_feed 19 = .ok (.getfield 10, 3) := by decide +kernel
theorem dX9_feed_22 : decode cX9_feed 22 = .ok (.iload_n 1, 1) := by decide +kernel
theorem dX9_feed_23 : decode cX9_feed 23 = .ok (.invokevirtual 59, 3) := by decide +kernel
theorem dX9_feed_26 : decode cX9_feed 26 = .ok (.aload_n 0, 1) := by decide +kernel
theorem dX9_feed_27 : decode cX9_feed 27 = .ok (.getfield 10, 3) := by decide +kernel
theorem dX9_feed_30 : decode cX9_feed 30 = .ok (.iload_n 2, 1) := by decide +kernel
theorem dX9_feed_31 : decode cX9_feed 31 = .ok (.invokevirtual 59, 3) := by decide +kernel
theorem dX9_feed_34 : decode cX9_feed 34 = .ok (.aload_n 0, 1) := by decide +kernel
theorem dX9_feed_35 : decode cX9_feed 35 = .ok (.getfield 10, 3) := by decide +kernel
theorem dX9_feed_38 : decode cX9_feed 38 = .ok (.iload_n 3, 1) := by decide +kernel
theorem dX9_feed_39 : decode cX9_feed 39 = .ok (.invokevirtual 59, 3) := by decide +kernel
theorem dX9_feed_42 : decode cX9_feed 42 = .ok (.aload_n 0, 1) := by decide +kernel
theorem dX9_feed_43 : decode cX9_feed 43 = .ok (.getfield 10, 3) := by decide +kernel
theorem dX9_feed_46 : decode cX9_feed 46 = .ok (.iload 4, 2) := by decide +kernel
theorem dX9_feed_48 : decode cX9_feed 48 = .ok (.invokevirtual 59, 3) := by decide +kernel
theorem dX9_feed_51 : decode cX9_feed 51 = .ok (.aload_n 0, 1) := by decide +kernel
theorem dX9_feed_52 : decode cX9_feed 52 = .ok (.getfield 10, 3) := by decide +kernel
theorem dX9_feed_55 : decode cX9_feed 55 = .ok (.iload 5, 2) := by decide +kernel
theorem dX9_feed_57 : decode cX9_feed 57 = .ok (.invokevirtual 59, 3) := by decide +kernel
theorem dX9_feed_60 : decode cX9_feed 60 = .ok (.aload_n 0, 1) := by decide +kernel
theorem dX9_feed_61 : decode cX9_feed 61 = .ok (.getfield 10, 3) := by decide +kernel
theorem dX9_feed_64 : decode cX9_feed 64 = .ok (.getfield 55, 3) := by decide +kernel
theorem dX9_feed_67 : decode cX9_feed 67 = .ok (.ireturn, 1) := by decide +kernel
theorem dX9_end_0 : decode cX9_end 0 = .ok (.iload_n 1, 1) := by decide +kernel
theorem dX9_end_1 : decode cX9_end 1 = .ok (.ifCond .lt 14, 3) := by decide +kernel
theorem dX9_end_4 : decode cX9_end 4 = .ok (.iload_n 1, 1) := by decide +kernel
theorem dX9_end_5 : decode cX9_end 5 = .ok (.aload_n 0, 1) := by decide +kernel
theorem dX9_end_6 : decode cX9_end 6 = .ok (.getfield 10, 3) := by decide +kernel
theorem dX9_end_9 : decode cX9_end 9 = .ok (.getfield 55, 3) := by decide +kernel
theorem dX9_end_12 : decode cX9_end 12 = .ok (.if_icmp .le 5, 3) := by decide +kernel
theorem dX9_end_15 : decode cX9_end 15 = .ok (.iconst (-1), 1) := by decide +kernel
theorem dX9_end_16 : decode cX9_end 16 = .ok (.ireturn, 1) := by decide +kernel
theorem dX9_end_17 : decode cX9_end 17 = .ok (.aload_n 0, 1) := by decide +kernel
theorem dX9_end_18 : decode cX9_end 18 = .ok (.getfield 10, 3) := by decide +kernel
theorem dX9_end_21 : decode cX9_end 21 = .ok (.iload_n 1, 1) := by decide +kernel
theorem dX9_end_22 : decode cX9_end 22 = .ok (.putfield 55, 3) := by decide +kernel
theorem dX9_end_25 : decode cX9_end 25 = .ok (.iload_n 1, 1) := by decide +kernel
theorem dX9_end_26 : decode cX9_end 26 = .ok (.ireturn, 1) := by decide +kernel
set_option maxRecDepth 20000 in
theorem ggX9_text_X8_howMany : GoodIn wsX9_text wsX8_howMany := goodIn_r _ [7, 8, 9, 10, 213, 214, 215, 216, 217, 218, 219, 220, 221, 222, 223, 224, 225] (by decide +kernel) (by decide +kernel)
set_option maxRecDepth 20000 in
theorem gX9_text_X8_howMany : GoodIn wsX9_text (wsV RX9 69 RX8 yX8_howMany wsX8_howMany) := goodIn_app (goodIn_of _ (by decide +kernel)) ggX9_text_X8_howMany
set_option maxRecDepth 20000 in
theorem ggX9_text_X5_read : GoodIn wsX9_text wsX5_read := goodIn_r _ [15, 16, 17, 18, 19, 20, 21, 22, 23, 24, 25, 26, 27, 28, 29, 30, 31, 32, 33, 34, 35, 36, 14, 37, 38, 39, 40, 41, 42, 43, 44, 45, 46, 47, 48, 49, 50, 51, 52, 53, 54, 55, 56, 57, 58, 59, 60, 61, 62, 63, 64, 65, 66, 67, 68, 69, 70, 71, 72, 73, 74, 75, 76, 77, 78, 79, 80, 81, 82, 83, 84, 85, 86, 87, 88, 89, 90, 91, 92, 93, 94, 95, 96, 97, 98, 99, 100, 101, 102, 103, 104, 105, 106, 107, 108, 109, 110, 111, 112, 113, 114, 115, 116, 117, 118, 119, 120, 121, 122, 123, 124, 125, 126, 127, 128, 129, 130, 131, 132, 133, 134, 135, 136, 137, 138, 139, 140, 141, 142, 143, 144, 145, 146, 147, 148, 149, 150, 151, 152, 153, 154, 155, 156, 157, 158, 159, 160, 161, 162, 163, 164, 165, 166, 167, 168, 169, 170, 171, 172, 173, 174, 226, 227, 228, 229, 230, 231, 232, 233, 234, 235, 236, 237, 238, 239, 240, 241, 242, 243, 244, 245, 246, 247, 248, 249, 250, 251] (by decide +kernel) (by decide +kernel)
set_option maxRecDepth 20000 in
theorem gX9_text_X5_read : GoodIn wsX9_text (wsV RX9 77 RX5 yX5_read wsX5_read) := goodIn_app (goodIn_of _ (by decide +kernel)) ggX9_text_X5_read
set_option maxRecDepth 20000 in
theorem ggX9_text_X8_put : GoodIn wsX9_text wsX8_put := goodIn_r _ [178, 179, 180, 8, 181, 182, 42, 183, 184, 185, 9, 186, 187, 10, 188, 189, 190, 26, 191, 28, 29, 30, 31, 32, 33, 147, 192, 193, 194, 195, 148, 153, 154, 159, 160, 196, 197, 198, 171, 199, 173, 174, 200, 201, 202, 203, 164, 204, 166, 167, 205, 213, 214, 215, 216, 217, 218, 219, 220, 221, 222, 223, 224, 225, 226, 227, 228, 229, 230, 231, 232, 233, 234, 235, 240, 241, 242, 243, 244, 245, 246, 247, 248, 249, 250, 251, 236, 237, 238, 239] (by decide +kernel) (by decide +kernel)
set_option maxRecDepth 20000 in
theorem gX9_text_X8_put : GoodIn wsX9_text (wsV RX9 83 RX8 yX8_put wsX8_put) := goodIn_app (goodIn_of _ (by decide +kernel)) ggX9_text_X8_put
theorem dX9_text_0 : decode cX9_text 0 = .ok (.aload_n 0, 1) := by decide +kernel
theorem dX9_text_1 : decode cX9_text 1 = .ok (.getfield 10, 3) := by decide +kernel
theorem dX9_text_4 : decode cX9_text 4 = .ok (.getfield 55, 3) := by decide +kernel
theorem dX9_text_7 : decode cX9_text 7 = .ok (.istore_n 3, 1) := by decide +kernel
theorem dX9_text_8 : decode cX9_text 8 = .ok (.aload_n 0, 1) := by decide +kernel
theorem dX9_text_9 : decode cX9_text 9 = .ok (.getfield 10, 3) := by decide +kernel
theorem dX9_text_12 : decode cX9_text 12 = .ok (.iconst 0, 1) := by decide +kernel
theorem dX9_text_13 : decode cX9_text 13 = .ok (.putfield 55, 3) := by decide +kernel
theorem dX9_text_16 : decode cX9_text 16 = .ok (.aload_n 0, 1) := by decide +kernel
theorem dX9_text_17 : decode cX9_text 17 = .ok (.getfield 10, 3) := by decide +kernel
theorem dX9_text_20 : decode cX9_text 20 = .ok (.iconst 0, 1) := by decide +kernel
theorem dX9_text_21 : decode cX9_text 21 = .ok (.putfield 63, 3) := by decide +kernel
theorem dX9_text_24 : decode cX9_text 24 = .ok (.aload_n 0, 1) := by decide +kernel
theorem dX9_text_25 : decode cX9_text 25 = .ok (.getfield 10, 3) := by decide +kernel
theorem dX9_text_28 : decode cX9_text 28 = .ok (.iconst (-1), 1) := by decide +kernel
theorem dX9_text_29 : decode cX9_text 29 = .ok (.putfield 66, 3) := by decide +kernel
theorem dX9_text_32 : decode cX9_text 32 = .ok (.aload_n 0, 1) := by decide +kernel
theorem dX9_text_33 : decode cX9_text 33 = .ok (.getfield 10, 3) := by decide +kernel
theorem dX9_text_36 : decode cX9_text 36 = .ok (.iload_n 1, 1) := by decide +kernel
theorem dX9_text_37 : decode cX9_text 37 = .ok (.invokevirtual 69, 3) := by decide +kernel
theorem dX9_text_40 : decode cX9_text 40 = .ok (.istore 4, 2) := by decide +kernel
theorem dX9_text_42 : decode cX9_text 42 = .ok (.iload_n 2, 1) := by decide +kernel
theorem dX9_text_43 : decode cX9_text 43 = .ok (.iconst (-1), 1) := by decide +kernel
theorem dX9_text_44 : decode cX9_text 44 = .ok (.if_icmp .ne 7, 3) := by decide +kernel
theorem dX9_text_47 : decode cX9_text 47 = .ok (.iconst 1, 1) := by decide +kernel
theorem dX9_text_48 : decode cX9_text 48 = .ok (.goto 4, 3) := by decide +kernel
theorem dX9_text_51 : decode cX9_text 51 = .ok (.iconst 0, 1) := by decide +kernel
theorem dX9_text_52 : decode cX9_text 52 = .ok (.istore 5, 2) := by decide +kernel
theorem dX9_text_54 : decode cX9_text 54 = .ok (.iload 4, 2) := by decide +kernel
theorem dX9_text_56 : decode cX9_text 56 = .ok (.ifCond .lt 29, 3) := by decide +kernel
theorem dX9_text_59 : decode cX9_text 59 = .ok (.iload 5, 2) := by decide +kernel
theorem dX9_text_61 : decode cX9_text 61 = .ok (.ifCond .eq 9, 3) := by decide +kernel
theorem dX9_text_64 : decode cX9_text 64 = .ok (.iload 4, 2) := by decide +kernel
theorem dX9_text_66 : decode cX9_text 66 = .ok (.iconst 2, 1) := by decide +kernel
theorem dX9_text_67 : decode cX9_text 67 = .ok (.if_icmp .ge 18, 3) := by decide +kernel
theorem dX9_text_70 : decode cX9_text 70 = .ok (.iload 5, 2) := by decide +kernel
theorem dX9_text_72 : decode cX9_text 72 = .ok (.ifCond .ne 16, 3) := by decide +kernel
theorem dX9_text_75 : decode cX9_text 75 = .ok (.iload_n 2, 1) := by decide +kernel
theorem dX9_text_76 : decode cX9_text 76 = .ok (.ifCond .lt 9, 3) := by decide +kernel
theorem dX9_text_79 : decode cX9_text 79 = .ok (.iload_n 2, 1) := by decide +kernel
theorem dX9_text_80 : decode cX9_text 80 = .ok (.iload 4, 2) := by decide +kernel
theorem dX9_text_82 : decode cX9_text 82 = .ok (.if_icmp .lt 6, 3) := by decide +kernel
theorem dX9_text_85 : decode cX9_text 85 = .ok (.bipush (-2), 2) := by decide +kernel
theorem dX9_text_87 : decode cX9_text 87 = .ok (.ireturn, 1) := by decide +kernel
theorem dX9_text_88 : decode cX9_text 88 = .ok (.aload_n 0, 1) := by decide +kernel
theorem dX9_text_89 : decode cX9_text 89 = .ok (.getfield 23, 3) := by decide +kernel
theorem dX9_text_92 : decode cX9_text 92 = .ok (.aload_n 0, 1) := by decide +kernel
theorem dX9_text_93 : decode cX9_text 93 = .ok (.getfield 10, 3) := by decide +kernel
theorem dX9_text_96 : decode cX9_text 96 = .ok (.getfield 73, 3) := by decide +kernel
theorem dX9_text_99 : decode cX9_text 99 = .ok (.iload_n 3, 1) := by decide +kernel
theorem dX9_text_100 : decode cX9_text 100 = .ok (.iload_n 1, 1) := by decide +kernel
theorem dX9_text_101 : decode cX9_text 101 = .ok (.invokevirtual 77, 3) := by decide +kernel
theorem dX9_text_104 : decode cX9_text 104 = .ok (.aload_n 0, 1) := by decide +kernel
theorem dX9_text_105 : decode cX9_text 105 = .ok (.getfield 10, 3) := by decide +kernel
theorem dX9_text_108 : decode cX9_text 108 = .ok (.aload_n 0, 1) := by decide +kernel
theorem dX9_text_109 : decode cX9_text 109 = .ok (.getfield 23, 3) := by decide +kernel
theorem dX9_text_112 : decode cX9_text 112 = .ok (.getfield 81, 3) := by decide +kernel
theorem dX9_text_115 : decode cX9_text 115 = .ok (.putfield 63, 3) := by decide +kernel
theorem dX9_text_118 : decode cX9_text 118 = .ok (.aload_n 0, 1) := by decide +kernel
theorem dX9_text_119 : decode cX9_text 119 = .ok (.getfield 10, 3) := by decide +kernel
theorem dX9_text_122 : decode cX9_text 122 = .ok (.aload_n 0, 1) := by decide +kernel
theorem dX9_text_123 : decode cX9_text 123 = .ok (.getfield 23, 3) := by decide +kernel
theorem dX9_text_126 : decode cX9_text 126 = .ok (.getfield 82, 3) := by decide +kernel
theorem dX9_text_129 : decode cX9_text 129 = .ok (.putfield 66, 3) := by decide +kernel
theorem dX9_text_132 : decode cX9_text 132 = .ok (.aload_n 0, 1) := by decide +kernel
theorem dX9_text_133 : decode cX9_text 133 = .ok (.getfield 23, 3) := by decide +kernel
theorem dX9_text_136 : decode cX9_text 136 = .ok (.getfield 81, 3) := by decide +kernel
theorem dX9_text_139 : decode cX9_text 139 = .ok (.ifCond .eq 5, 3) := by decide +kernel
theorem dX9_text_144 : decode cX9_text 144 = .ok (.iload 5, 2) := by decide +kernel
theorem dX9_text_146 : decode cX9_text 146 = .ok (.ifCond .eq 8, 3) := by decide +kernel
theorem dX9_text_149 : decode cX9_text 149 = .ok (.iload 4, 2) := by decide +kernel
theorem dX9_text_151 : decode cX9_text 151 = .ok (.goto 4, 3) := by decide +kernel
theorem dX9_text_155 : decode cX9_text 155 = .ok (.istore 6, 2) := by decide +kernel
theorem dX9_text_157 : decode cX9_text 157 = .ok (.aload_n 0, 1) := by decide +kernel
theorem dX9_text_158 : decode cX9_text 158 = .ok (.getfield 10, 3) := by decide +kernel
theorem dX9_text_161 : decode cX9_text 161 = .ok (.iload_n 1, 1) := by decide +kernel
theorem dX9_text_162 : decode cX9_text 162 = .ok (.iload 6, 2) := by decide +kernel
theorem dX9_text_164 : decode cX9_text 164 = .ok (.aload_n 0, 1) := by decide +kernel
theorem dX9_text_165 : decode cX9_text 165 = .ok (.getfield 23, 3) := by decide +kernel
theorem dX9_text_168 : decode cX9_text 168 = .ok (.invokevirtual 83, 3) := by decide +kernel
theorem dX9_text_171 : decode cX9_text 171 = .ok (.iload 6, 2) := by decide +kernel
theorem dX9_text_173 : decode cX9_text 173 = .ok (.ireturn, 1) := by decide +kernel
theorem dX9_fault_0 : decode cX9_fault 0 = .ok (.iload_n 1, 1) := by decide +kernel
theorem dX9_fault_1 : decode cX9_fault 1 = .ok (.ifCond .ne 11, 3) := by decide +kernel
theorem dX9_fault_4 : decode cX9_fault 4 = .ok (.aload_n 0, 1) := by decide +kernel
theorem dX9_fault_5 : decode cX9_fault 5 = .ok (.getfield 10, 3) := by decide +kernel
theorem dX9_fault_8 : decode cX9_fault 8 = .ok (.getfield 63, 3) := by decide +kernel
theorem dX9_fault_11 : decode cX9_fault 11 = .ok (.ireturn, 1) := by decide +kernel
theorem dX9_fault_12 : decode cX9_fault 12 = .ok (.iload_n 1, 1) := by decide +kernel
theorem dX9_fault_13 : decode cX9_fault 13 = .ok (.iconst 1, 1) := by decide +kernel
theorem dX9_fault_14 : decode cX9_fault 14 = .ok (.if_icmp .ne 13, 3) := by decide +kernel
theorem dX9_fault_17 : decode cX9_fault 17 = .ok (.aload_n 0, 1) := by decide +kernel
theorem dX9_fault_18 : decode cX9_fault 18 = .ok (.getfield 10, 3) := by decide +kernel
theorem dX9_fault_21 : decode cX9_fault 21 = .ok (.getfield 66, 3) := by decide +kernel
theorem dX9_fault_24 : decode cX9_fault 24 = .ok (.goto 4, 3) := by decide +kernel
theorem dX9_fault_27 : decode cX9_fault 27 = .ok (.iconst (-1), 1) := by decide +kernel
theorem dX9_fault_28 : decode cX9_fault 28 = .ok (.ireturn, 1) := by decide +kernel
set_option maxRecDepth 20000 in
theorem ggX9_theatre_X8_theatreAt : GoodIn wsX9_theatre wsX8_theatreAt := goodIn_r _ [6, 7, 8, 9, 38, 39, 40, 41, 42, 43, 44, 45, 46, 47, 48, 49, 50] (by decide +kernel) (by decide +kernel)
set_option maxRecDepth 20000 in
theorem gX9_theatre_X8_theatreAt : GoodIn wsX9_theatre (wsV RX9 87 RX8 yX8_theatreAt wsX8_theatreAt) := goodIn_app (goodIn_of _ (by decide +kernel)) ggX9_theatre_X8_theatreAt
theorem dX9_theatre_0 : decode cX9_theatre 0 = .ok (.aload_n 0, 1) := by decide +kernel
theorem dX9_theatre_1 : decode cX9_theatre 1 = .ok (.getfield 10, 3) := by decide +kernel
theorem dX9_theatre_4 : decode cX9_theatre 4 = .ok (.iload_n 1, 1) := by decide +kernel
theorem dX9_theatre_5 : decode cX9_theatre 5 = .ok (.invokevirtual 87, 3) := by decide +kernel
theorem dX9_theatre_8 : decode cX9_theatre 8 = .ok (.astore_n 3, 1) := by decide +kernel
theorem dX9_theatre_9 : decode cX9_theatre 9 = .ok (.aload_n 3, 1) := by decide +kernel
theorem dX9_theatre_10 : decode cX9_theatre 10 = .ok (.ifnonnull 7, 3) := by decide +kernel
theorem dX9_theatre_13 : decode cX9_theatre 13 = .ok (.iconst (-1), 1) := by decide +kernel
theorem dX9_theatre_14 : decode cX9_theatre 14 = .ok (.goto 8, 3) := by decide +kernel
theorem dX9_theatre_22 : decode cX9_theatre 22 = .ok (.ireturn, 1) := by decide +kernel
set_option maxRecDepth 20000 in
theorem ggX9_deed_X8_bookAt : GoodIn wsX9_deed wsX8_bookAt := goodIn_r _ [6, 7, 8, 9, 25, 26, 27, 28, 29, 30, 31, 32, 33, 34, 35, 36, 37] (by decide +kernel) (by decide +kernel)
set_option maxRecDepth 20000 in
theorem gX9_deed_X8_bookAt : GoodIn wsX9_deed (wsV RX9 96 RX8 yX8_bookAt wsX8_bookAt) := goodIn_app (goodIn_of _ (by decide +kernel)) ggX9_deed_X8_bookAt
theorem dX9_deed_0 : decode cX9_deed 0 = .ok (.aload_n 0, 1) := by decide +kernel
theorem dX9_deed_1 : decode cX9_deed 1 = .ok (.getfield 10, 3) := by decide +kernel
theorem dX9_deed_4 : decode cX9_deed 4 = .ok (.iload_n 1, 1) := by decide +kernel
theorem dX9_deed_5 : decode cX9_deed 5 = .ok (.invokevirtual 96, 3) := by decide +kernel
theorem dX9_deed_8 : decode cX9_deed 8 = .ok (.astore 4, 2) := by decide +kernel
theorem dX9_deed_10 : decode cX9_deed 10 = .ok (.aload 4, 2) := by decide +kernel
theorem dX9_deed_12 : decode cX9_deed 12 = .ok (.ifnull 12, 3) := by decide +kernel
theorem dX9_deed_24 : decode cX9_deed 24 = .ok (.bipush (-2), 2) := by decide +kernel
theorem dX9_deed_26 : decode cX9_deed 26 = .ok (.ireturn, 1) := by decide +kernel
set_option maxRecDepth 20000 in
theorem ggX9_stop_X8_theatreAt : GoodIn wsX9_stop wsX8_theatreAt := goodIn_r _ [7, 8, 9, 10, 127, 128, 129, 130, 131, 132, 133, 134, 135, 136, 137, 138, 139] (by decide +kernel) (by decide +kernel)
set_option maxRecDepth 20000 in
theorem gX9_stop_X8_theatreAt : GoodIn wsX9_stop (wsV RX9 87 RX8 yX8_theatreAt wsX8_theatreAt) := goodIn_app (goodIn_of _ (by decide +kernel)) ggX9_stop_X8_theatreAt
set_option maxRecDepth 20000 in
theorem ggX9_stop_X8_bookAt : GoodIn wsX9_stop wsX8_bookAt := goodIn_r _ [14, 15, 16, 17, 127, 128, 129, 130, 131, 132, 133, 134, 135, 136, 137, 138, 139] (by decide +kernel) (by decide +kernel)
set_option maxRecDepth 20000 in
theorem gX9_stop_X8_bookAt : GoodIn wsX9_stop (wsV RX9 96 RX8 yX8_bookAt wsX8_bookAt) := goodIn_app (goodIn_of _ (by decide +kernel)) ggX9_stop_X8_bookAt
theorem dX9_stop_0 : decode cX9_stop 0 = .ok (.aload_n 0, 1) := by decide +kernel
theorem dX9_stop_1 : decode cX9_stop 1 = .ok (.getfield 10, 3) := by decide +kernel
theorem dX9_stop_4 : decode cX9_stop 4 = .ok (.iload_n 1, 1) := by decide +kernel
theorem dX9_stop_5 : decode cX9_stop 5 = .ok (.invokevirtual 87, 3) := by decide +kernel
theorem dX9_stop_8 : decode cX9_stop 8 = .ok (.astore_n 3, 1) := by decide +kernel
theorem dX9_stop_9 : decode cX9_stop 9 = .ok (.aload_n 0, 1) := by decide +kernel
theorem dX9_stop_10 : decode cX9_stop 10 = .ok (.getfield 10, 3) := by decide +kernel
theorem dX9_stop_13 : decode cX9_stop 13 = .ok (.iload_n 2, 1) := by decide +kernel
theorem dX9_stop_14 : decode cX9_stop 14 = .ok (.invokevirtual 96, 3) := by decide +kernel
theorem dX9_stop_17 : decode cX9_stop 17 = .ok (.astore 4, 2) := by decide +kernel
theorem dX9_stop_19 : decode cX9_stop 19 = .ok (.aload_n 3, 1) := by decide +kernel
theorem dX9_stop_20 : decode cX9_stop 20 = .ok (.ifnull 8, 3) := by decide +kernel
theorem dX9_stop_28 : decode cX9_stop 28 = .ok (.iconst (-1), 1) := by decide +kernel
theorem dX9_stop_29 : decode cX9_stop 29 = .ok (.ireturn, 1) := by decide +kernel
set_option maxRecDepth 20000 in
theorem ggX9_state_X9_reach : GoodIn wsX9_state wsX9_reach := goodIn_r _ [6, 7, 1, 8, 9, 10, 11, 12, 13, 14, 15, 16, 17, 18, 19, 20, 21, 22, 23, 24, 25, 26, 27, 28, 29, 30, 31, 32, 33, 34, 35, 36, 37, 38, 39, 40, 41, 42, 43, 44, 45, 46, 47, 48, 49, 50, 51, 52, 53, 54, 55, 56, 57, 58, 59, 60, 61, 62, 63, 64, 65, 66, 67, 68, 69, 70, 71, 72, 73, 74, 75, 76, 77, 78, 79, 80, 81, 82, 83, 84, 85, 86, 87, 88, 89, 90, 91, 92, 93, 94, 95, 96, 97, 98, 99, 100, 101, 102, 103, 104, 105, 106, 107, 108, 109, 110, 111, 112, 113, 114, 115, 116, 117, 118, 119, 120, 121, 122, 123, 124, 137, 138, 139, 140, 141, 142, 143, 144, 145, 146, 147, 148, 149, 150, 151, 152, 153, 154, 155, 156, 157, 158, 159, 160, 161, 162, 163, 164, 165, 166, 167, 168, 169, 170, 171, 172, 173, 174, 175, 176, 177, 178, 179, 180, 181, 182, 183, 184] (by decide +kernel) (by decide +kernel)
set_option maxRecDepth 20000 in
theorem gX9_state_X9_reach : GoodIn wsX9_state (wsV RX9 113 RX9 yX9_reach wsX9_reach) := goodIn_app (goodIn_of _ (by decide +kernel)) ggX9_state_X9_reach
theorem dX9_state_0 : decode cX9_state 0 = .ok (.aload_n 0, 1) := by decide +kernel
theorem dX9_state_1 : decode cX9_state 1 = .ok (.iload_n 1, 1) := by decide +kernel
theorem dX9_state_2 : decode cX9_state 2 = .ok (.iload_n 2, 1) := by decide +kernel
theorem dX9_state_3 : decode cX9_state 3 = .ok (.iload_n 3, 1) := by decide +kernel
theorem dX9_state_4 : decode cX9_state 4 = .ok (.invokevirtual 113, 3) := by decide +kernel
theorem dX9_state_7 : decode cX9_state 7 = .ok (.ifCond .eq 15, 3) := by decide +kernel
theorem dX9_state_22 : decode cX9_state 22 = .ok (.bipush (-2), 2) := by decide +kernel
theorem dX9_state_24 : decode cX9_state 24 = .ok (.ireturn, 1) := by decide +kernel
set_option maxRecDepth 20000 in
theorem ggX9_palm_X9_reach : GoodIn wsX9_palm wsX9_reach := goodIn_r _ [6, 7, 1, 8, 9, 10, 11, 12, 13, 14, 15, 16, 17, 18, 19, 20, 21, 22, 23, 24, 25, 26, 27, 28, 29, 30, 31, 32, 33, 34, 35, 36, 37, 38, 39, 40, 41, 42, 43, 44, 45, 46, 47, 48, 49, 50, 51, 52, 53, 54, 55, 56, 57, 58, 59, 60, 61, 62, 63, 64, 65, 66, 67, 68, 69, 70, 71, 72, 73, 74, 75, 76, 77, 78, 79, 80, 81, 82, 83, 84, 85, 86, 87, 88, 89, 90, 91, 92, 93, 94, 95, 96, 97, 98, 99, 100, 101, 102, 103, 104, 105, 106, 107, 108, 109, 110, 111, 112, 113, 114, 115, 116, 117, 118, 119, 120, 121, 122, 123, 124, 130, 131, 132, 133, 134, 135, 136, 137, 138, 139, 140, 141, 142, 143, 144, 145, 146, 147, 148, 149, 150, 151, 152, 153, 154, 155, 156, 157, 158, 159, 160, 161, 162, 163, 164, 165, 166, 167, 168, 169, 170, 171, 172, 173, 174, 175, 176, 177] (by decide +kernel) (by decide +kernel)
set_option maxRecDepth 20000 in
theorem gX9_palm_X9_reach : GoodIn wsX9_palm (wsV RX9 113 RX9 yX9_reach wsX9_reach) := goodIn_app (goodIn_of _ (by decide +kernel)) ggX9_palm_X9_reach
theorem dX9_palm_0 : decode cX9_palm 0 = .ok (.aload_n 0, 1) := by decide +kernel
theorem dX9_palm_1 : decode cX9_palm 1 = .ok (.iload_n 1, 1) := by decide +kernel
theorem dX9_palm_2 : decode cX9_palm 2 = .ok (.iload_n 2, 1) := by decide +kernel
theorem dX9_palm_3 : decode cX9_palm 3 = .ok (.iload_n 3, 1) := by decide +kernel
theorem dX9_palm_4 : decode cX9_palm 4 = .ok (.invokevirtual 113, 3) := by decide +kernel
theorem dX9_palm_7 : decode cX9_palm 7 = .ok (.ifCond .eq 15, 3) := by decide +kernel
theorem dX9_palm_22 : decode cX9_palm 22 = .ok (.bipush (-2), 2) := by decide +kernel
theorem dX9_palm_24 : decode cX9_palm 24 = .ok (.ireturn, 1) := by decide +kernel
set_option maxRecDepth 20000 in
theorem ggX9_actor_X9_reach : GoodIn wsX9_actor wsX9_reach := goodIn_r _ [6, 7, 1, 8, 9, 10, 11, 12, 13, 14, 15, 16, 17, 18, 19, 20, 21, 22, 23, 24, 25, 26, 27, 28, 29, 30, 31, 32, 33, 34, 35, 36, 37, 38, 39, 40, 41, 42, 43, 44, 45, 46, 47, 48, 49, 50, 51, 52, 53, 54, 55, 56, 57, 58, 59, 60, 61, 62, 63, 64, 65, 66, 67, 68, 69, 70, 71, 72, 73, 74, 75, 76, 77, 78, 79, 80, 81, 82, 83, 84, 85, 86, 87, 88, 89, 90, 91, 92, 93, 94, 95, 96, 97, 98, 99, 100, 101, 102, 103, 104, 105, 106, 107, 108, 109, 110, 111, 112, 113, 114, 115, 116, 117, 118, 119, 120, 121, 122, 123, 124, 145, 146, 147, 148, 149, 150, 151, 152, 153, 154, 155, 156, 157, 158, 159, 160, 161, 162, 163, 164, 165, 166, 167, 168, 169, 170, 171, 172, 173, 174, 175, 176, 177, 178, 179, 180, 181, 182, 183, 184, 185, 186, 187, 188, 189, 190, 191, 192] (by decide +kernel) (by decide +kernel)
set_option maxRecDepth 20000 in
theorem gX9_actor_X9_reach : GoodIn wsX9_actor (wsV RX9 113 RX9 yX9_reach wsX9_reach) := goodIn_app (goodIn_of _ (by decide +kernel)) ggX9_actor_X9_reach
theorem dX9_actor_0 : decode cX9_actor 0 = .ok (.aload_n 0, 1) := by decide +kernel
theorem dX9_actor_1 : decode cX9_actor 1 = .ok (.iload_n 1, 1) := by decide +kernel
theorem dX9_actor_2 : decode cX9_actor 2 = .ok (.iload_n 2, 1) := by decide +kernel
theorem dX9_actor_3 : decode cX9_actor 3 = .ok (.iload_n 3, 1) := by decide +kernel
theorem dX9_actor_4 : decode cX9_actor 4 = .ok (.invokevirtual 113, 3) := by decide +kernel
theorem dX9_actor_7 : decode cX9_actor 7 = .ok (.ifCond .eq 15, 3) := by decide +kernel
theorem dX9_actor_22 : decode cX9_actor 22 = .ok (.bipush (-2), 2) := by decide +kernel
theorem dX9_actor_24 : decode cX9_actor 24 = .ok (.ireturn, 1) := by decide +kernel
set_option maxRecDepth 20000 in
theorem ggX9_run_X9_reach : GoodIn wsX9_run wsX9_reach := goodIn_r _ [6, 7, 1, 8, 9, 10, 11, 12, 13, 14, 15, 16, 17, 18, 19, 20, 21, 22, 23, 24, 25, 26, 27, 28, 29, 30, 31, 32, 33, 34, 35, 36, 37, 38, 39, 40, 41, 42, 43, 44, 45, 46, 47, 48, 49, 50, 51, 52, 53, 54, 55, 56, 57, 58, 59, 60, 61, 62, 63, 64, 65, 66, 67, 68, 69, 70, 71, 72, 73, 74, 75, 76, 77, 78, 79, 80, 81, 82, 83, 84, 85, 86, 87, 88, 89, 90, 91, 92, 93, 94, 95, 96, 97, 98, 99, 100, 101, 102, 103, 104, 105, 106, 107, 108, 109, 110, 111, 112, 113, 114, 115, 116, 117, 118, 119, 120, 121, 122, 123, 124, 146, 147, 148, 149, 150, 151, 152, 153, 154, 155, 156, 157, 158, 159, 160, 161, 162, 163, 164, 165, 166, 167, 168, 169, 170, 171, 172, 173, 174, 175, 176, 177, 178, 179, 180, 181, 182, 183, 184, 185, 186, 187, 188, 189, 190, 191, 192, 193] (by decide +kernel) (by decide +kernel)
set_option maxRecDepth 20000 in
theorem gX9_run_X9_reach : GoodIn wsX9_run (wsV RX9 113 RX9 yX9_reach wsX9_reach) := goodIn_app (goodIn_of _ (by decide +kernel)) ggX9_run_X9_reach
theorem dX9_run_0 : decode cX9_run 0 = .ok (.iload 4, 2) := by decide +kernel
theorem dX9_run_2 : decode cX9_run 2 = .ok (.ifCond .lt 19, 3) := by decide +kernel
theorem dX9_run_5 : decode cX9_run 5 = .ok (.iload 4, 2) := by decide +kernel
theorem dX9_run_7 : decode cX9_run 7 = .ok (.iconst 1, 1) := by decide +kernel
theorem dX9_run_8 : decode cX9_run 8 = .ok (.if_icmp .gt 13, 3) := by decide +kernel
theorem dX9_run_11 : decode cX9_run 11 = .ok (.aload_n 0, 1) := by decide +kernel
theorem dX9_run_12 : decode cX9_run 12 = .ok (.iload_n 1, 1) := by decide +kernel
theorem dX9_run_13 : decode cX9_run 13 = .ok (.iload_n 2, 1) := by decide +kernel
theorem dX9_run_14 : decode cX9_run 14 = .ok (.iload_n 3, 1) := by decide +kernel
theorem dX9_run_15 : decode cX9_run 15 = .ok (.invokevirtual 113, 3) := by decide +kernel
theorem dX9_run_18 : decode cX9_run 18 = .ok (.ifCond .ne 6, 3) := by decide +kernel
theorem dX9_run_21 : decode cX9_run 21 = .ok (.bipush (-2), 2) := by decide +kernel
theorem dX9_run_23 : decode cX9_run 23 = .ok (.ireturn, 1) := by decide +kernel
set_option maxRecDepth 20000 in
theorem ggX9_feast_X9_reach : GoodIn wsX9_feast wsX9_reach := goodIn_r _ [7, 8, 2, 9, 10, 11, 12, 13, 14, 15, 16, 17, 18, 19, 20, 21, 22, 23, 24, 25, 26, 27, 28, 29, 30, 31, 32, 33, 34, 35, 36, 37, 38, 39, 40, 41, 42, 43, 44, 45, 46, 47, 48, 49, 50, 51, 52, 53, 54, 55, 56, 57, 58, 59, 60, 61, 62, 63, 64, 65, 66, 67, 68, 69, 70, 71, 72, 73, 74, 75, 76, 77, 78, 79, 80, 81, 82, 83, 84, 85, 86, 87, 88, 89, 90, 91, 92, 93, 94, 95, 96, 97, 98, 99, 100, 101, 102, 103, 104, 105, 106, 107, 108, 109, 110, 111, 112, 113, 114, 115, 116, 117, 118, 119, 120, 121, 122, 123, 124, 125, 168, 169, 170, 171, 172, 173, 174, 175, 176, 177, 178, 179, 180, 181, 182, 183, 184, 185, 186, 187, 188, 189, 190, 191, 192, 193, 194, 195, 196, 197, 198, 199, 200, 201, 202, 203, 204, 205, 206, 207, 208, 209, 210, 211, 212, 213, 214, 215] (by decide +kernel) (by decide +kernel)
set_option maxRecDepth 20000 in
theorem gX9_feast_X9_reach : GoodIn wsX9_feast (wsV RX9 113 RX9 yX9_reach wsX9_reach) := goodIn_app (goodIn_of _ (by decide +kernel)) ggX9_feast_X9_reach
theorem dX9_feast_0 : decode cX9_feast 0 = .ok (.iload 4, 2) := by decide +kernel
theorem dX9_feast_2 : decode cX9_feast 2 = .ok (.ifCond .lt 19, 3) := by decide +kernel
theorem dX9_feast_5 : decode cX9_feast 5 = .ok (.iload 4, 2) := by decide +kernel
theorem dX9_feast_7 : decode cX9_feast 7 = .ok (.iconst 3, 1) := by decide +kernel
theorem dX9_feast_8 : decode cX9_feast 8 = .ok (.if_icmp .gt 13, 3) := by decide +kernel
theorem dX9_feast_11 : decode cX9_feast 11 = .ok (.aload_n 0, 1) := by decide +kernel
theorem dX9_feast_12 : decode cX9_feast 12 = .ok (.iload_n 1, 1) := by decide +kernel
theorem dX9_feast_13 : decode cX9_feast 13 = .ok (.iload_n 2, 1) := by decide +kernel
theorem dX9_feast_14 : decode cX9_feast 14 = .ok (.iload_n 3, 1) := by decide +kernel
theorem dX9_feast_15 : decode cX9_feast 15 = .ok (.invokevirtual 113, 3) := by decide +kernel
theorem dX9_feast_18 : decode cX9_feast 18 = .ok (.ifCond .ne 6, 3) := by decide +kernel
theorem dX9_feast_21 : decode cX9_feast 21 = .ok (.bipush (-2), 2) := by decide +kernel
theorem dX9_feast_23 : decode cX9_feast 23 = .ok (.ireturn, 1) := by decide +kernel
set_option maxRecDepth 20000 in
theorem ggX9_fair_X9_reach : GoodIn wsX9_fair wsX9_reach := goodIn_r _ [6, 7, 1, 8, 9, 10, 11, 12, 13, 14, 15, 16, 17, 18, 19, 20, 21, 22, 23, 24, 25, 26, 27, 28, 29, 30, 31, 32, 33, 34, 35, 36, 37, 38, 39, 40, 41, 42, 43, 44, 45, 46, 47, 48, 49, 50, 51, 52, 53, 54, 55, 56, 57, 58, 59, 60, 61, 62, 63, 64, 65, 66, 67, 68, 69, 70, 71, 72, 73, 74, 75, 76, 77, 78, 79, 80, 81, 82, 83, 84, 85, 86, 87, 88, 89, 90, 91, 92, 93, 94, 95, 96, 97, 98, 99, 100, 101, 102, 103, 104, 105, 106, 107, 108, 109, 110, 111, 112, 113, 114, 115, 116, 117, 118, 119, 120, 121, 122, 123, 124, 143, 144, 145, 146, 147, 148, 149, 150, 151, 152, 153, 154, 155, 156, 157, 158, 159, 160, 161, 162, 163, 164, 165, 166, 167, 168, 169, 170, 171, 172, 173, 174, 175, 176, 177, 178, 179, 180, 181, 182, 183, 184, 185, 186, 187, 188, 189, 190] (by decide +kernel) (by decide +kernel)
set_option maxRecDepth 20000 in
theorem gX9_fair_X9_reach : GoodIn wsX9_fair (wsV RX9 113 RX9 yX9_reach wsX9_reach) := goodIn_app (goodIn_of _ (by decide +kernel)) ggX9_fair_X9_reach
theorem dX9_fair_0 : decode cX9_fair 0 = .ok (.aload_n 0, 1) := by decide +kernel
theorem dX9_fair_1 : decode cX9_fair 1 = .ok (.iload_n 1, 1) := by decide +kernel
theorem dX9_fair_2 : decode cX9_fair 2 = .ok (.iload_n 2, 1) := by decide +kernel
theorem dX9_fair_3 : decode cX9_fair 3 = .ok (.iload_n 3, 1) := by decide +kernel
theorem dX9_fair_4 : decode cX9_fair 4 = .ok (.invokevirtual 113, 3) := by decide +kernel
theorem dX9_fair_7 : decode cX9_fair 7 = .ok (.ifCond .ne 6, 3) := by decide +kernel
theorem dX9_fair_10 : decode cX9_fair 10 = .ok (.bipush (-2), 2) := by decide +kernel
theorem dX9_fair_12 : decode cX9_fair 12 = .ok (.ireturn, 1) := by decide +kernel
set_option maxRecDepth 20000 in
theorem ggX9_ask_X9_lendFor : GoodIn wsX9_ask wsX9_lendFor := goodIn_r _ [6, 7, 1, 8, 9, 10, 11, 12, 13, 14, 15, 16, 17, 18, 19, 20, 21, 22, 23, 24, 25, 26, 27, 28, 29, 30, 31, 32, 33, 34, 35, 36, 37, 38, 39, 40, 41, 42, 43, 44, 45, 46, 47, 48, 49, 50, 51, 52, 53, 54, 55, 63, 64, 65, 66, 67, 68, 69, 70, 71, 72, 73, 74, 75, 76, 77, 78, 79, 80, 81, 82, 83, 84, 85, 86, 87, 56, 57, 58, 59, 60, 61, 62] (by decide +kernel) (by decide +kernel)
set_option maxRecDepth 20000 in
theorem gX9_ask_X9_lendFor : GoodIn wsX9_ask (wsV RX9 152 RX9 yX9_lendFor wsX9_lendFor) := goodIn_app (goodIn_of _ (by decide +kernel)) ggX9_ask_X9_lendFor
theorem dX9_ask_0 : decode cX9_ask 0 = .ok (.aload_n 0, 1) := by decide +kernel
theorem dX9_ask_1 : decode cX9_ask 1 = .ok (.iload_n 1, 1) := by decide +kernel
theorem dX9_ask_2 : decode cX9_ask 2 = .ok (.iload_n 2, 1) := by decide +kernel
theorem dX9_ask_3 : decode cX9_ask 3 = .ok (.iload_n 3, 1) := by decide +kernel
theorem dX9_ask_4 : decode cX9_ask 4 = .ok (.invokevirtual 152, 3) := by decide +kernel
theorem dX9_ask_7 : decode cX9_ask 7 = .ok (.ifCond .eq 15, 3) := by decide +kernel
theorem dX9_ask_22 : decode cX9_ask 22 = .ok (.iconst (-1), 1) := by decide +kernel
theorem dX9_ask_23 : decode cX9_ask 23 = .ok (.ireturn, 1) := by decide +kernel
set_option maxRecDepth 20000 in
theorem ggX9_taken_X9_lendFor : GoodIn wsX9_taken wsX9_lendFor := goodIn_r _ [6, 7, 1, 8, 9, 10, 11, 12, 13, 14, 15, 16, 17, 18, 19, 20, 21, 22, 23, 24, 25, 26, 27, 28, 29, 30, 31, 32, 33, 34, 35, 36, 37, 38, 39, 40, 41, 42, 43, 44, 45, 46, 47, 48, 49, 50, 51, 52, 53, 54, 55, 63, 64, 65, 66, 67, 68, 69, 70, 71, 72, 73, 74, 75, 76, 77, 78, 79, 80, 81, 82, 83, 84, 85, 86, 87, 56, 57, 58, 59, 60, 61, 62] (by decide +kernel) (by decide +kernel)
set_option maxRecDepth 20000 in
theorem gX9_taken_X9_lendFor : GoodIn wsX9_taken (wsV RX9 152 RX9 yX9_lendFor wsX9_lendFor) := goodIn_app (goodIn_of _ (by decide +kernel)) ggX9_taken_X9_lendFor
theorem dX9_taken_0 : decode cX9_taken 0 = .ok (.aload_n 0, 1) := by decide +kernel
theorem dX9_taken_1 : decode cX9_taken 1 = .ok (.iload_n 1, 1) := by decide +kernel
theorem dX9_taken_2 : decode cX9_taken 2 = .ok (.iload_n 2, 1) := by decide +kernel
theorem dX9_taken_3 : decode cX9_taken 3 = .ok (.iload_n 3, 1) := by decide +kernel
theorem dX9_taken_4 : decode cX9_taken 4 = .ok (.invokevirtual 152, 3) := by decide +kernel
theorem dX9_taken_7 : decode cX9_taken 7 = .ok (.ifCond .eq 15, 3) := by decide +kernel
theorem dX9_taken_22 : decode cX9_taken 22 = .ok (.iconst (-1), 1) := by decide +kernel
theorem dX9_taken_23 : decode cX9_taken 23 = .ok (.ireturn, 1) := by decide +kernel
set_option maxRecDepth 20000 in
theorem ggX9_stands_X8_theatreAt : GoodIn wsX9_stands wsX8_theatreAt := goodIn_r _ [7, 8, 9, 10, 80, 81, 82, 83, 84, 85, 86, 87, 88, 89, 90, 91, 92] (by decide +kernel) (by decide +kernel)
set_option maxRecDepth 20000 in
theorem gX9_stands_X8_theatreAt : GoodIn wsX9_stands (wsV RX9 87 RX8 yX8_theatreAt wsX8_theatreAt) := goodIn_app (goodIn_of _ (by decide +kernel)) ggX9_stands_X8_theatreAt
theorem dX9_stands_0 : decode cX9_stands 0 = .ok (.aload_n 0, 1) := by decide +kernel
theorem dX9_stands_1 : decode cX9_stands 1 = .ok (.getfield 10, 3) := by decide +kernel
theorem dX9_stands_4 : decode cX9_stands 4 = .ok (.iload_n 1, 1) := by decide +kernel
theorem dX9_stands_5 : decode cX9_stands 5 = .ok (.invokevirtual 87, 3) := by decide +kernel
theorem dX9_stands_8 : decode cX9_stands 8 = .ok (.astore_n 3, 1) := by decide +kernel
theorem dX9_stands_9 : decode cX9_stands 9 = .ok (.aload_n 3, 1) := by decide +kernel
theorem dX9_stands_10 : decode cX9_stands 10 = .ok (.ifnull 19, 3) := by decide +kernel
theorem dX9_stands_29 : decode cX9_stands 29 = .ok (.iconst (-1), 1) := by decide +kernel
theorem dX9_stands_30 : decode cX9_stands 30 = .ok (.ireturn, 1) := by decide +kernel
set_option maxRecDepth 20000 in
theorem ggX9_heard_X8_darkAt : GoodIn wsX9_heard wsX8_darkAt := goodIn_r _ [6, 7, 8, 9, 25, 26, 27, 28, 29, 30, 31, 32, 33, 34, 35, 36, 37] (by decide +kernel) (by decide +kernel)
set_option maxRecDepth 20000 in
theorem gX9_heard_X8_darkAt : GoodIn wsX9_heard (wsV RX9 172 RX8 yX8_darkAt wsX8_darkAt) := goodIn_app (goodIn_of _ (by decide +kernel)) ggX9_heard_X8_darkAt
theorem dX9_heard_0 : decode cX9_heard 0 = .ok (.aload_n 0, 1) := by decide +kernel
theorem dX9_heard_1 : decode cX9_heard 1 = .ok (.getfield 10, 3) := by decide +kernel
theorem dX9_heard_4 : decode cX9_heard 4 = .ok (.iload_n 1, 1) := by decide +kernel
theorem dX9_heard_5 : decode cX9_heard 5 = .ok (.invokevirtual 172, 3) := by decide +kernel
theorem dX9_heard_8 : decode cX9_heard 8 = .ok (.astore_n 3, 1) := by decide +kernel
theorem dX9_heard_9 : decode cX9_heard 9 = .ok (.aload_n 3, 1) := by decide +kernel
theorem dX9_heard_10 : decode cX9_heard 10 = .ok (.ifnonnull 6, 3) := by decide +kernel
theorem dX9_heard_13 : decode cX9_heard 13 = .ok (.bipush (-2), 2) := by decide +kernel
theorem dX9_heard_15 : decode cX9_heard 15 = .ok (.ireturn, 1) := by decide +kernel
set_option maxRecDepth 20000 in
theorem ggX9_ways_X8_theatreAt : GoodIn wsX9_ways wsX8_theatreAt := goodIn_r _ [8, 9, 10, 11, 65, 66, 67, 68, 69, 70, 71, 72, 73, 74, 75, 76, 77] (by decide +kernel) (by decide +kernel)
set_option maxRecDepth 20000 in
theorem gX9_ways_X8_theatreAt : GoodIn wsX9_ways (wsV RX9 87 RX8 yX8_theatreAt wsX8_theatreAt) := goodIn_app (goodIn_of _ (by decide +kernel)) ggX9_ways_X8_theatreAt
set_option maxRecDepth 20000 in
theorem ggX9_ways_X8_darkAt : GoodIn wsX9_ways wsX8_darkAt := goodIn_r _ [15, 16, 17, 18, 65, 66, 67, 68, 69, 70, 71, 72, 73, 74, 75, 76, 77] (by decide +kernel) (by decide +kernel)
set_option maxRecDepth 20000 in
theorem gX9_ways_X8_darkAt : GoodIn wsX9_ways (wsV RX9 172 RX8 yX8_darkAt wsX8_darkAt) := goodIn_app (goodIn_of _ (by decide +kernel)) ggX9_ways_X8_darkAt
theorem dX9_ways_0 : decode cX9_ways 0 = .ok (.aload_n 0, 1) := by decide +kernel
theorem dX9_ways_1 : decode cX9_ways 1 = .ok (.getfield 10, 3) := by decide +kernel
theorem dX9_ways_4 : decode cX9_ways 4 = .ok (.iload_n 1, 1) := by decide +kernel
theorem dX9_ways_5 : decode cX9_ways 5 = .ok (.invokevirtual 87, 3) := by decide +kernel
theorem dX9_ways_8 : decode cX9_ways 8 = .ok (.astore_n 3, 1) := by decide +kernel
theorem dX9_ways_9 : decode cX9_ways 9 = .ok (.aload_n 0, 1) := by decide +kernel
theorem dX9_ways_10 : decode cX9_ways 10 = .ok (.getfield 10, 3) := by decide +kernel
theorem dX9_ways_13 : decode cX9_ways 13 = .ok (.iload_n 2, 1) := by decide +kernel
theorem dX9_ways_14 : decode cX9_ways 14 = .ok (.invokevirtual 172, 3) := by decide +kernel
theorem dX9_ways_17 : decode cX9_ways 17 = .ok (.astore 4, 2) := by decide +kernel
theorem dX9_ways_19 : decode cX9_ways 19 = .ok (.aload_n 3, 1) := by decide +kernel
theorem dX9_ways_20 : decode cX9_ways 20 = .ok (.ifnull 8, 3) := by decide +kernel
theorem dX9_ways_28 : decode cX9_ways 28 = .ok (.ldc2_w 187, 3) := by decide +kernel
theorem dX9_ways_31 : decode cX9_ways 31 = .ok (.lreturn, 1) := by decide +kernel
set_option maxRecDepth 20000 in
theorem ggX9_whose_X8_theatreAt : GoodIn wsX9_whose wsX8_theatreAt := goodIn_r _ [7, 8, 9, 10, 85, 86, 87, 88, 89, 90, 91, 92, 93, 94, 95, 96, 97] (by decide +kernel) (by decide +kernel)
set_option maxRecDepth 20000 in
theorem gX9_whose_X8_theatreAt : GoodIn wsX9_whose (wsV RX9 87 RX8 yX8_theatreAt wsX8_theatreAt) := goodIn_app (goodIn_of _ (by decide +kernel)) ggX9_whose_X8_theatreAt
set_option maxRecDepth 20000 in
theorem ggX9_whose_X8_darkAt : GoodIn wsX9_whose wsX8_darkAt := goodIn_r _ [14, 15, 16, 17, 85, 86, 87, 88, 89, 90, 91, 92, 93, 94, 95, 96, 97] (by decide +kernel) (by decide +kernel)
set_option maxRecDepth 20000 in
theorem gX9_whose_X8_darkAt : GoodIn wsX9_whose (wsV RX9 172 RX8 yX8_darkAt wsX8_darkAt) := goodIn_app (goodIn_of _ (by decide +kernel)) ggX9_whose_X8_darkAt
theorem dX9_whose_0 : decode cX9_whose 0 = .ok (.aload_n 0, 1) := by decide +kernel
theorem dX9_whose_1 : decode cX9_whose 1 = .ok (.getfield 10, 3) := by decide +kernel
theorem dX9_whose_4 : decode cX9_whose 4 = .ok (.iload_n 1, 1) := by decide +kernel
theorem dX9_whose_5 : decode cX9_whose 5 = .ok (.invokevirtual 87, 3) := by decide +kernel
theorem dX9_whose_8 : decode cX9_whose 8 = .ok (.astore 5, 2) := by decide +kernel
theorem dX9_whose_10 : decode cX9_whose 10 = .ok (.aload_n 0, 1) := by decide +kernel
theorem dX9_whose_11 : decode cX9_whose 11 = .ok (.getfield 10, 3) := by decide +kernel
theorem dX9_whose_14 : decode cX9_whose 14 = .ok (.iload_n 2, 1) := by decide +kernel
theorem dX9_whose_15 : decode cX9_whose 15 = .ok (.invokevirtual 172, 3) := by decide +kernel
theorem dX9_whose_18 : decode cX9_whose 18 = .ok (.astore 6, 2) := by decide +kernel
theorem dX9_whose_20 : decode cX9_whose 20 = .ok (.aload 5, 2) := by decide +kernel
theorem dX9_whose_22 : decode cX9_whose 22 = .ok (.ifnull 17, 3) := by decide +kernel
theorem dX9_whose_39 : decode cX9_whose 39 = .ok (.bipush (-2), 2) := by decide +kernel
theorem dX9_whose_41 : decode cX9_whose 41 = .ok (.ireturn, 1) := by decide +kernel
set_option maxRecDepth 20000 in
theorem ggX9_drawn_X8_theatreAt : GoodIn wsX9_drawn wsX8_theatreAt := goodIn_r _ [7, 8, 9, 10, 118, 119, 120, 121, 122, 123, 124, 125, 126, 127, 128, 129, 130] (by decide +kernel) (by decide +kernel)
set_option maxRecDepth 20000 in
theorem gX9_drawn_X8_theatreAt : GoodIn wsX9_drawn (wsV RX9 87 RX8 yX8_theatreAt wsX8_theatreAt) := goodIn_app (goodIn_of _ (by decide +kernel)) ggX9_drawn_X8_theatreAt
theorem dX9_drawn_0 : decode cX9_drawn 0 = .ok (.aload_n 0, 1) := by decide +kernel
theorem dX9_drawn_1 : decode cX9_drawn 1 = .ok (.getfield 10, 3) := by decide +kernel
theorem dX9_drawn_4 : decode cX9_drawn 4 = .ok (.iload_n 1, 1) := by decide +kernel
theorem dX9_drawn_5 : decode cX9_drawn 5 = .ok (.invokevirtual 87, 3) := by decide +kernel
theorem dX9_drawn_8 : decode cX9_drawn 8 = .ok (.astore 5, 2) := by decide +kernel
theorem dX9_drawn_10 : decode cX9_drawn 10 = .ok (.aload 5, 2) := by decide +kernel
theorem dX9_drawn_12 : decode cX9_drawn 12 = .ok (.ifnull 13, 3) := by decide +kernel
theorem dX9_drawn_25 : decode cX9_drawn 25 = .ok (.iconst (-1), 1) := by decide +kernel
theorem dX9_drawn_26 : decode cX9_drawn 26 = .ok (.ireturn, 1) := by decide +kernel
set_option maxRecDepth 20000 in
theorem ggX9_look_X9_reach : GoodIn wsX9_look wsX9_reach := goodIn_r _ [6, 7, 1, 8, 9, 10, 11, 12, 13, 14, 15, 16, 17, 18, 19, 20, 21, 22, 23, 24, 25, 26, 27, 28, 29, 30, 31, 32, 33, 34, 35, 36, 37, 38, 39, 40, 41, 42, 43, 44, 45, 46, 47, 48, 49, 50, 51, 52, 53, 54, 55, 56, 57, 58, 59, 60, 61, 62, 63, 64, 65, 66, 67, 68, 69, 70, 71, 72, 73, 74, 75, 76, 77, 78, 79, 80, 81, 82, 83, 84, 85, 86, 87, 88, 89, 90, 91, 92, 93, 94, 95, 96, 97, 98, 99, 100, 101, 102, 103, 104, 105, 106, 107, 108, 109, 110, 111, 112, 113, 114, 115, 116, 117, 118, 119, 120, 121, 122, 123, 124, 146, 147, 148, 149, 150, 151, 152, 153, 154, 155, 156, 157, 158, 159, 160, 161, 162, 163, 164, 165, 166, 167, 168, 169, 170, 171, 172, 173, 174, 175, 176, 177, 178, 179, 180, 181, 182, 183, 184, 185, 186, 187, 188, 189, 190, 191, 192, 193] (by decide +kernel) (by decide +kernel)
set_option maxRecDepth 20000 in
theorem gX9_look_X9_reach : GoodIn wsX9_look (wsV RX9 113 RX9 yX9_reach wsX9_reach) := goodIn_app (goodIn_of _ (by decide +kernel)) ggX9_look_X9_reach
theorem dX9_look_0 : decode cX9_look 0 = .ok (.aload_n 0, 1) := by decide +kernel
theorem dX9_look_1 : decode cX9_look 1 = .ok (.iload_n 1, 1) := by decide +kernel
theorem dX9_look_2 : decode cX9_look 2 = .ok (.iload_n 2, 1) := by decide +kernel
theorem dX9_look_3 : decode cX9_look 3 = .ok (.iload_n 3, 1) := by decide +kernel
theorem dX9_look_4 : decode cX9_look 4 = .ok (.invokevirtual 113, 3) := by decide +kernel
theorem dX9_look_7 : decode cX9_look 7 = .ok (.ifCond .ne 6, 3) := by decide +kernel
theorem dX9_look_10 : decode cX9_look 10 = .ok (.bipush (-2), 2) := by decide +kernel
theorem dX9_look_12 : decode cX9_look 12 = .ok (.ireturn, 1) := by decide +kernel
set_option maxRecDepth 20000 in
theorem ggX9_silence_X8_theatreAt : GoodIn wsX9_silence wsX8_theatreAt := goodIn_r _ [7, 8, 9, 10, 159, 160, 161, 162, 163, 164, 165, 166, 167, 168, 169, 170, 171] (by decide +kernel) (by decide +kernel)
set_option maxRecDepth 20000 in
theorem gX9_silence_X8_theatreAt : GoodIn wsX9_silence (wsV RX9 87 RX8 yX8_theatreAt wsX8_theatreAt) := goodIn_app (goodIn_of _ (by decide +kernel)) ggX9_silence_X8_theatreAt
set_option maxRecDepth 20000 in
theorem ggX9_silence_X8_bookAt : GoodIn wsX9_silence wsX8_bookAt := goodIn_r _ [14, 15, 16, 17, 159, 160, 161, 162, 163, 164, 165, 166, 167, 168, 169, 170, 171] (by decide +kernel) (by decide +kernel)
set_option maxRecDepth 20000 in
theorem gX9_silence_X8_bookAt : GoodIn wsX9_silence (wsV RX9 96 RX8 yX8_bookAt wsX8_bookAt) := goodIn_app (goodIn_of _ (by decide +kernel)) ggX9_silence_X8_bookAt
theorem dX9_silence_0 : decode cX9_silence 0 = .ok (.aload_n 0, 1) := by decide +kernel
theorem dX9_silence_1 : decode cX9_silence 1 = .ok (.getfield 10, 3) := by decide +kernel
theorem dX9_silence_4 : decode cX9_silence 4 = .ok (.iload_n 1, 1) := by decide +kernel
theorem dX9_silence_5 : decode cX9_silence 5 = .ok (.invokevirtual 87, 3) := by decide +kernel
theorem dX9_silence_8 : decode cX9_silence 8 = .ok (.astore 4, 2) := by decide +kernel
theorem dX9_silence_10 : decode cX9_silence 10 = .ok (.aload_n 0, 1) := by decide +kernel
theorem dX9_silence_11 : decode cX9_silence 11 = .ok (.getfield 10, 3) := by decide +kernel
theorem dX9_silence_14 : decode cX9_silence 14 = .ok (.iload_n 2, 1) := by decide +kernel
theorem dX9_silence_15 : decode cX9_silence 15 = .ok (.invokevirtual 96, 3) := by decide +kernel
theorem dX9_silence_18 : decode cX9_silence 18 = .ok (.astore 5, 2) := by decide +kernel
theorem dX9_silence_20 : decode cX9_silence 20 = .ok (.aload 4, 2) := by decide +kernel
theorem dX9_silence_22 : decode cX9_silence 22 = .ok (.ifnull 8, 3) := by decide +kernel
theorem dX9_silence_30 : decode cX9_silence 30 = .ok (.iconst (-1), 1) := by decide +kernel
theorem dX9_silence_31 : decode cX9_silence 31 = .ok (.ireturn, 1) := by decide +kernel
set_option maxRecDepth 20000 in
theorem ggX9_count_X8_howMany : GoodIn wsX9_count wsX8_howMany := goodIn_r _ [6, 7, 8, 9, 17, 18, 19, 20, 21, 22, 23, 24, 25, 26, 27, 28, 29] (by decide +kernel) (by decide +kernel)
set_option maxRecDepth 20000 in
theorem gX9_count_X8_howMany : GoodIn wsX9_count (wsV RX9 69 RX8 yX8_howMany wsX8_howMany) := goodIn_app (goodIn_of _ (by decide +kernel)) ggX9_count_X8_howMany
theorem dX9_count_0 : decode cX9_count 0 = .ok (.aload_n 0, 1) := by decide +kernel
theorem dX9_count_1 : decode cX9_count 1 = .ok (.getfield 10, 3) := by decide +kernel
theorem dX9_count_4 : decode cX9_count 4 = .ok (.iload_n 1, 1) := by decide +kernel
theorem dX9_count_5 : decode cX9_count 5 = .ok (.invokevirtual 69, 3) := by decide +kernel
theorem dX9_count_8 : decode cX9_count 8 = .ok (.ireturn, 1) := by decide +kernel
set_option maxRecDepth 20000 in
theorem ggX9_image_X8_init : GoodIn wsX9_image wsX8_init := goodIn_r _ [7, 8, 9, 10, 11, 12, 13, 14, 15, 16, 17, 18, 19, 20, 21, 22, 23, 24, 25, 26, 27, 28, 29, 30, 31, 32, 33, 34, 35, 36, 37, 38, 39, 40, 41, 42, 43, 44, 45, 46, 90, 91, 92, 93, 94, 95, 96, 97, 98, 99, 100, 101, 102, 103, 104, 105, 106, 107, 108, 109, 110, 111, 112, 113, 114, 115, 116, 117, 118] (by decide +kernel) (by decide +kernel)
set_option maxRecDepth 20000 in
theorem gX9_image_X8_init_n9 : GoodIn wsX9_image (wsX8_init) := ggX9_image_X8_init
set_option maxRecDepth 20000 in
theorem ggX9_image_X8_copyFrom : GoodIn wsX9_image wsX8_copyFrom := goodIn_r _ [50, 12, 51, 52, 53, 54, 55, 56, 13, 57, 58, 59, 17, 18, 22, 23, 27, 28, 60, 61, 62, 16, 63, 64, 65, 66, 67, 68, 69, 33, 70, 34, 35, 36, 37, 38, 71, 72, 73, 21, 74, 75, 42, 76, 77, 78, 79, 26, 80, 81, 46, 82, 90, 91, 92, 93, 94, 95, 96, 97, 98, 99, 100, 101, 102, 103, 104, 105, 106, 107, 108, 109, 110, 111, 112, 113, 114, 115, 116, 117, 118] (by decide +kernel) (by decide +kernel)
set_option maxRecDepth 20000 in
theorem gX9_image_X8_copyFrom : GoodIn wsX9_image (wsV RX9 246 RX8 yX8_copyFrom wsX8_copyFrom) := goodIn_app (goodIn_of _ (by decide +kernel)) ggX9_image_X8_copyFrom
theorem dX9_image_0 : decode cX9_image 0 = .ok (.iload_n 1, 1) := by decide +kernel
theorem dX9_image_1 : decode cX9_image 1 = .ok (.ifCond .lt 8, 3) := by decide +kernel
theorem dX9_image_4 : decode cX9_image 4 = .ok (.iload_n 1, 1) := by decide +kernel
theorem dX9_image_5 : decode cX9_image 5 = .ok (.iconst 3, 1) := by decide +kernel
theorem dX9_image_6 : decode cX9_image 6 = .ok (.if_icmp .lt 5, 3) := by decide +kernel
theorem dX9_image_9 : decode cX9_image 9 = .ok (.iconst 0, 1) := by decide +kernel
theorem dX9_image_10 : decode cX9_image 10 = .ok (.ireturn, 1) := by decide +kernel
theorem dX9_image_11 : decode cX9_image 11 = .ok (.aload_n 0, 1) := by decide +kernel
theorem dX9_image_12 : decode cX9_image 12 = .ok (.getfield 16, 3) := by decide +kernel
theorem dX9_image_15 : decode cX9_image 15 = .ok (.iload_n 1, 1) := by decide +kernel
theorem dX9_image_16 : decode cX9_image 16 = .ok (.aaload, 1) := by decide +kernel
theorem dX9_image_17 : decode cX9_image 17 = .ok (.astore_n 2, 1) := by decide +kernel
theorem dX9_image_18 : decode cX9_image 18 = .ok (.aload_n 2, 1) := by decide +kernel
theorem dX9_image_19 : decode cX9_image 19 = .ok (.ifnonnull 18, 3) := by decide +kernel
theorem dX9_image_22 : decode cX9_image 22 = .ok (.new 7, 3) := by decide +kernel
theorem dX9_image_25 : decode cX9_image 25 = .ok (.dup, 1) := by decide +kernel
theorem dX9_image_26 : decode cX9_image 26 = .ok (.invokespecial 9, 3) := by decide +kernel
theorem dX9_image_29 : decode cX9_image 29 = .ok (.astore_n 2, 1) := by decide +kernel
theorem dX9_image_30 : decode cX9_image 30 = .ok (.aload_n 0, 1) := by decide +kernel
theorem dX9_image_31 : decode cX9_image 31 = .ok (.getfield 16, 3) := by decide +kernel
theorem dX9_image_34 : decode cX9_image 34 = .ok (.iload_n 1, 1) := by decide +kernel
theorem dX9_image_35 : decode cX9_image 35 = .ok (.aload_n 2, 1) := by decide +kernel
theorem dX9_image_36 : decode cX9_image 36 = .ok (.aastore, 1) := by decide +kernel
theorem dX9_image_37 : decode cX9_image 37 = .ok (.aload_n 2, 1) := by decide +kernel
theorem dX9_image_38 : decode cX9_image 38 = .ok (.aload_n 0, 1) := by decide +kernel
theorem dX9_image_39 : decode cX9_image 39 = .ok (.getfield 10, 3) := by decide +kernel
theorem dX9_image_42 : decode cX9_image 42 = .ok (.invokevirtual 246, 3) := by decide +kernel
theorem dX9_image_45 : decode cX9_image 45 = .ok (.iconst 1, 1) := by decide +kernel
theorem dX9_image_46 : decode cX9_image 46 = .ok (.ireturn, 1) := by decide +kernel
theorem dX9_again_0 : decode cX9_again 0 = .ok (.iload_n 1, 1) := by decide +kernel
theorem dX9_again_1 : decode cX9_again 1 = .ok (.ifCond .lt 8, 3) := by decide +kernel
theorem dX9_again_4 : decode cX9_again 4 = .ok (.iload_n 1, 1) := by decide +kernel
theorem dX9_again_5 : decode cX9_again 5 = .ok (.iconst 3, 1) := by decide +kernel
theorem dX9_again_6 : decode cX9_again 6 = .ok (.if_icmp .lt 5, 3) := by decide +kernel
theorem dX9_again_9 : decode cX9_again 9 = .ok (.iconst 0, 1) := by decide +kernel
theorem dX9_again_10 : decode cX9_again 10 = .ok (.ireturn, 1) := by decide +kernel
theorem dX9_again_11 : decode cX9_again 11 = .ok (.aload_n 0, 1) := by decide +kernel
theorem dX9_again_12 : decode cX9_again 12 = .ok (.getfield 16, 3) := by decide +kernel
theorem dX9_again_15 : decode cX9_again 15 = .ok (.iload_n 1, 1) := by decide +kernel
theorem dX9_again_16 : decode cX9_again 16 = .ok (.aaload, 1) := by decide +kernel
theorem dX9_again_17 : decode cX9_again 17 = .ok (.astore_n 2, 1) := by decide +kernel
theorem dX9_again_18 : decode cX9_again 18 = .ok (.aload_n 2, 1) := by decide +kernel
theorem dX9_again_19 : decode cX9_again 19 = .ok (.ifnonnull 5, 3) := by decide +kernel
theorem dX9_again_22 : decode cX9_again 22 = .ok (.iconst 0, 1) := by decide +kernel
theorem dX9_again_23 : decode cX9_again 23 = .ok (.ireturn, 1) := by decide +kernel
set_option maxRecDepth 20000 in
theorem ggX9_reach_X8_theatreAt : GoodIn wsX9_reach wsX8_theatreAt := goodIn_r _ [7, 8, 9, 10, 129, 130, 131, 132, 133, 134, 135, 136, 137, 138, 139, 140, 141] (by decide +kernel) (by decide +kernel)
set_option maxRecDepth 20000 in
theorem gX9_reach_X8_theatreAt : GoodIn wsX9_reach (wsV RX9 87 RX8 yX8_theatreAt wsX8_theatreAt) := goodIn_app (goodIn_of _ (by decide +kernel)) ggX9_reach_X8_theatreAt
set_option maxRecDepth 20000 in
theorem ggX9_reach_X8_bookAt : GoodIn wsX9_reach wsX8_bookAt := goodIn_r _ [14, 15, 16, 17, 129, 130, 131, 132, 133, 134, 135, 136, 137, 138, 139, 140, 141] (by decide +kernel) (by decide +kernel)
set_option maxRecDepth 20000 in
theorem gX9_reach_X8_bookAt : GoodIn wsX9_reach (wsV RX9 96 RX8 yX8_bookAt wsX8_bookAt) := goodIn_app (goodIn_of _ (by decide +kernel)) ggX9_reach_X8_bookAt
theorem dX9_reach_0 : decode cX9_reach 0 = .ok (.aload_n 0, 1) := by decide +kernel
theorem dX9_reach_1 : decode cX9_reach 1 = .ok (.getfield 10, 3) := by decide +kernel
theorem dX9_reach_4 : decode cX9_reach 4 = .ok (.iload_n 1, 1) := by decide +kernel
theorem dX9_reach_5 : decode cX9_reach 5 = .ok (.invokevirtual 87, 3) := by decide +kernel
theorem dX9_reach_8 : decode cX9_reach 8 = .ok (.astore 4, 2) := by decide +kernel
theorem dX9_reach_10 : decode cX9_reach 10 = .ok (.aload_n 0, 1) := by decide +kernel
theorem dX9_reach_11 : decode cX9_reach 11 = .ok (.getfield 10, 3) := by decide +kernel
theorem dX9_reach_14 : decode cX9_reach 14 = .ok (.iload_n 2, 1) := by decide +kernel
theorem dX9_reach_15 : decode cX9_reach 15 = .ok (.invokevirtual 96, 3) := by decide +kernel
theorem dX9_reach_18 : decode cX9_reach 18 = .ok (.astore 5, 2) := by decide +kernel
theorem dX9_reach_20 : decode cX9_reach 20 = .ok (.aload 4, 2) := by decide +kernel
theorem dX9_reach_22 : decode cX9_reach 22 = .ok (.ifnull 21, 3) := by decide +kernel
theorem dX9_reach_43 : decode cX9_reach 43 = .ok (.iconst 0, 1) := by decide +kernel
theorem dX9_reach_44 : decode cX9_reach 44 = .ok (.ireturn, 1) := by decide +kernel
set_option maxRecDepth 20000 in
theorem ggX9_lendFor_X8_theatreAt : GoodIn wsX9_lendFor wsX8_theatreAt := goodIn_r _ [7, 8, 9, 10, 63, 64, 65, 66, 67, 68, 69, 70, 71, 72, 73, 74, 75] (by decide +kernel) (by decide +kernel)
set_option maxRecDepth 20000 in
theorem gX9_lendFor_X8_theatreAt : GoodIn wsX9_lendFor (wsV RX9 87 RX8 yX8_theatreAt wsX8_theatreAt) := goodIn_app (goodIn_of _ (by decide +kernel)) ggX9_lendFor_X8_theatreAt
theorem dX9_lendFor_0 : decode cX9_lendFor 0 = .ok (.aload_n 0, 1) := by decide +kernel
theorem dX9_lendFor_1 : decode cX9_lendFor 1 = .ok (.getfield 10, 3) := by decide +kernel
theorem dX9_lendFor_4 : decode cX9_lendFor 4 = .ok (.iload_n 1, 1) := by decide +kernel
theorem dX9_lendFor_5 : decode cX9_lendFor 5 = .ok (.invokevirtual 87, 3) := by decide +kernel
theorem dX9_lendFor_8 : decode cX9_lendFor 8 = .ok (.astore 4, 2) := by decide +kernel
theorem dX9_lendFor_10 : decode cX9_lendFor 10 = .ok (.aload 4, 2) := by decide +kernel
theorem dX9_lendFor_12 : decode cX9_lendFor 12 = .ok (.ifnull 27, 3) := by decide +kernel
theorem dX9_lendFor_39 : decode cX9_lendFor 39 = .ok (.iconst 0, 1) := by decide +kernel
theorem dX9_lendFor_40 : decode cX9_lendFor 40 = .ok (.ireturn, 1) := by decide +kernel
