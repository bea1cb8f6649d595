abbrev wsX90 : List Cond := u_ws RX9 TX9 7
abbrev cX9_feed : ByteArray := prog_1_method_2_code
def yX9_feed : MethodName := ⟨RX9, "feed", "(IIIII)I"⟩
abbrev cX9_end : ByteArray := prog_1_method_3_code
def yX9_end : MethodName := ⟨RX9, "end", "(I)I"⟩
abbrev cX9_fault : ByteArray := prog_1_method_5_code
def yX9_fault : MethodName := ⟨RX9, "fault", "(I)I"⟩
abbrev cX9_theatre : ByteArray := prog_1_method_6_code
def yX9_theatre : MethodName := ⟨RX9, "theatre", "(II)I"⟩
abbrev cX9_deed : ByteArray := prog_1_method_7_code
def yX9_deed : MethodName := ⟨RX9, "deed", "(III)I"⟩
abbrev cX9_stop : ByteArray := prog_1_method_8_code
def yX9_stop : MethodName := ⟨RX9, "stop", "(II)I"⟩
abbrev cX9_state : ByteArray := prog_1_method_9_code
def yX9_state : MethodName := ⟨RX9, "state", "(IIII)I"⟩
abbrev cX9_palm : ByteArray := prog_1_method_10_code
def yX9_palm : MethodName := ⟨RX9, "palm", "(IIIII)I"⟩
abbrev cX9_actor : ByteArray := prog_1_method_11_code
def yX9_actor : MethodName := ⟨RX9, "actor", "(IIIII)I"⟩
abbrev cX9_run : ByteArray := prog_1_method_12_code
def yX9_run : MethodName := ⟨RX9, "run", "(IIII)I"⟩
abbrev cX9_feast : ByteArray := prog_1_method_13_code
def yX9_feast : MethodName := ⟨RX9, "feast", "(IIII)I"⟩
abbrev cX9_fair : ByteArray := prog_1_method_14_code
def yX9_fair : MethodName := ⟨RX9, "fair", "(IIIZ)I"⟩
abbrev cX9_ask : ByteArray := prog_1_method_15_code
def yX9_ask : MethodName := ⟨RX9, "ask", "(III)I"⟩
abbrev cX9_taken : ByteArray := prog_1_method_16_code
def yX9_taken : MethodName := ⟨RX9, "taken", "(III)I"⟩
abbrev cX9_stands : ByteArray := prog_1_method_17_code
def yX9_stands : MethodName := ⟨RX9, "stands", "(II)I"⟩
abbrev cX9_heard : ByteArray := prog_1_method_18_code
def yX9_heard : MethodName := ⟨RX9, "heard", "(II)I"⟩
abbrev cX9_ways : ByteArray := prog_1_method_19_code
def yX9_ways : MethodName := ⟨RX9, "ways", "(II)J"⟩
abbrev cX9_whose : ByteArray := prog_1_method_20_code
def yX9_whose : MethodName := ⟨RX9, "whose", "(IIIZ)I"⟩
abbrev cX9_drawn : ByteArray := prog_1_method_21_code
def yX9_drawn : MethodName := ⟨RX9, "drawn", "(IIII)I"⟩
abbrev cX9_look : ByteArray := prog_1_method_22_code
def yX9_look : MethodName := ⟨RX9, "look", "(IIII)I"⟩
abbrev cX9_silence : ByteArray := prog_1_method_23_code
def yX9_silence : MethodName := ⟨RX9, "silence", "(IIZ)I"⟩
abbrev cX9_count : ByteArray := prog_1_method_24_code
def yX9_count : MethodName := ⟨RX9, "count", "(I)I"⟩
abbrev cX9_reach : ByteArray := prog_1_method_27_code
def yX9_reach : MethodName := ⟨RX9, "reach", "(III)Z"⟩
abbrev cX9_lendFor : ByteArray := prog_1_method_28_code
def yX9_lendFor : MethodName := ⟨RX9, "lendFor", "(III)Z"⟩
abbrev cX9_commonPart : ByteArray := prog_1_method_29_code
def yX9_commonPart : MethodName := ⟨RX9, "commonPart", "(II)I"⟩
def wsX9_feed : List Cond := .code yX9_feed cX9_feed 6 (some .int) :: ([.fieldLink RX9 10 "ClapBank" "told" "LClapBank$Told;", .methodLink RX9 59 yX8_append, .instanceMethod yX8_append, .selects RX8 yX8_append yX8_append, .initialized RX8, .code yX8_append cX8_append 3 none, .fieldLink RX8 49 "ClapBank$Told" "length" "I", .fieldLink RX8 9 "ClapBank$Told" "tape" "[B"] ++ wsX90 ++ wsX80)
def wsX9_end : List Cond := .code yX9_end cX9_end 2 (some .int) :: ([.fieldLink RX9 10 "ClapBank" "told" "LClapBank$Told;"] ++ wsX90 ++ wsX80)
def wsX9_fault : List Cond := .code yX9_fault cX9_fault 2 (some .int) :: ([.fieldLink RX9 10 "ClapBank" "told" "LClapBank$Told;"] ++ wsX90 ++ wsX80)
def wsX9_theatre_r1 : List Cond := [Cond.fieldLink RX9 10 "ClapBank" "told" "LClapBank$Told;", Cond.methodLink RX9 87 yX8_theatreAt, Cond.instanceMethod yX8_theatreAt, Cond.selects RX8 yX8_theatreAt yX8_theatreAt, Cond.initialized RX8, Cond.code yX8_theatreAt cX8_theatreAt 2 (some (.object "ClapBank$Theatre")), Cond.fieldLink RX8 52 "ClapBank$Told" "theatres" "I", Cond.fieldLink RX8 22 "ClapBank$Told" "firstTheatre" "LClapBank$Theatre;", Cond.fieldLink RX8 26 "ClapBank$Told" "secondTheatre" "LClapBank$Theatre;", Cond.methodLink RX9 91 yX7_tell, Cond.instanceMethod yX7_tell, Cond.selects RX7 yX7_tell yX7_tell, Cond.initialized RX7, Cond.code yX7_tell cX7_tell 3 (some .int), Cond.fieldLink RX7 30 "ClapBank$Theatre" "palms" "I", Cond.fieldLink RX7 9 "ClapBank$Theatre" "claps" "[I", Cond.fieldLink RX7 15 "ClapBank$Theatre" "hands" "[I", Cond.fieldLink RX7 34 "ClapBank$Theatre" "actors" "I", Cond.fieldLink RX7 18 "ClapBank$Theatre" "hunger" "[I", Cond.fieldLink RX7 21 "ClapBank$Theatre" "saved" "[I", Cond.fieldLink RX7 37 "ClapBank$Theatre" "usurers" "I", Cond.fieldLink RX7 24 "ClapBank$Theatre" "asks" "[I", Cond.fieldLink RX7 27 "ClapBank$Theatre" "floors" "[I", Cond.methodLink RX7 55 yX7_tellWhole]
def wsX9_theatre_r2 : List Cond := [Cond.instanceMethod yX7_tellWhole, Cond.selects RX7 yX7_tellWhole yX7_tellWhole, Cond.code yX7_tellWhole cX7_tellWhole 2 (some .int), Cond.fieldLink RX7 40 "ClapBank$Theatre" "rate" "I", Cond.fieldLink RX7 43 "ClapBank$Theatre" "chest" "I", Cond.fieldLink RX7 46 "ClapBank$Theatre" "borrowers" "I"]
def wsX9_theatre : List Cond := .code yX9_theatre cX9_theatre 4 (some .int) :: ((wsX9_theatre_r1 ++ wsX9_theatre_r2) ++ wsX90 ++ wsX80 ++ wsX70)
def wsX9_deed : List Cond := .code yX9_deed cX9_deed 5 (some .int) :: ([.fieldLink RX9 10 "ClapBank" "told" "LClapBank$Told;", .methodLink RX9 96 yX8_bookAt, .instanceMethod yX8_bookAt, .selects RX8 yX8_bookAt yX8_bookAt, .initialized RX8, .code yX8_bookAt cX8_bookAt 2 (some (.object "ClapBank$Book")), .fieldLink RX8 55 "ClapBank$Told" "books" "I", .fieldLink RX8 32 "ClapBank$Told" "firstBook" "LClapBank$Book;", .fieldLink RX8 36 "ClapBank$Told" "secondBook" "LClapBank$Book;", .methodLink RX9 105 yX0_part, .instanceMethod yX0_part, .selects RX0 yX0_part yX0_part, .initialized RX0, .code yX0_part cX0_part 3 (some .int), .fieldLink RX0 9 "ClapBank$Book" "parts" "[I"] ++ wsX90 ++ wsX00 ++ wsX80)
def wsX9_stop_r1 : List Cond := [Cond.fieldLink RX9 10 "ClapBank" "told" "LClapBank$Told;", Cond.fieldLink RX9 30 "ClapBank" "evening" "LClapBank$Evening;", Cond.methodLink RX9 87 yX8_theatreAt, Cond.instanceMethod yX8_theatreAt, Cond.selects RX8 yX8_theatreAt yX8_theatreAt, Cond.initialized RX8, Cond.code yX8_theatreAt cX8_theatreAt 2 (some (.object "ClapBank$Theatre")), Cond.fieldLink RX8 52 "ClapBank$Told" "theatres" "I", Cond.fieldLink RX8 22 "ClapBank$Told" "firstTheatre" "LClapBank$Theatre;", Cond.fieldLink RX8 26 "ClapBank$Told" "secondTheatre" "LClapBank$Theatre;", Cond.methodLink RX9 96 yX8_bookAt, Cond.instanceMethod yX8_bookAt, Cond.selects RX8 yX8_bookAt yX8_bookAt, Cond.code yX8_bookAt cX8_bookAt 2 (some (.object "ClapBank$Book")), Cond.fieldLink RX8 55 "ClapBank$Told" "books" "I", Cond.fieldLink RX8 32 "ClapBank$Told" "firstBook" "LClapBank$Book;", Cond.fieldLink RX8 36 "ClapBank$Told" "secondBook" "LClapBank$Book;", Cond.methodLink RX9 109 yX2_playAll, Cond.instanceMethod yX2_playAll, Cond.selects RX2 yX2_playAll yX2_playAll, Cond.initialized RX2, Cond.code yX2_playAll cX2_playAll 4 (some .int), Cond.methodLink RX2 75 yX2_begin, Cond.instanceMethod yX2_begin]
def wsX9_stop_r2 : List Cond := [Cond.selects RX2 yX2_begin yX2_begin, Cond.code yX2_begin cX2_begin 2 none, Cond.fieldLink RX2 12 "ClapBank$Evening" "house" "LClapBank$Theatre;", Cond.fieldLink RX2 18 "ClapBank$Evening" "left" "[I", Cond.methodLink RX2 43 arraycopyName, Cond.native arraycopyName, Cond.static arraycopyName, Cond.initialized "java/lang/System", Cond.fieldLink RX2 28 "ClapBank$Evening" "saved" "[I", Cond.fieldLink RX2 22 "ClapBank$Evening" "owes" "[I", Cond.fieldLink RX2 25 "ClapBank$Evening" "got" "[I", Cond.fieldLink RX2 31 "ClapBank$Evening" "starved" "[I", Cond.fieldLink RX2 34 "ClapBank$Evening" "storms" "[I", Cond.fieldLink RX2 60 "ClapBank$Evening" "chest" "I", Cond.fieldLink RX2 61 "ClapBank$Evening" "encores" "I", Cond.fieldLink RX2 64 "ClapBank$Evening" "nights" "I", Cond.fieldLink RX2 67 "ClapBank$Evening" "claps" "I", Cond.fieldLink RX2 69 "ClapBank$Evening" "hushed" "I", Cond.fieldLink RX2 72 "ClapBank$Evening" "echo" "I", Cond.methodLink RX2 50 yJ7_fill_53178, Cond.static yJ7_fill_53178, Cond.initialized RJ7, Cond.code yJ7_fill_53178 cJ7_fill_53178 4 none, Cond.methodLink RX2 79 yX2_canBe]
def wsX9_stop_r3 : List Cond := [Cond.instanceMethod yX2_canBe, Cond.selects RX2 yX2_canBe yX2_canBe, Cond.code yX2_canBe cX2_canBe 6 (some .boolean), Cond.methodLink RX2 120 yX0_part, Cond.instanceMethod yX0_part, Cond.selects RX0 yX0_part yX0_part, Cond.initialized RX0, Cond.code yX0_part cX0_part 3 (some .int), Cond.fieldLink RX0 9 "ClapBank$Book" "parts" "[I", Cond.methodLink RX2 124 yX2_canGive, Cond.instanceMethod yX2_canGive, Cond.selects RX2 yX2_canGive yX2_canGive, Cond.code yX2_canGive cX2_canGive 3 (some .boolean), Cond.methodLink RX2 127 yX2_hasPalm, Cond.instanceMethod yX2_hasPalm, Cond.selects RX2 yX2_hasPalm yX2_hasPalm, Cond.code yX2_hasPalm cX2_hasPalm 2 (some .boolean), Cond.methodLink RX2 130 yX2_isHushed, Cond.instanceMethod yX2_isHushed, Cond.selects RX2 yX2_isHushed yX2_isHushed, Cond.code yX2_isHushed cX2_isHushed 2 (some .boolean), Cond.methodLink RX2 99 yX2_lives, Cond.instanceMethod yX2_lives, Cond.selects RX2 yX2_lives yX2_lives]
def wsX9_stop_r4 : List Cond := [Cond.code yX2_lives cX2_lives 2 (some .boolean), Cond.methodLink RX2 117 yX2_hasActor, Cond.instanceMethod yX2_hasActor, Cond.selects RX2 yX2_hasActor yX2_hasActor, Cond.code yX2_hasActor cX2_hasActor 2 (some .boolean), Cond.methodLink RX2 83 yX2_act, Cond.instanceMethod yX2_act, Cond.selects RX2 yX2_act yX2_act, Cond.code yX2_act cX2_act 7 none, Cond.methodLink RX2 133 yX2_clapFor, Cond.instanceMethod yX2_clapFor, Cond.selects RX2 yX2_clapFor yX2_clapFor, Cond.code yX2_clapFor cX2_clapFor 5 none, Cond.methodLink RX2 110 yX2_give, Cond.instanceMethod yX2_give, Cond.selects RX2 yX2_give yX2_give, Cond.code yX2_give cX2_give 3 none, Cond.methodLink RX2 137 yX2_move, Cond.instanceMethod yX2_move, Cond.selects RX2 yX2_move yX2_move, Cond.code yX2_move cX2_move 4 none, Cond.methodLink RX2 114 yX2_passNight, Cond.instanceMethod yX2_passNight, Cond.selects RX2 yX2_passNight yX2_passNight]
def wsX9_stop_r5 : List Cond := [Cond.code yX2_passNight cX2_passNight 2 none, Cond.methodLink RX2 166 yX2_dine, Cond.instanceMethod yX2_dine, Cond.selects RX2 yX2_dine yX2_dine, Cond.code yX2_dine cX2_dine 3 none, Cond.methodLink RX2 146 yX2_price, Cond.instanceMethod yX2_price, Cond.selects RX2 yX2_price yX2_price, Cond.code yX2_price cX2_price 2 (some .int), Cond.methodLink RX2 143 yX2_priceBehind, Cond.instanceMethod yX2_priceBehind, Cond.selects RX2 yX2_priceBehind yX2_priceBehind, Cond.code yX2_priceBehind cX2_priceBehind 3 (some .int), Cond.methodLink RX2 170 yX2_grown, Cond.instanceMethod yX2_grown, Cond.selects RX2 yX2_grown yX2_grown, Cond.code yX2_grown cX2_grown 4 (some .int), Cond.constantLong RX2 158 (100), Cond.constantLong RX2 160 (1000000000), Cond.methodLink RX2 162 Lib.MathLoose.min_long.x, Cond.static Lib.MathLoose.min_long.x, Cond.initialized "java/lang/Math", Cond.code Lib.MathLoose.min_long.x Lib.MathLoose.min_long.code 4 (some .long)]
def wsX9_stop : List Cond := .code yX9_stop cX9_stop 5 (some .int) :: ((wsX9_stop_r1 ++ (wsX9_stop_r2 ++ (wsX9_stop_r3 ++ (wsX9_stop_r4 ++ wsX9_stop_r5)))) ++ wsX90 ++ wsX80 ++ wsX00 ++ wsX20 ++ wsX70)
def wsX9_reach_r1 : List Cond := [Cond.fieldLink RX9 10 "ClapBank" "told" "LClapBank$Told;", Cond.fieldLink RX9 30 "ClapBank" "evening" "LClapBank$Evening;", Cond.methodLink RX9 87 yX8_theatreAt, Cond.instanceMethod yX8_theatreAt, Cond.selects RX8 yX8_theatreAt yX8_theatreAt, Cond.initialized RX8, Cond.code yX8_theatreAt cX8_theatreAt 2 (some (.object "ClapBank$Theatre")), Cond.fieldLink RX8 52 "ClapBank$Told" "theatres" "I", Cond.fieldLink RX8 22 "ClapBank$Told" "firstTheatre" "LClapBank$Theatre;", Cond.fieldLink RX8 26 "ClapBank$Told" "secondTheatre" "LClapBank$Theatre;", Cond.methodLink RX9 96 yX8_bookAt, Cond.instanceMethod yX8_bookAt, Cond.selects RX8 yX8_bookAt yX8_bookAt, Cond.code yX8_bookAt cX8_bookAt 2 (some (.object "ClapBank$Book")), Cond.fieldLink RX8 55 "ClapBank$Told" "books" "I", Cond.fieldLink RX8 32 "ClapBank$Told" "firstBook" "LClapBank$Book;", Cond.fieldLink RX8 36 "ClapBank$Told" "secondBook" "LClapBank$Book;", Cond.methodLink RX9 250 yX2_playFirst, Cond.instanceMethod yX2_playFirst, Cond.selects RX2 yX2_playFirst yX2_playFirst, Cond.initialized RX2, Cond.code yX2_playFirst cX2_playFirst 5 (some .boolean), Cond.methodLink RX2 75 yX2_begin, Cond.instanceMethod yX2_begin]
def wsX9_reach_r2 : List Cond := [Cond.selects RX2 yX2_begin yX2_begin, Cond.code yX2_begin cX2_begin 2 none, Cond.fieldLink RX2 12 "ClapBank$Evening" "house" "LClapBank$Theatre;", Cond.fieldLink RX2 18 "ClapBank$Evening" "left" "[I", Cond.methodLink RX2 43 arraycopyName, Cond.native arraycopyName, Cond.static arraycopyName, Cond.initialized "java/lang/System", Cond.fieldLink RX2 28 "ClapBank$Evening" "saved" "[I", Cond.fieldLink RX2 22 "ClapBank$Evening" "owes" "[I", Cond.fieldLink RX2 25 "ClapBank$Evening" "got" "[I", Cond.fieldLink RX2 31 "ClapBank$Evening" "starved" "[I", Cond.fieldLink RX2 34 "ClapBank$Evening" "storms" "[I", Cond.fieldLink RX2 60 "ClapBank$Evening" "chest" "I", Cond.fieldLink RX2 61 "ClapBank$Evening" "encores" "I", Cond.fieldLink RX2 64 "ClapBank$Evening" "nights" "I", Cond.fieldLink RX2 67 "ClapBank$Evening" "claps" "I", Cond.fieldLink RX2 69 "ClapBank$Evening" "hushed" "I", Cond.fieldLink RX2 72 "ClapBank$Evening" "echo" "I", Cond.methodLink RX2 50 yJ7_fill_53178, Cond.static yJ7_fill_53178, Cond.initialized RJ7, Cond.code yJ7_fill_53178 cJ7_fill_53178 4 none, Cond.methodLink RX2 79 yX2_canBe]
def wsX9_reach_r3 : List Cond := [Cond.instanceMethod yX2_canBe, Cond.selects RX2 yX2_canBe yX2_canBe, Cond.code yX2_canBe cX2_canBe 6 (some .boolean), Cond.methodLink RX2 120 yX0_part, Cond.instanceMethod yX0_part, Cond.selects RX0 yX0_part yX0_part, Cond.initialized RX0, Cond.code yX0_part cX0_part 3 (some .int), Cond.fieldLink RX0 9 "ClapBank$Book" "parts" "[I", Cond.methodLink RX2 124 yX2_canGive, Cond.instanceMethod yX2_canGive, Cond.selects RX2 yX2_canGive yX2_canGive, Cond.code yX2_canGive cX2_canGive 3 (some .boolean), Cond.methodLink RX2 127 yX2_hasPalm, Cond.instanceMethod yX2_hasPalm, Cond.selects RX2 yX2_hasPalm yX2_hasPalm, Cond.code yX2_hasPalm cX2_hasPalm 2 (some .boolean), Cond.methodLink RX2 130 yX2_isHushed, Cond.instanceMethod yX2_isHushed, Cond.selects RX2 yX2_isHushed yX2_isHushed, Cond.code yX2_isHushed cX2_isHushed 2 (some .boolean), Cond.methodLink RX2 99 yX2_lives, Cond.instanceMethod yX2_lives, Cond.selects RX2 yX2_lives yX2_lives]
def wsX9_reach_r4 : List Cond := [Cond.code yX2_lives cX2_lives 2 (some .boolean), Cond.methodLink RX2 117 yX2_hasActor, Cond.instanceMethod yX2_hasActor, Cond.selects RX2 yX2_hasActor yX2_hasActor, Cond.code yX2_hasActor cX2_hasActor 2 (some .boolean), Cond.methodLink RX2 83 yX2_act, Cond.instanceMethod yX2_act, Cond.selects RX2 yX2_act yX2_act, Cond.code yX2_act cX2_act 7 none, Cond.methodLink RX2 133 yX2_clapFor, Cond.instanceMethod yX2_clapFor, Cond.selects RX2 yX2_clapFor yX2_clapFor, Cond.code yX2_clapFor cX2_clapFor 5 none, Cond.methodLink RX2 110 yX2_give, Cond.instanceMethod yX2_give, Cond.selects RX2 yX2_give yX2_give, Cond.code yX2_give cX2_give 3 none, Cond.methodLink RX2 137 yX2_move, Cond.instanceMethod yX2_move, Cond.selects RX2 yX2_move yX2_move, Cond.code yX2_move cX2_move 4 none, Cond.methodLink RX2 114 yX2_passNight, Cond.instanceMethod yX2_passNight, Cond.selects RX2 yX2_passNight yX2_passNight]
def wsX9_reach_r5 : List Cond := [Cond.code yX2_passNight cX2_passNight 2 none, Cond.methodLink RX2 166 yX2_dine, Cond.instanceMethod yX2_dine, Cond.selects RX2 yX2_dine yX2_dine, Cond.code yX2_dine cX2_dine 3 none, Cond.methodLink RX2 146 yX2_price, Cond.instanceMethod yX2_price, Cond.selects RX2 yX2_price yX2_price, Cond.code yX2_price cX2_price 2 (some .int), Cond.methodLink RX2 143 yX2_priceBehind, Cond.instanceMethod yX2_priceBehind, Cond.selects RX2 yX2_priceBehind yX2_priceBehind, Cond.code yX2_priceBehind cX2_priceBehind 3 (some .int), Cond.methodLink RX2 170 yX2_grown, Cond.instanceMethod yX2_grown, Cond.selects RX2 yX2_grown yX2_grown, Cond.code yX2_grown cX2_grown 4 (some .int), Cond.constantLong RX2 158 (100), Cond.constantLong RX2 160 (1000000000), Cond.methodLink RX2 162 Lib.MathLoose.min_long.x, Cond.static Lib.MathLoose.min_long.x, Cond.initialized "java/lang/Math", Cond.code Lib.MathLoose.min_long.x Lib.MathLoose.min_long.code 4 (some .long)]
def wsX9_reach : List Cond := .code yX9_reach cX9_reach 6 (some .boolean) :: ((wsX9_reach_r1 ++ (wsX9_reach_r2 ++ (wsX9_reach_r3 ++ (wsX9_reach_r4 ++ wsX9_reach_r5)))) ++ wsX90 ++ wsX00 ++ wsX80 ++ wsX20 ++ wsX70)
def wsX9_state_r1 : List Cond := [Cond.fieldLink RX9 30 "ClapBank" "evening" "LClapBank$Evening;", Cond.methodLink RX9 113 yX9_reach, Cond.instanceMethod yX9_reach, Cond.selects RX9 yX9_reach yX9_reach, Cond.initialized RX9, Cond.code yX9_reach cX9_reach 6 (some .boolean), Cond.fieldLink RX9 10 "ClapBank" "told" "LClapBank$Told;", Cond.methodLink RX9 87 yX8_theatreAt, Cond.instanceMethod yX8_theatreAt, Cond.selects RX8 yX8_theatreAt yX8_theatreAt, Cond.initialized RX8, Cond.code yX8_theatreAt cX8_theatreAt 2 (some (.object "ClapBank$Theatre")), Cond.fieldLink RX8 52 "ClapBank$Told" "theatres" "I", Cond.fieldLink RX8 22 "ClapBank$Told" "firstTheatre" "LClapBank$Theatre;", Cond.fieldLink RX8 26 "ClapBank$Told" "secondTheatre" "LClapBank$Theatre;", Cond.methodLink RX9 96 yX8_bookAt, Cond.instanceMethod yX8_bookAt, Cond.selects RX8 yX8_bookAt yX8_bookAt, Cond.code yX8_bookAt cX8_bookAt 2 (some (.object "ClapBank$Book")), Cond.fieldLink RX8 55 "ClapBank$Told" "books" "I", Cond.fieldLink RX8 32 "ClapBank$Told" "firstBook" "LClapBank$Book;", Cond.fieldLink RX8 36 "ClapBank$Told" "secondBook" "LClapBank$Book;", Cond.methodLink RX9 250 yX2_playFirst, Cond.instanceMethod yX2_playFirst]
def wsX9_state_r2 : List Cond := [Cond.selects RX2 yX2_playFirst yX2_playFirst, Cond.initialized RX2, Cond.code yX2_playFirst cX2_playFirst 5 (some .boolean), Cond.methodLink RX2 75 yX2_begin, Cond.instanceMethod yX2_begin, Cond.selects RX2 yX2_begin yX2_begin, Cond.code yX2_begin cX2_begin 2 none, Cond.fieldLink RX2 12 "ClapBank$Evening" "house" "LClapBank$Theatre;", Cond.fieldLink RX2 18 "ClapBank$Evening" "left" "[I", Cond.methodLink RX2 43 arraycopyName, Cond.native arraycopyName, Cond.static arraycopyName, Cond.initialized "java/lang/System", Cond.fieldLink RX2 28 "ClapBank$Evening" "saved" "[I", Cond.fieldLink RX2 22 "ClapBank$Evening" "owes" "[I", Cond.fieldLink RX2 25 "ClapBank$Evening" "got" "[I", Cond.fieldLink RX2 31 "ClapBank$Evening" "starved" "[I", Cond.fieldLink RX2 34 "ClapBank$Evening" "storms" "[I", Cond.fieldLink RX2 60 "ClapBank$Evening" "chest" "I", Cond.fieldLink RX2 61 "ClapBank$Evening" "encores" "I", Cond.fieldLink RX2 64 "ClapBank$Evening" "nights" "I", Cond.fieldLink RX2 67 "ClapBank$Evening" "claps" "I", Cond.fieldLink RX2 69 "ClapBank$Evening" "hushed" "I", Cond.fieldLink RX2 72 "ClapBank$Evening" "echo" "I"]
def wsX9_state_r3 : List Cond := [Cond.methodLink RX2 50 yJ7_fill_53178, Cond.static yJ7_fill_53178, Cond.initialized RJ7, Cond.code yJ7_fill_53178 cJ7_fill_53178 4 none, Cond.methodLink RX2 79 yX2_canBe, Cond.instanceMethod yX2_canBe, Cond.selects RX2 yX2_canBe yX2_canBe, Cond.code yX2_canBe cX2_canBe 6 (some .boolean), Cond.methodLink RX2 120 yX0_part, Cond.instanceMethod yX0_part, Cond.selects RX0 yX0_part yX0_part, Cond.initialized RX0, Cond.code yX0_part cX0_part 3 (some .int), Cond.fieldLink RX0 9 "ClapBank$Book" "parts" "[I", Cond.methodLink RX2 124 yX2_canGive, Cond.instanceMethod yX2_canGive, Cond.selects RX2 yX2_canGive yX2_canGive, Cond.code yX2_canGive cX2_canGive 3 (some .boolean), Cond.methodLink RX2 127 yX2_hasPalm, Cond.instanceMethod yX2_hasPalm, Cond.selects RX2 yX2_hasPalm yX2_hasPalm, Cond.code yX2_hasPalm cX2_hasPalm 2 (some .boolean), Cond.methodLink RX2 130 yX2_isHushed, Cond.instanceMethod yX2_isHushed]
def wsX9_state_r4 : List Cond := [Cond.selects RX2 yX2_isHushed yX2_isHushed, Cond.code yX2_isHushed cX2_isHushed 2 (some .boolean), Cond.methodLink RX2 99 yX2_lives, Cond.instanceMethod yX2_lives, Cond.selects RX2 yX2_lives yX2_lives, Cond.code yX2_lives cX2_lives 2 (some .boolean), Cond.methodLink RX2 117 yX2_hasActor, Cond.instanceMethod yX2_hasActor, Cond.selects RX2 yX2_hasActor yX2_hasActor, Cond.code yX2_hasActor cX2_hasActor 2 (some .boolean), Cond.methodLink RX2 83 yX2_act, Cond.instanceMethod yX2_act, Cond.selects RX2 yX2_act yX2_act, Cond.code yX2_act cX2_act 7 none, Cond.methodLink RX2 133 yX2_clapFor, Cond.instanceMethod yX2_clapFor, Cond.selects RX2 yX2_clapFor yX2_clapFor, Cond.code yX2_clapFor cX2_clapFor 5 none, Cond.methodLink RX2 110 yX2_give, Cond.instanceMethod yX2_give, Cond.selects RX2 yX2_give yX2_give, Cond.code yX2_give cX2_give 3 none, Cond.methodLink RX2 137 yX2_move, Cond.instanceMethod yX2_move]
def wsX9_state_r5 : List Cond := [Cond.selects RX2 yX2_move yX2_move, Cond.code yX2_move cX2_move 4 none, Cond.methodLink RX2 114 yX2_passNight, Cond.instanceMethod yX2_passNight, Cond.selects RX2 yX2_passNight yX2_passNight, Cond.code yX2_passNight cX2_passNight 2 none, Cond.methodLink RX2 166 yX2_dine, Cond.instanceMethod yX2_dine, Cond.selects RX2 yX2_dine yX2_dine, Cond.code yX2_dine cX2_dine 3 none, Cond.methodLink RX2 146 yX2_price, Cond.instanceMethod yX2_price, Cond.selects RX2 yX2_price yX2_price, Cond.code yX2_price cX2_price 2 (some .int), Cond.methodLink RX2 143 yX2_priceBehind, Cond.instanceMethod yX2_priceBehind, Cond.selects RX2 yX2_priceBehind yX2_priceBehind, Cond.code yX2_priceBehind cX2_priceBehind 3 (some .int), Cond.methodLink RX2 170 yX2_grown, Cond.instanceMethod yX2_grown, Cond.selects RX2 yX2_grown yX2_grown, Cond.code yX2_grown cX2_grown 4 (some .int), Cond.constantLong RX2 158 (100), Cond.constantLong RX2 160 (1000000000)]
def wsX9_state_r6 : List Cond := [Cond.methodLink RX2 162 Lib.MathLoose.min_long.x, Cond.static Lib.MathLoose.min_long.x, Cond.initialized "java/lang/Math", Cond.code Lib.MathLoose.min_long.x Lib.MathLoose.min_long.code 4 (some .long), Cond.methodLink RX9 117 yX2_tell, Cond.instanceMethod yX2_tell, Cond.selects RX2 yX2_tell yX2_tell, Cond.code yX2_tell cX2_tell 2 (some .int), Cond.methodLink RX2 176 yX2_living, Cond.instanceMethod yX2_living, Cond.selects RX2 yX2_living yX2_living, Cond.code yX2_living cX2_living 3 (some .int), Cond.methodLink RX2 180 yX2_allSaved, Cond.instanceMethod yX2_allSaved, Cond.selects RX2 yX2_allSaved yX2_allSaved, Cond.code yX2_allSaved cX2_allSaved 3 (some .int)]
def wsX9_state : List Cond := .code yX9_state cX9_state 5 (some .int) :: ((wsX9_state_r1 ++ (wsX9_state_r2 ++ (wsX9_state_r3 ++ (wsX9_state_r4 ++ (wsX9_state_r5 ++ wsX9_state_r6))))) ++ wsX90 ++ wsX00 ++ wsX80 ++ wsX20 ++ wsX70)
def wsX9_palm_r1 : List Cond := [Cond.fieldLink RX9 30 "ClapBank" "evening" "LClapBank$Evening;", Cond.methodLink RX9 113 yX9_reach, Cond.instanceMethod yX9_reach, Cond.selects RX9 yX9_reach yX9_reach, Cond.initialized RX9, Cond.code yX9_reach cX9_reach 6 (some .boolean), Cond.fieldLink RX9 10 "ClapBank" "told" "LClapBank$Told;", Cond.methodLink RX9 87 yX8_theatreAt, Cond.instanceMethod yX8_theatreAt, Cond.selects RX8 yX8_theatreAt yX8_theatreAt, Cond.initialized RX8, Cond.code yX8_theatreAt cX8_theatreAt 2 (some (.object "ClapBank$Theatre")), Cond.fieldLink RX8 52 "ClapBank$Told" "theatres" "I", Cond.fieldLink RX8 22 "ClapBank$Told" "firstTheatre" "LClapBank$Theatre;", Cond.fieldLink RX8 26 "ClapBank$Told" "secondTheatre" "LClapBank$Theatre;", Cond.methodLink RX9 96 yX8_bookAt, Cond.instanceMethod yX8_bookAt, Cond.selects RX8 yX8_bookAt yX8_bookAt, Cond.code yX8_bookAt cX8_bookAt 2 (some (.object "ClapBank$Book")), Cond.fieldLink RX8 55 "ClapBank$Told" "books" "I", Cond.fieldLink RX8 32 "ClapBank$Told" "firstBook" "LClapBank$Book;", Cond.fieldLink RX8 36 "ClapBank$Told" "secondBook" "LClapBank$Book;", Cond.methodLink RX9 250 yX2_playFirst, Cond.instanceMethod yX2_playFirst]
def wsX9_palm_r2 : List Cond := [Cond.selects RX2 yX2_playFirst yX2_playFirst, Cond.initialized RX2, Cond.code yX2_playFirst cX2_playFirst 5 (some .boolean), Cond.methodLink RX2 75 yX2_begin, Cond.instanceMethod yX2_begin, Cond.selects RX2 yX2_begin yX2_begin, Cond.code yX2_begin cX2_begin 2 none, Cond.fieldLink RX2 12 "ClapBank$Evening" "house" "LClapBank$Theatre;", Cond.fieldLink RX2 18 "ClapBank$Evening" "left" "[I", Cond.methodLink RX2 43 arraycopyName, Cond.native arraycopyName, Cond.static arraycopyName, Cond.initialized "java/lang/System", Cond.fieldLink RX2 28 "ClapBank$Evening" "saved" "[I", Cond.fieldLink RX2 22 "ClapBank$Evening" "owes" "[I", Cond.fieldLink RX2 25 "ClapBank$Evening" "got" "[I", Cond.fieldLink RX2 31 "ClapBank$Evening" "starved" "[I", Cond.fieldLink RX2 34 "ClapBank$Evening" "storms" "[I", Cond.fieldLink RX2 60 "ClapBank$Evening" "chest" "I", Cond.fieldLink RX2 61 "ClapBank$Evening" "encores" "I", Cond.fieldLink RX2 64 "ClapBank$Evening" "nights" "I", Cond.fieldLink RX2 67 "ClapBank$Evening" "claps" "I", Cond.fieldLink RX2 69 "ClapBank$Evening" "hushed" "I", Cond.fieldLink RX2 72 "ClapBank$Evening" "echo" "I"]
def wsX9_palm_r3 : List Cond := [Cond.methodLink RX2 50 yJ7_fill_53178, Cond.static yJ7_fill_53178, Cond.initialized RJ7, Cond.code yJ7_fill_53178 cJ7_fill_53178 4 none, Cond.methodLink RX2 79 yX2_canBe, Cond.instanceMethod yX2_canBe, Cond.selects RX2 yX2_canBe yX2_canBe, Cond.code yX2_canBe cX2_canBe 6 (some .boolean), Cond.methodLink RX2 120 yX0_part, Cond.instanceMethod yX0_part, Cond.selects RX0 yX0_part yX0_part, Cond.initialized RX0, Cond.code yX0_part cX0_part 3 (some .int), Cond.fieldLink RX0 9 "ClapBank$Book" "parts" "[I", Cond.methodLink RX2 124 yX2_canGive, Cond.instanceMethod yX2_canGive, Cond.selects RX2 yX2_canGive yX2_canGive, Cond.code yX2_canGive cX2_canGive 3 (some .boolean), Cond.methodLink RX2 127 yX2_hasPalm, Cond.instanceMethod yX2_hasPalm, Cond.selects RX2 yX2_hasPalm yX2_hasPalm, Cond.code yX2_hasPalm cX2_hasPalm 2 (some .boolean), Cond.methodLink RX2 130 yX2_isHushed, Cond.instanceMethod yX2_isHushed]
def wsX9_palm_r4 : List Cond := [Cond.selects RX2 yX2_isHushed yX2_isHushed, Cond.code yX2_isHushed cX2_isHushed 2 (some .boolean), Cond.methodLink RX2 99 yX2_lives, Cond.instanceMethod yX2_lives, Cond.selects RX2 yX2_lives yX2_lives, Cond.code yX2_lives cX2_lives 2 (some .boolean), Cond.methodLink RX2 117 yX2_hasActor, Cond.instanceMethod yX2_hasActor, Cond.selects RX2 yX2_hasActor yX2_hasActor, Cond.code yX2_hasActor cX2_hasActor 2 (some .boolean), Cond.methodLink RX2 83 yX2_act, Cond.instanceMethod yX2_act, Cond.selects RX2 yX2_act yX2_act, Cond.code yX2_act cX2_act 7 none, Cond.methodLink RX2 133 yX2_clapFor, Cond.instanceMethod yX2_clapFor, Cond.selects RX2 yX2_clapFor yX2_clapFor, Cond.code yX2_clapFor cX2_clapFor 5 none, Cond.methodLink RX2 110 yX2_give, Cond.instanceMethod yX2_give, Cond.selects RX2 yX2_give yX2_give, Cond.code yX2_give cX2_give 3 none, Cond.methodLink RX2 137 yX2_move, Cond.instanceMethod yX2_move]
def wsX9_palm_r5 : List Cond := [Cond.selects RX2 yX2_move yX2_move, Cond.code yX2_move cX2_move 4 none, Cond.methodLink RX2 114 yX2_passNight, Cond.instanceMethod yX2_passNight, Cond.selects RX2 yX2_passNight yX2_passNight, Cond.code yX2_passNight cX2_passNight 2 none, Cond.methodLink RX2 166 yX2_dine, Cond.instanceMethod yX2_dine, Cond.selects RX2 yX2_dine yX2_dine, Cond.code yX2_dine cX2_dine 3 none, Cond.methodLink RX2 146 yX2_price, Cond.instanceMethod yX2_price, Cond.selects RX2 yX2_price yX2_price, Cond.code yX2_price cX2_price 2 (some .int), Cond.methodLink RX2 143 yX2_priceBehind, Cond.instanceMethod yX2_priceBehind, Cond.selects RX2 yX2_priceBehind yX2_priceBehind, Cond.code yX2_priceBehind cX2_priceBehind 3 (some .int), Cond.methodLink RX2 170 yX2_grown, Cond.instanceMethod yX2_grown, Cond.selects RX2 yX2_grown yX2_grown, Cond.code yX2_grown cX2_grown 4 (some .int), Cond.constantLong RX2 158 (100), Cond.constantLong RX2 160 (1000000000)]
def wsX9_palm_r6 : List Cond := [Cond.methodLink RX2 162 Lib.MathLoose.min_long.x, Cond.static Lib.MathLoose.min_long.x, Cond.initialized "java/lang/Math", Cond.code Lib.MathLoose.min_long.x Lib.MathLoose.min_long.code 4 (some .long), Cond.methodLink RX9 118 yX2_hasPalm, Cond.methodLink RX9 122 yX2_tellPalm, Cond.instanceMethod yX2_tellPalm, Cond.selects RX2 yX2_tellPalm yX2_tellPalm, Cond.code yX2_tellPalm cX2_tellPalm 3 (some .int)]
def wsX9_palm : List Cond := .code yX9_palm cX9_palm 6 (some .int) :: ((wsX9_palm_r1 ++ (wsX9_palm_r2 ++ (wsX9_palm_r3 ++ (wsX9_palm_r4 ++ (wsX9_palm_r5 ++ wsX9_palm_r6))))) ++ wsX90 ++ wsX00 ++ wsX80 ++ wsX20 ++ wsX70)
def wsX9_actor_r1 : List Cond := [Cond.fieldLink RX9 30 "ClapBank" "evening" "LClapBank$Evening;", Cond.methodLink RX9 113 yX9_reach, Cond.instanceMethod yX9_reach, Cond.selects RX9 yX9_reach yX9_reach, Cond.initialized RX9, Cond.code yX9_reach cX9_reach 6 (some .boolean), Cond.fieldLink RX9 10 "ClapBank" "told" "LClapBank$Told;", Cond.methodLink RX9 87 yX8_theatreAt, Cond.instanceMethod yX8_theatreAt, Cond.selects RX8 yX8_theatreAt yX8_theatreAt, Cond.initialized RX8, Cond.code yX8_theatreAt cX8_theatreAt 2 (some (.object "ClapBank$Theatre")), Cond.fieldLink RX8 52 "ClapBank$Told" "theatres" "I", Cond.fieldLink RX8 22 "ClapBank$Told" "firstTheatre" "LClapBank$Theatre;", Cond.fieldLink RX8 26 "ClapBank$Told" "secondTheatre" "LClapBank$Theatre;", Cond.methodLink RX9 96 yX8_bookAt, Cond.instanceMethod yX8_bookAt, Cond.selects RX8 yX8_bookAt yX8_bookAt, Cond.code yX8_bookAt cX8_bookAt 2 (some (.object "ClapBank$Book")), Cond.fieldLink RX8 55 "ClapBank$Told" "books" "I", Cond.fieldLink RX8 32 "ClapBank$Told" "firstBook" "LClapBank$Book;", Cond.fieldLink RX8 36 "ClapBank$Told" "secondBook" "LClapBank$Book;", Cond.methodLink RX9 250 yX2_playFirst, Cond.instanceMethod yX2_playFirst]
def wsX9_actor_r2 : List Cond := [Cond.selects RX2 yX2_playFirst yX2_playFirst, Cond.initialized RX2, Cond.code yX2_playFirst cX2_playFirst 5 (some .boolean), Cond.methodLink RX2 75 yX2_begin, Cond.instanceMethod yX2_begin, Cond.selects RX2 yX2_begin yX2_begin, Cond.code yX2_begin cX2_begin 2 none, Cond.fieldLink RX2 12 "ClapBank$Evening" "house" "LClapBank$Theatre;", Cond.fieldLink RX2 18 "ClapBank$Evening" "left" "[I", Cond.methodLink RX2 43 arraycopyName, Cond.native arraycopyName, Cond.static arraycopyName, Cond.initialized "java/lang/System", Cond.fieldLink RX2 28 "ClapBank$Evening" "saved" "[I", Cond.fieldLink RX2 22 "ClapBank$Evening" "owes" "[I", Cond.fieldLink RX2 25 "ClapBank$Evening" "got" "[I", Cond.fieldLink RX2 31 "ClapBank$Evening" "starved" "[I", Cond.fieldLink RX2 34 "ClapBank$Evening" "storms" "[I", Cond.fieldLink RX2 60 "ClapBank$Evening" "chest" "I", Cond.fieldLink RX2 61 "ClapBank$Evening" "encores" "I", Cond.fieldLink RX2 64 "ClapBank$Evening" "nights" "I", Cond.fieldLink RX2 67 "ClapBank$Evening" "claps" "I", Cond.fieldLink RX2 69 "ClapBank$Evening" "hushed" "I", Cond.fieldLink RX2 72 "ClapBank$Evening" "echo" "I"]
def wsX9_actor_r3 : List Cond := [Cond.methodLink RX2 50 yJ7_fill_53178, Cond.static yJ7_fill_53178, Cond.initialized RJ7, Cond.code yJ7_fill_53178 cJ7_fill_53178 4 none, Cond.methodLink RX2 79 yX2_canBe, Cond.instanceMethod yX2_canBe, Cond.selects RX2 yX2_canBe yX2_canBe, Cond.code yX2_canBe cX2_canBe 6 (some .boolean), Cond.methodLink RX2 120 yX0_part, Cond.instanceMethod yX0_part, Cond.selects RX0 yX0_part yX0_part, Cond.initialized RX0, Cond.code yX0_part cX0_part 3 (some .int), Cond.fieldLink RX0 9 "ClapBank$Book" "parts" "[I", Cond.methodLink RX2 124 yX2_canGive, Cond.instanceMethod yX2_canGive, Cond.selects RX2 yX2_canGive yX2_canGive, Cond.code yX2_canGive cX2_canGive 3 (some .boolean), Cond.methodLink RX2 127 yX2_hasPalm, Cond.instanceMethod yX2_hasPalm, Cond.selects RX2 yX2_hasPalm yX2_hasPalm, Cond.code yX2_hasPalm cX2_hasPalm 2 (some .boolean), Cond.methodLink RX2 130 yX2_isHushed, Cond.instanceMethod yX2_isHushed]
def wsX9_actor_r4 : List Cond := [Cond.selects RX2 yX2_isHushed yX2_isHushed, Cond.code yX2_isHushed cX2_isHushed 2 (some .boolean), Cond.methodLink RX2 99 yX2_lives, Cond.instanceMethod yX2_lives, Cond.selects RX2 yX2_lives yX2_lives, Cond.code yX2_lives cX2_lives 2 (some .boolean), Cond.methodLink RX2 117 yX2_hasActor, Cond.instanceMethod yX2_hasActor, Cond.selects RX2 yX2_hasActor yX2_hasActor, Cond.code yX2_hasActor cX2_hasActor 2 (some .boolean), Cond.methodLink RX2 83 yX2_act, Cond.instanceMethod yX2_act, Cond.selects RX2 yX2_act yX2_act, Cond.code yX2_act cX2_act 7 none, Cond.methodLink RX2 133 yX2_clapFor, Cond.instanceMethod yX2_clapFor, Cond.selects RX2 yX2_clapFor yX2_clapFor, Cond.code yX2_clapFor cX2_clapFor 5 none, Cond.methodLink RX2 110 yX2_give, Cond.instanceMethod yX2_give, Cond.selects RX2 yX2_give yX2_give, Cond.code yX2_give cX2_give 3 none, Cond.methodLink RX2 137 yX2_move, Cond.instanceMethod yX2_move]
def wsX9_actor_r5 : List Cond := [Cond.selects RX2 yX2_move yX2_move, Cond.code yX2_move cX2_move 4 none, Cond.methodLink RX2 114 yX2_passNight, Cond.instanceMethod yX2_passNight, Cond.selects RX2 yX2_passNight yX2_passNight, Cond.code yX2_passNight cX2_passNight 2 none, Cond.methodLink RX2 166 yX2_dine, Cond.instanceMethod yX2_dine, Cond.selects RX2 yX2_dine yX2_dine, Cond.code yX2_dine cX2_dine 3 none, Cond.methodLink RX2 146 yX2_price, Cond.instanceMethod yX2_price, Cond.selects RX2 yX2_price yX2_price, Cond.code yX2_price cX2_price 2 (some .int), Cond.methodLink RX2 143 yX2_priceBehind, Cond.instanceMethod yX2_priceBehind, Cond.selects RX2 yX2_priceBehind yX2_priceBehind, Cond.code yX2_priceBehind cX2_priceBehind 3 (some .int), Cond.methodLink RX2 170 yX2_grown, Cond.instanceMethod yX2_grown, Cond.selects RX2 yX2_grown yX2_grown, Cond.code yX2_grown cX2_grown 4 (some .int), Cond.constantLong RX2 158 (100), Cond.constantLong RX2 160 (1000000000)]
def wsX9_actor_r6 : List Cond := [Cond.methodLink RX2 162 Lib.MathLoose.min_long.x, Cond.static Lib.MathLoose.min_long.x, Cond.initialized "java/lang/Math", Cond.code Lib.MathLoose.min_long.x Lib.MathLoose.min_long.code 4 (some .long), Cond.methodLink RX9 125 yX2_hasActor, Cond.methodLink RX9 128 yX2_tellActor, Cond.instanceMethod yX2_tellActor, Cond.selects RX2 yX2_tellActor yX2_tellActor, Cond.code yX2_tellActor cX2_tellActor 3 (some .int), Cond.methodLink RX2 173 yX2_need, Cond.instanceMethod yX2_need, Cond.selects RX2 yX2_need yX2_need, Cond.code yX2_need cX2_need 2 (some .int), Cond.methodLink RX2 150 Lib.Math.max.name, Cond.static Lib.Math.max.name, Cond.code Lib.Math.max.name Lib.Math.max.code 2 (some .int), Cond.methodLink RX2 183 yX2_friday, Cond.instanceMethod yX2_friday, Cond.selects RX2 yX2_friday yX2_friday, Cond.code yX2_friday cX2_friday 3 (some .int), Cond.methodLink RX2 186 yX2_star, Cond.instanceMethod yX2_star, Cond.selects RX2 yX2_star yX2_star, Cond.code yX2_star cX2_star 5 (some .int)]
def wsX9_actor : List Cond := .code yX9_actor cX9_actor 6 (some .int) :: ((wsX9_actor_r1 ++ (wsX9_actor_r2 ++ (wsX9_actor_r3 ++ (wsX9_actor_r4 ++ (wsX9_actor_r5 ++ wsX9_actor_r6))))) ++ wsX90 ++ wsX00 ++ wsX80 ++ wsX20 ++ wsX70)
def wsX9_run_r1 : List Cond := [Cond.fieldLink RX9 30 "ClapBank" "evening" "LClapBank$Evening;", Cond.methodLink RX9 113 yX9_reach, Cond.instanceMethod yX9_reach, Cond.selects RX9 yX9_reach yX9_reach, Cond.initialized RX9, Cond.code yX9_reach cX9_reach 6 (some .boolean), Cond.fieldLink RX9 10 "ClapBank" "told" "LClapBank$Told;", Cond.methodLink RX9 87 yX8_theatreAt, Cond.instanceMethod yX8_theatreAt, Cond.selects RX8 yX8_theatreAt yX8_theatreAt, Cond.initialized RX8, Cond.code yX8_theatreAt cX8_theatreAt 2 (some (.object "ClapBank$Theatre")), Cond.fieldLink RX8 52 "ClapBank$Told" "theatres" "I", Cond.fieldLink RX8 22 "ClapBank$Told" "firstTheatre" "LClapBank$Theatre;", Cond.fieldLink RX8 26 "ClapBank$Told" "secondTheatre" "LClapBank$Theatre;", Cond.methodLink RX9 96 yX8_bookAt, Cond.instanceMethod yX8_bookAt, Cond.selects RX8 yX8_bookAt yX8_bookAt, Cond.code yX8_bookAt cX8_bookAt 2 (some (.object "ClapBank$Book")), Cond.fieldLink RX8 55 "ClapBank$Told" "books" "I", Cond.fieldLink RX8 32 "ClapBank$Told" "firstBook" "LClapBank$Book;", Cond.fieldLink RX8 36 "ClapBank$Told" "secondBook" "LClapBank$Book;", Cond.methodLink RX9 250 yX2_playFirst, Cond.instanceMethod yX2_playFirst]
def wsX9_run_r2 : List Cond := [Cond.selects RX2 yX2_playFirst yX2_playFirst, Cond.initialized RX2, Cond.code yX2_playFirst cX2_playFirst 5 (some .boolean), Cond.methodLink RX2 75 yX2_begin, Cond.instanceMethod yX2_begin, Cond.selects RX2 yX2_begin yX2_begin, Cond.code yX2_begin cX2_begin 2 none, Cond.fieldLink RX2 12 "ClapBank$Evening" "house" "LClapBank$Theatre;", Cond.fieldLink RX2 18 "ClapBank$Evening" "left" "[I", Cond.methodLink RX2 43 arraycopyName, Cond.native arraycopyName, Cond.static arraycopyName, Cond.initialized "java/lang/System", Cond.fieldLink RX2 28 "ClapBank$Evening" "saved" "[I", Cond.fieldLink RX2 22 "ClapBank$Evening" "owes" "[I", Cond.fieldLink RX2 25 "ClapBank$Evening" "got" "[I", Cond.fieldLink RX2 31 "ClapBank$Evening" "starved" "[I", Cond.fieldLink RX2 34 "ClapBank$Evening" "storms" "[I", Cond.fieldLink RX2 60 "ClapBank$Evening" "chest" "I", Cond.fieldLink RX2 61 "ClapBank$Evening" "encores" "I", Cond.fieldLink RX2 64 "ClapBank$Evening" "nights" "I", Cond.fieldLink RX2 67 "ClapBank$Evening" "claps" "I", Cond.fieldLink RX2 69 "ClapBank$Evening" "hushed" "I", Cond.fieldLink RX2 72 "ClapBank$Evening" "echo" "I"]
def wsX9_run_r3 : List Cond := [Cond.methodLink RX2 50 yJ7_fill_53178, Cond.static yJ7_fill_53178, Cond.initialized RJ7, Cond.code yJ7_fill_53178 cJ7_fill_53178 4 none, Cond.methodLink RX2 79 yX2_canBe, Cond.instanceMethod yX2_canBe, Cond.selects RX2 yX2_canBe yX2_canBe, Cond.code yX2_canBe cX2_canBe 6 (some .boolean), Cond.methodLink RX2 120 yX0_part, Cond.instanceMethod yX0_part, Cond.selects RX0 yX0_part yX0_part, Cond.initialized RX0, Cond.code yX0_part cX0_part 3 (some .int), Cond.fieldLink RX0 9 "ClapBank$Book" "parts" "[I", Cond.methodLink RX2 124 yX2_canGive, Cond.instanceMethod yX2_canGive, Cond.selects RX2 yX2_canGive yX2_canGive, Cond.code yX2_canGive cX2_canGive 3 (some .boolean), Cond.methodLink RX2 127 yX2_hasPalm, Cond.instanceMethod yX2_hasPalm, Cond.selects RX2 yX2_hasPalm yX2_hasPalm, Cond.code yX2_hasPalm cX2_hasPalm 2 (some .boolean), Cond.methodLink RX2 130 yX2_isHushed, Cond.instanceMethod yX2_isHushed]
def wsX9_run_r4 : List Cond := [Cond.selects RX2 yX2_isHushed yX2_isHushed, Cond.code yX2_isHushed cX2_isHushed 2 (some .boolean), Cond.methodLink RX2 99 yX2_lives, Cond.instanceMethod yX2_lives, Cond.selects RX2 yX2_lives yX2_lives, Cond.code yX2_lives cX2_lives 2 (some .boolean), Cond.methodLink RX2 117 yX2_hasActor, Cond.instanceMethod yX2_hasActor, Cond.selects RX2 yX2_hasActor yX2_hasActor, Cond.code yX2_hasActor cX2_hasActor 2 (some .boolean), Cond.methodLink RX2 83 yX2_act, Cond.instanceMethod yX2_act, Cond.selects RX2 yX2_act yX2_act, Cond.code yX2_act cX2_act 7 none, Cond.methodLink RX2 133 yX2_clapFor, Cond.instanceMethod yX2_clapFor, Cond.selects RX2 yX2_clapFor yX2_clapFor, Cond.code yX2_clapFor cX2_clapFor 5 none, Cond.methodLink RX2 110 yX2_give, Cond.instanceMethod yX2_give, Cond.selects RX2 yX2_give yX2_give, Cond.code yX2_give cX2_give 3 none, Cond.methodLink RX2 137 yX2_move, Cond.instanceMethod yX2_move]
def wsX9_run_r5 : List Cond := [Cond.selects RX2 yX2_move yX2_move, Cond.code yX2_move cX2_move 4 none, Cond.methodLink RX2 114 yX2_passNight, Cond.instanceMethod yX2_passNight, Cond.selects RX2 yX2_passNight yX2_passNight, Cond.code yX2_passNight cX2_passNight 2 none, Cond.methodLink RX2 166 yX2_dine, Cond.instanceMethod yX2_dine, Cond.selects RX2 yX2_dine yX2_dine, Cond.code yX2_dine cX2_dine 3 none, Cond.methodLink RX2 146 yX2_price, Cond.instanceMethod yX2_price, Cond.selects RX2 yX2_price yX2_price, Cond.code yX2_price cX2_price 2 (some .int), Cond.methodLink RX2 143 yX2_priceBehind, Cond.instanceMethod yX2_priceBehind, Cond.selects RX2 yX2_priceBehind yX2_priceBehind, Cond.code yX2_priceBehind cX2_priceBehind 3 (some .int), Cond.methodLink RX2 170 yX2_grown, Cond.instanceMethod yX2_grown, Cond.selects RX2 yX2_grown yX2_grown, Cond.code yX2_grown cX2_grown 4 (some .int), Cond.constantLong RX2 158 (100), Cond.constantLong RX2 160 (1000000000)]
def wsX9_run_r6 : List Cond := [Cond.methodLink RX2 162 Lib.MathLoose.min_long.x, Cond.static Lib.MathLoose.min_long.x, Cond.initialized "java/lang/Math", Cond.code Lib.MathLoose.min_long.x Lib.MathLoose.min_long.code 4 (some .long), Cond.methodLink RX9 131 yX2_doomed, Cond.instanceMethod yX2_doomed, Cond.selects RX2 yX2_doomed yX2_doomed, Cond.code yX2_doomed cX2_doomed 3 (some .int), Cond.methodLink RX9 135 yX2_danger, Cond.instanceMethod yX2_danger, Cond.selects RX2 yX2_danger yX2_danger, Cond.code yX2_danger cX2_danger 5 (some .int), Cond.methodLink RX2 189 yX2_doomed, Cond.methodLink RX2 176 yX2_living, Cond.instanceMethod yX2_living, Cond.selects RX2 yX2_living yX2_living, Cond.code yX2_living cX2_living 3 (some .int), Cond.methodLink RX2 192 yX2_pricesOf, Cond.instanceMethod yX2_pricesOf, Cond.selects RX2 yX2_pricesOf yX2_pricesOf, Cond.code yX2_pricesOf cX2_pricesOf 4 (some .int), Cond.methodLink RX2 195 yX2_dearerThan, Cond.instanceMethod yX2_dearerThan, Cond.selects RX2 yX2_dearerThan yX2_dearerThan]
def wsX9_run_r7 : List Cond := [Cond.code yX2_dearerThan cX2_dearerThan 4 (some .int)]
def wsX9_run : List Cond := .code yX9_run cX9_run 5 (some .int) :: ((wsX9_run_r1 ++ (wsX9_run_r2 ++ (wsX9_run_r3 ++ (wsX9_run_r4 ++ (wsX9_run_r5 ++ (wsX9_run_r6 ++ wsX9_run_r7)))))) ++ wsX90 ++ wsX00 ++ wsX80 ++ wsX20 ++ wsX70)
def wsX9_feast_r1 : List Cond := [Cond.fieldLink RX9 37 "ClapBank" "table" "LClapBank$Feast;", Cond.fieldLink RX9 30 "ClapBank" "evening" "LClapBank$Evening;", Cond.methodLink RX9 113 yX9_reach, Cond.instanceMethod yX9_reach, Cond.selects RX9 yX9_reach yX9_reach, Cond.initialized RX9, Cond.code yX9_reach cX9_reach 6 (some .boolean), Cond.fieldLink RX9 10 "ClapBank" "told" "LClapBank$Told;", Cond.methodLink RX9 87 yX8_theatreAt, Cond.instanceMethod yX8_theatreAt, Cond.selects RX8 yX8_theatreAt yX8_theatreAt, Cond.initialized RX8, Cond.code yX8_theatreAt cX8_theatreAt 2 (some (.object "ClapBank$Theatre")), Cond.fieldLink RX8 52 "ClapBank$Told" "theatres" "I", Cond.fieldLink RX8 22 "ClapBank$Told" "firstTheatre" "LClapBank$Theatre;", Cond.fieldLink RX8 26 "ClapBank$Told" "secondTheatre" "LClapBank$Theatre;", Cond.methodLink RX9 96 yX8_bookAt, Cond.instanceMethod yX8_bookAt, Cond.selects RX8 yX8_bookAt yX8_bookAt, Cond.code yX8_bookAt cX8_bookAt 2 (some (.object "ClapBank$Book")), Cond.fieldLink RX8 55 "ClapBank$Told" "books" "I", Cond.fieldLink RX8 32 "ClapBank$Told" "firstBook" "LClapBank$Book;", Cond.fieldLink RX8 36 "ClapBank$Told" "secondBook" "LClapBank$Book;", Cond.methodLink RX9 250 yX2_playFirst]
def wsX9_feast_r2 : List Cond := [Cond.instanceMethod yX2_playFirst, Cond.selects RX2 yX2_playFirst yX2_playFirst, Cond.initialized RX2, Cond.code yX2_playFirst cX2_playFirst 5 (some .boolean), Cond.methodLink RX2 75 yX2_begin, Cond.instanceMethod yX2_begin, Cond.selects RX2 yX2_begin yX2_begin, Cond.code yX2_begin cX2_begin 2 none, Cond.fieldLink RX2 12 "ClapBank$Evening" "house" "LClapBank$Theatre;", Cond.fieldLink RX2 18 "ClapBank$Evening" "left" "[I", Cond.methodLink RX2 43 arraycopyName, Cond.native arraycopyName, Cond.static arraycopyName, Cond.initialized "java/lang/System", Cond.fieldLink RX2 28 "ClapBank$Evening" "saved" "[I", Cond.fieldLink RX2 22 "ClapBank$Evening" "owes" "[I", Cond.fieldLink RX2 25 "ClapBank$Evening" "got" "[I", Cond.fieldLink RX2 31 "ClapBank$Evening" "starved" "[I", Cond.fieldLink RX2 34 "ClapBank$Evening" "storms" "[I", Cond.fieldLink RX2 60 "ClapBank$Evening" "chest" "I", Cond.fieldLink RX2 61 "ClapBank$Evening" "encores" "I", Cond.fieldLink RX2 64 "ClapBank$Evening" "nights" "I", Cond.fieldLink RX2 67 "ClapBank$Evening" "claps" "I", Cond.fieldLink RX2 69 "ClapBank$Evening" "hushed" "I"]
def wsX9_feast_r3 : List Cond := [Cond.fieldLink RX2 72 "ClapBank$Evening" "echo" "I", Cond.methodLink RX2 50 yJ7_fill_53178, Cond.static yJ7_fill_53178, Cond.initialized RJ7, Cond.code yJ7_fill_53178 cJ7_fill_53178 4 none, Cond.methodLink RX2 79 yX2_canBe, Cond.instanceMethod yX2_canBe, Cond.selects RX2 yX2_canBe yX2_canBe, Cond.code yX2_canBe cX2_canBe 6 (some .boolean), Cond.methodLink RX2 120 yX0_part, Cond.instanceMethod yX0_part, Cond.selects RX0 yX0_part yX0_part, Cond.initialized RX0, Cond.code yX0_part cX0_part 3 (some .int), Cond.fieldLink RX0 9 "ClapBank$Book" "parts" "[I", Cond.methodLink RX2 124 yX2_canGive, Cond.instanceMethod yX2_canGive, Cond.selects RX2 yX2_canGive yX2_canGive, Cond.code yX2_canGive cX2_canGive 3 (some .boolean), Cond.methodLink RX2 127 yX2_hasPalm, Cond.instanceMethod yX2_hasPalm, Cond.selects RX2 yX2_hasPalm yX2_hasPalm, Cond.code yX2_hasPalm cX2_hasPalm 2 (some .boolean), Cond.methodLink RX2 130 yX2_isHushed]
def wsX9_feast_r4 : List Cond := [Cond.instanceMethod yX2_isHushed, Cond.selects RX2 yX2_isHushed yX2_isHushed, Cond.code yX2_isHushed cX2_isHushed 2 (some .boolean), Cond.methodLink RX2 99 yX2_lives, Cond.instanceMethod yX2_lives, Cond.selects RX2 yX2_lives yX2_lives, Cond.code yX2_lives cX2_lives 2 (some .boolean), Cond.methodLink RX2 117 yX2_hasActor, Cond.instanceMethod yX2_hasActor, Cond.selects RX2 yX2_hasActor yX2_hasActor, Cond.code yX2_hasActor cX2_hasActor 2 (some .boolean), Cond.methodLink RX2 83 yX2_act, Cond.instanceMethod yX2_act, Cond.selects RX2 yX2_act yX2_act, Cond.code yX2_act cX2_act 7 none, Cond.methodLink RX2 133 yX2_clapFor, Cond.instanceMethod yX2_clapFor, Cond.selects RX2 yX2_clapFor yX2_clapFor, Cond.code yX2_clapFor cX2_clapFor 5 none, Cond.methodLink RX2 110 yX2_give, Cond.instanceMethod yX2_give, Cond.selects RX2 yX2_give yX2_give, Cond.code yX2_give cX2_give 3 none, Cond.methodLink RX2 137 yX2_move]
def wsX9_feast_r5 : List Cond := [Cond.instanceMethod yX2_move, Cond.selects RX2 yX2_move yX2_move, Cond.code yX2_move cX2_move 4 none, Cond.methodLink RX2 114 yX2_passNight, Cond.instanceMethod yX2_passNight, Cond.selects RX2 yX2_passNight yX2_passNight, Cond.code yX2_passNight cX2_passNight 2 none, Cond.methodLink RX2 166 yX2_dine, Cond.instanceMethod yX2_dine, Cond.selects RX2 yX2_dine yX2_dine, Cond.code yX2_dine cX2_dine 3 none, Cond.methodLink RX2 146 yX2_price, Cond.instanceMethod yX2_price, Cond.selects RX2 yX2_price yX2_price, Cond.code yX2_price cX2_price 2 (some .int), Cond.methodLink RX2 143 yX2_priceBehind, Cond.instanceMethod yX2_priceBehind, Cond.selects RX2 yX2_priceBehind yX2_priceBehind, Cond.code yX2_priceBehind cX2_priceBehind 3 (some .int), Cond.methodLink RX2 170 yX2_grown, Cond.instanceMethod yX2_grown, Cond.selects RX2 yX2_grown yX2_grown, Cond.code yX2_grown cX2_grown 4 (some .int), Cond.constantLong RX2 158 (100)]
def wsX9_feast_r6 : List Cond := [Cond.constantLong RX2 160 (1000000000), Cond.methodLink RX2 162 Lib.MathLoose.min_long.x, Cond.static Lib.MathLoose.min_long.x, Cond.initialized "java/lang/Math", Cond.code Lib.MathLoose.min_long.x Lib.MathLoose.min_long.code 4 (some .long), Cond.methodLink RX9 138 yX3_lay, Cond.instanceMethod yX3_lay, Cond.selects RX3 yX3_lay yX3_lay, Cond.initialized RX3, Cond.code yX3_lay cX3_lay 6 none, Cond.fieldLink RX3 32 "ClapBank$Feast" "who" "I", Cond.fieldLink RX3 37 "ClapBank$Feast" "two" "I", Cond.fieldLink RX3 40 "ClapBank$Feast" "one" "I", Cond.methodLink RX3 21 yX2_isHushed, Cond.methodLink RX3 43 yX2_living, Cond.instanceMethod yX2_living, Cond.selects RX2 yX2_living yX2_living, Cond.code yX2_living cX2_living 3 (some .int), Cond.methodLink RX3 47 yX3_tryGuests, Cond.instanceMethod yX3_tryGuests, Cond.selects RX3 yX3_tryGuests yX3_tryGuests, Cond.code yX3_tryGuests cX3_tryGuests 9 none, Cond.methodLink RX3 55 Lib.Math.min.name, Cond.static Lib.Math.min.name]
def wsX9_feast_r7 : List Cond := [Cond.code Lib.Math.min.name Lib.Math.min.code 2 (some .int), Cond.methodLink RX3 51 yX2_need, Cond.instanceMethod yX2_need, Cond.selects RX2 yX2_need yX2_need, Cond.code yX2_need cX2_need 2 (some .int), Cond.methodLink RX2 150 Lib.Math.max.name, Cond.static Lib.Math.max.name, Cond.code Lib.Math.max.name Lib.Math.max.code 2 (some .int), Cond.methodLink RX3 61 yX3_isBetter, Cond.instanceMethod yX3_isBetter, Cond.selects RX3 yX3_isBetter yX3_isBetter, Cond.code yX3_isBetter cX3_isBetter 6 (some .boolean), Cond.methodLink RX3 65 yJ6_bitCount_0f7a4, Cond.static yJ6_bitCount_0f7a4, Cond.initialized RJ6, Cond.code yJ6_bitCount_0f7a4 cJ6_bitCount_0f7a4 1 (some .int), Cond.constant RJ6 265 (1431655765), Cond.constant RJ6 266 (858993459), Cond.constant RJ6 267 (252645135), Cond.methodLink RX9 142 yX3_tell, Cond.instanceMethod yX3_tell, Cond.selects RX3 yX3_tell yX3_tell, Cond.code yX3_tell cX3_tell 2 (some .int)]
def wsX9_feast : List Cond := .code yX9_feast cX9_feast 5 (some .int) :: ((wsX9_feast_r1 ++ (wsX9_feast_r2 ++ (wsX9_feast_r3 ++ (wsX9_feast_r4 ++ (wsX9_feast_r5 ++ (wsX9_feast_r6 ++ wsX9_feast_r7)))))) ++ wsX90 ++ wsX00 ++ wsX80 ++ wsX20 ++ wsX70 ++ wsX30)
def wsX9_commonPart : List Cond := .code yX9_commonPart cX9_commonPart 6 (some .int) :: ([])
def wsX9_fair_r1 : List Cond := [Cond.fieldLink RX9 30 "ClapBank" "evening" "LClapBank$Evening;", Cond.methodLink RX9 113 yX9_reach, Cond.instanceMethod yX9_reach, Cond.selects RX9 yX9_reach yX9_reach, Cond.initialized RX9, Cond.code yX9_reach cX9_reach 6 (some .boolean), Cond.fieldLink RX9 10 "ClapBank" "told" "LClapBank$Told;", Cond.methodLink RX9 87 yX8_theatreAt, Cond.instanceMethod yX8_theatreAt, Cond.selects RX8 yX8_theatreAt yX8_theatreAt, Cond.initialized RX8, Cond.code yX8_theatreAt cX8_theatreAt 2 (some (.object "ClapBank$Theatre")), Cond.fieldLink RX8 52 "ClapBank$Told" "theatres" "I", Cond.fieldLink RX8 22 "ClapBank$Told" "firstTheatre" "LClapBank$Theatre;", Cond.fieldLink RX8 26 "ClapBank$Told" "secondTheatre" "LClapBank$Theatre;", Cond.methodLink RX9 96 yX8_bookAt, Cond.instanceMethod yX8_bookAt, Cond.selects RX8 yX8_bookAt yX8_bookAt, Cond.code yX8_bookAt cX8_bookAt 2 (some (.object "ClapBank$Book")), Cond.fieldLink RX8 55 "ClapBank$Told" "books" "I", Cond.fieldLink RX8 32 "ClapBank$Told" "firstBook" "LClapBank$Book;", Cond.fieldLink RX8 36 "ClapBank$Told" "secondBook" "LClapBank$Book;", Cond.methodLink RX9 250 yX2_playFirst, Cond.instanceMethod yX2_playFirst]
def wsX9_fair_r2 : List Cond := [Cond.selects RX2 yX2_playFirst yX2_playFirst, Cond.initialized RX2, Cond.code yX2_playFirst cX2_playFirst 5 (some .boolean), Cond.methodLink RX2 75 yX2_begin, Cond.instanceMethod yX2_begin, Cond.selects RX2 yX2_begin yX2_begin, Cond.code yX2_begin cX2_begin 2 none, Cond.fieldLink RX2 12 "ClapBank$Evening" "house" "LClapBank$Theatre;", Cond.fieldLink RX2 18 "ClapBank$Evening" "left" "[I", Cond.methodLink RX2 43 arraycopyName, Cond.native arraycopyName, Cond.static arraycopyName, Cond.initialized "java/lang/System", Cond.fieldLink RX2 28 "ClapBank$Evening" "saved" "[I", Cond.fieldLink RX2 22 "ClapBank$Evening" "owes" "[I", Cond.fieldLink RX2 25 "ClapBank$Evening" "got" "[I", Cond.fieldLink RX2 31 "ClapBank$Evening" "starved" "[I", Cond.fieldLink RX2 34 "ClapBank$Evening" "storms" "[I", Cond.fieldLink RX2 60 "ClapBank$Evening" "chest" "I", Cond.fieldLink RX2 61 "ClapBank$Evening" "encores" "I", Cond.fieldLink RX2 64 "ClapBank$Evening" "nights" "I", Cond.fieldLink RX2 67 "ClapBank$Evening" "claps" "I", Cond.fieldLink RX2 69 "ClapBank$Evening" "hushed" "I", Cond.fieldLink RX2 72 "ClapBank$Evening" "echo" "I"]
def wsX9_fair_r3 : List Cond := [Cond.methodLink RX2 50 yJ7_fill_53178, Cond.static yJ7_fill_53178, Cond.initialized RJ7, Cond.code yJ7_fill_53178 cJ7_fill_53178 4 none, Cond.methodLink RX2 79 yX2_canBe, Cond.instanceMethod yX2_canBe, Cond.selects RX2 yX2_canBe yX2_canBe, Cond.code yX2_canBe cX2_canBe 6 (some .boolean), Cond.methodLink RX2 120 yX0_part, Cond.instanceMethod yX0_part, Cond.selects RX0 yX0_part yX0_part, Cond.initialized RX0, Cond.code yX0_part cX0_part 3 (some .int), Cond.fieldLink RX0 9 "ClapBank$Book" "parts" "[I", Cond.methodLink RX2 124 yX2_canGive, Cond.instanceMethod yX2_canGive, Cond.selects RX2 yX2_canGive yX2_canGive, Cond.code yX2_canGive cX2_canGive 3 (some .boolean), Cond.methodLink RX2 127 yX2_hasPalm, Cond.instanceMethod yX2_hasPalm, Cond.selects RX2 yX2_hasPalm yX2_hasPalm, Cond.code yX2_hasPalm cX2_hasPalm 2 (some .boolean), Cond.methodLink RX2 130 yX2_isHushed, Cond.instanceMethod yX2_isHushed]
def wsX9_fair_r4 : List Cond := [Cond.selects RX2 yX2_isHushed yX2_isHushed, Cond.code yX2_isHushed cX2_isHushed 2 (some .boolean), Cond.methodLink RX2 99 yX2_lives, Cond.instanceMethod yX2_lives, Cond.selects RX2 yX2_lives yX2_lives, Cond.code yX2_lives cX2_lives 2 (some .boolean), Cond.methodLink RX2 117 yX2_hasActor, Cond.instanceMethod yX2_hasActor, Cond.selects RX2 yX2_hasActor yX2_hasActor, Cond.code yX2_hasActor cX2_hasActor 2 (some .boolean), Cond.methodLink RX2 83 yX2_act, Cond.instanceMethod yX2_act, Cond.selects RX2 yX2_act yX2_act, Cond.code yX2_act cX2_act 7 none, Cond.methodLink RX2 133 yX2_clapFor, Cond.instanceMethod yX2_clapFor, Cond.selects RX2 yX2_clapFor yX2_clapFor, Cond.code yX2_clapFor cX2_clapFor 5 none, Cond.methodLink RX2 110 yX2_give, Cond.instanceMethod yX2_give, Cond.selects RX2 yX2_give yX2_give, Cond.code yX2_give cX2_give 3 none, Cond.methodLink RX2 137 yX2_move, Cond.instanceMethod yX2_move]
def wsX9_fair_r5 : List Cond := [Cond.selects RX2 yX2_move yX2_move, Cond.code yX2_move cX2_move 4 none, Cond.methodLink RX2 114 yX2_passNight, Cond.instanceMethod yX2_passNight, Cond.selects RX2 yX2_passNight yX2_passNight, Cond.code yX2_passNight cX2_passNight 2 none, Cond.methodLink RX2 166 yX2_dine, Cond.instanceMethod yX2_dine, Cond.selects RX2 yX2_dine yX2_dine, Cond.code yX2_dine cX2_dine 3 none, Cond.methodLink RX2 146 yX2_price, Cond.instanceMethod yX2_price, Cond.selects RX2 yX2_price yX2_price, Cond.code yX2_price cX2_price 2 (some .int), Cond.methodLink RX2 143 yX2_priceBehind, Cond.instanceMethod yX2_priceBehind, Cond.selects RX2 yX2_priceBehind yX2_priceBehind, Cond.code yX2_priceBehind cX2_priceBehind 3 (some .int), Cond.methodLink RX2 170 yX2_grown, Cond.instanceMethod yX2_grown, Cond.selects RX2 yX2_grown yX2_grown, Cond.code yX2_grown cX2_grown 4 (some .int), Cond.constantLong RX2 158 (100), Cond.constantLong RX2 160 (1000000000)]
def wsX9_fair_r6 : List Cond := [Cond.methodLink RX2 162 Lib.MathLoose.min_long.x, Cond.static Lib.MathLoose.min_long.x, Cond.initialized "java/lang/Math", Cond.code Lib.MathLoose.min_long.x Lib.MathLoose.min_long.code 4 (some .long), Cond.methodLink RX9 143 yX2_allLeft, Cond.instanceMethod yX2_allLeft, Cond.selects RX2 yX2_allLeft yX2_allLeft, Cond.code yX2_allLeft cX2_allLeft 3 (some .int), Cond.methodLink RX9 146 yX2_allNeeds, Cond.instanceMethod yX2_allNeeds, Cond.selects RX2 yX2_allNeeds yX2_allNeeds, Cond.code yX2_allNeeds cX2_allNeeds 3 (some .int), Cond.methodLink RX2 173 yX2_need, Cond.instanceMethod yX2_need, Cond.selects RX2 yX2_need yX2_need, Cond.code yX2_need cX2_need 2 (some .int), Cond.methodLink RX2 150 Lib.Math.max.name, Cond.static Lib.Math.max.name, Cond.code Lib.Math.max.name Lib.Math.max.code 2 (some .int), Cond.methodLink RX9 149 yX9_commonPart, Cond.static yX9_commonPart, Cond.code yX9_commonPart cX9_commonPart 6 (some .int)]
def wsX9_fair : List Cond := .code yX9_fair cX9_fair 8 (some .int) :: ((wsX9_fair_r1 ++ (wsX9_fair_r2 ++ (wsX9_fair_r3 ++ (wsX9_fair_r4 ++ (wsX9_fair_r5 ++ wsX9_fair_r6))))) ++ wsX90 ++ wsX00 ++ wsX80 ++ wsX20 ++ wsX70)
def wsX9_lendFor_r1 : List Cond := [Cond.fieldLink RX9 10 "ClapBank" "told" "LClapBank$Told;", Cond.fieldLink RX9 44 "ClapBank" "rounds" "LClapBank$Rounds;", Cond.methodLink RX9 87 yX8_theatreAt, Cond.instanceMethod yX8_theatreAt, Cond.selects RX8 yX8_theatreAt yX8_theatreAt, Cond.initialized RX8, Cond.code yX8_theatreAt cX8_theatreAt 2 (some (.object "ClapBank$Theatre")), Cond.fieldLink RX8 52 "ClapBank$Told" "theatres" "I", Cond.fieldLink RX8 22 "ClapBank$Told" "firstTheatre" "LClapBank$Theatre;", Cond.fieldLink RX8 26 "ClapBank$Told" "secondTheatre" "LClapBank$Theatre;", Cond.methodLink RX9 254 yX6_begin, Cond.instanceMethod yX6_begin, Cond.selects RX6 yX6_begin yX6_begin, Cond.initialized RX6, Cond.code yX6_begin cX6_begin 2 none, Cond.fieldLink RX6 30 "ClapBank$Rounds" "usurers" "I", Cond.fieldLink RX6 34 "ClapBank$Rounds" "borrowers" "I", Cond.fieldLink RX6 9 "ClapBank$Rounds" "asks" "[I", Cond.methodLink RX6 36 arraycopyName, Cond.native arraycopyName, Cond.static arraycopyName, Cond.initialized "java/lang/System", Cond.fieldLink RX6 15 "ClapBank$Rounds" "floors" "[I", Cond.fieldLink RX6 18 "ClapBank$Rounds" "gains" "[I"]
def wsX9_lendFor_r2 : List Cond := [Cond.methodLink RX6 43 yJ7_fill_53178, Cond.static yJ7_fill_53178, Cond.initialized RJ7, Cond.code yJ7_fill_53178 cJ7_fill_53178 4 none, Cond.methodLink RX9 258 yX6_goRound, Cond.instanceMethod yX6_goRound, Cond.selects RX6 yX6_goRound yX6_goRound, Cond.code yX6_goRound cX6_goRound 3 none, Cond.methodLink RX6 53 Lib.Math.min.name, Cond.static Lib.Math.min.name, Cond.initialized "java/lang/Math", Cond.code Lib.Math.min.name Lib.Math.min.code 2 (some .int), Cond.methodLink RX6 59 Lib.Math.max.name, Cond.static Lib.Math.max.name, Cond.code Lib.Math.max.name Lib.Math.max.code 2 (some .int), Cond.methodLink RX6 49 yX6_cheapest, Cond.instanceMethod yX6_cheapest, Cond.selects RX6 yX6_cheapest yX6_cheapest, Cond.code yX6_cheapest cX6_cheapest 3 (some .int)]
def wsX9_lendFor : List Cond := .code yX9_lendFor cX9_lendFor 6 (some .boolean) :: ((wsX9_lendFor_r1 ++ wsX9_lendFor_r2) ++ wsX90 ++ wsX70 ++ wsX80 ++ wsX60)
def wsX9_ask_r1 : List Cond := [Cond.fieldLink RX9 44 "ClapBank" "rounds" "LClapBank$Rounds;", Cond.methodLink RX9 152 yX9_lendFor, Cond.instanceMethod yX9_lendFor, Cond.selects RX9 yX9_lendFor yX9_lendFor, Cond.initialized RX9, Cond.code yX9_lendFor cX9_lendFor 6 (some .boolean), Cond.fieldLink RX9 10 "ClapBank" "told" "LClapBank$Told;", Cond.methodLink RX9 87 yX8_theatreAt, Cond.instanceMethod yX8_theatreAt, Cond.selects RX8 yX8_theatreAt yX8_theatreAt, Cond.initialized RX8, Cond.code yX8_theatreAt cX8_theatreAt 2 (some (.object "ClapBank$Theatre")), Cond.fieldLink RX8 52 "ClapBank$Told" "theatres" "I", Cond.fieldLink RX8 22 "ClapBank$Told" "firstTheatre" "LClapBank$Theatre;", Cond.fieldLink RX8 26 "ClapBank$Told" "secondTheatre" "LClapBank$Theatre;", Cond.methodLink RX9 254 yX6_begin, Cond.instanceMethod yX6_begin, Cond.selects RX6 yX6_begin yX6_begin, Cond.initialized RX6, Cond.code yX6_begin cX6_begin 2 none, Cond.fieldLink RX6 30 "ClapBank$Rounds" "usurers" "I", Cond.fieldLink RX6 34 "ClapBank$Rounds" "borrowers" "I", Cond.fieldLink RX6 9 "ClapBank$Rounds" "asks" "[I", Cond.methodLink RX6 36 arraycopyName]
def wsX9_ask_r2 : List Cond := [Cond.native arraycopyName, Cond.static arraycopyName, Cond.initialized "java/lang/System", Cond.fieldLink RX6 15 "ClapBank$Rounds" "floors" "[I", Cond.fieldLink RX6 18 "ClapBank$Rounds" "gains" "[I", Cond.methodLink RX6 43 yJ7_fill_53178, Cond.static yJ7_fill_53178, Cond.initialized RJ7, Cond.code yJ7_fill_53178 cJ7_fill_53178 4 none, Cond.methodLink RX9 258 yX6_goRound, Cond.instanceMethod yX6_goRound, Cond.selects RX6 yX6_goRound yX6_goRound, Cond.code yX6_goRound cX6_goRound 3 none, Cond.methodLink RX6 53 Lib.Math.min.name, Cond.static Lib.Math.min.name, Cond.initialized "java/lang/Math", Cond.code Lib.Math.min.name Lib.Math.min.code 2 (some .int), Cond.methodLink RX6 59 Lib.Math.max.name, Cond.static Lib.Math.max.name, Cond.code Lib.Math.max.name Lib.Math.max.code 2 (some .int), Cond.methodLink RX6 49 yX6_cheapest, Cond.instanceMethod yX6_cheapest, Cond.selects RX6 yX6_cheapest yX6_cheapest, Cond.code yX6_cheapest cX6_cheapest 3 (some .int)]
def wsX9_ask : List Cond := .code yX9_ask cX9_ask 4 (some .int) :: ((wsX9_ask_r1 ++ wsX9_ask_r2) ++ wsX90 ++ wsX60 ++ wsX70 ++ wsX80)
def wsX9_taken_r1 : List Cond := [Cond.fieldLink RX9 44 "ClapBank" "rounds" "LClapBank$Rounds;", Cond.methodLink RX9 152 yX9_lendFor, Cond.instanceMethod yX9_lendFor, Cond.selects RX9 yX9_lendFor yX9_lendFor, Cond.initialized RX9, Cond.code yX9_lendFor cX9_lendFor 6 (some .boolean), Cond.fieldLink RX9 10 "ClapBank" "told" "LClapBank$Told;", Cond.methodLink RX9 87 yX8_theatreAt, Cond.instanceMethod yX8_theatreAt, Cond.selects RX8 yX8_theatreAt yX8_theatreAt, Cond.initialized RX8, Cond.code yX8_theatreAt cX8_theatreAt 2 (some (.object "ClapBank$Theatre")), Cond.fieldLink RX8 52 "ClapBank$Told" "theatres" "I", Cond.fieldLink RX8 22 "ClapBank$Told" "firstTheatre" "LClapBank$Theatre;", Cond.fieldLink RX8 26 "ClapBank$Told" "secondTheatre" "LClapBank$Theatre;", Cond.methodLink RX9 254 yX6_begin, Cond.instanceMethod yX6_begin, Cond.selects RX6 yX6_begin yX6_begin, Cond.initialized RX6, Cond.code yX6_begin cX6_begin 2 none, Cond.fieldLink RX6 30 "ClapBank$Rounds" "usurers" "I", Cond.fieldLink RX6 34 "ClapBank$Rounds" "borrowers" "I", Cond.fieldLink RX6 9 "ClapBank$Rounds" "asks" "[I", Cond.methodLink RX6 36 arraycopyName]
def wsX9_taken_r2 : List Cond := [Cond.native arraycopyName, Cond.static arraycopyName, Cond.initialized "java/lang/System", Cond.fieldLink RX6 15 "ClapBank$Rounds" "floors" "[I", Cond.fieldLink RX6 18 "ClapBank$Rounds" "gains" "[I", Cond.methodLink RX6 43 yJ7_fill_53178, Cond.static yJ7_fill_53178, Cond.initialized RJ7, Cond.code yJ7_fill_53178 cJ7_fill_53178 4 none, Cond.methodLink RX9 258 yX6_goRound, Cond.instanceMethod yX6_goRound, Cond.selects RX6 yX6_goRound yX6_goRound, Cond.code yX6_goRound cX6_goRound 3 none, Cond.methodLink RX6 53 Lib.Math.min.name, Cond.static Lib.Math.min.name, Cond.initialized "java/lang/Math", Cond.code Lib.Math.min.name Lib.Math.min.code 2 (some .int), Cond.methodLink RX6 59 Lib.Math.max.name, Cond.static Lib.Math.max.name, Cond.code Lib.Math.max.name Lib.Math.max.code 2 (some .int), Cond.methodLink RX6 49 yX6_cheapest, Cond.instanceMethod yX6_cheapest, Cond.selects RX6 yX6_cheapest yX6_cheapest, Cond.code yX6_cheapest cX6_cheapest 3 (some .int)]
def wsX9_taken : List Cond := .code yX9_taken cX9_taken 4 (some .int) :: ((wsX9_taken_r1 ++ wsX9_taken_r2) ++ wsX90 ++ wsX60 ++ wsX70 ++ wsX80)
def wsX9_stands_r1 : List Cond := [Cond.fieldLink RX9 10 "ClapBank" "told" "LClapBank$Told;", Cond.fieldLink RX9 44 "ClapBank" "rounds" "LClapBank$Rounds;", Cond.methodLink RX9 87 yX8_theatreAt, Cond.instanceMethod yX8_theatreAt, Cond.selects RX8 yX8_theatreAt yX8_theatreAt, Cond.initialized RX8, Cond.code yX8_theatreAt cX8_theatreAt 2 (some (.object "ClapBank$Theatre")), Cond.fieldLink RX8 52 "ClapBank$Told" "theatres" "I", Cond.fieldLink RX8 22 "ClapBank$Told" "firstTheatre" "LClapBank$Theatre;", Cond.fieldLink RX8 26 "ClapBank$Told" "secondTheatre" "LClapBank$Theatre;", Cond.methodLink RX9 165 yX6_findRepeat, Cond.instanceMethod yX6_findRepeat, Cond.selects RX6 yX6_findRepeat yX6_findRepeat, Cond.initialized RX6, Cond.code yX6_findRepeat cX6_findRepeat 4 (some .int), Cond.fieldLink RX6 21 "ClapBank$Rounds" "seen" "[I", Cond.fieldLink RX6 72 "ClapBank$Rounds" "period" "I", Cond.methodLink RX6 62 yX6_begin, Cond.instanceMethod yX6_begin, Cond.selects RX6 yX6_begin yX6_begin, Cond.code yX6_begin cX6_begin 2 none, Cond.fieldLink RX6 30 "ClapBank$Rounds" "usurers" "I", Cond.fieldLink RX6 34 "ClapBank$Rounds" "borrowers" "I", Cond.fieldLink RX6 9 "ClapBank$Rounds" "asks" "[I"]
def wsX9_stands_r2 : List Cond := [Cond.methodLink RX6 36 arraycopyName, Cond.native arraycopyName, Cond.static arraycopyName, Cond.initialized "java/lang/System", Cond.fieldLink RX6 15 "ClapBank$Rounds" "floors" "[I", Cond.fieldLink RX6 18 "ClapBank$Rounds" "gains" "[I", Cond.methodLink RX6 43 yJ7_fill_53178, Cond.static yJ7_fill_53178, Cond.initialized RJ7, Cond.code yJ7_fill_53178 cJ7_fill_53178 4 none, Cond.methodLink RX6 66 yX6_allAsks, Cond.instanceMethod yX6_allAsks, Cond.selects RX6 yX6_allAsks yX6_allAsks, Cond.code yX6_allAsks cX6_allAsks 3 (some .int), Cond.methodLink RX6 69 yX6_goRound, Cond.instanceMethod yX6_goRound, Cond.selects RX6 yX6_goRound yX6_goRound, Cond.code yX6_goRound cX6_goRound 3 none, Cond.methodLink RX6 53 Lib.Math.min.name, Cond.static Lib.Math.min.name, Cond.initialized "java/lang/Math", Cond.code Lib.Math.min.name Lib.Math.min.code 2 (some .int), Cond.methodLink RX6 59 Lib.Math.max.name, Cond.static Lib.Math.max.name]
def wsX9_stands_r3 : List Cond := [Cond.code Lib.Math.max.name Lib.Math.max.code 2 (some .int), Cond.methodLink RX6 49 yX6_cheapest, Cond.instanceMethod yX6_cheapest, Cond.selects RX6 yX6_cheapest yX6_cheapest, Cond.code yX6_cheapest cX6_cheapest 3 (some .int)]
def wsX9_stands : List Cond := .code yX9_stands cX9_stands 5 (some .int) :: ((wsX9_stands_r1 ++ (wsX9_stands_r2 ++ wsX9_stands_r3)) ++ wsX90 ++ wsX70 ++ wsX60 ++ wsX80)
def wsX9_heard : List Cond := .code yX9_heard cX9_heard 4 (some .int) :: ([.fieldLink RX9 10 "ClapBank" "told" "LClapBank$Told;", .methodLink RX9 172 yX8_darkAt, .instanceMethod yX8_darkAt, .selects RX8 yX8_darkAt yX8_darkAt, .initialized RX8, .code yX8_darkAt cX8_darkAt 2 (some (.object "ClapBank$Dark")), .fieldLink RX8 58 "ClapBank$Told" "darks" "I", .fieldLink RX8 42 "ClapBank$Told" "firstDark" "LClapBank$Dark;", .fieldLink RX8 46 "ClapBank$Told" "secondDark" "LClapBank$Dark;", .methodLink RX9 181 yX1_hasMinute, .instanceMethod yX1_hasMinute, .selects RX1 yX1_hasMinute yX1_hasMinute, .initialized RX1, .code yX1_hasMinute cX1_hasMinute 2 (some .boolean), .fieldLink RX1 15 "ClapBank$Dark" "minutes" "I"] ++ wsX90 ++ wsX10 ++ wsX80)
def wsX9_ways_r1 : List Cond := [Cond.fieldLink RX9 10 "ClapBank" "told" "LClapBank$Told;", Cond.constantLong RX9 187 (-1), Cond.fieldLink RX9 51 "ClapBank" "hearing" "LClapBank$Hearing;", Cond.methodLink RX9 87 yX8_theatreAt, Cond.instanceMethod yX8_theatreAt, Cond.selects RX8 yX8_theatreAt yX8_theatreAt, Cond.initialized RX8, Cond.code yX8_theatreAt cX8_theatreAt 2 (some (.object "ClapBank$Theatre")), Cond.fieldLink RX8 52 "ClapBank$Told" "theatres" "I", Cond.fieldLink RX8 22 "ClapBank$Told" "firstTheatre" "LClapBank$Theatre;", Cond.fieldLink RX8 26 "ClapBank$Told" "secondTheatre" "LClapBank$Theatre;", Cond.methodLink RX9 172 yX8_darkAt, Cond.instanceMethod yX8_darkAt, Cond.selects RX8 yX8_darkAt yX8_darkAt, Cond.code yX8_darkAt cX8_darkAt 2 (some (.object "ClapBank$Dark")), Cond.fieldLink RX8 58 "ClapBank$Told" "darks" "I", Cond.fieldLink RX8 42 "ClapBank$Told" "firstDark" "LClapBank$Dark;", Cond.fieldLink RX8 46 "ClapBank$Told" "secondDark" "LClapBank$Dark;", Cond.methodLink RX9 189 yX4_listen, Cond.instanceMethod yX4_listen, Cond.selects RX4 yX4_listen yX4_listen, Cond.initialized RX4, Cond.code yX4_listen cX4_listen 5 none, Cond.fieldLink RX4 12 "ClapBank$Hearing" "house" "LClapBank$Theatre;"]
def wsX9_ways_r2 : List Cond := [Cond.fieldLink RX4 21 "ClapBank$Hearing" "dark" "LClapBank$Dark;", Cond.fieldLink RX4 38 "ClapBank$Hearing" "sets" "I", Cond.fieldLink RX4 32 "ClapBank$Hearing" "halvesOf" "[I", Cond.fieldLink RX4 35 "ClapBank$Hearing" "onceOf" "[I", Cond.methodLink RX9 193 yX4_tally, Cond.instanceMethod yX4_tally, Cond.selects RX4 yX4_tally yX4_tally, Cond.code yX4_tally cX4_tally 7 (some .long), Cond.fieldLink RX4 25 "ClapBank$Hearing" "early" "[I", Cond.methodLink RX4 51 Lib.Math.min.name, Cond.static Lib.Math.min.name, Cond.initialized "java/lang/Math", Cond.code Lib.Math.min.name Lib.Math.min.code 2 (some .int), Cond.fieldLink RX4 29 "ClapBank$Hearing" "late" "[I", Cond.methodLink RX4 57 yX4_fill, Cond.instanceMethod yX4_fill, Cond.selects RX4 yX4_fill yX4_fill, Cond.code yX4_fill cX4_fill 8 none, Cond.methodLink RX4 69 yJ7_fill_53178, Cond.static yJ7_fill_53178, Cond.initialized RJ7, Cond.code yJ7_fill_53178 cJ7_fill_53178 4 none, Cond.methodLink RX4 77 yX4_spread, Cond.instanceMethod yX4_spread]
def wsX9_ways_r3 : List Cond := [Cond.selects RX4 yX4_spread yX4_spread, Cond.code yX4_spread cX4_spread 8 none, Cond.methodLink RX4 61 yX4_addUp, Cond.static yX4_addUp, Cond.code yX4_addUp cX4_addUp 3 none, Cond.methodLink RX4 65 yX4_roomBehind, Cond.instanceMethod yX4_roomBehind, Cond.selects RX4 yX4_roomBehind yX4_roomBehind, Cond.code yX4_roomBehind cX4_roomBehind 5 (some .int)]
def wsX9_ways : List Cond := .code yX9_ways cX9_ways 5 (some .long) :: ((wsX9_ways_r1 ++ (wsX9_ways_r2 ++ wsX9_ways_r3)) ++ wsX90 ++ wsX80 ++ wsX40 ++ wsX70 ++ wsX10)
def wsX9_whose_r1 : List Cond := [Cond.fieldLink RX9 10 "ClapBank" "told" "LClapBank$Told;", Cond.fieldLink RX9 51 "ClapBank" "hearing" "LClapBank$Hearing;", Cond.methodLink RX9 87 yX8_theatreAt, Cond.instanceMethod yX8_theatreAt, Cond.selects RX8 yX8_theatreAt yX8_theatreAt, Cond.initialized RX8, Cond.code yX8_theatreAt cX8_theatreAt 2 (some (.object "ClapBank$Theatre")), Cond.fieldLink RX8 52 "ClapBank$Told" "theatres" "I", Cond.fieldLink RX8 22 "ClapBank$Told" "firstTheatre" "LClapBank$Theatre;", Cond.fieldLink RX8 26 "ClapBank$Told" "secondTheatre" "LClapBank$Theatre;", Cond.methodLink RX9 172 yX8_darkAt, Cond.instanceMethod yX8_darkAt, Cond.selects RX8 yX8_darkAt yX8_darkAt, Cond.code yX8_darkAt cX8_darkAt 2 (some (.object "ClapBank$Dark")), Cond.fieldLink RX8 58 "ClapBank$Told" "darks" "I", Cond.fieldLink RX8 42 "ClapBank$Told" "firstDark" "LClapBank$Dark;", Cond.fieldLink RX8 46 "ClapBank$Told" "secondDark" "LClapBank$Dark;", Cond.methodLink RX9 181 yX1_hasMinute, Cond.instanceMethod yX1_hasMinute, Cond.selects RX1 yX1_hasMinute yX1_hasMinute, Cond.initialized RX1, Cond.code yX1_hasMinute cX1_hasMinute 2 (some .boolean), Cond.fieldLink RX1 15 "ClapBank$Dark" "minutes" "I", Cond.methodLink RX9 189 yX4_listen]
def wsX9_whose_r2 : List Cond := [Cond.instanceMethod yX4_listen, Cond.selects RX4 yX4_listen yX4_listen, Cond.initialized RX4, Cond.code yX4_listen cX4_listen 5 none, Cond.fieldLink RX4 12 "ClapBank$Hearing" "house" "LClapBank$Theatre;", Cond.fieldLink RX4 21 "ClapBank$Hearing" "dark" "LClapBank$Dark;", Cond.fieldLink RX4 38 "ClapBank$Hearing" "sets" "I", Cond.fieldLink RX4 32 "ClapBank$Hearing" "halvesOf" "[I", Cond.fieldLink RX4 35 "ClapBank$Hearing" "onceOf" "[I", Cond.methodLink RX9 197 yX4_compareMinute, Cond.instanceMethod yX4_compareMinute, Cond.selects RX4 yX4_compareMinute yX4_compareMinute, Cond.code yX4_compareMinute cX4_compareMinute 3 none, Cond.fieldLink RX4 84 "ClapBank$Hearing" "any" "I", Cond.fieldLink RX4 87 "ClapBank$Hearing" "all" "I", Cond.methodLink RX4 90 yX4_tally, Cond.instanceMethod yX4_tally, Cond.selects RX4 yX4_tally yX4_tally, Cond.code yX4_tally cX4_tally 7 (some .long), Cond.fieldLink RX4 25 "ClapBank$Hearing" "early" "[I", Cond.methodLink RX4 51 Lib.Math.min.name, Cond.static Lib.Math.min.name, Cond.initialized "java/lang/Math", Cond.code Lib.Math.min.name Lib.Math.min.code 2 (some .int)]
def wsX9_whose_r3 : List Cond := [Cond.fieldLink RX4 29 "ClapBank$Hearing" "late" "[I", Cond.methodLink RX4 57 yX4_fill, Cond.instanceMethod yX4_fill, Cond.selects RX4 yX4_fill yX4_fill, Cond.code yX4_fill cX4_fill 8 none, Cond.methodLink RX4 69 yJ7_fill_53178, Cond.static yJ7_fill_53178, Cond.initialized RJ7, Cond.code yJ7_fill_53178 cJ7_fill_53178 4 none, Cond.methodLink RX4 77 yX4_spread, Cond.instanceMethod yX4_spread, Cond.selects RX4 yX4_spread yX4_spread, Cond.code yX4_spread cX4_spread 8 none, Cond.methodLink RX4 61 yX4_addUp, Cond.static yX4_addUp, Cond.code yX4_addUp cX4_addUp 3 none, Cond.methodLink RX4 65 yX4_roomBehind, Cond.instanceMethod yX4_roomBehind, Cond.selects RX4 yX4_roomBehind yX4_roomBehind, Cond.code yX4_roomBehind cX4_roomBehind 5 (some .int)]
def wsX9_whose : List Cond := .code yX9_whose cX9_whose 7 (some .int) :: ((wsX9_whose_r1 ++ (wsX9_whose_r2 ++ wsX9_whose_r3)) ++ wsX90 ++ wsX40 ++ wsX80 ++ wsX10 ++ wsX70)
def wsX9_drawn_r1 : List Cond := [Cond.fieldLink RX9 10 "ClapBank" "told" "LClapBank$Told;", Cond.fieldLink RX9 30 "ClapBank" "evening" "LClapBank$Evening;", Cond.methodLink RX9 87 yX8_theatreAt, Cond.instanceMethod yX8_theatreAt, Cond.selects RX8 yX8_theatreAt yX8_theatreAt, Cond.initialized RX8, Cond.code yX8_theatreAt cX8_theatreAt 2 (some (.object "ClapBank$Theatre")), Cond.fieldLink RX8 52 "ClapBank$Told" "theatres" "I", Cond.fieldLink RX8 22 "ClapBank$Told" "firstTheatre" "LClapBank$Theatre;", Cond.fieldLink RX8 26 "ClapBank$Told" "secondTheatre" "LClapBank$Theatre;", Cond.methodLink RX9 209 yX2_playDrawn, Cond.instanceMethod yX2_playDrawn, Cond.selects RX2 yX2_playDrawn yX2_playDrawn, Cond.initialized RX2, Cond.code yX2_playDrawn cX2_playDrawn 9 none, Cond.fieldLink RX2 12 "ClapBank$Evening" "house" "LClapBank$Theatre;", Cond.fieldLink RX2 37 "ClapBank$Evening" "drawnFrom" "[I", Cond.constant RX2 106 (1103515245), Cond.methodLink RX2 75 yX2_begin, Cond.instanceMethod yX2_begin, Cond.selects RX2 yX2_begin yX2_begin, Cond.code yX2_begin cX2_begin 2 none, Cond.fieldLink RX2 18 "ClapBank$Evening" "left" "[I", Cond.methodLink RX2 43 arraycopyName]
def wsX9_drawn_r2 : List Cond := [Cond.native arraycopyName, Cond.static arraycopyName, Cond.initialized "java/lang/System", Cond.fieldLink RX2 28 "ClapBank$Evening" "saved" "[I", Cond.fieldLink RX2 22 "ClapBank$Evening" "owes" "[I", Cond.fieldLink RX2 25 "ClapBank$Evening" "got" "[I", Cond.fieldLink RX2 31 "ClapBank$Evening" "starved" "[I", Cond.fieldLink RX2 34 "ClapBank$Evening" "storms" "[I", Cond.fieldLink RX2 60 "ClapBank$Evening" "chest" "I", Cond.fieldLink RX2 61 "ClapBank$Evening" "encores" "I", Cond.fieldLink RX2 64 "ClapBank$Evening" "nights" "I", Cond.fieldLink RX2 67 "ClapBank$Evening" "claps" "I", Cond.fieldLink RX2 69 "ClapBank$Evening" "hushed" "I", Cond.fieldLink RX2 72 "ClapBank$Evening" "echo" "I", Cond.methodLink RX2 50 yJ7_fill_53178, Cond.static yJ7_fill_53178, Cond.initialized RJ7, Cond.code yJ7_fill_53178 cJ7_fill_53178 4 none, Cond.methodLink RX2 99 yX2_lives, Cond.instanceMethod yX2_lives, Cond.selects RX2 yX2_lives yX2_lives, Cond.code yX2_lives cX2_lives 2 (some .boolean), Cond.methodLink RX2 117 yX2_hasActor, Cond.instanceMethod yX2_hasActor]
def wsX9_drawn_r3 : List Cond := [Cond.selects RX2 yX2_hasActor yX2_hasActor, Cond.code yX2_hasActor cX2_hasActor 2 (some .boolean), Cond.methodLink RX2 110 yX2_give, Cond.instanceMethod yX2_give, Cond.selects RX2 yX2_give yX2_give, Cond.code yX2_give cX2_give 3 none, Cond.methodLink RX2 114 yX2_passNight, Cond.instanceMethod yX2_passNight, Cond.selects RX2 yX2_passNight yX2_passNight, Cond.code yX2_passNight cX2_passNight 2 none, Cond.methodLink RX2 166 yX2_dine, Cond.instanceMethod yX2_dine, Cond.selects RX2 yX2_dine yX2_dine, Cond.code yX2_dine cX2_dine 3 none, Cond.methodLink RX2 146 yX2_price, Cond.instanceMethod yX2_price, Cond.selects RX2 yX2_price yX2_price, Cond.code yX2_price cX2_price 2 (some .int), Cond.methodLink RX2 143 yX2_priceBehind, Cond.instanceMethod yX2_priceBehind, Cond.selects RX2 yX2_priceBehind yX2_priceBehind, Cond.code yX2_priceBehind cX2_priceBehind 3 (some .int), Cond.methodLink RX2 170 yX2_grown, Cond.instanceMethod yX2_grown]
def wsX9_drawn_r4 : List Cond := [Cond.selects RX2 yX2_grown yX2_grown, Cond.code yX2_grown cX2_grown 4 (some .int), Cond.constantLong RX2 158 (100), Cond.constantLong RX2 160 (1000000000), Cond.methodLink RX2 162 Lib.MathLoose.min_long.x, Cond.static Lib.MathLoose.min_long.x, Cond.initialized "java/lang/Math", Cond.code Lib.MathLoose.min_long.x Lib.MathLoose.min_long.code 4 (some .long), Cond.methodLink RX9 216 yX2_living, Cond.instanceMethod yX2_living, Cond.selects RX2 yX2_living yX2_living, Cond.code yX2_living cX2_living 3 (some .int)]
def wsX9_drawn : List Cond := .code yX9_drawn cX9_drawn 7 (some .int) :: ((wsX9_drawn_r1 ++ (wsX9_drawn_r2 ++ (wsX9_drawn_r3 ++ wsX9_drawn_r4))) ++ wsX90 ++ wsX70 ++ wsX20 ++ wsX80)
def wsX9_look_r1 : List Cond := [Cond.fieldLink RX9 30 "ClapBank" "evening" "LClapBank$Evening;", Cond.methodLink RX9 113 yX9_reach, Cond.instanceMethod yX9_reach, Cond.selects RX9 yX9_reach yX9_reach, Cond.initialized RX9, Cond.code yX9_reach cX9_reach 6 (some .boolean), Cond.fieldLink RX9 10 "ClapBank" "told" "LClapBank$Told;", Cond.methodLink RX9 87 yX8_theatreAt, Cond.instanceMethod yX8_theatreAt, Cond.selects RX8 yX8_theatreAt yX8_theatreAt, Cond.initialized RX8, Cond.code yX8_theatreAt cX8_theatreAt 2 (some (.object "ClapBank$Theatre")), Cond.fieldLink RX8 52 "ClapBank$Told" "theatres" "I", Cond.fieldLink RX8 22 "ClapBank$Told" "firstTheatre" "LClapBank$Theatre;", Cond.fieldLink RX8 26 "ClapBank$Told" "secondTheatre" "LClapBank$Theatre;", Cond.methodLink RX9 96 yX8_bookAt, Cond.instanceMethod yX8_bookAt, Cond.selects RX8 yX8_bookAt yX8_bookAt, Cond.code yX8_bookAt cX8_bookAt 2 (some (.object "ClapBank$Book")), Cond.fieldLink RX8 55 "ClapBank$Told" "books" "I", Cond.fieldLink RX8 32 "ClapBank$Told" "firstBook" "LClapBank$Book;", Cond.fieldLink RX8 36 "ClapBank$Told" "secondBook" "LClapBank$Book;", Cond.methodLink RX9 250 yX2_playFirst, Cond.instanceMethod yX2_playFirst]
def wsX9_look_r2 : List Cond := [Cond.selects RX2 yX2_playFirst yX2_playFirst, Cond.initialized RX2, Cond.code yX2_playFirst cX2_playFirst 5 (some .boolean), Cond.methodLink RX2 75 yX2_begin, Cond.instanceMethod yX2_begin, Cond.selects RX2 yX2_begin yX2_begin, Cond.code yX2_begin cX2_begin 2 none, Cond.fieldLink RX2 12 "ClapBank$Evening" "house" "LClapBank$Theatre;", Cond.fieldLink RX2 18 "ClapBank$Evening" "left" "[I", Cond.methodLink RX2 43 arraycopyName, Cond.native arraycopyName, Cond.static arraycopyName, Cond.initialized "java/lang/System", Cond.fieldLink RX2 28 "ClapBank$Evening" "saved" "[I", Cond.fieldLink RX2 22 "ClapBank$Evening" "owes" "[I", Cond.fieldLink RX2 25 "ClapBank$Evening" "got" "[I", Cond.fieldLink RX2 31 "ClapBank$Evening" "starved" "[I", Cond.fieldLink RX2 34 "ClapBank$Evening" "storms" "[I", Cond.fieldLink RX2 60 "ClapBank$Evening" "chest" "I", Cond.fieldLink RX2 61 "ClapBank$Evening" "encores" "I", Cond.fieldLink RX2 64 "ClapBank$Evening" "nights" "I", Cond.fieldLink RX2 67 "ClapBank$Evening" "claps" "I", Cond.fieldLink RX2 69 "ClapBank$Evening" "hushed" "I", Cond.fieldLink RX2 72 "ClapBank$Evening" "echo" "I"]
def wsX9_look_r3 : List Cond := [Cond.methodLink RX2 50 yJ7_fill_53178, Cond.static yJ7_fill_53178, Cond.initialized RJ7, Cond.code yJ7_fill_53178 cJ7_fill_53178 4 none, Cond.methodLink RX2 79 yX2_canBe, Cond.instanceMethod yX2_canBe, Cond.selects RX2 yX2_canBe yX2_canBe, Cond.code yX2_canBe cX2_canBe 6 (some .boolean), Cond.methodLink RX2 120 yX0_part, Cond.instanceMethod yX0_part, Cond.selects RX0 yX0_part yX0_part, Cond.initialized RX0, Cond.code yX0_part cX0_part 3 (some .int), Cond.fieldLink RX0 9 "ClapBank$Book" "parts" "[I", Cond.methodLink RX2 124 yX2_canGive, Cond.instanceMethod yX2_canGive, Cond.selects RX2 yX2_canGive yX2_canGive, Cond.code yX2_canGive cX2_canGive 3 (some .boolean), Cond.methodLink RX2 127 yX2_hasPalm, Cond.instanceMethod yX2_hasPalm, Cond.selects RX2 yX2_hasPalm yX2_hasPalm, Cond.code yX2_hasPalm cX2_hasPalm 2 (some .boolean), Cond.methodLink RX2 130 yX2_isHushed, Cond.instanceMethod yX2_isHushed]
def wsX9_look_r4 : List Cond := [Cond.selects RX2 yX2_isHushed yX2_isHushed, Cond.code yX2_isHushed cX2_isHushed 2 (some .boolean), Cond.methodLink RX2 99 yX2_lives, Cond.instanceMethod yX2_lives, Cond.selects RX2 yX2_lives yX2_lives, Cond.code yX2_lives cX2_lives 2 (some .boolean), Cond.methodLink RX2 117 yX2_hasActor, Cond.instanceMethod yX2_hasActor, Cond.selects RX2 yX2_hasActor yX2_hasActor, Cond.code yX2_hasActor cX2_hasActor 2 (some .boolean), Cond.methodLink RX2 83 yX2_act, Cond.instanceMethod yX2_act, Cond.selects RX2 yX2_act yX2_act, Cond.code yX2_act cX2_act 7 none, Cond.methodLink RX2 133 yX2_clapFor, Cond.instanceMethod yX2_clapFor, Cond.selects RX2 yX2_clapFor yX2_clapFor, Cond.code yX2_clapFor cX2_clapFor 5 none, Cond.methodLink RX2 110 yX2_give, Cond.instanceMethod yX2_give, Cond.selects RX2 yX2_give yX2_give, Cond.code yX2_give cX2_give 3 none, Cond.methodLink RX2 137 yX2_move, Cond.instanceMethod yX2_move]
def wsX9_look_r5 : List Cond := [Cond.selects RX2 yX2_move yX2_move, Cond.code yX2_move cX2_move 4 none, Cond.methodLink RX2 114 yX2_passNight, Cond.instanceMethod yX2_passNight, Cond.selects RX2 yX2_passNight yX2_passNight, Cond.code yX2_passNight cX2_passNight 2 none, Cond.methodLink RX2 166 yX2_dine, Cond.instanceMethod yX2_dine, Cond.selects RX2 yX2_dine yX2_dine, Cond.code yX2_dine cX2_dine 3 none, Cond.methodLink RX2 146 yX2_price, Cond.instanceMethod yX2_price, Cond.selects RX2 yX2_price yX2_price, Cond.code yX2_price cX2_price 2 (some .int), Cond.methodLink RX2 143 yX2_priceBehind, Cond.instanceMethod yX2_priceBehind, Cond.selects RX2 yX2_priceBehind yX2_priceBehind, Cond.code yX2_priceBehind cX2_priceBehind 3 (some .int), Cond.methodLink RX2 170 yX2_grown, Cond.instanceMethod yX2_grown, Cond.selects RX2 yX2_grown yX2_grown, Cond.code yX2_grown cX2_grown 4 (some .int), Cond.constantLong RX2 158 (100), Cond.constantLong RX2 160 (1000000000)]
def wsX9_look_r6 : List Cond := [Cond.methodLink RX2 162 Lib.MathLoose.min_long.x, Cond.static Lib.MathLoose.min_long.x, Cond.initialized "java/lang/Math", Cond.code Lib.MathLoose.min_long.x Lib.MathLoose.min_long.code 4 (some .long), Cond.methodLink RX9 222 yX2_loan, Cond.instanceMethod yX2_loan, Cond.selects RX2 yX2_loan yX2_loan, Cond.code yX2_loan cX2_loan 6 (some .int), Cond.methodLink RX9 225 yX2_idol, Cond.instanceMethod yX2_idol, Cond.selects RX2 yX2_idol yX2_idol, Cond.code yX2_idol cX2_idol 6 (some .int), Cond.methodLink RX9 125 yX2_hasActor, Cond.methodLink RX9 228 yX2_tip, Cond.instanceMethod yX2_tip, Cond.selects RX2 yX2_tip yX2_tip, Cond.code yX2_tip cX2_tip 3 (some .int), Cond.methodLink RX2 198 yX2_eatsWith, Cond.instanceMethod yX2_eatsWith, Cond.selects RX2 yX2_eatsWith yX2_eatsWith, Cond.code yX2_eatsWith cX2_eatsWith 5 (some .boolean), Cond.methodLink RX9 231 yX2_dear, Cond.instanceMethod yX2_dear, Cond.selects RX2 yX2_dear yX2_dear]
def wsX9_look_r7 : List Cond := [Cond.code yX2_dear cX2_dear 3 (some .int)]
def wsX9_look : List Cond := .code yX9_look cX9_look 5 (some .int) :: ((wsX9_look_r1 ++ (wsX9_look_r2 ++ (wsX9_look_r3 ++ (wsX9_look_r4 ++ (wsX9_look_r5 ++ (wsX9_look_r6 ++ wsX9_look_r7)))))) ++ wsX90 ++ wsX00 ++ wsX80 ++ wsX20 ++ wsX70)
def wsX9_silence_r1 : List Cond := [Cond.fieldLink RX9 10 "ClapBank" "told" "LClapBank$Told;", Cond.fieldLink RX9 30 "ClapBank" "evening" "LClapBank$Evening;", Cond.methodLink RX9 87 yX8_theatreAt, Cond.instanceMethod yX8_theatreAt, Cond.selects RX8 yX8_theatreAt yX8_theatreAt, Cond.initialized RX8, Cond.code yX8_theatreAt cX8_theatreAt 2 (some (.object "ClapBank$Theatre")), Cond.fieldLink RX8 52 "ClapBank$Told" "theatres" "I", Cond.fieldLink RX8 22 "ClapBank$Told" "firstTheatre" "LClapBank$Theatre;", Cond.fieldLink RX8 26 "ClapBank$Told" "secondTheatre" "LClapBank$Theatre;", Cond.methodLink RX9 96 yX8_bookAt, Cond.instanceMethod yX8_bookAt, Cond.selects RX8 yX8_bookAt yX8_bookAt, Cond.code yX8_bookAt cX8_bookAt 2 (some (.object "ClapBank$Book")), Cond.fieldLink RX8 55 "ClapBank$Told" "books" "I", Cond.fieldLink RX8 32 "ClapBank$Told" "firstBook" "LClapBank$Book;", Cond.fieldLink RX8 36 "ClapBank$Told" "secondBook" "LClapBank$Book;", Cond.methodLink RX9 109 yX2_playAll, Cond.instanceMethod yX2_playAll, Cond.selects RX2 yX2_playAll yX2_playAll, Cond.initialized RX2, Cond.code yX2_playAll cX2_playAll 4 (some .int), Cond.methodLink RX2 75 yX2_begin, Cond.instanceMethod yX2_begin]
def wsX9_silence_r2 : List Cond := [Cond.selects RX2 yX2_begin yX2_begin, Cond.code yX2_begin cX2_begin 2 none, Cond.fieldLink RX2 12 "ClapBank$Evening" "house" "LClapBank$Theatre;", Cond.fieldLink RX2 18 "ClapBank$Evening" "left" "[I", Cond.methodLink RX2 43 arraycopyName, Cond.native arraycopyName, Cond.static arraycopyName, Cond.initialized "java/lang/System", Cond.fieldLink RX2 28 "ClapBank$Evening" "saved" "[I", Cond.fieldLink RX2 22 "ClapBank$Evening" "owes" "[I", Cond.fieldLink RX2 25 "ClapBank$Evening" "got" "[I", Cond.fieldLink RX2 31 "ClapBank$Evening" "starved" "[I", Cond.fieldLink RX2 34 "ClapBank$Evening" "storms" "[I", Cond.fieldLink RX2 60 "ClapBank$Evening" "chest" "I", Cond.fieldLink RX2 61 "ClapBank$Evening" "encores" "I", Cond.fieldLink RX2 64 "ClapBank$Evening" "nights" "I", Cond.fieldLink RX2 67 "ClapBank$Evening" "claps" "I", Cond.fieldLink RX2 69 "ClapBank$Evening" "hushed" "I", Cond.fieldLink RX2 72 "ClapBank$Evening" "echo" "I", Cond.methodLink RX2 50 yJ7_fill_53178, Cond.static yJ7_fill_53178, Cond.initialized RJ7, Cond.code yJ7_fill_53178 cJ7_fill_53178 4 none, Cond.methodLink RX2 79 yX2_canBe]
def wsX9_silence_r3 : List Cond := [Cond.instanceMethod yX2_canBe, Cond.selects RX2 yX2_canBe yX2_canBe, Cond.code yX2_canBe cX2_canBe 6 (some .boolean), Cond.methodLink RX2 120 yX0_part, Cond.instanceMethod yX0_part, Cond.selects RX0 yX0_part yX0_part, Cond.initialized RX0, Cond.code yX0_part cX0_part 3 (some .int), Cond.fieldLink RX0 9 "ClapBank$Book" "parts" "[I", Cond.methodLink RX2 124 yX2_canGive, Cond.instanceMethod yX2_canGive, Cond.selects RX2 yX2_canGive yX2_canGive, Cond.code yX2_canGive cX2_canGive 3 (some .boolean), Cond.methodLink RX2 127 yX2_hasPalm, Cond.instanceMethod yX2_hasPalm, Cond.selects RX2 yX2_hasPalm yX2_hasPalm, Cond.code yX2_hasPalm cX2_hasPalm 2 (some .boolean), Cond.methodLink RX2 130 yX2_isHushed, Cond.instanceMethod yX2_isHushed, Cond.selects RX2 yX2_isHushed yX2_isHushed, Cond.code yX2_isHushed cX2_isHushed 2 (some .boolean), Cond.methodLink RX2 99 yX2_lives, Cond.instanceMethod yX2_lives, Cond.selects RX2 yX2_lives yX2_lives]
def wsX9_silence_r4 : List Cond := [Cond.code yX2_lives cX2_lives 2 (some .boolean), Cond.methodLink RX2 117 yX2_hasActor, Cond.instanceMethod yX2_hasActor, Cond.selects RX2 yX2_hasActor yX2_hasActor, Cond.code yX2_hasActor cX2_hasActor 2 (some .boolean), Cond.methodLink RX2 83 yX2_act, Cond.instanceMethod yX2_act, Cond.selects RX2 yX2_act yX2_act, Cond.code yX2_act cX2_act 7 none, Cond.methodLink RX2 133 yX2_clapFor, Cond.instanceMethod yX2_clapFor, Cond.selects RX2 yX2_clapFor yX2_clapFor, Cond.code yX2_clapFor cX2_clapFor 5 none, Cond.methodLink RX2 110 yX2_give, Cond.instanceMethod yX2_give, Cond.selects RX2 yX2_give yX2_give, Cond.code yX2_give cX2_give 3 none, Cond.methodLink RX2 137 yX2_move, Cond.instanceMethod yX2_move, Cond.selects RX2 yX2_move yX2_move, Cond.code yX2_move cX2_move 4 none, Cond.methodLink RX2 114 yX2_passNight, Cond.instanceMethod yX2_passNight, Cond.selects RX2 yX2_passNight yX2_passNight]
def wsX9_silence_r5 : List Cond := [Cond.code yX2_passNight cX2_passNight 2 none, Cond.methodLink RX2 166 yX2_dine, Cond.instanceMethod yX2_dine, Cond.selects RX2 yX2_dine yX2_dine, Cond.code yX2_dine cX2_dine 3 none, Cond.methodLink RX2 146 yX2_price, Cond.instanceMethod yX2_price, Cond.selects RX2 yX2_price yX2_price, Cond.code yX2_price cX2_price 2 (some .int), Cond.methodLink RX2 143 yX2_priceBehind, Cond.instanceMethod yX2_priceBehind, Cond.selects RX2 yX2_priceBehind yX2_priceBehind, Cond.code yX2_priceBehind cX2_priceBehind 3 (some .int), Cond.methodLink RX2 170 yX2_grown, Cond.instanceMethod yX2_grown, Cond.selects RX2 yX2_grown yX2_grown, Cond.code yX2_grown cX2_grown 4 (some .int), Cond.constantLong RX2 158 (100), Cond.constantLong RX2 160 (1000000000), Cond.methodLink RX2 162 Lib.MathLoose.min_long.x, Cond.static Lib.MathLoose.min_long.x, Cond.initialized "java/lang/Math", Cond.code Lib.MathLoose.min_long.x Lib.MathLoose.min_long.code 4 (some .long), Cond.methodLink RX9 237 yX2_playWithout]
def wsX9_silence_r6 : List Cond := [Cond.instanceMethod yX2_playWithout, Cond.selects RX2 yX2_playWithout yX2_playWithout, Cond.code yX2_playWithout cX2_playWithout 6 none, Cond.methodLink RX2 92 yX0_isOf, Cond.instanceMethod yX0_isOf, Cond.selects RX0 yX0_isOf yX0_isOf, Cond.code yX0_isOf cX0_isOf 5 (some .boolean), Cond.methodLink RX0 25 yX0_part, Cond.methodLink RX9 216 yX2_living, Cond.instanceMethod yX2_living, Cond.selects RX2 yX2_living yX2_living, Cond.code yX2_living cX2_living 3 (some .int), Cond.methodLink RX9 241 yJ6_bitCount_0f7a4, Cond.static yJ6_bitCount_0f7a4, Cond.initialized RJ6, Cond.code yJ6_bitCount_0f7a4 cJ6_bitCount_0f7a4 1 (some .int), Cond.constant RJ6 265 (1431655765), Cond.constant RJ6 266 (858993459), Cond.constant RJ6 267 (252645135)]
def wsX9_silence : List Cond := .code yX9_silence cX9_silence 11 (some .int) :: ((wsX9_silence_r1 ++ (wsX9_silence_r2 ++ (wsX9_silence_r3 ++ (wsX9_silence_r4 ++ (wsX9_silence_r5 ++ wsX9_silence_r6))))) ++ wsX90 ++ wsX70 ++ wsX80 ++ wsX00 ++ wsX20)
def wsX9_count : List Cond := .code yX9_count cX9_count 2 (some .int) :: ([.fieldLink RX9 10 "ClapBank" "told" "LClapBank$Told;", .methodLink RX9 69 yX8_howMany, .instanceMethod yX8_howMany, .selects RX8 yX8_howMany yX8_howMany, .initialized RX8, .code yX8_howMany cX8_howMany 2 (some .int), .fieldLink RX8 52 "ClapBank$Told" "theatres" "I", .fieldLink RX8 55 "ClapBank$Told" "books" "I", .fieldLink RX8 58 "ClapBank$Told" "darks" "I"] ++ wsX90 ++ wsX80)
set_option maxRecDepth 20000 in
theorem ggX9_feed_X8_append : GoodIn wsX9_feed wsX8_append := goodIn_r _ [6, 7, 8, 16, 17, 18, 19, 20, 21, 22, 23, 24, 25, 26, 27, 28] (by decide +kernel) (by decide +kernel)
set_option maxRecDepth 20000 in
theorem gX9_feed_X8_append : GoodIn wsX9_feed (wsV RX9 59 RX8 yX8_append wsX8_append) := goodIn_app (goodIn_of _ (by decide +kernel)) ggX9_feed_X8_append
theorem dX9_feed_0 : decode cX9_feed 0 = .ok (.aload_n 0, 1) := by decide +kernel
theorem dX9_feed_1 : decode cX9_feed 1 = .ok (.getfield 10, 3) := by decide +kernel
theorem dX9_feed_4 : decode cX9_feed 4 = .ok (.getfield 55, 3) := by decide +kernel
theorem dX9_feed_7 : decode cX9_feed 7 = .ok (.bipush 20, 2) := by decide +kernel
theorem dX9_feed_9 : decode cX9_feed 9 = .ok (.iadd, 1) := by decide +kernel
theorem dX9_feed_10 : decode cX9_feed 10 = .ok (.sipush 600, 3) := by decide +kernel
theorem dX9_feed_13 : decode cX9_feed 13 = .ok (.if_icmp .le 5, 3) := by decide +kernel
theorem dX9_feed_16 : decode cX9_feed 16 = .ok (.iconst (-1), 1) := by decide +kernel
theorem dX9_feed_17 : decode cX9_feed 17 = .ok (.ireturn, 1) := by decide +kernel
theorem dX9_feed_18 : decode cX9_feed 18 = .ok (.aload_n 0, 1) := by decide +kernel
theorem dX9_feed_19 : decode cX9_feed 19 = .ok (.getfield 10, 3) := by decide +kernel
theorem dX9_feed_22 : decode cX9_feed 22 = .ok (.iload_n 1, 1) := by decide +kernel
theorem dX9_feed_23 : decode cX9_feed 23 = .ok (.invokevirtual 59, 3) := by decide +kernel
theorem dX9_feed_26 : decode cX9_feed 26 = .ok (.aload_n 0, 1) := by decide +kernel
theorem dX9_feed_27 : decode cX9_feed 27 = .ok (.getfield 10, 3) := by decide +kernel
theorem dX9_feed_30 : decode cX9_feed 30 = .ok (.iload_n 2, 1) := by decide +kernel
theorem dX9_feed_31 : decode cX9_feed 31 = .ok (.invokevirtual 59, 3) := by decide +kernel
theorem dX9_feed_34 : decode cX9_feed 34 = .ok (.aload_n 0, 1) := by decide +kernel
theorem dX9_feed_35 : decode cX9_feed 35 = .ok (.getfield 10, 3) := by decide +kernel
theorem dX9_feed_38 : decode cX9_feed 38 = .ok (.iload_n 3, 1) := by decide +kernel
theorem dX9_feed_39 : decode cX9_feed 39 = .ok (.invokevirtual 59, 3) := by decide +kernel
theorem dX9_feed_42 : decode cX9_feed 42 = .ok (.aload_n 0, 1) := by decide +kernel
theorem dX9_feed_43 : decode cX9_feed 43 = .ok (.getfield 10, 3) := by decide +kernel
theorem dX9_feed_46 : decode cX9_feed 46 = .ok (.iload 4, 2) := by decide +kernel
theorem dX9_feed_48 : decode cX9_feed 48 = .ok (.invokevirtual 59, 3) := by decide +kernel
theorem dX9_feed_51 : decode cX9_feed 51 = .ok (.aload_n 0, 1) := by decide +kernel
theorem dX9_feed_52 : decode cX9_feed 52 = .ok (.getfield 10, 3) := by decide +kernel
theorem dX9_feed_55 : decode cX9_feed 55 = .ok (.iload 5, 2) := by decide +kernel
theorem dX9_feed_57 : decode cX9_feed 57 = .ok (.invokevirtual 59, 3) := by decide +kernel
theorem dX9_feed_60 : decode cX9_feed 60 = .ok (.aload_n 0, 1) := by decide +kernel
theorem dX9_feed_61 : decode cX9_feed 61 = .ok (.getfield 10, 3) := by decide +kernel
theorem dX9_feed_64 : decode cX9_feed 64 = .ok (.getfield 55, 3) := by decide +kernel
theorem dX9_feed_67 : decode cX9_feed 67 = .ok (.ireturn, 1) := by decide +kernel
theorem dX9_end_0 : decode cX9_end 0 = .ok (.iload_n 1, 1) := by decide +kernel
theorem dX9_end_1 : decode cX9_end 1 = .ok (.ifCond .lt 14, 3) := by decide +kernel
theorem dX9_end_4 : decode cX9_end 4 = .ok (.iload_n 1, 1) := by decide +kernel
theorem dX9_end_5 : decode cX9_end 5 = .ok (.aload_n 0, 1) := by decide +kernel
theorem dX9_end_6 : decode cX9_end 6 = .ok (.getfield 10, 3) := by decide +kernel
theorem dX9_end_9 : decode cX9_end 9 = .ok (.getfield 55, 3) := by decide +kernel
theorem dX9_end_12 : decode cX9_end 12 = .ok (.if_icmp .le 5, 3) := by decide +kernel
theorem dX9_end_15 : decode cX9_end 15 = .ok (.iconst (-1), 1) := by decide +kernel
theorem dX9_end_16 : decode cX9_end 16 = .ok (.ireturn, 1) := by decide +kernel
theorem dX9_end_17 : decode cX9_end 17 = .ok (.aload_n 0, 1) := by decide +kernel
theorem dX9_end_18 : decode cX9_end 18 = .ok (.getfield 10, 3) := by decide +kernel
theorem dX9_end_21 : decode cX9_end 21 = .ok (.iload_n 1, 1) := by decide +kernel
theorem dX9_end_22 : decode cX9_end 22 = .ok (.putfield 55, 3) := by decide +kernel
theorem dX9_end_25 : decode cX9_end 25 = .ok (.iload_n 1, 1) := by decide +kernel
theorem dX9_end_26 : decode cX9_end 26 = .ok (.ireturn, 1) := by decide +kernel
theorem dX9_fault_0 : decode cX9_fault 0 = .ok (.iload_n 1, 1) := by decide +kernel
theorem dX9_fault_1 : decode cX9_fault 1 = .ok (.ifCond .ne 11, 3) := by decide +kernel
theorem dX9_fault_4 : decode cX9_fault 4 = .ok (.aload_n 0, 1) := by decide +kernel
theorem dX9_fault_5 : decode cX9_fault 5 = .ok (.getfield 10, 3) := by decide +kernel
theorem dX9_fault_8 : decode cX9_fault 8 = .ok (.getfield 63, 3) := by decide +kernel
theorem dX9_fault_11 : decode cX9_fault 11 = .ok (.ireturn, 1) := by decide +kernel
theorem dX9_fault_12 : decode cX9_fault 12 = .ok (.iload_n 1, 1) := by decide +kernel
theorem dX9_fault_13 : decode cX9_fault 13 = .ok (.iconst 1, 1) := by decide +kernel
theorem dX9_fault_14 : decode cX9_fault 14 = .ok (.if_icmp .ne 13, 3) := by decide +kernel
theorem dX9_fault_17 : decode cX9_fault 17 = .ok (.aload_n 0, 1) := by decide +kernel
theorem dX9_fault_18 : decode cX9_fault 18 = .ok (.getfield 10, 3) := by decide +kernel
theorem dX9_fault_21 : decode cX9_fault 21 = .ok (.getfield 66, 3) := by decide +kernel
theorem dX9_fault_24 : decode cX9_fault 24 = .ok (.goto 4, 3) := by decide +kernel
theorem dX9_fault_27 : decode cX9_fault 27 = .ok (.iconst (-1), 1) := by decide +kernel
theorem dX9_fault_28 : decode cX9_fault 28 = .ok (.ireturn, 1) := by decide +kernel
set_option maxRecDepth 20000 in
theorem ggX9_theatre_X8_theatreAt : GoodIn wsX9_theatre wsX8_theatreAt := goodIn_r _ [6, 7, 8, 9, 38, 39, 40, 41, 42, 43, 44, 45, 46, 47, 48, 49, 50] (by decide +kernel) (by decide +kernel)
set_option maxRecDepth 20000 in
theorem gX9_theatre_X8_theatreAt : GoodIn wsX9_theatre (wsV RX9 87 RX8 yX8_theatreAt wsX8_theatreAt) := goodIn_app (goodIn_of _ (by decide +kernel)) ggX9_theatre_X8_theatreAt
set_option maxRecDepth 20000 in
theorem ggX9_theatre_X7_tell : GoodIn wsX9_theatre wsX7_tell := goodIn_r _ [14, 15, 16, 17, 18, 19, 20, 21, 22, 23, 24, 25, 26, 13, 27, 28, 29, 30, 51, 52, 53, 54, 55, 56, 57, 58, 59, 60, 61, 62] (by decide +kernel) (by decide +kernel)
set_option maxRecDepth 20000 in
theorem gX9_theatre_X7_tell : GoodIn wsX9_theatre (wsV RX9 91 RX7 yX7_tell wsX7_tell) := goodIn_app (goodIn_of _ (by decide +kernel)) ggX9_theatre_X7_tell
theorem dX9_theatre_0 : decode cX9_theatre 0 = .ok (.aload_n 0, 1) := by decide +kernel
theorem dX9_theatre_1 : decode cX9_theatre 1 = .ok (.getfield 10, 3) := by decide +kernel
theorem dX9_theatre_4 : decode cX9_theatre 4 = .ok (.iload_n 1, 1) := by decide +kernel
theorem dX9_theatre_5 : decode cX9_theatre 5 = .ok (.invokevirtual 87, 3) := by decide +kernel
theorem dX9_theatre_8 : decode cX9_theatre 8 = .ok (.astore_n 3, 1) := by decide +kernel
theorem dX9_theatre_9 : decode cX9_theatre 9 = .ok (.aload_n 3, 1) := by decide +kernel
theorem dX9_theatre_10 : decode cX9_theatre 10 = .ok (.ifnonnull 7, 3) := by decide +kernel
theorem dX9_theatre_13 : decode cX9_theatre 13 = .ok (.iconst (-1), 1) := by decide +kernel
theorem dX9_theatre_14 : decode cX9_theatre 14 = .ok (.goto 8, 3) := by decide +kernel
theorem dX9_theatre_17 : decode cX9_theatre 17 = .ok (.aload_n 3, 1) := by decide +kernel
theorem dX9_theatre_18 : decode cX9_theatre 18 = .ok (.iload_n 2, 1) := by decide +kernel
theorem dX9_theatre_19 : decode cX9_theatre 19 = .ok (.invokevirtual 91, 3) := by decide +kernel
theorem dX9_theatre_22 : decode cX9_theatre 22 = .ok (.ireturn, 1) := by decide +kernel
set_option maxRecDepth 20000 in
theorem ggX9_deed_X8_bookAt : GoodIn wsX9_deed wsX8_bookAt := goodIn_r _ [6, 7, 8, 9, 25, 26, 27, 28, 29, 30, 31, 32, 33, 34, 35, 36, 37] (by decide +kernel) (by decide +kernel)
set_option maxRecDepth 20000 in
theorem gX9_deed_X8_bookAt : GoodIn wsX9_deed (wsV RX9 96 RX8 yX8_bookAt wsX8_bookAt) := goodIn_app (goodIn_of _ (by decide +kernel)) ggX9_deed_X8_bookAt
set_option maxRecDepth 20000 in
theorem ggX9_deed_X0_part : GoodIn wsX9_deed wsX0_part := goodIn_r _ [14, 15, 23, 24] (by decide +kernel) (by decide +kernel)
set_option maxRecDepth 20000 in
theorem gX9_deed_X0_part : GoodIn wsX9_deed (wsV RX9 105 RX0 yX0_part wsX0_part) := goodIn_app (goodIn_of _ (by decide +kernel)) ggX9_deed_X0_part
theorem dX9_deed_0 : decode cX9_deed 0 = .ok (.aload_n 0, 1) := by decide +kernel
theorem dX9_deed_1 : decode cX9_deed 1 = .ok (.getfield 10, 3) := by decide +kernel
theorem dX9_deed_4 : decode cX9_deed 4 = .ok (.iload_n 1, 1) := by decide +kernel
theorem dX9_deed_5 : decode cX9_deed 5 = .ok (.invokevirtual 96, 3) := by decide +kernel
theorem dX9_deed_8 : decode cX9_deed 8 = .ok (.astore 4, 2) := by decide +kernel
theorem dX9_deed_10 : decode cX9_deed 10 = .ok (.aload 4, 2) := by decide +kernel
theorem dX9_deed_12 : decode cX9_deed 12 = .ok (.ifnull 12, 3) := by decide +kernel
theorem dX9_deed_15 : decode cX9_deed 15 = .ok (.iload_n 3, 1) := by decide +kernel
theorem dX9_deed_16 : decode cX9_deed 16 = .ok (.ifCond .lt 8, 3) := by decide +kernel
theorem dX9_deed_19 : decode cX9_deed 19 = .ok (.iload_n 3, 1) := by decide +kernel
theorem dX9_deed_20 : decode cX9_deed 20 = .ok (.iconst 3, 1) := by decide +kernel
theorem dX9_deed_21 : decode cX9_deed 21 = .ok (.if_icmp .le 6, 3) := by decide +kernel
theorem dX9_deed_24 : decode cX9_deed 24 = .ok (.bipush (-2), 2) := by decide +kernel
theorem dX9_deed_26 : decode cX9_deed 26 = .ok (.ireturn, 1) := by decide +kernel
theorem dX9_deed_27 : decode cX9_deed 27 = .ok (.iload_n 2, 1) := by decide +kernel
theorem dX9_deed_28 : decode cX9_deed 28 = .ok (.iconst (-1), 1) := by decide +kernel
theorem dX9_deed_29 : decode cX9_deed 29 = .ok (.if_icmp .ne 18, 3) := by decide +kernel
theorem dX9_deed_32 : decode cX9_deed 32 = .ok (.iload_n 3, 1) := by decide +kernel
theorem dX9_deed_33 : decode cX9_deed 33 = .ok (.ifCond .ne 11, 3) := by decide +kernel
theorem dX9_deed_36 : decode cX9_deed 36 = .ok (.aload 4, 2) := by decide +kernel
theorem dX9_deed_38 : decode cX9_deed 38 = .ok (.getfield 100, 3) := by decide +kernel
theorem dX9_deed_41 : decode cX9_deed 41 = .ok (.goto 5, 3) := by decide +kernel
theorem dX9_deed_44 : decode cX9_deed 44 = .ok (.bipush (-2), 2) := by decide +kernel
theorem dX9_deed_46 : decode cX9_deed 46 = .ok (.ireturn, 1) := by decide +kernel
theorem dX9_deed_47 : decode cX9_deed 47 = .ok (.iload_n 2, 1) := by decide +kernel
theorem dX9_deed_48 : decode cX9_deed 48 = .ok (.ifCond .lt 22, 3) := by decide +kernel
theorem dX9_deed_51 : decode cX9_deed 51 = .ok (.iload_n 2, 1) := by decide +kernel
theorem dX9_deed_52 : decode cX9_deed 52 = .ok (.aload 4, 2) := by decide +kernel
theorem dX9_deed_54 : decode cX9_deed 54 = .ok (.getfield 100, 3) := by decide +kernel
theorem dX9_deed_57 : decode cX9_deed 57 = .ok (.if_icmp .ge 13, 3) := by decide +kernel
theorem dX9_deed_60 : decode cX9_deed 60 = .ok (.aload 4, 2) := by decide +kernel
theorem dX9_deed_62 : decode cX9_deed 62 = .ok (.iload_n 2, 1) := by decide +kernel
theorem dX9_deed_63 : decode cX9_deed 63 = .ok (.iload_n 3, 1) := by decide +kernel
theorem dX9_deed_64 : decode cX9_deed 64 = .ok (.invokevirtual 105, 3) := by decide +kernel
theorem dX9_deed_67 : decode cX9_deed 67 = .ok (.goto 5, 3) := by decide +kernel
theorem dX9_deed_70 : decode cX9_deed 70 = .ok (.bipush (-2), 2) := by decide +kernel
theorem dX9_deed_72 : decode cX9_deed 72 = .ok (.ireturn, 1) := by decide +kernel
set_option maxRecDepth 20000 in
theorem ggX9_stop_X8_theatreAt : GoodIn wsX9_stop wsX8_theatreAt := goodIn_r _ [7, 8, 9, 10, 127, 128, 129, 130, 131, 132, 133, 134, 135, 136, 137, 138, 139] (by decide +kernel) (by decide +kernel)
set_option maxRecDepth 20000 in
theorem gX9_stop_X8_theatreAt : GoodIn wsX9_stop (wsV RX9 87 RX8 yX8_theatreAt wsX8_theatreAt) := goodIn_app (goodIn_of _ (by decide +kernel)) ggX9_stop_X8_theatreAt
set_option maxRecDepth 20000 in
theorem ggX9_stop_X8_bookAt : GoodIn wsX9_stop wsX8_bookAt := goodIn_r _ [14, 15, 16, 17, 127, 128, 129, 130, 131, 132, 133, 134, 135, 136, 137, 138, 139] (by decide +kernel) (by decide +kernel)
set_option maxRecDepth 20000 in
theorem gX9_stop_X8_bookAt : GoodIn wsX9_stop (wsV RX9 96 RX8 yX8_bookAt wsX8_bookAt) := goodIn_app (goodIn_of _ (by decide +kernel)) ggX9_stop_X8_bookAt
set_option maxRecDepth 20000 in
theorem ggX9_stop_X2_playAll : GoodIn wsX9_stop wsX2_playAll := goodIn_r _ [22, 23, 24, 25, 21, 26, 27, 28, 29, 30, 31, 32, 33, 34, 35, 36, 37, 38, 39, 40, 41, 42, 43, 44, 45, 46, 47, 48, 49, 50, 51, 52, 53, 54, 55, 56, 57, 58, 59, 60, 61, 62, 63, 64, 65, 66, 67, 68, 69, 70, 71, 72, 73, 74, 75, 76, 77, 78, 79, 80, 81, 82, 83, 84, 85, 86, 87, 88, 89, 90, 91, 92, 93, 94, 95, 96, 97, 98, 99, 100, 101, 102, 103, 104, 105, 106, 107, 108, 109, 110, 111, 112, 113, 114, 115, 116, 117, 118, 119, 140, 141, 142, 143, 144, 145, 146, 147, 148, 149, 150, 151, 152, 153, 154, 155, 156, 157, 158, 159, 160, 161, 162, 163, 164, 165, 166, 167] (by decide +kernel) (by decide +kernel)
set_option maxRecDepth 20000 in
theorem gX9_stop_X2_playAll : GoodIn wsX9_stop (wsV RX9 109 RX2 yX2_playAll wsX2_playAll) := goodIn_app (goodIn_of _ (by decide +kernel)) ggX9_stop_X2_playAll
theorem dX9_stop_0 : decode cX9_stop 0 = .ok (.aload_n 0, 1) := by decide +kernel
theorem dX9_stop_1 : decode cX9_stop 1 = .ok (.getfield 10, 3) := by decide +kernel
theorem dX9_stop_4 : decode cX9_stop 4 = .ok (.iload_n 1, 1) := by decide +kernel
theorem dX9_stop_5 : decode cX9_stop 5 = .ok (.invokevirtual 87, 3) := by decide +kernel
theorem dX9_stop_8 : decode cX9_stop 8 = .ok (.astore_n 3, 1) := by decide +kernel
theorem dX9_stop_9 : decode cX9_stop 9 = .ok (.aload_n 0, 1) := by decide +kernel
theorem dX9_stop_10 : decode cX9_stop 10 = .ok (.getfield 10, 3) := by decide +kernel
theorem dX9_stop_13 : decode cX9_stop 13 = .ok (.iload_n 2, 1) := by decide +kernel
theorem dX9_stop_14 : decode cX9_stop 14 = .ok (.invokevirtual 96, 3) := by decide +kernel
theorem dX9_stop_17 : decode cX9_stop 17 = .ok (.astore 4, 2) := by decide +kernel
theorem dX9_stop_19 : decode cX9_stop 19 = .ok (.aload_n 3, 1) := by decide +kernel
theorem dX9_stop_20 : decode cX9_stop 20 = .ok (.ifnull 8, 3) := by decide +kernel
theorem dX9_stop_23 : decode cX9_stop 23 = .ok (.aload 4, 2) := by decide +kernel
theorem dX9_stop_25 : decode cX9_stop 25 = .ok (.ifnonnull 5, 3) := by decide +kernel
theorem dX9_stop_28 : decode cX9_stop 28 = .ok (.iconst (-1), 1) := by decide +kernel
theorem dX9_stop_29 : decode cX9_stop 29 = .ok (.ireturn, 1) := by decide +kernel
theorem dX9_stop_30 : decode cX9_stop 30 = .ok (.aload_n 0, 1) := by decide +kernel
theorem dX9_stop_31 : decode cX9_stop 31 = .ok (.getfield 30, 3) := by decide +kernel
theorem dX9_stop_34 : decode cX9_stop 34 = .ok (.aload_n 3, 1) := by decide +kernel
theorem dX9_stop_35 : decode cX9_stop 35 = .ok (.aload 4, 2) := by decide +kernel
theorem dX9_stop_37 : decode cX9_stop 37 = .ok (.invokevirtual 109, 3) := by decide +kernel
theorem dX9_stop_40 : decode cX9_stop 40 = .ok (.ireturn, 1) := by decide +kernel
set_option maxRecDepth 20000 in
theorem ggX9_state_X9_reach : GoodIn wsX9_state wsX9_reach := goodIn_r _ [6, 7, 1, 8, 9, 10, 11, 12, 13, 14, 15, 16, 17, 18, 19, 20, 21, 22, 23, 24, 25, 26, 27, 28, 29, 30, 31, 32, 33, 34, 35, 36, 37, 38, 39, 40, 41, 42, 43, 44, 45, 46, 47, 48, 49, 50, 51, 52, 53, 54, 55, 56, 57, 58, 59, 60, 61, 62, 63, 64, 65, 66, 67, 68, 69, 70, 71, 72, 73, 74, 75, 76, 77, 78, 79, 80, 81, 82, 83, 84, 85, 86, 87, 88, 89, 90, 91, 92, 93, 94, 95, 96, 97, 98, 99, 100, 101, 102, 103, 104, 105, 106, 107, 108, 109, 110, 111, 112, 113, 114, 115, 116, 117, 118, 119, 120, 121, 122, 123, 124, 137, 138, 139, 140, 141, 142, 143, 144, 145, 146, 147, 148, 149, 150, 151, 152, 153, 154, 155, 156, 157, 158, 159, 160, 161, 162, 163, 164, 165, 166, 167, 168, 169, 170, 171, 172, 173, 174, 175, 176, 177, 178, 179, 180, 181, 182, 183, 184] (by decide +kernel) (by decide +kernel)
set_option maxRecDepth 20000 in
theorem gX9_state_X9_reach : GoodIn wsX9_state (wsV RX9 113 RX9 yX9_reach wsX9_reach) := goodIn_app (goodIn_of _ (by decide +kernel)) ggX9_state_X9_reach
set_option maxRecDepth 20000 in
theorem ggX9_state_X2_tell : GoodIn wsX9_state wsX2_tell := goodIn_r _ [128, 43, 44, 45, 47, 46, 129, 130, 131, 26, 132, 32, 75, 76, 77, 78, 41, 79, 80, 81, 82, 133, 134, 135, 136, 38, 159, 160, 161, 162, 163, 164, 165, 166, 167, 168, 169, 170, 171, 172, 173, 174, 175, 176, 177, 178, 179, 180, 181, 182, 183, 184] (by decide +kernel) (by decide +kernel)
set_option maxRecDepth 20000 in
theorem gX9_state_X2_tell : GoodIn wsX9_state (wsV RX9 117 RX2 yX2_tell wsX2_tell) := goodIn_app (goodIn_of _ (by decide +kernel)) ggX9_state_X2_tell
theorem dX9_state_0 : decode cX9_state 0 = .ok (.aload_n 0, 1) := by decide +kernel
theorem dX9_state_1 : decode cX9_state 1 = .ok (.iload_n 1, 1) := by decide +kernel
theorem dX9_state_2 : decode cX9_state 2 = .ok (.iload_n 2, 1) := by decide +kernel
theorem dX9_state_3 : decode cX9_state 3 = .ok (.iload_n 3, 1) := by decide +kernel
theorem dX9_state_4 : decode cX9_state 4 = .ok (.invokevirtual 113, 3) := by decide +kernel
theorem dX9_state_7 : decode cX9_state 7 = .ok (.ifCond .eq 15, 3) := by decide +kernel
theorem dX9_state_10 : decode cX9_state 10 = .ok (.aload_n 0, 1) := by decide +kernel
theorem dX9_state_11 : decode cX9_state 11 = .ok (.getfield 30, 3) := by decide +kernel
theorem dX9_state_14 : decode cX9_state 14 = .ok (.iload 4, 2) := by decide +kernel
theorem dX9_state_16 : decode cX9_state 16 = .ok (.invokevirtual 117, 3) := by decide +kernel
theorem dX9_state_19 : decode cX9_state 19 = .ok (.goto 5, 3) := by decide +kernel
theorem dX9_state_22 : decode cX9_state 22 = .ok (.bipush (-2), 2) := by decide +kernel
theorem dX9_state_24 : decode cX9_state 24 = .ok (.ireturn, 1) := by decide +kernel
set_option maxRecDepth 20000 in
theorem ggX9_palm_X9_reach : GoodIn wsX9_palm wsX9_reach := goodIn_r _ [6, 7, 1, 8, 9, 10, 11, 12, 13, 14, 15, 16, 17, 18, 19, 20, 21, 22, 23, 24, 25, 26, 27, 28, 29, 30, 31, 32, 33, 34, 35, 36, 37, 38, 39, 40, 41, 42, 43, 44, 45, 46, 47, 48, 49, 50, 51, 52, 53, 54, 55, 56, 57, 58, 59, 60, 61, 62, 63, 64, 65, 66, 67, 68, 69, 70, 71, 72, 73, 74, 75, 76, 77, 78, 79, 80, 81, 82, 83, 84, 85, 86, 87, 88, 89, 90, 91, 92, 93, 94, 95, 96, 97, 98, 99, 100, 101, 102, 103, 104, 105, 106, 107, 108, 109, 110, 111, 112, 113, 114, 115, 116, 117, 118, 119, 120, 121, 122, 123, 124, 130, 131, 132, 133, 134, 135, 136, 137, 138, 139, 140, 141, 142, 143, 144, 145, 146, 147, 148, 149, 150, 151, 152, 153, 154, 155, 156, 157, 158, 159, 160, 161, 162, 163, 164, 165, 166, 167, 168, 169, 170, 171, 172, 173, 174, 175, 176, 177] (by decide +kernel) (by decide +kernel)
set_option maxRecDepth 20000 in
theorem gX9_palm_X9_reach : GoodIn wsX9_palm (wsV RX9 113 RX9 yX9_reach wsX9_reach) := goodIn_app (goodIn_of _ (by decide +kernel)) ggX9_palm_X9_reach
set_option maxRecDepth 20000 in
theorem ggX9_palm_X2_hasPalm : GoodIn wsX9_palm wsX2_hasPalm := goodIn_r _ [70, 32, 152, 153, 154, 155, 156, 157, 158, 159, 160, 161, 162, 163, 164, 165, 166, 167, 168, 169, 170, 171, 172, 173, 174, 175, 176, 177] (by decide +kernel) (by decide +kernel)
set_option maxRecDepth 20000 in
theorem gX9_palm_X2_hasPalm : GoodIn wsX9_palm (wsV RX9 118 RX2 yX2_hasPalm wsX2_hasPalm) := goodIn_app (goodIn_of _ (by decide +kernel)) ggX9_palm_X2_hasPalm
set_option maxRecDepth 20000 in
theorem ggX9_palm_X2_tellPalm : GoodIn wsX9_palm wsX2_tellPalm := goodIn_r _ [129, 33, 39, 40, 67, 68, 69, 26, 70, 32, 79, 80, 81, 82, 152, 153, 154, 155, 156, 157, 158, 159, 160, 161, 162, 163, 164, 165, 166, 167, 168, 169, 170, 171, 172, 173, 174, 175, 176, 177] (by decide +kernel) (by decide +kernel)
set_option maxRecDepth 20000 in
theorem gX9_palm_X2_tellPalm : GoodIn wsX9_palm (wsV RX9 122 RX2 yX2_tellPalm wsX2_tellPalm) := goodIn_app (goodIn_of _ (by decide +kernel)) ggX9_palm_X2_tellPalm
theorem dX9_palm_0 : decode cX9_palm 0 = .ok (.aload_n 0, 1) := by decide +kernel
theorem dX9_palm_1 : decode cX9_palm 1 = .ok (.iload_n 1, 1) := by decide +kernel
theorem dX9_palm_2 : decode cX9_palm 2 = .ok (.iload_n 2, 1) := by decide +kernel
theorem dX9_palm_3 : decode cX9_palm 3 = .ok (.iload_n 3, 1) := by decide +kernel
theorem dX9_palm_4 : decode cX9_palm 4 = .ok (.invokevirtual 113, 3) := by decide +kernel
theorem dX9_palm_7 : decode cX9_palm 7 = .ok (.ifCond .eq 15, 3) := by decide +kernel
theorem dX9_palm_10 : decode cX9_palm 10 = .ok (.aload_n 0, 1) := by decide +kernel
theorem dX9_palm_11 : decode cX9_palm 11 = .ok (.getfield 30, 3) := by decide +kernel
theorem dX9_palm_14 : decode cX9_palm 14 = .ok (.iload 4, 2) := by decide +kernel
theorem dX9_palm_16 : decode cX9_palm 16 = .ok (.invokevirtual 118, 3) := by decide +kernel
theorem dX9_palm_19 : decode cX9_palm 19 = .ok (.ifCond .ne 6, 3) := by decide +kernel
theorem dX9_palm_22 : decode cX9_palm 22 = .ok (.bipush (-2), 2) := by decide +kernel
theorem dX9_palm_24 : decode cX9_palm 24 = .ok (.ireturn, 1) := by decide +kernel
theorem dX9_palm_25 : decode cX9_palm 25 = .ok (.aload_n 0, 1) := by decide +kernel
theorem dX9_palm_26 : decode cX9_palm 26 = .ok (.getfield 30, 3) := by decide +kernel
theorem dX9_palm_29 : decode cX9_palm 29 = .ok (.iload 4, 2) := by decide +kernel
theorem dX9_palm_31 : decode cX9_palm 31 = .ok (.iload 5, 2) := by decide +kernel
theorem dX9_palm_33 : decode cX9_palm 33 = .ok (.invokevirtual 122, 3) := by decide +kernel
theorem dX9_palm_36 : decode cX9_palm 36 = .ok (.ireturn, 1) := by decide +kernel
set_option maxRecDepth 20000 in
theorem ggX9_actor_X9_reach : GoodIn wsX9_actor wsX9_reach := goodIn_r _ [6, 7, 1, 8, 9, 10, 11, 12, 13, 14, 15, 16, 17, 18, 19, 20, 21, 22, 23, 24, 25, 26, 27, 28, 29, 30, 31, 32, 33, 34, 35, 36, 37, 38, 39, 40, 41, 42, 43, 44, 45, 46, 47, 48, 49, 50, 51, 52, 53, 54, 55, 56, 57, 58, 59, 60, 61, 62, 63, 64, 65, 66, 67, 68, 69, 70, 71, 72, 73, 74, 75, 76, 77, 78, 79, 80, 81, 82, 83, 84, 85, 86, 87, 88, 89, 90, 91, 92, 93, 94, 95, 96, 97, 98, 99, 100, 101, 102, 103, 104, 105, 106, 107, 108, 109, 110, 111, 112, 113, 114, 115, 116, 117, 118, 119, 120, 121, 122, 123, 124, 145, 146, 147, 148, 149, 150, 151, 152, 153, 154, 155, 156, 157, 158, 159, 160, 161, 162, 163, 164, 165, 166, 167, 168, 169, 170, 171, 172, 173, 174, 175, 176, 177, 178, 179, 180, 181, 182, 183, 184, 185, 186, 187, 188, 189, 190, 191, 192] (by decide +kernel) (by decide +kernel)
set_option maxRecDepth 20000 in
theorem gX9_actor_X9_reach : GoodIn wsX9_actor (wsV RX9 113 RX9 yX9_reach wsX9_reach) := goodIn_app (goodIn_of _ (by decide +kernel)) ggX9_actor_X9_reach
set_option maxRecDepth 20000 in
theorem ggX9_actor_X2_hasActor : GoodIn wsX9_actor wsX2_hasActor := goodIn_r _ [82, 32, 167, 168, 169, 170, 171, 172, 173, 174, 175, 176, 177, 178, 179, 180, 181, 182, 183, 184, 185, 186, 187, 188, 189, 190, 191, 192] (by decide +kernel) (by decide +kernel)
set_option maxRecDepth 20000 in
theorem gX9_actor_X2_hasActor : GoodIn wsX9_actor (wsV RX9 125 RX2 yX2_hasActor wsX2_hasActor) := goodIn_app (goodIn_of _ (by decide +kernel)) ggX9_actor_X2_hasActor
set_option maxRecDepth 20000 in
theorem ggX9_actor_X2_tellActor : GoodIn wsX9_actor wsX2_tellActor := goodIn_r _ [129, 38, 41, 42, 75, 76, 77, 26, 78, 79, 80, 81, 82, 32, 107, 108, 109, 110, 111, 112, 113, 114, 44, 130, 131, 132, 133, 134, 135, 123, 136, 137, 138, 139, 140, 99, 100, 101, 102, 39, 33, 34, 35, 36, 37, 47, 45, 103, 104, 105, 106, 43, 91, 92, 93, 94, 115, 116, 117, 118, 119, 120, 121, 122, 124, 141, 142, 143, 144, 167, 168, 169, 170, 171, 172, 173, 174, 175, 176, 177, 178, 179, 180, 181, 182, 183, 184, 185, 186, 187, 188, 189, 190, 191, 192] (by decide +kernel) (by decide +kernel)
set_option maxRecDepth 20000 in
theorem gX9_actor_X2_tellActor : GoodIn wsX9_actor (wsV RX9 128 RX2 yX2_tellActor wsX2_tellActor) := goodIn_app (goodIn_of _ (by decide +kernel)) ggX9_actor_X2_tellActor
theorem dX9_actor_0 : decode cX9_actor 0 = .ok (.aload_n 0, 1) := by decide +kernel
theorem dX9_actor_1 : decode cX9_actor 1 = .ok (.iload_n 1, 1) := by decide +kernel
theorem dX9_actor_2 : decode cX9_actor 2 = .ok (.iload_n 2, 1) := by decide +kernel
theorem dX9_actor_3 : decode cX9_actor 3 = .ok (.iload_n 3, 1) := by decide +kernel
theorem dX9_actor_4 : decode cX9_actor 4 = .ok (.invokevirtual 113, 3) := by decide +kernel
theorem dX9_actor_7 : decode cX9_actor 7 = .ok (.ifCond .eq 15, 3) := by decide +kernel
theorem dX9_actor_10 : decode cX9_actor 10 = .ok (.aload_n 0, 1) := by decide +kernel
theorem dX9_actor_11 : decode cX9_actor 11 = .ok (.getfield 30, 3) := by decide +kernel
theorem dX9_actor_14 : decode cX9_actor 14 = .ok (.iload 4, 2) := by decide +kernel
theorem dX9_actor_16 : decode cX9_actor 16 = .ok (.invokevirtual 125, 3) := by decide +kernel
theorem dX9_actor_19 : decode cX9_actor 19 = .ok (.ifCond .ne 6, 3) := by decide +kernel
theorem dX9_actor_22 : decode cX9_actor 22 = .ok (.bipush (-2), 2) := by decide +kernel
theorem dX9_actor_24 : decode cX9_actor 24 = .ok (.ireturn, 1) := by decide +kernel
theorem dX9_actor_25 : decode cX9_actor 25 = .ok (.aload_n 0, 1) := by decide +kernel
theorem dX9_actor_26 : decode cX9_actor 26 = .ok (.getfield 30, 3) := by decide +kernel
theorem dX9_actor_29 : decode cX9_actor 29 = .ok (.iload 4, 2) := by decide +kernel
theorem dX9_actor_31 : decode cX9_actor 31 = .ok (.iload 5, 2) := by decide +kernel
theorem dX9_actor_33 : decode cX9_actor 33 = .ok (.invokevirtual 128, 3) := by decide +kernel
theorem dX9_actor_36 : decode cX9_actor 36 = .ok (.ireturn, 1) := by decide +kernel
set_option maxRecDepth 20000 in
theorem ggX9_run_X9_reach : GoodIn wsX9_run wsX9_reach := goodIn_r _ [6, 7, 1, 8, 9, 10, 11, 12, 13, 14, 15, 16, 17, 18, 19, 20, 21, 22, 23, 24, 25, 26, 27, 28, 29, 30, 31, 32, 33, 34, 35, 36, 37, 38, 39, 40, 41, 42, 43, 44, 45, 46, 47, 48, 49, 50, 51, 52, 53, 54, 55, 56, 57, 58, 59, 60, 61, 62, 63, 64, 65, 66, 67, 68, 69, 70, 71, 72, 73, 74, 75, 76, 77, 78, 79, 80, 81, 82, 83, 84, 85, 86, 87, 88, 89, 90, 91, 92, 93, 94, 95, 96, 97, 98, 99, 100, 101, 102, 103, 104, 105, 106, 107, 108, 109, 110, 111, 112, 113, 114, 115, 116, 117, 118, 119, 120, 121, 122, 123, 124, 146, 147, 148, 149, 150, 151, 152, 153, 154, 155, 156, 157, 158, 159, 160, 161, 162, 163, 164, 165, 166, 167, 168, 169, 170, 171, 172, 173, 174, 175, 176, 177, 178, 179, 180, 181, 182, 183, 184, 185, 186, 187, 188, 189, 190, 191, 192, 193] (by decide +kernel) (by decide +kernel)
set_option maxRecDepth 20000 in
theorem gX9_run_X9_reach : GoodIn wsX9_run (wsV RX9 113 RX9 yX9_reach wsX9_reach) := goodIn_app (goodIn_of _ (by decide +kernel)) ggX9_run_X9_reach
set_option maxRecDepth 20000 in
theorem ggX9_run_X2_doomed : GoodIn wsX9_run wsX2_doomed := goodIn_r _ [128, 32, 38, 43, 75, 76, 77, 26, 78, 41, 79, 80, 81, 82, 107, 108, 109, 110, 111, 112, 113, 114, 44, 168, 169, 170, 171, 172, 173, 174, 175, 176, 177, 178, 179, 180, 181, 182, 183, 184, 185, 186, 187, 188, 189, 190, 191, 192, 193] (by decide +kernel) (by decide +kernel)
set_option maxRecDepth 20000 in
theorem gX9_run_X2_doomed : GoodIn wsX9_run (wsV RX9 131 RX2 yX2_doomed wsX2_doomed) := goodIn_app (goodIn_of _ (by decide +kernel)) ggX9_run_X2_doomed
set_option maxRecDepth 20000 in
theorem ggX9_run_X2_danger : GoodIn wsX9_run wsX2_danger := goodIn_r _ [132, 43, 133, 126, 127, 26, 128, 32, 38, 75, 76, 77, 78, 41, 79, 80, 81, 82, 107, 108, 109, 110, 111, 112, 113, 114, 44, 134, 135, 136, 137, 138, 139, 140, 141, 142, 143, 144, 145, 168, 169, 170, 171, 172, 173, 174, 175, 176, 177, 178, 179, 180, 181, 182, 183, 184, 185, 186, 187, 188, 189, 190, 191, 192, 193] (by decide +kernel) (by decide +kernel)
set_option maxRecDepth 20000 in
theorem gX9_run_X2_danger : GoodIn wsX9_run (wsV RX9 135 RX2 yX2_danger wsX2_danger) := goodIn_app (goodIn_of _ (by decide +kernel)) ggX9_run_X2_danger
theorem dX9_run_0 : decode cX9_run 0 = .ok (.iload 4, 2) := by decide +kernel
theorem dX9_run_2 : decode cX9_run 2 = .ok (.ifCond .lt 19, 3) := by decide +kernel
theorem dX9_run_5 : decode cX9_run 5 = .ok (.iload 4, 2) := by decide +kernel
theorem dX9_run_7 : decode cX9_run 7 = .ok (.iconst 1, 1) := by decide +kernel
theorem dX9_run_8 : decode cX9_run 8 = .ok (.if_icmp .gt 13, 3) := by decide +kernel
theorem dX9_run_11 : decode cX9_run 11 = .ok (.aload_n 0, 1) := by decide +kernel
theorem dX9_run_12 : decode cX9_run 12 = .ok (.iload_n 1, 1) := by decide +kernel
theorem dX9_run_13 : decode cX9_run 13 = .ok (.iload_n 2, 1) := by decide +kernel
theorem dX9_run_14 : decode cX9_run 14 = .ok (.iload_n 3, 1) := by decide +kernel
theorem dX9_run_15 : decode cX9_run 15 = .ok (.invokevirtual 113, 3) := by decide +kernel
theorem dX9_run_18 : decode cX9_run 18 = .ok (.ifCond .ne 6, 3) := by decide +kernel
theorem dX9_run_21 : decode cX9_run 21 = .ok (.bipush (-2), 2) := by decide +kernel
theorem dX9_run_23 : decode cX9_run 23 = .ok (.ireturn, 1) := by decide +kernel
theorem dX9_run_24 : decode cX9_run 24 = .ok (.iload 4, 2) := by decide +kernel
theorem dX9_run_26 : decode cX9_run 26 = .ok (.ifCond .ne 13, 3) := by decide +kernel
theorem dX9_run_29 : decode cX9_run 29 = .ok (.aload_n 0, 1) := by decide +kernel
theorem dX9_run_30 : decode cX9_run 30 = .ok (.getfield 30, 3) := by decide +kernel
theorem dX9_run_33 : decode cX9_run 33 = .ok (.invokevirtual 131, 3) := by decide +kernel
theorem dX9_run_36 : decode cX9_run 36 = .ok (.goto 10, 3) := by decide +kernel
theorem dX9_run_39 : decode cX9_run 39 = .ok (.aload_n 0, 1) := by decide +kernel
theorem dX9_run_40 : decode cX9_run 40 = .ok (.getfield 30, 3) := by decide +kernel
theorem dX9_run_43 : decode cX9_run 43 = .ok (.invokevirtual 135, 3) := by decide +kernel
theorem dX9_run_46 : decode cX9_run 46 = .ok (.ireturn, 1) := by decide +kernel
set_option maxRecDepth 20000 in
theorem ggX9_feast_X9_reach : GoodIn wsX9_feast wsX9_reach := goodIn_r _ [7, 8, 2, 9, 10, 11, 12, 13, 14, 15, 16, 17, 18, 19, 20, 21, 22, 23, 24, 25, 26, 27, 28, 29, 30, 31, 32, 33, 34, 35, 36, 37, 38, 39, 40, 41, 42, 43, 44, 45, 46, 47, 48, 49, 50, 51, 52, 53, 54, 55, 56, 57, 58, 59, 60, 61, 62, 63, 64, 65, 66, 67, 68, 69, 70, 71, 72, 73, 74, 75, 76, 77, 78, 79, 80, 81, 82, 83, 84, 85, 86, 87, 88, 89, 90, 91, 92, 93, 94, 95, 96, 97, 98, 99, 100, 101, 102, 103, 104, 105, 106, 107, 108, 109, 110, 111, 112, 113, 114, 115, 116, 117, 118, 119, 120, 121, 122, 123, 124, 125, 168, 169, 170, 171, 172, 173, 174, 175, 176, 177, 178, 179, 180, 181, 182, 183, 184, 185, 186, 187, 188, 189, 190, 191, 192, 193, 194, 195, 196, 197, 198, 199, 200, 201, 202, 203, 204, 205, 206, 207, 208, 209, 210, 211, 212, 213, 214, 215] (by decide +kernel) (by decide +kernel)
set_option maxRecDepth 20000 in
theorem gX9_feast_X9_reach : GoodIn wsX9_feast (wsV RX9 113 RX9 yX9_reach wsX9_reach) := goodIn_app (goodIn_of _ (by decide +kernel)) ggX9_feast_X9_reach
set_option maxRecDepth 20000 in
theorem ggX9_feast_X3_lay : GoodIn wsX9_feast wsX3_lay := goodIn_r _ [130, 131, 132, 133, 134, 73, 74, 27, 75, 48, 135, 136, 137, 138, 33, 76, 77, 78, 79, 42, 80, 81, 82, 83, 139, 140, 141, 129, 142, 143, 144, 124, 145, 146, 147, 148, 149, 39, 150, 151, 152, 108, 109, 110, 111, 112, 113, 114, 115, 45, 153, 154, 155, 156, 157, 158, 159, 160, 161, 162, 163, 190, 191, 192, 193, 194, 195, 196, 197, 198, 199, 200, 201, 202, 203, 204, 205, 206, 207, 208, 209, 210, 211, 212, 213, 214, 215, 216, 217, 218] (by decide +kernel) (by decide +kernel)
set_option maxRecDepth 20000 in
theorem gX9_feast_X3_lay : GoodIn wsX9_feast (wsV RX9 138 RX3 yX3_lay wsX3_lay) := goodIn_app (goodIn_of _ (by decide +kernel)) ggX9_feast_X3_lay
set_option maxRecDepth 20000 in
theorem ggX9_feast_X3_tell : GoodIn wsX9_feast wsX3_tell := goodIn_r _ [167, 131, 132, 133, 157, 158, 159, 160, 161, 162, 163, 216, 217, 218] (by decide +kernel) (by decide +kernel)
set_option maxRecDepth 20000 in
theorem gX9_feast_X3_tell : GoodIn wsX9_feast (wsV RX9 142 RX3 yX3_tell wsX3_tell) := goodIn_app (goodIn_of _ (by decide +kernel)) ggX9_feast_X3_tell
theorem dX9_feast_0 : decode cX9_feast 0 = .ok (.iload 4, 2) := by decide +kernel
theorem dX9_feast_2 : decode cX9_feast 2 = .ok (.ifCond .lt 19, 3) := by decide +kernel
theorem dX9_feast_5 : decode cX9_feast 5 = .ok (.iload 4, 2) := by decide +kernel
theorem dX9_feast_7 : decode cX9_feast 7 = .ok (.iconst 3, 1) := by decide +kernel
theorem dX9_feast_8 : decode cX9_feast 8 = .ok (.if_icmp .gt 13, 3) := by decide +kernel
theorem dX9_feast_11 : decode cX9_feast 11 = .ok (.aload_n 0, 1) := by decide +kernel
theorem dX9_feast_12 : decode cX9_feast 12 = .ok (.iload_n 1, 1) := by decide +kernel
theorem dX9_feast_13 : decode cX9_feast 13 = .ok (.iload_n 2, 1) := by decide +kernel
theorem dX9_feast_14 : decode cX9_feast 14 = .ok (.iload_n 3, 1) := by decide +kernel
theorem dX9_feast_15 : decode cX9_feast 15 = .ok (.invokevirtual 113, 3) := by decide +kernel
theorem dX9_feast_18 : decode cX9_feast 18 = .ok (.ifCond .ne 6, 3) := by decide +kernel
theorem dX9_feast_21 : decode cX9_feast 21 = .ok (.bipush (-2), 2) := by decide +kernel
theorem dX9_feast_23 : decode cX9_feast 23 = .ok (.ireturn, 1) := by decide +kernel
theorem dX9_feast_24 : decode cX9_feast 24 = .ok (.aload_n 0, 1) := by decide +kernel
theorem dX9_feast_25 : decode cX9_feast 25 = .ok (.getfield 37, 3) := by decide +kernel
theorem dX9_feast_28 : decode cX9_feast 28 = .ok (.aload_n 0, 1) := by decide +kernel
theorem dX9_feast_29 : decode cX9_feast 29 = .ok (.getfield 30, 3) := by decide +kernel
theorem dX9_feast_32 : decode cX9_feast 32 = .ok (.invokevirtual 138, 3) := by decide +kernel
theorem dX9_feast_35 : decode cX9_feast 35 = .ok (.aload_n 0, 1) := by decide +kernel
theorem dX9_feast_36 : decode cX9_feast 36 = .ok (.getfield 37, 3) := by decide +kernel
theorem dX9_feast_39 : decode cX9_feast 39 = .ok (.iload 4, 2) := by decide +kernel
theorem dX9_feast_41 : decode cX9_feast 41 = .ok (.invokevirtual 142, 3) := by decide +kernel
theorem dX9_feast_44 : decode cX9_feast 44 = .ok (.ireturn, 1) := by decide +kernel
set_option maxRecDepth 20000 in
theorem ggX9_fair_X9_reach : GoodIn wsX9_fair wsX9_reach := goodIn_r _ [6, 7, 1, 8, 9, 10, 11, 12, 13, 14, 15, 16, 17, 18, 19, 20, 21, 22, 23, 24, 25, 26, 27, 28, 29, 30, 31, 32, 33, 34, 35, 36, 37, 38, 39, 40, 41, 42, 43, 44, 45, 46, 47, 48, 49, 50, 51, 52, 53, 54, 55, 56, 57, 58, 59, 60, 61, 62, 63, 64, 65, 66, 67, 68, 69, 70, 71, 72, 73, 74, 75, 76, 77, 78, 79, 80, 81, 82, 83, 84, 85, 86, 87, 88, 89, 90, 91, 92, 93, 94, 95, 96, 97, 98, 99, 100, 101, 102, 103, 104, 105, 106, 107, 108, 109, 110, 111, 112, 113, 114, 115, 116, 117, 118, 119, 120, 121, 122, 123, 124, 143, 144, 145, 146, 147, 148, 149, 150, 151, 152, 153, 154, 155, 156, 157, 158, 159, 160, 161, 162, 163, 164, 165, 166, 167, 168, 169, 170, 171, 172, 173, 174, 175, 176, 177, 178, 179, 180, 181, 182, 183, 184, 185, 186, 187, 188, 189, 190] (by decide +kernel) (by decide +kernel)
set_option maxRecDepth 20000 in
theorem gX9_fair_X9_reach : GoodIn wsX9_fair (wsV RX9 113 RX9 yX9_reach wsX9_reach) := goodIn_app (goodIn_of _ (by decide +kernel)) ggX9_fair_X9_reach
set_option maxRecDepth 20000 in
theorem ggX9_fair_X2_allLeft : GoodIn wsX9_fair wsX2_allLeft := goodIn_r _ [128, 32, 33, 165, 166, 167, 168, 169, 170, 171, 172, 173, 174, 175, 176, 177, 178, 179, 180, 181, 182, 183, 184, 185, 186, 187, 188, 189, 190] (by decide +kernel) (by decide +kernel)
set_option maxRecDepth 20000 in
theorem gX9_fair_X2_allLeft : GoodIn wsX9_fair (wsV RX9 143 RX2 yX2_allLeft wsX2_allLeft) := goodIn_app (goodIn_of _ (by decide +kernel)) ggX9_fair_X2_allLeft
set_option maxRecDepth 20000 in
theorem ggX9_fair_X2_allNeeds : GoodIn wsX9_fair wsX2_allNeeds := goodIn_r _ [132, 32, 133, 134, 135, 26, 136, 38, 137, 138, 123, 139, 75, 76, 77, 78, 41, 79, 80, 81, 82, 107, 108, 109, 110, 111, 112, 113, 114, 44, 165, 166, 167, 168, 169, 170, 171, 172, 173, 174, 175, 176, 177, 178, 179, 180, 181, 182, 183, 184, 185, 186, 187, 188, 189, 190] (by decide +kernel) (by decide +kernel)
set_option maxRecDepth 20000 in
theorem gX9_fair_X2_allNeeds : GoodIn wsX9_fair (wsV RX9 146 RX2 yX2_allNeeds wsX2_allNeeds) := goodIn_app (goodIn_of _ (by decide +kernel)) ggX9_fair_X2_allNeeds
set_option maxRecDepth 20000 in
theorem ggX9_fair_X9_commonPart : GoodIn wsX9_fair wsX9_commonPart := goodIn_r _ [142] (by decide +kernel) (by decide +kernel)
set_option maxRecDepth 20000 in
theorem gX9_fair_X9_commonPart : GoodIn wsX9_fair (va_wsS RX9 149 yX9_commonPart wsX9_commonPart) := goodIn_app (goodIn_of _ (by decide +kernel)) ggX9_fair_X9_commonPart
theorem dX9_fair_0 : decode cX9_fair 0 = .ok (.aload_n 0, 1) := by decide +kernel
theorem dX9_fair_1 : decode cX9_fair 1 = .ok (.iload_n 1, 1) := by decide +kernel
theorem dX9_fair_2 : decode cX9_fair 2 = .ok (.iload_n 2, 1) := by decide +kernel
theorem dX9_fair_3 : decode cX9_fair 3 = .ok (.iload_n 3, 1) := by decide +kernel
theorem dX9_fair_4 : decode cX9_fair 4 = .ok (.invokevirtual 113, 3) := by decide +kernel
theorem dX9_fair_7 : decode cX9_fair 7 = .ok (.ifCond .ne 6, 3) := by decide +kernel
theorem dX9_fair_10 : decode cX9_fair 10 = .ok (.bipush (-2), 2) := by decide +kernel
theorem dX9_fair_12 : decode cX9_fair 12 = .ok (.ireturn, 1) := by decide +kernel
theorem dX9_fair_13 : decode cX9_fair 13 = .ok (.aload_n 0, 1) := by decide +kernel
theorem dX9_fair_14 : decode cX9_fair 14 = .ok (.getfield 30, 3) := by decide +kernel
theorem dX9_fair_17 : decode cX9_fair 17 = .ok (.invokevirtual 143, 3) := by decide +kernel
theorem dX9_fair_20 : decode cX9_fair 20 = .ok (.istore 5, 2) := by decide +kernel
theorem dX9_fair_22 : decode cX9_fair 22 = .ok (.iload 5, 2) := by decide +kernel
theorem dX9_fair_24 : decode cX9_fair 24 = .ok (.ifCond .gt 6, 3) := by decide +kernel
theorem dX9_fair_27 : decode cX9_fair 27 = .ok (.bipush (-2), 2) := by decide +kernel
theorem dX9_fair_29 : decode cX9_fair 29 = .ok (.ireturn, 1) := by decide +kernel
theorem dX9_fair_30 : decode cX9_fair 30 = .ok (.aload_n 0, 1) := by decide +kernel
theorem dX9_fair_31 : decode cX9_fair 31 = .ok (.getfield 30, 3) := by decide +kernel
theorem dX9_fair_34 : decode cX9_fair 34 = .ok (.invokevirtual 146, 3) := by decide +kernel
theorem dX9_fair_37 : decode cX9_fair 37 = .ok (.istore 6, 2) := by decide +kernel
theorem dX9_fair_39 : decode cX9_fair 39 = .ok (.iload 6, 2) := by decide +kernel
theorem dX9_fair_41 : decode cX9_fair 41 = .ok (.iload 5, 2) := by decide +kernel
theorem dX9_fair_43 : decode cX9_fair 43 = .ok (.invokestatic 149, 3) := by decide +kernel
theorem dX9_fair_46 : decode cX9_fair 46 = .ok (.istore 7, 2) := by decide +kernel
theorem dX9_fair_48 : decode cX9_fair 48 = .ok (.iload 7, 2) := by decide +kernel
theorem dX9_fair_50 : decode cX9_fair 50 = .ok (.ifCond .gt 6, 3) := by decide +kernel
theorem dX9_fair_53 : decode cX9_fair 53 = .ok (.bipush (-2), 2) := by decide +kernel
theorem dX9_fair_55 : decode cX9_fair 55 = .ok (.ireturn, 1) := by decide +kernel
theorem dX9_fair_56 : decode cX9_fair 56 = .ok (.iload 4, 2) := by decide +kernel
theorem dX9_fair_58 : decode cX9_fair 58 = .ok (.ifCond .eq 8, 3) := by decide +kernel
theorem dX9_fair_61 : decode cX9_fair 61 = .ok (.iload 5, 2) := by decide +kernel
theorem dX9_fair_63 : decode cX9_fair 63 = .ok (.goto 5, 3) := by decide +kernel
theorem dX9_fair_66 : decode cX9_fair 66 = .ok (.iload 6, 2) := by decide +kernel
theorem dX9_fair_68 : decode cX9_fair 68 = .ok (.iload 7, 2) := by decide +kernel
theorem dX9_fair_70 : decode cX9_fair 70 = .ok (.idiv, 1) := by decide +kernel
theorem dX9_fair_71 : decode cX9_fair 71 = .ok (.ireturn, 1) := by decide +kernel
set_option maxRecDepth 20000 in
theorem ggX9_ask_X9_lendFor : GoodIn wsX9_ask wsX9_lendFor := goodIn_r _ [6, 7, 1, 8, 9, 10, 11, 12, 13, 14, 15, 16, 17, 18, 19, 20, 21, 22, 23, 24, 25, 26, 27, 28, 29, 30, 31, 32, 33, 34, 35, 36, 37, 38, 39, 40, 41, 42, 43, 44, 45, 46, 47, 48, 49, 50, 51, 52, 53, 54, 55, 63, 64, 65, 66, 67, 68, 69, 70, 71, 72, 73, 74, 75, 76, 77, 78, 79, 80, 81, 82, 83, 84, 85, 86, 87, 56, 57, 58, 59, 60, 61, 62] (by decide +kernel) (by decide +kernel)
set_option maxRecDepth 20000 in
theorem gX9_ask_X9_lendFor : GoodIn wsX9_ask (wsV RX9 152 RX9 yX9_lendFor wsX9_lendFor) := goodIn_app (goodIn_of _ (by decide +kernel)) ggX9_ask_X9_lendFor
theorem dX9_ask_0 : decode cX9_ask 0 = .ok (.aload_n 0, 1) := by decide +kernel
theorem dX9_ask_1 : decode cX9_ask 1 = .ok (.iload_n 1, 1) := by decide +kernel
theorem dX9_ask_2 : decode cX9_ask 2 = .ok (.iload_n 2, 1) := by decide +kernel
theorem dX9_ask_3 : decode cX9_ask 3 = .ok (.iload_n 3, 1) := by decide +kernel
theorem dX9_ask_4 : decode cX9_ask 4 = .ok (.invokevirtual 152, 3) := by decide +kernel
theorem dX9_ask_7 : decode cX9_ask 7 = .ok (.ifCond .eq 15, 3) := by decide +kernel
theorem dX9_ask_10 : decode cX9_ask 10 = .ok (.aload_n 0, 1) := by decide +kernel
theorem dX9_ask_11 : decode cX9_ask 11 = .ok (.getfield 44, 3) := by decide +kernel
theorem dX9_ask_14 : decode cX9_ask 14 = .ok (.getfield 155, 3) := by decide +kernel
theorem dX9_ask_17 : decode cX9_ask 17 = .ok (.iload_n 2, 1) := by decide +kernel
theorem dX9_ask_18 : decode cX9_ask 18 = .ok (.iaload, 1) := by decide +kernel
theorem dX9_ask_19 : decode cX9_ask 19 = .ok (.goto 4, 3) := by decide +kernel
theorem dX9_ask_22 : decode cX9_ask 22 = .ok (.iconst (-1), 1) := by decide +kernel
theorem dX9_ask_23 : decode cX9_ask 23 = .ok (.ireturn, 1) := by decide +kernel
set_option maxRecDepth 20000 in
theorem ggX9_taken_X9_lendFor : GoodIn wsX9_taken wsX9_lendFor := goodIn_r _ [6, 7, 1, 8, 9, 10, 11, 12, 13, 14, 15, 16, 17, 18, 19, 20, 21, 22, 23, 24, 25, 26, 27, 28, 29, 30, 31, 32, 33, 34, 35, 36, 37, 38, 39, 40, 41, 42, 43, 44, 45, 46, 47, 48, 49, 50, 51, 52, 53, 54, 55, 63, 64, 65, 66, 67, 68, 69, 70, 71, 72, 73, 74, 75, 76, 77, 78, 79, 80, 81, 82, 83, 84, 85, 86, 87, 56, 57, 58, 59, 60, 61, 62] (by decide +kernel) (by decide +kernel)
set_option maxRecDepth 20000 in
theorem gX9_taken_X9_lendFor : GoodIn wsX9_taken (wsV RX9 152 RX9 yX9_lendFor wsX9_lendFor) := goodIn_app (goodIn_of _ (by decide +kernel)) ggX9_taken_X9_lendFor
theorem dX9_taken_0 : decode cX9_taken 0 = .ok (.aload_n 0, 1) := by decide +kernel
theorem dX9_taken_1 : decode cX9_taken 1 = .ok (.iload_n 1, 1) := by decide +kernel
theorem dX9_taken_2 : decode cX9_taken 2 = .ok (.iload_n 2, 1) := by decide +kernel
theorem dX9_taken_3 : decode cX9_taken 3 = .ok (.iload_n 3, 1) := by decide +kernel
theorem dX9_taken_4 : decode cX9_taken 4 = .ok (.invokevirtual 152, 3) := by decide +kernel
theorem dX9_taken_7 : decode cX9_taken 7 = .ok (.ifCond .eq 15, 3) := by decide +kernel
theorem dX9_taken_10 : decode cX9_taken 10 = .ok (.aload_n 0, 1) := by decide +kernel
theorem dX9_taken_11 : decode cX9_taken 11 = .ok (.getfield 44, 3) := by decide +kernel
theorem dX9_taken_14 : decode cX9_taken 14 = .ok (.getfield 159, 3) := by decide +kernel
theorem dX9_taken_17 : decode cX9_taken 17 = .ok (.iload_n 2, 1) := by decide +kernel
theorem dX9_taken_18 : decode cX9_taken 18 = .ok (.iaload, 1) := by decide +kernel
theorem dX9_taken_19 : decode cX9_taken 19 = .ok (.goto 4, 3) := by decide +kernel
theorem dX9_taken_22 : decode cX9_taken 22 = .ok (.iconst (-1), 1) := by decide +kernel
theorem dX9_taken_23 : decode cX9_taken 23 = .ok (.ireturn, 1) := by decide +kernel
set_option maxRecDepth 20000 in
theorem ggX9_stands_X8_theatreAt : GoodIn wsX9_stands wsX8_theatreAt := goodIn_r _ [7, 8, 9, 10, 80, 81, 82, 83, 84, 85, 86, 87, 88, 89, 90, 91, 92] (by decide +kernel) (by decide +kernel)
set_option maxRecDepth 20000 in
theorem gX9_stands_X8_theatreAt : GoodIn wsX9_stands (wsV RX9 87 RX8 yX8_theatreAt wsX8_theatreAt) := goodIn_app (goodIn_of _ (by decide +kernel)) ggX9_stands_X8_theatreAt
set_option maxRecDepth 20000 in
theorem ggX9_stands_X6_findRepeat : GoodIn wsX9_stands wsX6_findRepeat := goodIn_r _ [15, 16, 17, 18, 19, 20, 14, 21, 22, 23, 24, 25, 26, 27, 28, 29, 30, 31, 32, 33, 34, 35, 36, 37, 38, 39, 40, 41, 42, 43, 44, 45, 46, 47, 48, 49, 50, 51, 52, 53, 73, 74, 75, 76, 77, 78, 79, 61, 62, 63, 64, 65, 66, 67, 68, 69, 70, 71, 72] (by decide +kernel) (by decide +kernel)
set_option maxRecDepth 20000 in
theorem gX9_stands_X6_findRepeat : GoodIn wsX9_stands (wsV RX9 165 RX6 yX6_findRepeat wsX6_findRepeat) := goodIn_app (goodIn_of _ (by decide +kernel)) ggX9_stands_X6_findRepeat
theorem dX9_stands_0 : decode cX9_stands 0 = .ok (.aload_n 0, 1) := by decide +kernel
theorem dX9_stands_1 : decode cX9_stands 1 = .ok (.getfield 10, 3) := by decide +kernel
theorem dX9_stands_4 : decode cX9_stands 4 = .ok (.iload_n 1, 1) := by decide +kernel
theorem dX9_stands_5 : decode cX9_stands 5 = .ok (.invokevirtual 87, 3) := by decide +kernel
theorem dX9_stands_8 : decode cX9_stands 8 = .ok (.astore_n 3, 1) := by decide +kernel
theorem dX9_stands_9 : decode cX9_stands 9 = .ok (.aload_n 3, 1) := by decide +kernel
theorem dX9_stands_10 : decode cX9_stands 10 = .ok (.ifnull 19, 3) := by decide +kernel
theorem dX9_stands_13 : decode cX9_stands 13 = .ok (.aload_n 3, 1) := by decide +kernel
theorem dX9_stands_14 : decode cX9_stands 14 = .ok (.getfield 162, 3) := by decide +kernel
theorem dX9_stands_17 : decode cX9_stands 17 = .ok (.ifCond .eq 12, 3) := by decide +kernel
theorem dX9_stands_20 : decode cX9_stands 20 = .ok (.iload_n 2, 1) := by decide +kernel
theorem dX9_stands_21 : decode cX9_stands 21 = .ok (.ifCond .lt 8, 3) := by decide +kernel
theorem dX9_stands_24 : decode cX9_stands 24 = .ok (.iload_n 2, 1) := by decide +kernel
theorem dX9_stands_25 : decode cX9_stands 25 = .ok (.iconst 1, 1) := by decide +kernel
theorem dX9_stands_26 : decode cX9_stands 26 = .ok (.if_icmp .le 5, 3) := by decide +kernel
theorem dX9_stands_29 : decode cX9_stands 29 = .ok (.iconst (-1), 1) := by decide +kernel
theorem dX9_stands_30 : decode cX9_stands 30 = .ok (.ireturn, 1) := by decide +kernel
theorem dX9_stands_31 : decode cX9_stands 31 = .ok (.aload_n 0, 1) := by decide +kernel
theorem dX9_stands_32 : decode cX9_stands 32 = .ok (.getfield 44, 3) := by decide +kernel
theorem dX9_stands_35 : decode cX9_stands 35 = .ok (.aload_n 3, 1) := by decide +kernel
theorem dX9_stands_36 : decode cX9_stands 36 = .ok (.invokevirtual 165, 3) := by decide +kernel
theorem dX9_stands_39 : decode cX9_stands 39 = .ok (.istore 4, 2) := by decide +kernel
theorem dX9_stands_41 : decode cX9_stands 41 = .ok (.iload 4, 2) := by decide +kernel
theorem dX9_stands_43 : decode cX9_stands 43 = .ok (.iconst (-1), 1) := by decide +kernel
theorem dX9_stands_44 : decode cX9_stands 44 = .ok (.if_icmp .ne 5, 3) := by decide +kernel
theorem dX9_stands_47 : decode cX9_stands 47 = .ok (.iconst (-1), 1) := by decide +kernel
theorem dX9_stands_48 : decode cX9_stands 48 = .ok (.ireturn, 1) := by decide +kernel
theorem dX9_stands_49 : decode cX9_stands 49 = .ok (.iload_n 2, 1) := by decide +kernel
theorem dX9_stands_50 : decode cX9_stands 50 = .ok (.ifCond .ne 8, 3) := by decide +kernel
theorem dX9_stands_53 : decode cX9_stands 53 = .ok (.iload 4, 2) := by decide +kernel
theorem dX9_stands_55 : decode cX9_stands 55 = .ok (.goto 10, 3) := by decide +kernel
theorem dX9_stands_58 : decode cX9_stands 58 = .ok (.aload_n 0, 1) := by decide +kernel
theorem dX9_stands_59 : decode cX9_stands 59 = .ok (.getfield 44, 3) := by decide +kernel
theorem dX9_stands_62 : decode cX9_stands 62 = .ok (.getfield 169, 3) := by decide +kernel
theorem dX9_stands_65 : decode cX9_stands 65 = .ok (.ireturn, 1) := by decide +kernel
set_option maxRecDepth 20000 in
theorem ggX9_heard_X8_darkAt : GoodIn wsX9_heard wsX8_darkAt := goodIn_r _ [6, 7, 8, 9, 25, 26, 27, 28, 29, 30, 31, 32, 33, 34, 35, 36, 37] (by decide +kernel) (by decide +kernel)
set_option maxRecDepth 20000 in
theorem gX9_heard_X8_darkAt : GoodIn wsX9_heard (wsV RX9 172 RX8 yX8_darkAt wsX8_darkAt) := goodIn_app (goodIn_of _ (by decide +kernel)) ggX9_heard_X8_darkAt
set_option maxRecDepth 20000 in
theorem ggX9_heard_X1_hasMinute : GoodIn wsX9_heard wsX1_hasMinute := goodIn_r _ [14, 15, 23, 24] (by decide +kernel) (by decide +kernel)
set_option maxRecDepth 20000 in
theorem gX9_heard_X1_hasMinute : GoodIn wsX9_heard (wsV RX9 181 RX1 yX1_hasMinute wsX1_hasMinute) := goodIn_app (goodIn_of _ (by decide +kernel)) ggX9_heard_X1_hasMinute
theorem dX9_heard_0 : decode cX9_heard 0 = .ok (.aload_n 0, 1) := by decide +kernel
theorem dX9_heard_1 : decode cX9_heard 1 = .ok (.getfield 10, 3) := by decide +kernel
theorem dX9_heard_4 : decode cX9_heard 4 = .ok (.iload_n 1, 1) := by decide +kernel
theorem dX9_heard_5 : decode cX9_heard 5 = .ok (.invokevirtual 172, 3) := by decide +kernel
theorem dX9_heard_8 : decode cX9_heard 8 = .ok (.astore_n 3, 1) := by decide +kernel
theorem dX9_heard_9 : decode cX9_heard 9 = .ok (.aload_n 3, 1) := by decide +kernel
theorem dX9_heard_10 : decode cX9_heard 10 = .ok (.ifnonnull 6, 3) := by decide +kernel
theorem dX9_heard_13 : decode cX9_heard 13 = .ok (.bipush (-2), 2) := by decide +kernel
theorem dX9_heard_15 : decode cX9_heard 15 = .ok (.ireturn, 1) := by decide +kernel
theorem dX9_heard_16 : decode cX9_heard 16 = .ok (.iload_n 2, 1) := by decide +kernel
theorem dX9_heard_17 : decode cX9_heard 17 = .ok (.iconst (-1), 1) := by decide +kernel
theorem dX9_heard_18 : decode cX9_heard 18 = .ok (.if_icmp .ne 8, 3) := by decide +kernel
theorem dX9_heard_21 : decode cX9_heard 21 = .ok (.aload_n 3, 1) := by decide +kernel
theorem dX9_heard_22 : decode cX9_heard 22 = .ok (.getfield 176, 3) := by decide +kernel
theorem dX9_heard_25 : decode cX9_heard 25 = .ok (.ireturn, 1) := by decide +kernel
theorem dX9_heard_26 : decode cX9_heard 26 = .ok (.aload_n 3, 1) := by decide +kernel
theorem dX9_heard_27 : decode cX9_heard 27 = .ok (.iload_n 2, 1) := by decide +kernel
theorem dX9_heard_28 : decode cX9_heard 28 = .ok (.invokevirtual 181, 3) := by decide +kernel
theorem dX9_heard_31 : decode cX9_heard 31 = .ok (.ifCond .eq 12, 3) := by decide +kernel
theorem dX9_heard_34 : decode cX9_heard 34 = .ok (.aload_n 3, 1) := by decide +kernel
theorem dX9_heard_35 : decode cX9_heard 35 = .ok (.getfield 184, 3) := by decide +kernel
theorem dX9_heard_38 : decode cX9_heard 38 = .ok (.iload_n 2, 1) := by decide +kernel
theorem dX9_heard_39 : decode cX9_heard 39 = .ok (.iaload, 1) := by decide +kernel
theorem dX9_heard_40 : decode cX9_heard 40 = .ok (.goto 5, 3) := by decide +kernel
theorem dX9_heard_43 : decode cX9_heard 43 = .ok (.bipush (-2), 2) := by decide +kernel
theorem dX9_heard_45 : decode cX9_heard 45 = .ok (.ireturn, 1) := by decide +kernel
set_option maxRecDepth 20000 in
theorem ggX9_ways_X8_theatreAt : GoodIn wsX9_ways wsX8_theatreAt := goodIn_r _ [8, 9, 10, 11, 65, 66, 67, 68, 69, 70, 71, 72, 73, 74, 75, 76, 77] (by decide +kernel) (by decide +kernel)
set_option maxRecDepth 20000 in
theorem gX9_ways_X8_theatreAt : GoodIn wsX9_ways (wsV RX9 87 RX8 yX8_theatreAt wsX8_theatreAt) := goodIn_app (goodIn_of _ (by decide +kernel)) ggX9_ways_X8_theatreAt
set_option maxRecDepth 20000 in
theorem ggX9_ways_X8_darkAt : GoodIn wsX9_ways wsX8_darkAt := goodIn_r _ [15, 16, 17, 18, 65, 66, 67, 68, 69, 70, 71, 72, 73, 74, 75, 76, 77] (by decide +kernel) (by decide +kernel)
set_option maxRecDepth 20000 in
theorem gX9_ways_X8_darkAt : GoodIn wsX9_ways (wsV RX9 172 RX8 yX8_darkAt wsX8_darkAt) := goodIn_app (goodIn_of _ (by decide +kernel)) ggX9_ways_X8_darkAt
set_option maxRecDepth 20000 in
theorem ggX9_ways_X4_listen : GoodIn wsX9_ways wsX4_listen := goodIn_r _ [23, 24, 25, 26, 27, 28, 78, 79, 80, 81, 82, 83, 84, 85, 86, 87, 88, 89, 90, 91, 92, 93, 94, 95, 96, 97, 98] (by decide +kernel) (by decide +kernel)
set_option maxRecDepth 20000 in
theorem gX9_ways_X4_listen : GoodIn wsX9_ways (wsV RX9 189 RX4 yX4_listen wsX4_listen) := goodIn_app (goodIn_of _ (by decide +kernel)) ggX9_ways_X4_listen
set_option maxRecDepth 20000 in
theorem ggX9_ways_X4_tally : GoodIn wsX9_ways wsX4_tally := goodIn_r _ [32, 33, 25, 34, 35, 36, 37, 38, 39, 40, 41, 22, 42, 43, 44, 45, 46, 47, 48, 49, 50, 26, 28, 27, 51, 52, 53, 54, 55, 56, 57, 24, 78, 79, 80, 81, 82, 83, 84, 85, 86, 99, 100, 87, 88, 89, 90, 91, 92, 93, 94, 95, 96, 97, 98] (by decide +kernel) (by decide +kernel)
set_option maxRecDepth 20000 in
theorem gX9_ways_X4_tally : GoodIn wsX9_ways (wsV RX9 193 RX4 yX4_tally wsX4_tally) := goodIn_app (goodIn_of _ (by decide +kernel)) ggX9_ways_X4_tally
theorem dX9_ways_0 : decode cX9_ways 0 = .ok (.aload_n 0, 1) := by decide +kernel
theorem dX9_ways_1 : decode cX9_ways 1 = .ok (.getfield 10, 3) := by decide +kernel
theorem dX9_ways_4 : decode cX9_ways 4 = .ok (.iload_n 1, 1) := by decide +kernel
theorem dX9_ways_5 : decode cX9_ways 5 = .ok (.invokevirtual 87, 3) := by decide +kernel
theorem dX9_ways_8 : decode cX9_ways 8 = .ok (.astore_n 3, 1) := by decide +kernel
theorem dX9_ways_9 : decode cX9_ways 9 = .ok (.aload_n 0, 1) := by decide +kernel
theorem dX9_ways_10 : decode cX9_ways 10 = .ok (.getfield 10, 3) := by decide +kernel
theorem dX9_ways_13 : decode cX9_ways 13 = .ok (.iload_n 2, 1) := by decide +kernel
theorem dX9_ways_14 : decode cX9_ways 14 = .ok (.invokevirtual 172, 3) := by decide +kernel
theorem dX9_ways_17 : decode cX9_ways 17 = .ok (.astore 4, 2) := by decide +kernel
theorem dX9_ways_19 : decode cX9_ways 19 = .ok (.aload_n 3, 1) := by decide +kernel
theorem dX9_ways_20 : decode cX9_ways 20 = .ok (.ifnull 8, 3) := by decide +kernel
theorem dX9_ways_23 : decode cX9_ways 23 = .ok (.aload 4, 2) := by decide +kernel
theorem dX9_ways_25 : decode cX9_ways 25 = .ok (.ifnonnull 7, 3) := by decide +kernel
theorem dX9_ways_28 : decode cX9_ways 28 = .ok (.ldc2_w 187, 3) := by decide +kernel
theorem dX9_ways_31 : decode cX9_ways 31 = .ok (.lreturn, 1) := by decide +kernel
theorem dX9_ways_32 : decode cX9_ways 32 = .ok (.aload_n 0, 1) := by decide +kernel
theorem dX9_ways_33 : decode cX9_ways 33 = .ok (.getfield 51, 3) := by decide +kernel
theorem dX9_ways_36 : decode cX9_ways 36 = .ok (.aload_n 3, 1) := by decide +kernel
theorem dX9_ways_37 : decode cX9_ways 37 = .ok (.aload 4, 2) := by decide +kernel
theorem dX9_ways_39 : decode cX9_ways 39 = .ok (.invokevirtual 189, 3) := by decide +kernel
theorem dX9_ways_42 : decode cX9_ways 42 = .ok (.aload_n 0, 1) := by decide +kernel
theorem dX9_ways_43 : decode cX9_ways 43 = .ok (.getfield 51, 3) := by decide +kernel
theorem dX9_ways_46 : decode cX9_ways 46 = .ok (.iconst (-1), 1) := by decide +kernel
theorem dX9_ways_47 : decode cX9_ways 47 = .ok (.iconst 0, 1) := by decide +kernel
theorem dX9_ways_48 : decode cX9_ways 48 = .ok (.invokevirtual 193, 3) := by decide +kernel
theorem dX9_ways_51 : decode cX9_ways 51 = .ok (.lreturn, 1) := by decide +kernel
set_option maxRecDepth 20000 in
theorem ggX9_whose_X8_theatreAt : GoodIn wsX9_whose wsX8_theatreAt := goodIn_r _ [7, 8, 9, 10, 85, 86, 87, 88, 89, 90, 91, 92, 93, 94, 95, 96, 97] (by decide +kernel) (by decide +kernel)
set_option maxRecDepth 20000 in
theorem gX9_whose_X8_theatreAt : GoodIn wsX9_whose (wsV RX9 87 RX8 yX8_theatreAt wsX8_theatreAt) := goodIn_app (goodIn_of _ (by decide +kernel)) ggX9_whose_X8_theatreAt
set_option maxRecDepth 20000 in
theorem ggX9_whose_X8_darkAt : GoodIn wsX9_whose wsX8_darkAt := goodIn_r _ [14, 15, 16, 17, 85, 86, 87, 88, 89, 90, 91, 92, 93, 94, 95, 96, 97] (by decide +kernel) (by decide +kernel)
set_option maxRecDepth 20000 in
theorem gX9_whose_X8_darkAt : GoodIn wsX9_whose (wsV RX9 172 RX8 yX8_darkAt wsX8_darkAt) := goodIn_app (goodIn_of _ (by decide +kernel)) ggX9_whose_X8_darkAt
set_option maxRecDepth 20000 in
theorem ggX9_whose_X1_hasMinute : GoodIn wsX9_whose wsX1_hasMinute := goodIn_r _ [22, 23, 98, 99] (by decide +kernel) (by decide +kernel)
set_option maxRecDepth 20000 in
theorem gX9_whose_X1_hasMinute : GoodIn wsX9_whose (wsV RX9 181 RX1 yX1_hasMinute wsX1_hasMinute) := goodIn_app (goodIn_of _ (by decide +kernel)) ggX9_whose_X1_hasMinute
set_option maxRecDepth 20000 in
theorem ggX9_whose_X4_listen : GoodIn wsX9_whose wsX4_listen := goodIn_r _ [28, 29, 30, 31, 32, 33, 76, 77, 78, 79, 80, 81, 82, 83, 84, 100, 101, 102, 103, 104, 105, 106, 107, 108, 109, 110, 111] (by decide +kernel) (by decide +kernel)
set_option maxRecDepth 20000 in
theorem gX9_whose_X4_listen : GoodIn wsX9_whose (wsV RX9 189 RX4 yX4_listen wsX4_listen) := goodIn_app (goodIn_of _ (by decide +kernel)) ggX9_whose_X4_listen
set_option maxRecDepth 20000 in
theorem ggX9_whose_X4_compareMinute : GoodIn wsX9_whose wsX4_compareMinute := goodIn_r _ [37, 38, 39, 31, 32, 30, 40, 41, 42, 27, 43, 44, 45, 46, 47, 48, 49, 50, 51, 52, 53, 54, 55, 56, 57, 58, 59, 60, 61, 33, 62, 63, 64, 65, 66, 67, 68, 29, 76, 77, 78, 79, 80, 81, 82, 83, 84, 98, 99, 100, 101, 102, 103, 104, 105, 106, 107, 108, 109, 110, 111] (by decide +kernel) (by decide +kernel)
set_option maxRecDepth 20000 in
theorem gX9_whose_X4_compareMinute : GoodIn wsX9_whose (wsV RX9 197 RX4 yX4_compareMinute wsX4_compareMinute) := goodIn_app (goodIn_of _ (by decide +kernel)) ggX9_whose_X4_compareMinute
theorem dX9_whose_0 : decode cX9_whose 0 = .ok (.aload_n 0, 1) := by decide +kernel
theorem dX9_whose_1 : decode cX9_whose 1 = .ok (.getfield 10, 3) := by decide +kernel
theorem dX9_whose_4 : decode cX9_whose 4 = .ok (.iload_n 1, 1) := by decide +kernel
theorem dX9_whose_5 : decode cX9_whose 5 = .ok (.invokevirtual 87, 3) := by decide +kernel
theorem dX9_whose_8 : decode cX9_whose 8 = .ok (.astore 5, 2) := by decide +kernel
theorem dX9_whose_10 : decode cX9_whose 10 = .ok (.aload_n 0, 1) := by decide +kernel
theorem dX9_whose_11 : decode cX9_whose 11 = .ok (.getfield 10, 3) := by decide +kernel
theorem dX9_whose_14 : decode cX9_whose 14 = .ok (.iload_n 2, 1) := by decide +kernel
theorem dX9_whose_15 : decode cX9_whose 15 = .ok (.invokevirtual 172, 3) := by decide +kernel
theorem dX9_whose_18 : decode cX9_whose 18 = .ok (.astore 6, 2) := by decide +kernel
theorem dX9_whose_20 : decode cX9_whose 20 = .ok (.aload 5, 2) := by decide +kernel
theorem dX9_whose_22 : decode cX9_whose 22 = .ok (.ifnull 17, 3) := by decide +kernel
theorem dX9_whose_25 : decode cX9_whose 25 = .ok (.aload 6, 2) := by decide +kernel
theorem dX9_whose_27 : decode cX9_whose 27 = .ok (.ifnull 12, 3) := by decide +kernel
theorem dX9_whose_30 : decode cX9_whose 30 = .ok (.aload 6, 2) := by decide +kernel
theorem dX9_whose_32 : decode cX9_whose 32 = .ok (.iload_n 3, 1) := by decide +kernel
theorem dX9_whose_33 : decode cX9_whose 33 = .ok (.invokevirtual 181, 3) := by decide +kernel
theorem dX9_whose_36 : decode cX9_whose 36 = .ok (.ifCond .ne 6, 3) := by decide +kernel
theorem dX9_whose_39 : decode cX9_whose 39 = .ok (.bipush (-2), 2) := by decide +kernel
theorem dX9_whose_41 : decode cX9_whose 41 = .ok (.ireturn, 1) := by decide +kernel
theorem dX9_whose_42 : decode cX9_whose 42 = .ok (.aload_n 0, 1) := by decide +kernel
theorem dX9_whose_43 : decode cX9_whose 43 = .ok (.getfield 51, 3) := by decide +kernel
theorem dX9_whose_46 : decode cX9_whose 46 = .ok (.aload 5, 2) := by decide +kernel
theorem dX9_whose_48 : decode cX9_whose 48 = .ok (.aload 6, 2) := by decide +kernel
theorem dX9_whose_50 : decode cX9_whose 50 = .ok (.invokevirtual 189, 3) := by decide +kernel
theorem dX9_whose_53 : decode cX9_whose 53 = .ok (.aload_n 0, 1) := by decide +kernel
theorem dX9_whose_54 : decode cX9_whose 54 = .ok (.getfield 51, 3) := by decide +kernel
theorem dX9_whose_57 : decode cX9_whose 57 = .ok (.iload_n 3, 1) := by decide +kernel
theorem dX9_whose_58 : decode cX9_whose 58 = .ok (.invokevirtual 197, 3) := by decide +kernel
theorem dX9_whose_61 : decode cX9_whose 61 = .ok (.iload 4, 2) := by decide +kernel
theorem dX9_whose_63 : decode cX9_whose 63 = .ok (.ifCond .eq 13, 3) := by decide +kernel
theorem dX9_whose_66 : decode cX9_whose 66 = .ok (.aload_n 0, 1) := by decide +kernel
theorem dX9_whose_67 : decode cX9_whose 67 = .ok (.getfield 51, 3) := by decide +kernel
theorem dX9_whose_70 : decode cX9_whose 70 = .ok (.getfield 200, 3) := by decide +kernel
theorem dX9_whose_73 : decode cX9_whose 73 = .ok (.goto 10, 3) := by decide +kernel
theorem dX9_whose_76 : decode cX9_whose 76 = .ok (.aload_n 0, 1) := by decide +kernel
theorem dX9_whose_77 : decode cX9_whose 77 = .ok (.getfield 51, 3) := by decide +kernel
theorem dX9_whose_80 : decode cX9_whose 80 = .ok (.getfield 203, 3) := by decide +kernel
theorem dX9_whose_83 : decode cX9_whose 83 = .ok (.ireturn, 1) := by decide +kernel
set_option maxRecDepth 20000 in
theorem ggX9_drawn_X8_theatreAt : GoodIn wsX9_drawn wsX8_theatreAt := goodIn_r _ [7, 8, 9, 10, 118, 119, 120, 121, 122, 123, 124, 125, 126, 127, 128, 129, 130] (by decide +kernel) (by decide +kernel)
set_option maxRecDepth 20000 in
theorem gX9_drawn_X8_theatreAt : GoodIn wsX9_drawn (wsV RX9 87 RX8 yX8_theatreAt wsX8_theatreAt) := goodIn_app (goodIn_of _ (by decide +kernel)) ggX9_drawn_X8_theatreAt
set_option maxRecDepth 20000 in
theorem ggX9_drawn_X2_playDrawn : GoodIn wsX9_drawn wsX2_playDrawn := goodIn_r _ [15, 16, 17, 18, 19, 20, 21, 14, 22, 23, 24, 25, 26, 27, 28, 29, 30, 31, 32, 33, 34, 35, 36, 37, 38, 39, 40, 41, 42, 43, 44, 45, 46, 47, 48, 49, 50, 51, 52, 53, 54, 55, 56, 57, 58, 59, 60, 61, 62, 63, 64, 65, 66, 67, 68, 69, 70, 71, 72, 73, 74, 75, 76, 77, 78, 79, 80, 104, 105, 106, 107, 108, 109, 110, 111, 112, 113, 114, 115, 116, 117, 92, 93, 94, 95, 96, 97, 98, 99, 100, 101, 102, 103] (by decide +kernel) (by decide +kernel)
set_option maxRecDepth 20000 in
theorem gX9_drawn_X2_playDrawn : GoodIn wsX9_drawn (wsV RX9 209 RX2 yX2_playDrawn wsX2_playDrawn) := goodIn_app (goodIn_of _ (by decide +kernel)) ggX9_drawn_X2_playDrawn
set_option maxRecDepth 20000 in
theorem ggX9_drawn_X2_living : GoodIn wsX9_drawn wsX2_living := goodIn_r _ [84, 16, 43, 44, 45, 14, 46, 31, 47, 48, 49, 50, 104, 105, 106, 107, 108, 109, 110, 111, 112, 113, 114, 115, 116, 117, 92, 93, 94, 95, 96, 97, 98, 99, 100, 101, 102, 103] (by decide +kernel) (by decide +kernel)
set_option maxRecDepth 20000 in
theorem gX9_drawn_X2_living : GoodIn wsX9_drawn (wsV RX9 216 RX2 yX2_living wsX2_living) := goodIn_app (goodIn_of _ (by decide +kernel)) ggX9_drawn_X2_living
theorem dX9_drawn_0 : decode cX9_drawn 0 = .ok (.aload_n 0, 1) := by decide +kernel
theorem dX9_drawn_1 : decode cX9_drawn 1 = .ok (.getfield 10, 3) := by decide +kernel
theorem dX9_drawn_4 : decode cX9_drawn 4 = .ok (.iload_n 1, 1) := by decide +kernel
theorem dX9_drawn_5 : decode cX9_drawn 5 = .ok (.invokevirtual 87, 3) := by decide +kernel
theorem dX9_drawn_8 : decode cX9_drawn 8 = .ok (.astore 5, 2) := by decide +kernel
theorem dX9_drawn_10 : decode cX9_drawn 10 = .ok (.aload 5, 2) := by decide +kernel
theorem dX9_drawn_12 : decode cX9_drawn 12 = .ok (.ifnull 13, 3) := by decide +kernel
theorem dX9_drawn_15 : decode cX9_drawn 15 = .ok (.iload_n 3, 1) := by decide +kernel
theorem dX9_drawn_16 : decode cX9_drawn 16 = .ok (.ifCond .lt 9, 3) := by decide +kernel
theorem dX9_drawn_19 : decode cX9_drawn 19 = .ok (.iload_n 3, 1) := by decide +kernel
theorem dX9_drawn_20 : decode cX9_drawn 20 = .ok (.bipush 20, 2) := by decide +kernel
theorem dX9_drawn_22 : decode cX9_drawn 22 = .ok (.if_icmp .le 5, 3) := by decide +kernel
theorem dX9_drawn_25 : decode cX9_drawn 25 = .ok (.iconst (-1), 1) := by decide +kernel
theorem dX9_drawn_26 : decode cX9_drawn 26 = .ok (.ireturn, 1) := by decide +kernel
theorem dX9_drawn_27 : decode cX9_drawn 27 = .ok (.iload 4, 2) := by decide +kernel
theorem dX9_drawn_29 : decode cX9_drawn 29 = .ok (.bipush 10, 2) := by decide +kernel
theorem dX9_drawn_31 : decode cX9_drawn 31 = .ok (.if_icmp .lt 20, 3) := by decide +kernel
theorem dX9_drawn_34 : decode cX9_drawn 34 = .ok (.iload 4, 2) := by decide +kernel
theorem dX9_drawn_36 : decode cX9_drawn 36 = .ok (.bipush 10, 2) := by decide +kernel
theorem dX9_drawn_38 : decode cX9_drawn 38 = .ok (.isub, 1) := by decide +kernel
theorem dX9_drawn_39 : decode cX9_drawn 39 = .ok (.aload 5, 2) := by decide +kernel
theorem dX9_drawn_41 : decode cX9_drawn 41 = .ok (.getfield 206, 3) := by decide +kernel
theorem dX9_drawn_44 : decode cX9_drawn 44 = .ok (.if_icmp .ge 7, 3) := by decide +kernel
theorem dX9_drawn_47 : decode cX9_drawn 47 = .ok (.iconst 1, 1) := by decide +kernel
theorem dX9_drawn_48 : decode cX9_drawn 48 = .ok (.goto 4, 3) := by decide +kernel
theorem dX9_drawn_51 : decode cX9_drawn 51 = .ok (.iconst 0, 1) := by decide +kernel
theorem dX9_drawn_52 : decode cX9_drawn 52 = .ok (.istore 6, 2) := by decide +kernel
theorem dX9_drawn_54 : decode cX9_drawn 54 = .ok (.iload 4, 2) := by decide +kernel
theorem dX9_drawn_56 : decode cX9_drawn 56 = .ok (.ifCond .eq 16, 3) := by decide +kernel
theorem dX9_drawn_59 : decode cX9_drawn 59 = .ok (.iload 4, 2) := by decide +kernel
theorem dX9_drawn_61 : decode cX9_drawn 61 = .ok (.iconst 1, 1) := by decide +kernel
theorem dX9_drawn_62 : decode cX9_drawn 62 = .ok (.if_icmp .eq 10, 3) := by decide +kernel
theorem dX9_drawn_65 : decode cX9_drawn 65 = .ok (.iload 6, 2) := by decide +kernel
theorem dX9_drawn_67 : decode cX9_drawn 67 = .ok (.ifCond .ne 5, 3) := by decide +kernel
theorem dX9_drawn_70 : decode cX9_drawn 70 = .ok (.iconst (-1), 1) := by decide +kernel
theorem dX9_drawn_71 : decode cX9_drawn 71 = .ok (.ireturn, 1) := by decide +kernel
theorem dX9_drawn_72 : decode cX9_drawn 72 = .ok (.aload_n 0, 1) := by decide +kernel
theorem dX9_drawn_73 : decode cX9_drawn 73 = .ok (.getfield 30, 3) := by decide +kernel
theorem dX9_drawn_76 : decode cX9_drawn 76 = .ok (.aload 5, 2) := by decide +kernel
theorem dX9_drawn_78 : decode cX9_drawn 78 = .ok (.iload_n 2, 1) := by decide +kernel
theorem dX9_drawn_79 : decode cX9_drawn 79 = .ok (.iload_n 3, 1) := by decide +kernel
theorem dX9_drawn_80 : decode cX9_drawn 80 = .ok (.invokevirtual 209, 3) := by decide +kernel
theorem dX9_drawn_83 : decode cX9_drawn 83 = .ok (.iload 6, 2) := by decide +kernel
theorem dX9_drawn_85 : decode cX9_drawn 85 = .ok (.ifCond .eq 17, 3) := by decide +kernel
theorem dX9_drawn_88 : decode cX9_drawn 88 = .ok (.aload_n 0, 1) := by decide +kernel
theorem dX9_drawn_89 : decode cX9_drawn 89 = .ok (.getfield 30, 3) := by decide +kernel
theorem dX9_drawn_92 : decode cX9_drawn 92 = .ok (.getfield 213, 3) := by decide +kernel
theorem dX9_drawn_95 : decode cX9_drawn 95 = .ok (.iload 4, 2) := by decide +kernel
theorem dX9_drawn_97 : decode cX9_drawn 97 = .ok (.bipush 10, 2) := by decide +kernel
theorem dX9_drawn_99 : decode cX9_drawn 99 = .ok (.isub, 1) := by decide +kernel
theorem dX9_drawn_100 : decode cX9_drawn 100 = .ok (.iaload, 1) := by decide +kernel
theorem dX9_drawn_101 : decode cX9_drawn 101 = .ok (.ireturn, 1) := by decide +kernel
theorem dX9_drawn_102 : decode cX9_drawn 102 = .ok (.iload 4, 2) := by decide +kernel
theorem dX9_drawn_104 : decode cX9_drawn 104 = .ok (.ifCond .ne 13, 3) := by decide +kernel
theorem dX9_drawn_107 : decode cX9_drawn 107 = .ok (.aload_n 0, 1) := by decide +kernel
theorem dX9_drawn_108 : decode cX9_drawn 108 = .ok (.getfield 30, 3) := by decide +kernel
theorem dX9_drawn_111 : decode cX9_drawn 111 = .ok (.invokevirtual 216, 3) := by decide +kernel
theorem dX9_drawn_114 : decode cX9_drawn 114 = .ok (.goto 10, 3) := by decide +kernel
theorem dX9_drawn_117 : decode cX9_drawn 117 = .ok (.aload_n 0, 1) := by decide +kernel
theorem dX9_drawn_118 : decode cX9_drawn 118 = .ok (.getfield 30, 3) := by decide +kernel
theorem dX9_drawn_121 : decode cX9_drawn 121 = .ok (.getfield 219, 3) := by decide +kernel
theorem dX9_drawn_124 : decode cX9_drawn 124 = .ok (.ireturn, 1) := by decide +kernel
set_option maxRecDepth 20000 in
theorem ggX9_look_X9_reach : GoodIn wsX9_look wsX9_reach := goodIn_r _ [6, 7, 1, 8, 9, 10, 11, 12, 13, 14, 15, 16, 17, 18, 19, 20, 21, 22, 23, 24, 25, 26, 27, 28, 29, 30, 31, 32, 33, 34, 35, 36, 37, 38, 39, 40, 41, 42, 43, 44, 45, 46, 47, 48, 49, 50, 51, 52, 53, 54, 55, 56, 57, 58, 59, 60, 61, 62, 63, 64, 65, 66, 67, 68, 69, 70, 71, 72, 73, 74, 75, 76, 77, 78, 79, 80, 81, 82, 83, 84, 85, 86, 87, 88, 89, 90, 91, 92, 93, 94, 95, 96, 97, 98, 99, 100, 101, 102, 103, 104, 105, 106, 107, 108, 109, 110, 111, 112, 113, 114, 115, 116, 117, 118, 119, 120, 121, 122, 123, 124, 146, 147, 148, 149, 150, 151, 152, 153, 154, 155, 156, 157, 158, 159, 160, 161, 162, 163, 164, 165, 166, 167, 168, 169, 170, 171, 172, 173, 174, 175, 176, 177, 178, 179, 180, 181, 182, 183, 184, 185, 186, 187, 188, 189, 190, 191, 192, 193] (by decide +kernel) (by decide +kernel)
set_option maxRecDepth 20000 in
theorem gX9_look_X9_reach : GoodIn wsX9_look (wsV RX9 113 RX9 yX9_reach wsX9_reach) := goodIn_app (goodIn_of _ (by decide +kernel)) ggX9_look_X9_reach
set_option maxRecDepth 20000 in
theorem ggX9_look_X2_loan : GoodIn wsX9_look wsX2_loan := goodIn_r _ [128, 32, 39, 168, 169, 170, 171, 172, 173, 174, 175, 176, 177, 178, 179, 180, 181, 182, 183, 184, 185, 186, 187, 188, 189, 190, 191, 192, 193] (by decide +kernel) (by decide +kernel)
set_option maxRecDepth 20000 in
theorem gX9_look_X2_loan : GoodIn wsX9_look (wsV RX9 222 RX2 yX2_loan wsX2_loan) := goodIn_app (goodIn_of _ (by decide +kernel)) ggX9_look_X2_loan
set_option maxRecDepth 20000 in
theorem ggX9_look_X2_idol : GoodIn wsX9_look wsX2_idol := goodIn_r _ [132, 32, 40, 168, 169, 170, 171, 172, 173, 174, 175, 176, 177, 178, 179, 180, 181, 182, 183, 184, 185, 186, 187, 188, 189, 190, 191, 192, 193] (by decide +kernel) (by decide +kernel)
set_option maxRecDepth 20000 in
theorem gX9_look_X2_idol : GoodIn wsX9_look (wsV RX9 225 RX2 yX2_idol wsX2_idol) := goodIn_app (goodIn_of _ (by decide +kernel)) ggX9_look_X2_idol
set_option maxRecDepth 20000 in
theorem ggX9_look_X2_hasActor : GoodIn wsX9_look wsX2_hasActor := goodIn_r _ [82, 32, 168, 169, 170, 171, 172, 173, 174, 175, 176, 177, 178, 179, 180, 181, 182, 183, 184, 185, 186, 187, 188, 189, 190, 191, 192, 193] (by decide +kernel) (by decide +kernel)
set_option maxRecDepth 20000 in
theorem gX9_look_X2_hasActor : GoodIn wsX9_look (wsV RX9 125 RX2 yX2_hasActor wsX2_hasActor) := goodIn_app (goodIn_of _ (by decide +kernel)) ggX9_look_X2_hasActor
set_option maxRecDepth 20000 in
theorem ggX9_look_X2_tip : GoodIn wsX9_look wsX2_tip := goodIn_r _ [137, 75, 76, 77, 26, 78, 41, 79, 80, 81, 82, 32, 138, 139, 140, 141, 43, 38, 107, 108, 109, 110, 111, 112, 113, 114, 44, 168, 169, 170, 171, 172, 173, 174, 175, 176, 177, 178, 179, 180, 181, 182, 183, 184, 185, 186, 187, 188, 189, 190, 191, 192, 193] (by decide +kernel) (by decide +kernel)
set_option maxRecDepth 20000 in
theorem gX9_look_X2_tip : GoodIn wsX9_look (wsV RX9 228 RX2 yX2_tip wsX2_tip) := goodIn_app (goodIn_of _ (by decide +kernel)) ggX9_look_X2_tip
set_option maxRecDepth 20000 in
theorem ggX9_look_X2_dear : GoodIn wsX9_look wsX2_dear := goodIn_r _ [145, 38, 75, 76, 77, 26, 78, 41, 79, 80, 81, 82, 32, 111, 112, 113, 114, 44, 168, 169, 170, 171, 172, 173, 174, 175, 176, 177, 178, 179, 180, 181, 182, 183, 184, 185, 186, 187, 188, 189, 190, 191, 192, 193] (by decide +kernel) (by decide +kernel)
set_option maxRecDepth 20000 in
theorem gX9_look_X2_dear : GoodIn wsX9_look (wsV RX9 231 RX2 yX2_dear wsX2_dear) := goodIn_app (goodIn_of _ (by decide +kernel)) ggX9_look_X2_dear
theorem dX9_look_0 : decode cX9_look 0 = .ok (.aload_n 0, 1) := by decide +kernel
theorem dX9_look_1 : decode cX9_look 1 = .ok (.iload_n 1, 1) := by decide +kernel
theorem dX9_look_2 : decode cX9_look 2 = .ok (.iload_n 2, 1) := by decide +kernel
theorem dX9_look_3 : decode cX9_look 3 = .ok (.iload_n 3, 1) := by decide +kernel
theorem dX9_look_4 : decode cX9_look 4 = .ok (.invokevirtual 113, 3) := by decide +kernel
theorem dX9_look_7 : decode cX9_look 7 = .ok (.ifCond .ne 6, 3) := by decide +kernel
theorem dX9_look_10 : decode cX9_look 10 = .ok (.bipush (-2), 2) := by decide +kernel
theorem dX9_look_12 : decode cX9_look 12 = .ok (.ireturn, 1) := by decide +kernel
theorem dX9_look_13 : decode cX9_look 13 = .ok (.iload 4, 2) := by decide +kernel
theorem dX9_look_15 : decode cX9_look 15 = .ok (.ifCond .ne 11, 3) := by decide +kernel
theorem dX9_look_18 : decode cX9_look 18 = .ok (.aload_n 0, 1) := by decide +kernel
theorem dX9_look_19 : decode cX9_look 19 = .ok (.getfield 30, 3) := by decide +kernel
theorem dX9_look_22 : decode cX9_look 22 = .ok (.invokevirtual 222, 3) := by decide +kernel
theorem dX9_look_25 : decode cX9_look 25 = .ok (.ireturn, 1) := by decide +kernel
theorem dX9_look_26 : decode cX9_look 26 = .ok (.iload 4, 2) := by decide +kernel
theorem dX9_look_28 : decode cX9_look 28 = .ok (.iconst 1, 1) := by decide +kernel
theorem dX9_look_29 : decode cX9_look 29 = .ok (.if_icmp .ne 11, 3) := by decide +kernel
theorem dX9_look_32 : decode cX9_look 32 = .ok (.aload_n 0, 1) := by decide +kernel
theorem dX9_look_33 : decode cX9_look 33 = .ok (.getfield 30, 3) := by decide +kernel
theorem dX9_look_36 : decode cX9_look 36 = .ok (.invokevirtual 225, 3) := by decide +kernel
theorem dX9_look_39 : decode cX9_look 39 = .ok (.ireturn, 1) := by decide +kernel
theorem dX9_look_40 : decode cX9_look 40 = .ok (.iload 4, 2) := by decide +kernel
theorem dX9_look_42 : decode cX9_look 42 = .ok (.bipush 10, 2) := by decide +kernel
theorem dX9_look_44 : decode cX9_look 44 = .ok (.if_icmp .lt 31, 3) := by decide +kernel
theorem dX9_look_47 : decode cX9_look 47 = .ok (.aload_n 0, 1) := by decide +kernel
theorem dX9_look_48 : decode cX9_look 48 = .ok (.getfield 30, 3) := by decide +kernel
theorem dX9_look_51 : decode cX9_look 51 = .ok (.iload 4, 2) := by decide +kernel
theorem dX9_look_53 : decode cX9_look 53 = .ok (.bipush 10, 2) := by decide +kernel
theorem dX9_look_55 : decode cX9_look 55 = .ok (.isub, 1) := by decide +kernel
theorem dX9_look_56 : decode cX9_look 56 = .ok (.invokevirtual 125, 3) := by decide +kernel
theorem dX9_look_59 : decode cX9_look 59 = .ok (.ifCond .eq 16, 3) := by decide +kernel
theorem dX9_look_62 : decode cX9_look 62 = .ok (.aload_n 0, 1) := by decide +kernel
theorem dX9_look_63 : decode cX9_look 63 = .ok (.getfield 30, 3) := by decide +kernel
theorem dX9_look_66 : decode cX9_look 66 = .ok (.iload 4, 2) := by decide +kernel
theorem dX9_look_68 : decode cX9_look 68 = .ok (.bipush 10, 2) := by decide +kernel
theorem dX9_look_70 : decode cX9_look 70 = .ok (.isub, 1) := by decide +kernel
theorem dX9_look_71 : decode cX9_look 71 = .ok (.invokevirtual 228, 3) := by decide +kernel
theorem dX9_look_74 : decode cX9_look 74 = .ok (.ireturn, 1) := by decide +kernel
theorem dX9_look_75 : decode cX9_look 75 = .ok (.iload 4, 2) := by decide +kernel
theorem dX9_look_77 : decode cX9_look 77 = .ok (.bipush 20, 2) := by decide +kernel
theorem dX9_look_79 : decode cX9_look 79 = .ok (.if_icmp .lt 31, 3) := by decide +kernel
theorem dX9_look_82 : decode cX9_look 82 = .ok (.aload_n 0, 1) := by decide +kernel
theorem dX9_look_83 : decode cX9_look 83 = .ok (.getfield 30, 3) := by decide +kernel
theorem dX9_look_86 : decode cX9_look 86 = .ok (.iload 4, 2) := by decide +kernel
theorem dX9_look_88 : decode cX9_look 88 = .ok (.bipush 20, 2) := by decide +kernel
theorem dX9_look_90 : decode cX9_look 90 = .ok (.isub, 1) := by decide +kernel
theorem dX9_look_91 : decode cX9_look 91 = .ok (.invokevirtual 125, 3) := by decide +kernel
theorem dX9_look_94 : decode cX9_look 94 = .ok (.ifCond .eq 16, 3) := by decide +kernel
theorem dX9_look_97 : decode cX9_look 97 = .ok (.aload_n 0, 1) := by decide +kernel
theorem dX9_look_98 : decode cX9_look 98 = .ok (.getfield 30, 3) := by decide +kernel
theorem dX9_look_101 : decode cX9_look 101 = .ok (.iload 4, 2) := by decide +kernel
theorem dX9_look_103 : decode cX9_look 103 = .ok (.bipush 20, 2) := by decide +kernel
theorem dX9_look_105 : decode cX9_look 105 = .ok (.isub, 1) := by decide +kernel
theorem dX9_look_106 : decode cX9_look 106 = .ok (.invokevirtual 231, 3) := by decide +kernel
theorem dX9_look_109 : decode cX9_look 109 = .ok (.ireturn, 1) := by decide +kernel
theorem dX9_look_110 : decode cX9_look 110 = .ok (.bipush (-2), 2) := by decide +kernel
theorem dX9_look_112 : decode cX9_look 112 = .ok (.ireturn, 1) := by decide +kernel
set_option maxRecDepth 20000 in
theorem ggX9_silence_X8_theatreAt : GoodIn wsX9_silence wsX8_theatreAt := goodIn_r _ [7, 8, 9, 10, 159, 160, 161, 162, 163, 164, 165, 166, 167, 168, 169, 170, 171] (by decide +kernel) (by decide +kernel)
set_option maxRecDepth 20000 in
theorem gX9_silence_X8_theatreAt : GoodIn wsX9_silence (wsV RX9 87 RX8 yX8_theatreAt wsX8_theatreAt) := goodIn_app (goodIn_of _ (by decide +kernel)) ggX9_silence_X8_theatreAt
set_option maxRecDepth 20000 in
theorem ggX9_silence_X8_bookAt : GoodIn wsX9_silence wsX8_bookAt := goodIn_r _ [14, 15, 16, 17, 159, 160, 161, 162, 163, 164, 165, 166, 167, 168, 169, 170, 171] (by decide +kernel) (by decide +kernel)
set_option maxRecDepth 20000 in
theorem gX9_silence_X8_bookAt : GoodIn wsX9_silence (wsV RX9 96 RX8 yX8_bookAt wsX8_bookAt) := goodIn_app (goodIn_of _ (by decide +kernel)) ggX9_silence_X8_bookAt
set_option maxRecDepth 20000 in
theorem ggX9_silence_X2_playAll : GoodIn wsX9_silence wsX2_playAll := goodIn_r _ [22, 23, 24, 25, 21, 26, 27, 28, 29, 30, 31, 32, 33, 34, 35, 36, 37, 38, 39, 40, 41, 42, 43, 44, 45, 46, 47, 48, 49, 50, 51, 52, 53, 54, 55, 56, 57, 58, 59, 60, 61, 62, 63, 64, 65, 66, 67, 68, 69, 70, 71, 72, 73, 74, 75, 76, 77, 78, 79, 80, 81, 82, 83, 84, 85, 86, 87, 88, 89, 90, 91, 92, 93, 94, 95, 96, 97, 98, 99, 100, 101, 102, 103, 104, 105, 106, 107, 108, 109, 110, 111, 112, 113, 114, 115, 116, 117, 118, 119, 172, 173, 174, 175, 176, 177, 178, 179, 180, 181, 182, 183, 184, 185, 186, 187, 147, 148, 149, 150, 151, 152, 153, 154, 155, 156, 157, 158] (by decide +kernel) (by decide +kernel)
set_option maxRecDepth 20000 in
theorem gX9_silence_X2_playAll : GoodIn wsX9_silence (wsV RX9 109 RX2 yX2_playAll wsX2_playAll) := goodIn_app (goodIn_of _ (by decide +kernel)) ggX9_silence_X2_playAll
set_option maxRecDepth 20000 in
theorem ggX9_silence_X2_playWithout : GoodIn wsX9_silence wsX2_playWithout := goodIn_r _ [123, 23, 24, 25, 21, 26, 27, 28, 29, 30, 31, 32, 33, 34, 35, 36, 37, 38, 39, 40, 41, 42, 43, 44, 45, 46, 47, 124, 125, 126, 55, 127, 128, 53, 54, 56, 57, 48, 49, 50, 51, 52, 58, 59, 60, 61, 62, 63, 64, 65, 66, 67, 68, 69, 70, 71, 72, 73, 74, 75, 76, 77, 78, 79, 80, 81, 82, 83, 84, 85, 86, 87, 88, 89, 90, 91, 92, 93, 94, 95, 96, 97, 98, 99, 100, 101, 102, 103, 104, 105, 106, 107, 108, 109, 110, 111, 112, 113, 114, 115, 116, 117, 118, 119, 174, 175, 176, 177, 178, 179, 180, 181, 182, 183, 184, 185, 186, 187, 147, 148, 149, 150, 151, 152, 153, 154, 155, 156, 157, 158, 172, 173] (by decide +kernel) (by decide +kernel)
set_option maxRecDepth 20000 in
theorem gX9_silence_X2_playWithout : GoodIn wsX9_silence (wsV RX9 237 RX2 yX2_playWithout wsX2_playWithout) := goodIn_app (goodIn_of _ (by decide +kernel)) ggX9_silence_X2_playWithout
set_option maxRecDepth 20000 in
theorem ggX9_silence_X2_living : GoodIn wsX9_silence wsX2_living := goodIn_r _ [132, 27, 70, 71, 72, 21, 73, 36, 74, 75, 76, 77, 174, 175, 176, 177, 178, 179, 180, 181, 182, 183, 184, 185, 186, 187, 147, 148, 149, 150, 151, 152, 153, 154, 155, 156, 157, 158] (by decide +kernel) (by decide +kernel)
set_option maxRecDepth 20000 in
theorem gX9_silence_X2_living : GoodIn wsX9_silence (wsV RX9 216 RX2 yX2_living wsX2_living) := goodIn_app (goodIn_of _ (by decide +kernel)) ggX9_silence_X2_living
set_option maxRecDepth 20000 in
theorem ggX9_silence_J6_bitCount_0f7a4 : GoodIn wsX9_silence wsJ6_bitCount_0f7a4 := goodIn_r _ [136, 137, 138, 139] (by decide +kernel) (by decide +kernel)
set_option maxRecDepth 20000 in
theorem gX9_silence_J6_bitCount_0f7a4 : GoodIn wsX9_silence (va_wsS RX9 241 yJ6_bitCount_0f7a4 wsJ6_bitCount_0f7a4) := goodIn_app (goodIn_of _ (by decide +kernel)) ggX9_silence_J6_bitCount_0f7a4
theorem dX9_silence_0 : decode cX9_silence 0 = .ok (.aload_n 0, 1) := by decide +kernel
theorem dX9_silence_1 : decode cX9_silence 1 = .ok (.getfield 10, 3) := by decide +kernel
theorem dX9_silence_4 : decode cX9_silence 4 = .ok (.iload_n 1, 1) := by decide +kernel
theorem dX9_silence_5 : decode cX9_silence 5 = .ok (.invokevirtual 87, 3) := by decide +kernel
theorem dX9_silence_8 : decode cX9_silence 8 = .ok (.astore 4, 2) := by decide +kernel
theorem dX9_silence_10 : decode cX9_silence 10 = .ok (.aload_n 0, 1) := by decide +kernel
theorem dX9_silence_11 : decode cX9_silence 11 = .ok (.getfield 10, 3) := by decide +kernel
theorem dX9_silence_14 : decode cX9_silence 14 = .ok (.iload_n 2, 1) := by decide +kernel
theorem dX9_silence_15 : decode cX9_silence 15 = .ok (.invokevirtual 96, 3) := by decide +kernel
theorem dX9_silence_18 : decode cX9_silence 18 = .ok (.astore 5, 2) := by decide +kernel
theorem dX9_silence_20 : decode cX9_silence 20 = .ok (.aload 4, 2) := by decide +kernel
theorem dX9_silence_22 : decode cX9_silence 22 = .ok (.ifnull 8, 3) := by decide +kernel
theorem dX9_silence_25 : decode cX9_silence 25 = .ok (.aload 5, 2) := by decide +kernel
theorem dX9_silence_27 : decode cX9_silence 27 = .ok (.ifnonnull 5, 3) := by decide +kernel
theorem dX9_silence_30 : decode cX9_silence 30 = .ok (.iconst (-1), 1) := by decide +kernel
theorem dX9_silence_31 : decode cX9_silence 31 = .ok (.ireturn, 1) := by decide +kernel
theorem dX9_silence_32 : decode cX9_silence 32 = .ok (.aload_n 0, 1) := by decide +kernel
theorem dX9_silence_33 : decode cX9_silence 33 = .ok (.getfield 30, 3) := by decide +kernel
theorem dX9_silence_36 : decode cX9_silence 36 = .ok (.aload 4, 2) := by decide +kernel
theorem dX9_silence_38 : decode cX9_silence 38 = .ok (.aload 5, 2) := by decide +kernel
theorem dX9_silence_40 : decode cX9_silence 40 = .ok (.invokevirtual 109, 3) := by decide +kernel
theorem dX9_silence_43 : decode cX9_silence 43 = .ok (.istore 6, 2) := by decide +kernel
theorem dX9_silence_45 : decode cX9_silence 45 = .ok (.iconst (-1), 1) := by decide +kernel
theorem dX9_silence_46 : decode cX9_silence 46 = .ok (.istore 7, 2) := by decide +kernel
theorem dX9_silence_48 : decode cX9_silence 48 = .ok (.iconst (-1), 1) := by decide +kernel
theorem dX9_silence_49 : decode cX9_silence 49 = .ok (.istore 8, 2) := by decide +kernel
theorem dX9_silence_51 : decode cX9_silence 51 = .ok (.iconst 0, 1) := by decide +kernel
theorem dX9_silence_52 : decode cX9_silence 52 = .ok (.istore 9, 2) := by decide +kernel
theorem dX9_silence_54 : decode cX9_silence 54 = .ok (.iload 9, 2) := by decide +kernel
theorem dX9_silence_56 : decode cX9_silence 56 = .ok (.aload 4, 2) := by decide +kernel
theorem dX9_silence_58 : decode cX9_silence 58 = .ok (.getfield 234, 3) := by decide +kernel
theorem dX9_silence_61 : decode cX9_silence 61 = .ok (.if_icmp .ge 57, 3) := by decide +kernel
theorem dX9_silence_64 : decode cX9_silence 64 = .ok (.aload_n 0, 1) := by decide +kernel
theorem dX9_silence_65 : decode cX9_silence 65 = .ok (.getfield 30, 3) := by decide +kernel
theorem dX9_silence_68 : decode cX9_silence 68 = .ok (.aload 4, 2) := by decide +kernel
theorem dX9_silence_70 : decode cX9_silence 70 = .ok (.aload 5, 2) := by decide +kernel
theorem dX9_silence_72 : decode cX9_silence 72 = .ok (.iload 6, 2) := by decide +kernel
theorem dX9_silence_74 : decode cX9_silence 74 = .ok (.iload 9, 2) := by decide +kernel
theorem dX9_silence_76 : decode cX9_silence 76 = .ok (.invokevirtual 237, 3) := by decide +kernel
theorem dX9_silence_79 : decode cX9_silence 79 = .ok (.aload 4, 2) := by decide +kernel
theorem dX9_silence_81 : decode cX9_silence 81 = .ok (.getfield 206, 3) := by decide +kernel
theorem dX9_silence_84 : decode cX9_silence 84 = .ok (.aload_n 0, 1) := by decide +kernel
theorem dX9_silence_85 : decode cX9_silence 85 = .ok (.getfield 30, 3) := by decide +kernel
theorem dX9_silence_88 : decode cX9_silence 88 = .ok (.invokevirtual 216, 3) := by decide +kernel
theorem dX9_silence_91 : decode cX9_silence 91 = .ok (.invokestatic 241, 3) := by decide +kernel
theorem dX9_silence_94 : decode cX9_silence 94 = .ok (.isub, 1) := by decide +kernel
theorem dX9_silence_95 : decode cX9_silence 95 = .ok (.istore 10, 2) := by decide +kernel
theorem dX9_silence_97 : decode cX9_silence 97 = .ok (.iload 10, 2) := by decide +kernel
theorem dX9_silence_99 : decode cX9_silence 99 = .ok (.iload 8, 2) := by decide +kernel
theorem dX9_silence_101 : decode cX9_silence 101 = .ok (.if_icmp .le 11, 3) := by decide +kernel
theorem dX9_silence_104 : decode cX9_silence 104 = .ok (.iload 9, 2) := by decide +kernel
theorem dX9_silence_106 : decode cX9_silence 106 = .ok (.istore 7, 2) := by decide +kernel
theorem dX9_silence_108 : decode cX9_silence 108 = .ok (.iload 10, 2) := by decide +kernel
theorem dX9_silence_110 : decode cX9_silence 110 = .ok (.istore 8, 2) := by decide +kernel
theorem dX9_silence_112 : decode cX9_silence 112 = .ok (.iinc 9 1, 3) := by decide +kernel
theorem dX9_silence_115 : decode cX9_silence 115 = .ok (.goto (-61), 3) := by decide +kernel
theorem dX9_silence_118 : decode cX9_silence 118 = .ok (.iload_n 3, 1) := by decide +kernel
theorem dX9_silence_119 : decode cX9_silence 119 = .ok (.ifCond .eq 8, 3) := by decide +kernel
theorem dX9_silence_122 : decode cX9_silence 122 = .ok (.iload 8, 2) := by decide +kernel
theorem dX9_silence_124 : decode cX9_silence 124 = .ok (.goto 5, 3) := by decide +kernel
theorem dX9_silence_127 : decode cX9_silence 127 = .ok (.iload 7, 2) := by decide +kernel
theorem dX9_silence_129 : decode cX9_silence 129 = .ok (.ireturn, 1) := by decide +kernel
set_option maxRecDepth 20000 in
theorem ggX9_count_X8_howMany : GoodIn wsX9_count wsX8_howMany := goodIn_r _ [6, 7, 8, 9, 17, 18, 19, 20, 21, 22, 23, 24, 25, 26, 27, 28, 29] (by decide +kernel) (by decide +kernel)
set_option maxRecDepth 20000 in
theorem gX9_count_X8_howMany : GoodIn wsX9_count (wsV RX9 69 RX8 yX8_howMany wsX8_howMany) := goodIn_app (goodIn_of _ (by decide +kernel)) ggX9_count_X8_howMany
theorem dX9_count_0 : decode cX9_count 0 = .ok (.aload_n 0, 1) := by decide +kernel
theorem dX9_count_1 : decode cX9_count 1 = .ok (.getfield 10, 3) := by decide +kernel
theorem dX9_count_4 : decode cX9_count 4 = .ok (.iload_n 1, 1) := by decide +kernel
theorem dX9_count_5 : decode cX9_count 5 = .ok (.invokevirtual 69, 3) := by decide +kernel
theorem dX9_count_8 : decode cX9_count 8 = .ok (.ireturn, 1) := by decide +kernel
set_option maxRecDepth 20000 in
theorem ggX9_reach_X8_theatreAt : GoodIn wsX9_reach wsX8_theatreAt := goodIn_r _ [7, 8, 9, 10, 129, 130, 131, 132, 133, 134, 135, 136, 137, 138, 139, 140, 141] (by decide +kernel) (by decide +kernel)
set_option maxRecDepth 20000 in
theorem gX9_reach_X8_theatreAt : GoodIn wsX9_reach (wsV RX9 87 RX8 yX8_theatreAt wsX8_theatreAt) := goodIn_app (goodIn_of _ (by decide +kernel)) ggX9_reach_X8_theatreAt
set_option maxRecDepth 20000 in
theorem ggX9_reach_X8_bookAt : GoodIn wsX9_reach wsX8_bookAt := goodIn_r _ [14, 15, 16, 17, 129, 130, 131, 132, 133, 134, 135, 136, 137, 138, 139, 140, 141] (by decide +kernel) (by decide +kernel)
set_option maxRecDepth 20000 in
theorem gX9_reach_X8_bookAt : GoodIn wsX9_reach (wsV RX9 96 RX8 yX8_bookAt wsX8_bookAt) := goodIn_app (goodIn_of _ (by decide +kernel)) ggX9_reach_X8_bookAt
set_option maxRecDepth 20000 in
theorem ggX9_reach_X2_playFirst : GoodIn wsX9_reach wsX2_playFirst := goodIn_r _ [22, 23, 24, 25, 21, 26, 27, 28, 29, 30, 31, 32, 33, 34, 35, 36, 37, 38, 39, 40, 41, 42, 43, 44, 45, 46, 47, 48, 49, 50, 51, 52, 53, 54, 55, 56, 57, 58, 59, 60, 61, 62, 63, 64, 65, 66, 67, 68, 69, 70, 71, 72, 73, 74, 75, 76, 77, 78, 79, 80, 81, 82, 83, 84, 85, 86, 87, 88, 89, 90, 91, 92, 93, 94, 95, 96, 97, 98, 99, 100, 101, 102, 103, 104, 105, 106, 107, 108, 109, 110, 111, 112, 113, 114, 115, 116, 117, 118, 119, 142, 143, 144, 145, 146, 147, 148, 149, 150, 151, 152, 153, 154, 155, 156, 157, 158, 159, 160, 161, 162, 163, 164, 165, 166, 167, 127, 128] (by decide +kernel) (by decide +kernel)
set_option maxRecDepth 20000 in
theorem gX9_reach_X2_playFirst : GoodIn wsX9_reach (wsV RX9 250 RX2 yX2_playFirst wsX2_playFirst) := goodIn_app (goodIn_of _ (by decide +kernel)) ggX9_reach_X2_playFirst
theorem dX9_reach_0 : decode cX9_reach 0 = .ok (.aload_n 0, 1) := by decide +kernel
theorem dX9_reach_1 : decode cX9_reach 1 = .ok (.getfield 10, 3) := by decide +kernel
theorem dX9_reach_4 : decode cX9_reach 4 = .ok (.iload_n 1, 1) := by decide +kernel
theorem dX9_reach_5 : decode cX9_reach 5 = .ok (.invokevirtual 87, 3) := by decide +kernel
theorem dX9_reach_8 : decode cX9_reach 8 = .ok (.astore 4, 2) := by decide +kernel
theorem dX9_reach_10 : decode cX9_reach 10 = .ok (.aload_n 0, 1) := by decide +kernel
theorem dX9_reach_11 : decode cX9_reach 11 = .ok (.getfield 10, 3) := by decide +kernel
theorem dX9_reach_14 : decode cX9_reach 14 = .ok (.iload_n 2, 1) := by decide +kernel
theorem dX9_reach_15 : decode cX9_reach 15 = .ok (.invokevirtual 96, 3) := by decide +kernel
theorem dX9_reach_18 : decode cX9_reach 18 = .ok (.astore 5, 2) := by decide +kernel
theorem dX9_reach_20 : decode cX9_reach 20 = .ok (.aload 4, 2) := by decide +kernel
theorem dX9_reach_22 : decode cX9_reach 22 = .ok (.ifnull 21, 3) := by decide +kernel
theorem dX9_reach_25 : decode cX9_reach 25 = .ok (.aload 5, 2) := by decide +kernel
theorem dX9_reach_27 : decode cX9_reach 27 = .ok (.ifnull 16, 3) := by decide +kernel
theorem dX9_reach_30 : decode cX9_reach 30 = .ok (.iload_n 3, 1) := by decide +kernel
theorem dX9_reach_31 : decode cX9_reach 31 = .ok (.ifCond .lt 12, 3) := by decide +kernel
theorem dX9_reach_34 : decode cX9_reach 34 = .ok (.iload_n 3, 1) := by decide +kernel
theorem dX9_reach_35 : decode cX9_reach 35 = .ok (.aload 5, 2) := by decide +kernel
theorem dX9_reach_37 : decode cX9_reach 37 = .ok (.getfield 100, 3) := by decide +kernel
theorem dX9_reach_40 : decode cX9_reach 40 = .ok (.if_icmp .le 5, 3) := by decide +kernel
theorem dX9_reach_43 : decode cX9_reach 43 = .ok (.iconst 0, 1) := by decide +kernel
theorem dX9_reach_44 : decode cX9_reach 44 = .ok (.ireturn, 1) := by decide +kernel
theorem dX9_reach_45 : decode cX9_reach 45 = .ok (.aload_n 0, 1) := by decide +kernel
theorem dX9_reach_46 : decode cX9_reach 46 = .ok (.getfield 30, 3) := by decide +kernel
theorem dX9_reach_49 : decode cX9_reach 49 = .ok (.aload 4, 2) := by decide +kernel
theorem dX9_reach_51 : decode cX9_reach 51 = .ok (.aload 5, 2) := by decide +kernel
theorem dX9_reach_53 : decode cX9_reach 53 = .ok (.iload_n 3, 1) := by decide +kernel
theorem dX9_reach_54 : decode cX9_reach 54 = .ok (.invokevirtual 250, 3) := by decide +kernel
theorem dX9_reach_57 : decode cX9_reach 57 = .ok (.ireturn, 1) := by decide +kernel
set_option maxRecDepth 20000 in
theorem ggX9_lendFor_X8_theatreAt : GoodIn wsX9_lendFor wsX8_theatreAt := goodIn_r _ [7, 8, 9, 10, 63, 64, 65, 66, 67, 68, 69, 70, 71, 72, 73, 74, 75] (by decide +kernel) (by decide +kernel)
set_option maxRecDepth 20000 in
theorem gX9_lendFor_X8_theatreAt : GoodIn wsX9_lendFor (wsV RX9 87 RX8 yX8_theatreAt wsX8_theatreAt) := goodIn_app (goodIn_of _ (by decide +kernel)) ggX9_lendFor_X8_theatreAt
set_option maxRecDepth 20000 in
theorem ggX9_lendFor_X6_begin : GoodIn wsX9_lendFor wsX6_begin := goodIn_r _ [15, 16, 17, 18, 19, 20, 21, 22, 23, 24, 25, 26, 27, 28, 51, 52, 53, 54, 55, 56, 57, 58, 59, 60, 61, 62, 76, 77, 78, 79, 80, 81, 82] (by decide +kernel) (by decide +kernel)
set_option maxRecDepth 20000 in
theorem gX9_lendFor_X6_begin : GoodIn wsX9_lendFor (wsV RX9 254 RX6 yX6_begin wsX6_begin) := goodIn_app (goodIn_of _ (by decide +kernel)) ggX9_lendFor_X6_begin
set_option maxRecDepth 20000 in
theorem ggX9_lendFor_X6_goRound : GoodIn wsX9_lendFor wsX6_goRound := goodIn_r _ [32, 17, 16, 24, 18, 33, 34, 35, 36, 23, 37, 38, 39, 40, 41, 42, 14, 43, 76, 77, 78, 79, 80, 81, 82] (by decide +kernel) (by decide +kernel)
set_option maxRecDepth 20000 in
theorem gX9_lendFor_X6_goRound : GoodIn wsX9_lendFor (wsV RX9 258 RX6 yX6_goRound wsX6_goRound) := goodIn_app (goodIn_of _ (by decide +kernel)) ggX9_lendFor_X6_goRound
theorem dX9_lendFor_0 : decode cX9_lendFor 0 = .ok (.aload_n 0, 1) := by decide +kernel
theorem dX9_lendFor_1 : decode cX9_lendFor 1 = .ok (.getfield 10, 3) := by decide +kernel
theorem dX9_lendFor_4 : decode cX9_lendFor 4 = .ok (.iload_n 1, 1) := by decide +kernel
theorem dX9_lendFor_5 : decode cX9_lendFor 5 = .ok (.invokevirtual 87, 3) := by decide +kernel
theorem dX9_lendFor_8 : decode cX9_lendFor 8 = .ok (.astore 4, 2) := by decide +kernel
theorem dX9_lendFor_10 : decode cX9_lendFor 10 = .ok (.aload 4, 2) := by decide +kernel
theorem dX9_lendFor_12 : decode cX9_lendFor 12 = .ok (.ifnull 27, 3) := by decide +kernel
theorem dX9_lendFor_15 : decode cX9_lendFor 15 = .ok (.iload_n 2, 1) := by decide +kernel
theorem dX9_lendFor_16 : decode cX9_lendFor 16 = .ok (.ifCond .lt 23, 3) := by decide +kernel
theorem dX9_lendFor_19 : decode cX9_lendFor 19 = .ok (.iload_n 2, 1) := by decide +kernel
theorem dX9_lendFor_20 : decode cX9_lendFor 20 = .ok (.aload 4, 2) := by decide +kernel
theorem dX9_lendFor_22 : decode cX9_lendFor 22 = .ok (.getfield 162, 3) := by decide +kernel
theorem dX9_lendFor_25 : decode cX9_lendFor 25 = .ok (.if_icmp .ge 14, 3) := by decide +kernel
theorem dX9_lendFor_28 : decode cX9_lendFor 28 = .ok (.iload_n 3, 1) := by decide +kernel
theorem dX9_lendFor_29 : decode cX9_lendFor 29 = .ok (.ifCond .lt 10, 3) := by decide +kernel
theorem dX9_lendFor_32 : decode cX9_lendFor 32 = .ok (.iload_n 3, 1) := by decide +kernel
theorem dX9_lendFor_33 : decode cX9_lendFor 33 = .ok (.sipush 200, 3) := by decide +kernel
theorem dX9_lendFor_36 : decode cX9_lendFor 36 = .ok (.if_icmp .le 5, 3) := by decide +kernel
theorem dX9_lendFor_39 : decode cX9_lendFor 39 = .ok (.iconst 0, 1) := by decide +kernel
theorem dX9_lendFor_40 : decode cX9_lendFor 40 = .ok (.ireturn, 1) := by decide +kernel
theorem dX9_lendFor_41 : decode cX9_lendFor 41 = .ok (.aload_n 0, 1) := by decide +kernel
theorem dX9_lendFor_42 : decode cX9_lendFor 42 = .ok (.getfield 44, 3) := by decide +kernel
theorem dX9_lendFor_45 : decode cX9_lendFor 45 = .ok (.aload 4, 2) := by decide +kernel
theorem dX9_lendFor_47 : decode cX9_lendFor 47 = .ok (.invokevirtual 254, 3) := by decide +kernel
theorem dX9_lendFor_50 : decode cX9_lendFor 50 = .ok (.iconst 0, 1) := by decide +kernel
theorem dX9_lendFor_51 : decode cX9_lendFor 51 = .ok (.istore 5, 2) := by decide +kernel
theorem dX9_lendFor_53 : decode cX9_lendFor 53 = .ok (.iload 5, 2) := by decide +kernel
theorem dX9_lendFor_55 : decode cX9_lendFor 55 = .ok (.iload_n 3, 1) := by decide +kernel
theorem dX9_lendFor_56 : decode cX9_lendFor 56 = .ok (.if_icmp .ge 16, 3) := by decide +kernel
theorem dX9_lendFor_59 : decode cX9_lendFor 59 = .ok (.aload_n 0, 1) := by decide +kernel
theorem dX9_lendFor_60 : decode cX9_lendFor 60 = .ok (.getfield 44, 3) := by decide +kernel
theorem dX9_lendFor_63 : decode cX9_lendFor 63 = .ok (.invokevirtual 258, 3) := by decide +kernel
theorem dX9_lendFor_66 : decode cX9_lendFor 66 = .ok (.iinc 5 1, 3) := by decide +kernel
theorem dX9_lendFor_69 : decode cX9_lendFor 69 = .ok (.goto (-16), 3) := by decide +kernel
theorem dX9_lendFor_72 : decode cX9_lendFor 72 = .ok (.iconst 1, 1) := by decide +kernel
theorem dX9_lendFor_73 : decode cX9_lendFor 73 = .ok (.ireturn, 1) := by decide +kernel
theorem dX9_commonPart_0 : decode cX9_commonPart 0 = .ok (.iload_n 0, 1) := by decide +kernel
theorem dX9_commonPart_1 : decode cX9_commonPart 1 = .ok (.istore_n 2, 1) := by decide +kernel
theorem dX9_commonPart_2 : decode cX9_commonPart 2 = .ok (.iload_n 1, 1) := by decide +kernel
theorem dX9_commonPart_3 : decode cX9_commonPart 3 = .ok (.istore_n 3, 1) := by decide +kernel
theorem dX9_commonPart_4 : decode cX9_commonPart 4 = .ok (.iconst 0, 1) := by decide +kernel
theorem dX9_commonPart_5 : decode cX9_commonPart 5 = .ok (.istore 4, 2) := by decide +kernel
theorem dX9_commonPart_7 : decode cX9_commonPart 7 = .ok (.iload 4, 2) := by decide +kernel
theorem dX9_commonPart_9 : decode cX9_commonPart 9 = .ok (.bipush 100, 2) := by decide +kernel
theorem dX9_commonPart_11 : decode cX9_commonPart 11 = .ok (.if_icmp .ge 23, 3) := by decide +kernel
theorem dX9_commonPart_14 : decode cX9_commonPart 14 = .ok (.iload_n 3, 1) := by decide +kernel
theorem dX9_commonPart_15 : decode cX9_commonPart 15 = .ok (.ifCond .eq 19, 3) := by decide +kernel
theorem dX9_commonPart_18 : decode cX9_commonPart 18 = .ok (.iload_n 2, 1) := by decide +kernel
theorem dX9_commonPart_19 : decode cX9_commonPart 19 = .ok (.iload_n 3, 1) := by decide +kernel
theorem dX9_commonPart_20 : decode cX9_commonPart 20 = .ok (.irem, 1) := by decide +kernel
theorem dX9_commonPart_21 : decode cX9_commonPart 21 = .ok (.istore 5, 2) := by decide +kernel
theorem dX9_commonPart_23 : decode cX9_commonPart 23 = .ok (.iload_n 3, 1) := by decide +kernel
theorem dX9_commonPart_24 : decode cX9_commonPart 24 = .ok (.istore_n 2, 1) := by decide +kernel
theorem dX9_commonPart_25 : decode cX9_commonPart 25 = .ok (.iload 5, 2) := by decide +kernel
theorem dX9_commonPart_27 : decode cX9_commonPart 27 = .ok (.istore_n 3, 1) := by decide +kernel
theorem dX9_commonPart_28 : decode cX9_commonPart 28 = .ok (.iinc 4 1, 3) := by decide +kernel
theorem dX9_commonPart_31 : decode cX9_commonPart 31 = .ok (.goto (-24), 3) := by decide +kernel
theorem dX9_commonPart_34 : decode cX9_commonPart 34 = .ok (.iload_n 2, 1) := by decide +kernel
theorem dX9_commonPart_35 : decode cX9_commonPart 35 = .ok (.ireturn, 1) := by decide +kernel
