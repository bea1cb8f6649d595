abbrev cX2_begin : ByteArray := prog_4_method_2_code
def yX2_begin : MethodName := ⟨RX2, "begin", "(LClapBank$Theatre;)V"⟩
abbrev cX2_playFirst : ByteArray := prog_4_method_3_code
def yX2_playFirst : MethodName := ⟨RX2, "playFirst", "(LClapBank$Theatre;LClapBank$Book;I)Z"⟩
abbrev cX2_playAll : ByteArray := prog_4_method_4_code
def yX2_playAll : MethodName := ⟨RX2, "playAll", "(LClapBank$Theatre;LClapBank$Book;)I"⟩
abbrev cX2_playWithout : ByteArray := prog_4_method_5_code
def yX2_playWithout : MethodName := ⟨RX2, "playWithout", "(LClapBank$Theatre;LClapBank$Book;II)V"⟩
abbrev cX2_canBe : ByteArray := prog_4_method_11_code
def yX2_canBe : MethodName := ⟨RX2, "canBe", "(LClapBank$Book;I)Z"⟩
abbrev cX2_act : ByteArray := prog_4_method_13_code
def yX2_act : MethodName := ⟨RX2, "act", "(LClapBank$Book;I)V"⟩
def RJ7 : String := "java/util/Arrays"
abbrev cJ7_fill_53178 : ByteArray := prog_19_method_103_code
def yJ7_fill_53178 : MethodName := ⟨RJ7, "fill", "([II)V"⟩
def wsJ7_fill_53178 : List Cond := .code yJ7_fill_53178 cJ7_fill_53178 4 none :: ([])
def wsX2_begin : List Cond := .code yX2_begin cX2_begin 2 none :: ([.fieldLink RX2 12 "ClapBank$Evening" "house" "LClapBank$Theatre;", .fieldLink RX2 18 "ClapBank$Evening" "left" "[I", .methodLink RX2 43 arraycopyName, .native arraycopyName, .static arraycopyName, .initialized "java/lang/System", .fieldLink RX2 28 "ClapBank$Evening" "saved" "[I", .fieldLink RX2 22 "ClapBank$Evening" "owes" "[I", .fieldLink RX2 25 "ClapBank$Evening" "got" "[I", .fieldLink RX2 31 "ClapBank$Evening" "starved" "[I", .fieldLink RX2 34 "ClapBank$Evening" "storms" "[I", .fieldLink RX2 60 "ClapBank$Evening" "chest" "I", .fieldLink RX2 61 "ClapBank$Evening" "encores" "I", .fieldLink RX2 64 "ClapBank$Evening" "nights" "I", .fieldLink RX2 67 "ClapBank$Evening" "claps" "I", .fieldLink RX2 69 "ClapBank$Evening" "hushed" "I", .fieldLink RX2 72 "ClapBank$Evening" "echo" "I", .methodLink RX2 50 yJ7_fill_53178, .static yJ7_fill_53178, .initialized RJ7, .code yJ7_fill_53178 cJ7_fill_53178 4 none] ++ wsX20 ++ wsX70)
def wsX2_canBe_r1 : List Cond := [Cond.fieldLink RX2 22 "ClapBank$Evening" "owes" "[I", Cond.fieldLink RX2 28 "ClapBank$Evening" "saved" "[I", Cond.fieldLink RX2 60 "ClapBank$Evening" "chest" "I", Cond.methodLink RX2 120 yX0_part, Cond.instanceMethod yX0_part, Cond.selects RX0 yX0_part yX0_part, Cond.initialized RX0, Cond.code yX0_part cX0_part 3 (some .int), Cond.fieldLink RX0 9 "ClapBank$Book" "parts" "[I", Cond.methodLink RX2 124 yX2_canGive, Cond.instanceMethod yX2_canGive, Cond.selects RX2 yX2_canGive yX2_canGive, Cond.initialized RX2, Cond.code yX2_canGive cX2_canGive 3 (some .boolean), Cond.fieldLink RX2 18 "ClapBank$Evening" "left" "[I", Cond.methodLink RX2 127 yX2_hasPalm, Cond.instanceMethod yX2_hasPalm, Cond.selects RX2 yX2_hasPalm yX2_hasPalm, Cond.code yX2_hasPalm cX2_hasPalm 2 (some .boolean), Cond.fieldLink RX2 12 "ClapBank$Evening" "house" "LClapBank$Theatre;", Cond.methodLink RX2 130 yX2_isHushed, Cond.instanceMethod yX2_isHushed, Cond.selects RX2 yX2_isHushed yX2_isHushed, Cond.code yX2_isHushed cX2_isHushed 2 (some .boolean)]
def wsX2_canBe_r2 : List Cond := [Cond.fieldLink RX2 69 "ClapBank$Evening" "hushed" "I", Cond.methodLink RX2 99 yX2_lives, Cond.instanceMethod yX2_lives, Cond.selects RX2 yX2_lives yX2_lives, Cond.code yX2_lives cX2_lives 2 (some .boolean), Cond.fieldLink RX2 31 "ClapBank$Evening" "starved" "[I", Cond.methodLink RX2 117 yX2_hasActor, Cond.instanceMethod yX2_hasActor, Cond.selects RX2 yX2_hasActor yX2_hasActor, Cond.code yX2_hasActor cX2_hasActor 2 (some .boolean)]
def wsX2_canBe : List Cond := .code yX2_canBe cX2_canBe 6 (some .boolean) :: ((wsX2_canBe_r1 ++ wsX2_canBe_r2) ++ wsX20 ++ wsX00 ++ wsX70)
def wsX2_act_r1 : List Cond := [Cond.fieldLink RX2 22 "ClapBank$Evening" "owes" "[I", Cond.fieldLink RX2 69 "ClapBank$Evening" "hushed" "I", Cond.fieldLink RX2 34 "ClapBank$Evening" "storms" "[I", Cond.fieldLink RX2 61 "ClapBank$Evening" "encores" "I", Cond.fieldLink RX2 72 "ClapBank$Evening" "echo" "I", Cond.methodLink RX2 120 yX0_part, Cond.instanceMethod yX0_part, Cond.selects RX0 yX0_part yX0_part, Cond.initialized RX0, Cond.code yX0_part cX0_part 3 (some .int), Cond.fieldLink RX0 9 "ClapBank$Book" "parts" "[I", Cond.methodLink RX2 133 yX2_clapFor, Cond.instanceMethod yX2_clapFor, Cond.selects RX2 yX2_clapFor yX2_clapFor, Cond.initialized RX2, Cond.code yX2_clapFor cX2_clapFor 5 none, Cond.fieldLink RX2 12 "ClapBank$Evening" "house" "LClapBank$Theatre;", Cond.fieldLink RX2 18 "ClapBank$Evening" "left" "[I", Cond.fieldLink RX2 67 "ClapBank$Evening" "claps" "I", Cond.fieldLink RX2 25 "ClapBank$Evening" "got" "[I", Cond.methodLink RX2 110 yX2_give, Cond.instanceMethod yX2_give, Cond.selects RX2 yX2_give yX2_give, Cond.code yX2_give cX2_give 3 none]
def wsX2_act_r2 : List Cond := [Cond.fieldLink RX2 28 "ClapBank$Evening" "saved" "[I", Cond.fieldLink RX2 60 "ClapBank$Evening" "chest" "I", Cond.methodLink RX2 137 yX2_move, Cond.instanceMethod yX2_move, Cond.selects RX2 yX2_move yX2_move, Cond.code yX2_move cX2_move 4 none, Cond.methodLink RX2 114 yX2_passNight, Cond.instanceMethod yX2_passNight, Cond.selects RX2 yX2_passNight yX2_passNight, Cond.code yX2_passNight cX2_passNight 2 none, Cond.methodLink RX2 43 arraycopyName, Cond.native arraycopyName, Cond.static arraycopyName, Cond.initialized "java/lang/System", Cond.fieldLink RX2 64 "ClapBank$Evening" "nights" "I", Cond.methodLink RX2 99 yX2_lives, Cond.instanceMethod yX2_lives, Cond.selects RX2 yX2_lives yX2_lives, Cond.code yX2_lives cX2_lives 2 (some .boolean), Cond.fieldLink RX2 31 "ClapBank$Evening" "starved" "[I", Cond.methodLink RX2 117 yX2_hasActor, Cond.instanceMethod yX2_hasActor, Cond.selects RX2 yX2_hasActor yX2_hasActor, Cond.code yX2_hasActor cX2_hasActor 2 (some .boolean)]
def wsX2_act_r3 : List Cond := [Cond.methodLink RX2 166 yX2_dine, Cond.instanceMethod yX2_dine, Cond.selects RX2 yX2_dine yX2_dine, Cond.code yX2_dine cX2_dine 3 none, Cond.methodLink RX2 146 yX2_price, Cond.instanceMethod yX2_price, Cond.selects RX2 yX2_price yX2_price, Cond.code yX2_price cX2_price 2 (some .int), Cond.methodLink RX2 143 yX2_priceBehind, Cond.instanceMethod yX2_priceBehind, Cond.selects RX2 yX2_priceBehind yX2_priceBehind, Cond.code yX2_priceBehind cX2_priceBehind 3 (some .int), Cond.methodLink RX2 170 yX2_grown, Cond.instanceMethod yX2_grown, Cond.selects RX2 yX2_grown yX2_grown, Cond.code yX2_grown cX2_grown 4 (some .int), Cond.constantLong RX2 158 (100), Cond.constantLong RX2 160 (1000000000), Cond.methodLink RX2 162 Lib.MathLoose.min_long.x, Cond.static Lib.MathLoose.min_long.x, Cond.initialized "java/lang/Math", Cond.code Lib.MathLoose.min_long.x Lib.MathLoose.min_long.code 4 (some .long)]
def wsX2_act : List Cond := .code yX2_act cX2_act 7 none :: ((wsX2_act_r1 ++ (wsX2_act_r2 ++ wsX2_act_r3)) ++ wsX20 ++ wsX00 ++ wsX70)
def wsX2_playFirst_r1 : List Cond := [Cond.methodLink RX2 75 yX2_begin, Cond.instanceMethod yX2_begin, Cond.selects RX2 yX2_begin yX2_begin, Cond.initialized RX2, Cond.code yX2_begin cX2_begin 2 none, Cond.fieldLink RX2 12 "ClapBank$Evening" "house" "LClapBank$Theatre;", Cond.fieldLink RX2 18 "ClapBank$Evening" "left" "[I", Cond.methodLink RX2 43 arraycopyName, Cond.native arraycopyName, Cond.static arraycopyName, Cond.initialized "java/lang/System", Cond.fieldLink RX2 28 "ClapBank$Evening" "saved" "[I", Cond.fieldLink RX2 22 "ClapBank$Evening" "owes" "[I", Cond.fieldLink RX2 25 "ClapBank$Evening" "got" "[I", Cond.fieldLink RX2 31 "ClapBank$Evening" "starved" "[I", Cond.fieldLink RX2 34 "ClapBank$Evening" "storms" "[I", Cond.fieldLink RX2 60 "ClapBank$Evening" "chest" "I", Cond.fieldLink RX2 61 "ClapBank$Evening" "encores" "I", Cond.fieldLink RX2 64 "ClapBank$Evening" "nights" "I", Cond.fieldLink RX2 67 "ClapBank$Evening" "claps" "I", Cond.fieldLink RX2 69 "ClapBank$Evening" "hushed" "I", Cond.fieldLink RX2 72 "ClapBank$Evening" "echo" "I", Cond.methodLink RX2 50 yJ7_fill_53178, Cond.static yJ7_fill_53178]
def wsX2_playFirst_r2 : List Cond := [Cond.initialized RJ7, Cond.code yJ7_fill_53178 cJ7_fill_53178 4 none, Cond.methodLink RX2 79 yX2_canBe, Cond.instanceMethod yX2_canBe, Cond.selects RX2 yX2_canBe yX2_canBe, Cond.code yX2_canBe cX2_canBe 6 (some .boolean), Cond.methodLink RX2 120 yX0_part, Cond.instanceMethod yX0_part, Cond.selects RX0 yX0_part yX0_part, Cond.initialized RX0, Cond.code yX0_part cX0_part 3 (some .int), Cond.fieldLink RX0 9 "ClapBank$Book" "parts" "[I", Cond.methodLink RX2 124 yX2_canGive, Cond.instanceMethod yX2_canGive, Cond.selects RX2 yX2_canGive yX2_canGive, Cond.code yX2_canGive cX2_canGive 3 (some .boolean), Cond.methodLink RX2 127 yX2_hasPalm, Cond.instanceMethod yX2_hasPalm, Cond.selects RX2 yX2_hasPalm yX2_hasPalm, Cond.code yX2_hasPalm cX2_hasPalm 2 (some .boolean), Cond.methodLink RX2 130 yX2_isHushed, Cond.instanceMethod yX2_isHushed, Cond.selects RX2 yX2_isHushed yX2_isHushed, Cond.code yX2_isHushed cX2_isHushed 2 (some .boolean)]
def wsX2_playFirst_r3 : List Cond := [Cond.methodLink RX2 99 yX2_lives, Cond.instanceMethod yX2_lives, Cond.selects RX2 yX2_lives yX2_lives, Cond.code yX2_lives cX2_lives 2 (some .boolean), Cond.methodLink RX2 117 yX2_hasActor, Cond.instanceMethod yX2_hasActor, Cond.selects RX2 yX2_hasActor yX2_hasActor, Cond.code yX2_hasActor cX2_hasActor 2 (some .boolean), Cond.methodLink RX2 83 yX2_act, Cond.instanceMethod yX2_act, Cond.selects RX2 yX2_act yX2_act, Cond.code yX2_act cX2_act 7 none, Cond.methodLink RX2 133 yX2_clapFor, Cond.instanceMethod yX2_clapFor, Cond.selects RX2 yX2_clapFor yX2_clapFor, Cond.code yX2_clapFor cX2_clapFor 5 none, Cond.methodLink RX2 110 yX2_give, Cond.instanceMethod yX2_give, Cond.selects RX2 yX2_give yX2_give, Cond.code yX2_give cX2_give 3 none, Cond.methodLink RX2 137 yX2_move, Cond.instanceMethod yX2_move, Cond.selects RX2 yX2_move yX2_move, Cond.code yX2_move cX2_move 4 none]
def wsX2_playFirst_r4 : List Cond := [Cond.methodLink RX2 114 yX2_passNight, Cond.instanceMethod yX2_passNight, Cond.selects RX2 yX2_passNight yX2_passNight, Cond.code yX2_passNight cX2_passNight 2 none, Cond.methodLink RX2 166 yX2_dine, Cond.instanceMethod yX2_dine, Cond.selects RX2 yX2_dine yX2_dine, Cond.code yX2_dine cX2_dine 3 none, Cond.methodLink RX2 146 yX2_price, Cond.instanceMethod yX2_price, Cond.selects RX2 yX2_price yX2_price, Cond.code yX2_price cX2_price 2 (some .int), Cond.methodLink RX2 143 yX2_priceBehind, Cond.instanceMethod yX2_priceBehind, Cond.selects RX2 yX2_priceBehind yX2_priceBehind, Cond.code yX2_priceBehind cX2_priceBehind 3 (some .int), Cond.methodLink RX2 170 yX2_grown, Cond.instanceMethod yX2_grown, Cond.selects RX2 yX2_grown yX2_grown, Cond.code yX2_grown cX2_grown 4 (some .int), Cond.constantLong RX2 158 (100), Cond.constantLong RX2 160 (1000000000), Cond.methodLink RX2 162 Lib.MathLoose.min_long.x, Cond.static Lib.MathLoose.min_long.x]
def wsX2_playFirst_r5 : List Cond := [Cond.initialized "java/lang/Math", Cond.code Lib.MathLoose.min_long.x Lib.MathLoose.min_long.code 4 (some .long)]
def wsX2_playFirst : List Cond := .code yX2_playFirst cX2_playFirst 5 (some .boolean) :: ((wsX2_playFirst_r1 ++ (wsX2_playFirst_r2 ++ (wsX2_playFirst_r3 ++ (wsX2_playFirst_r4 ++ wsX2_playFirst_r5)))) ++ wsX20 ++ wsX70 ++ wsX00)
def wsX2_playAll_r1 : List Cond := [Cond.methodLink RX2 75 yX2_begin, Cond.instanceMethod yX2_begin, Cond.selects RX2 yX2_begin yX2_begin, Cond.initialized RX2, Cond.code yX2_begin cX2_begin 2 none, Cond.fieldLink RX2 12 "ClapBank$Evening" "house" "LClapBank$Theatre;", Cond.fieldLink RX2 18 "ClapBank$Evening" "left" "[I", Cond.methodLink RX2 43 arraycopyName, Cond.native arraycopyName, Cond.static arraycopyName, Cond.initialized "java/lang/System", Cond.fieldLink RX2 28 "ClapBank$Evening" "saved" "[I", Cond.fieldLink RX2 22 "ClapBank$Evening" "owes" "[I", Cond.fieldLink RX2 25 "ClapBank$Evening" "got" "[I", Cond.fieldLink RX2 31 "ClapBank$Evening" "starved" "[I", Cond.fieldLink RX2 34 "ClapBank$Evening" "storms" "[I", Cond.fieldLink RX2 60 "ClapBank$Evening" "chest" "I", Cond.fieldLink RX2 61 "ClapBank$Evening" "encores" "I", Cond.fieldLink RX2 64 "ClapBank$Evening" "nights" "I", Cond.fieldLink RX2 67 "ClapBank$Evening" "claps" "I", Cond.fieldLink RX2 69 "ClapBank$Evening" "hushed" "I", Cond.fieldLink RX2 72 "ClapBank$Evening" "echo" "I", Cond.methodLink RX2 50 yJ7_fill_53178, Cond.static yJ7_fill_53178]
def wsX2_playAll_r2 : List Cond := [Cond.initialized RJ7, Cond.code yJ7_fill_53178 cJ7_fill_53178 4 none, Cond.methodLink RX2 79 yX2_canBe, Cond.instanceMethod yX2_canBe, Cond.selects RX2 yX2_canBe yX2_canBe, Cond.code yX2_canBe cX2_canBe 6 (some .boolean), Cond.methodLink RX2 120 yX0_part, Cond.instanceMethod yX0_part, Cond.selects RX0 yX0_part yX0_part, Cond.initialized RX0, Cond.code yX0_part cX0_part 3 (some .int), Cond.fieldLink RX0 9 "ClapBank$Book" "parts" "[I", Cond.methodLink RX2 124 yX2_canGive, Cond.instanceMethod yX2_canGive, Cond.selects RX2 yX2_canGive yX2_canGive, Cond.code yX2_canGive cX2_canGive 3 (some .boolean), Cond.methodLink RX2 127 yX2_hasPalm, Cond.instanceMethod yX2_hasPalm, Cond.selects RX2 yX2_hasPalm yX2_hasPalm, Cond.code yX2_hasPalm cX2_hasPalm 2 (some .boolean), Cond.methodLink RX2 130 yX2_isHushed, Cond.instanceMethod yX2_isHushed, Cond.selects RX2 yX2_isHushed yX2_isHushed, Cond.code yX2_isHushed cX2_isHushed 2 (some .boolean)]
def wsX2_playAll_r3 : List Cond := [Cond.methodLink RX2 99 yX2_lives, Cond.instanceMethod yX2_lives, Cond.selects RX2 yX2_lives yX2_lives, Cond.code yX2_lives cX2_lives 2 (some .boolean), Cond.methodLink RX2 117 yX2_hasActor, Cond.instanceMethod yX2_hasActor, Cond.selects RX2 yX2_hasActor yX2_hasActor, Cond.code yX2_hasActor cX2_hasActor 2 (some .boolean), Cond.methodLink RX2 83 yX2_act, Cond.instanceMethod yX2_act, Cond.selects RX2 yX2_act yX2_act, Cond.code yX2_act cX2_act 7 none, Cond.methodLink RX2 133 yX2_clapFor, Cond.instanceMethod yX2_clapFor, Cond.selects RX2 yX2_clapFor yX2_clapFor, Cond.code yX2_clapFor cX2_clapFor 5 none, Cond.methodLink RX2 110 yX2_give, Cond.instanceMethod yX2_give, Cond.selects RX2 yX2_give yX2_give, Cond.code yX2_give cX2_give 3 none, Cond.methodLink RX2 137 yX2_move, Cond.instanceMethod yX2_move, Cond.selects RX2 yX2_move yX2_move, Cond.code yX2_move cX2_move 4 none]
def wsX2_playAll_r4 : List Cond := [Cond.methodLink RX2 114 yX2_passNight, Cond.instanceMethod yX2_passNight, Cond.selects RX2 yX2_passNight yX2_passNight, Cond.code yX2_passNight cX2_passNight 2 none, Cond.methodLink RX2 166 yX2_dine, Cond.instanceMethod yX2_dine, Cond.selects RX2 yX2_dine yX2_dine, Cond.code yX2_dine cX2_dine 3 none, Cond.methodLink RX2 146 yX2_price, Cond.instanceMethod yX2_price, Cond.selects RX2 yX2_price yX2_price, Cond.code yX2_price cX2_price 2 (some .int), Cond.methodLink RX2 143 yX2_priceBehind, Cond.instanceMethod yX2_priceBehind, Cond.selects RX2 yX2_priceBehind yX2_priceBehind, Cond.code yX2_priceBehind cX2_priceBehind 3 (some .int), Cond.methodLink RX2 170 yX2_grown, Cond.instanceMethod yX2_grown, Cond.selects RX2 yX2_grown yX2_grown, Cond.code yX2_grown cX2_grown 4 (some .int), Cond.constantLong RX2 158 (100), Cond.constantLong RX2 160 (1000000000), Cond.methodLink RX2 162 Lib.MathLoose.min_long.x, Cond.static Lib.MathLoose.min_long.x]
def wsX2_playAll_r5 : List Cond := [Cond.initialized "java/lang/Math", Cond.code Lib.MathLoose.min_long.x Lib.MathLoose.min_long.code 4 (some .long)]
def wsX2_playAll : List Cond := .code yX2_playAll cX2_playAll 4 (some .int) :: ((wsX2_playAll_r1 ++ (wsX2_playAll_r2 ++ (wsX2_playAll_r3 ++ (wsX2_playAll_r4 ++ wsX2_playAll_r5)))) ++ wsX00 ++ wsX20 ++ wsX70)
def wsX2_playWithout_r1 : List Cond := [Cond.methodLink RX2 75 yX2_begin, Cond.instanceMethod yX2_begin, Cond.selects RX2 yX2_begin yX2_begin, Cond.initialized RX2, Cond.code yX2_begin cX2_begin 2 none, Cond.fieldLink RX2 12 "ClapBank$Evening" "house" "LClapBank$Theatre;", Cond.fieldLink RX2 18 "ClapBank$Evening" "left" "[I", Cond.methodLink RX2 43 arraycopyName, Cond.native arraycopyName, Cond.static arraycopyName, Cond.initialized "java/lang/System", Cond.fieldLink RX2 28 "ClapBank$Evening" "saved" "[I", Cond.fieldLink RX2 22 "ClapBank$Evening" "owes" "[I", Cond.fieldLink RX2 25 "ClapBank$Evening" "got" "[I", Cond.fieldLink RX2 31 "ClapBank$Evening" "starved" "[I", Cond.fieldLink RX2 34 "ClapBank$Evening" "storms" "[I", Cond.fieldLink RX2 60 "ClapBank$Evening" "chest" "I", Cond.fieldLink RX2 61 "ClapBank$Evening" "encores" "I", Cond.fieldLink RX2 64 "ClapBank$Evening" "nights" "I", Cond.fieldLink RX2 67 "ClapBank$Evening" "claps" "I", Cond.fieldLink RX2 69 "ClapBank$Evening" "hushed" "I", Cond.fieldLink RX2 72 "ClapBank$Evening" "echo" "I", Cond.methodLink RX2 50 yJ7_fill_53178, Cond.static yJ7_fill_53178]
def wsX2_playWithout_r2 : List Cond := [Cond.initialized RJ7, Cond.code yJ7_fill_53178 cJ7_fill_53178 4 none, Cond.methodLink RX2 92 yX0_isOf, Cond.instanceMethod yX0_isOf, Cond.selects RX0 yX0_isOf yX0_isOf, Cond.initialized RX0, Cond.code yX0_isOf cX0_isOf 5 (some .boolean), Cond.methodLink RX0 25 yX0_part, Cond.instanceMethod yX0_part, Cond.selects RX0 yX0_part yX0_part, Cond.code yX0_part cX0_part 3 (some .int), Cond.fieldLink RX0 9 "ClapBank$Book" "parts" "[I", Cond.methodLink RX2 79 yX2_canBe, Cond.instanceMethod yX2_canBe, Cond.selects RX2 yX2_canBe yX2_canBe, Cond.code yX2_canBe cX2_canBe 6 (some .boolean), Cond.methodLink RX2 120 yX0_part, Cond.methodLink RX2 124 yX2_canGive, Cond.instanceMethod yX2_canGive, Cond.selects RX2 yX2_canGive yX2_canGive, Cond.code yX2_canGive cX2_canGive 3 (some .boolean), Cond.methodLink RX2 127 yX2_hasPalm, Cond.instanceMethod yX2_hasPalm, Cond.selects RX2 yX2_hasPalm yX2_hasPalm]
def wsX2_playWithout_r3 : List Cond := [Cond.code yX2_hasPalm cX2_hasPalm 2 (some .boolean), Cond.methodLink RX2 130 yX2_isHushed, Cond.instanceMethod yX2_isHushed, Cond.selects RX2 yX2_isHushed yX2_isHushed, Cond.code yX2_isHushed cX2_isHushed 2 (some .boolean), Cond.methodLink RX2 99 yX2_lives, Cond.instanceMethod yX2_lives, Cond.selects RX2 yX2_lives yX2_lives, Cond.code yX2_lives cX2_lives 2 (some .boolean), Cond.methodLink RX2 117 yX2_hasActor, Cond.instanceMethod yX2_hasActor, Cond.selects RX2 yX2_hasActor yX2_hasActor, Cond.code yX2_hasActor cX2_hasActor 2 (some .boolean), Cond.methodLink RX2 83 yX2_act, Cond.instanceMethod yX2_act, Cond.selects RX2 yX2_act yX2_act, Cond.code yX2_act cX2_act 7 none, Cond.methodLink RX2 133 yX2_clapFor, Cond.instanceMethod yX2_clapFor, Cond.selects RX2 yX2_clapFor yX2_clapFor, Cond.code yX2_clapFor cX2_clapFor 5 none, Cond.methodLink RX2 110 yX2_give, Cond.instanceMethod yX2_give, Cond.selects RX2 yX2_give yX2_give]
def wsX2_playWithout_r4 : List Cond := [Cond.code yX2_give cX2_give 3 none, Cond.methodLink RX2 137 yX2_move, Cond.instanceMethod yX2_move, Cond.selects RX2 yX2_move yX2_move, Cond.code yX2_move cX2_move 4 none, Cond.methodLink RX2 114 yX2_passNight, Cond.instanceMethod yX2_passNight, Cond.selects RX2 yX2_passNight yX2_passNight, Cond.code yX2_passNight cX2_passNight 2 none, Cond.methodLink RX2 166 yX2_dine, Cond.instanceMethod yX2_dine, Cond.selects RX2 yX2_dine yX2_dine, Cond.code yX2_dine cX2_dine 3 none, Cond.methodLink RX2 146 yX2_price, Cond.instanceMethod yX2_price, Cond.selects RX2 yX2_price yX2_price, Cond.code yX2_price cX2_price 2 (some .int), Cond.methodLink RX2 143 yX2_priceBehind, Cond.instanceMethod yX2_priceBehind, Cond.selects RX2 yX2_priceBehind yX2_priceBehind, Cond.code yX2_priceBehind cX2_priceBehind 3 (some .int), Cond.methodLink RX2 170 yX2_grown, Cond.instanceMethod yX2_grown, Cond.selects RX2 yX2_grown yX2_grown]
def wsX2_playWithout_r5 : List Cond := [Cond.code yX2_grown cX2_grown 4 (some .int), Cond.constantLong RX2 158 (100), Cond.constantLong RX2 160 (1000000000), Cond.methodLink RX2 162 Lib.MathLoose.min_long.x, Cond.static Lib.MathLoose.min_long.x, Cond.initialized "java/lang/Math", Cond.code Lib.MathLoose.min_long.x Lib.MathLoose.min_long.code 4 (some .long)]
def wsX2_playWithout : List Cond := .code yX2_playWithout cX2_playWithout 6 none :: ((wsX2_playWithout_r1 ++ (wsX2_playWithout_r2 ++ (wsX2_playWithout_r3 ++ (wsX2_playWithout_r4 ++ wsX2_playWithout_r5)))) ++ wsX20 ++ wsX70 ++ wsX00)
set_option maxRecDepth 20000 in
theorem ggX2_begin_J7_fill_53178 : GoodIn wsX2_begin wsJ7_fill_53178 := goodIn_r _ [21] (by decide +kernel) (by decide +kernel)
set_option maxRecDepth 20000 in
theorem gX2_begin_J7_fill_53178 : GoodIn wsX2_begin (va_wsS RX2 50 yJ7_fill_53178 wsJ7_fill_53178) := goodIn_app (goodIn_of _ (by decide +kernel)) ggX2_begin_J7_fill_53178
theorem dX2_begin_0 : decode cX2_begin 0 = .ok (.aload_n 0, 1) := by decide +kernel
theorem dX2_begin_1 : decode cX2_begin 1 = .ok (.aload_n 1, 1) := by decide +kernel
theorem dX2_begin_2 : decode cX2_begin 2 = .ok (.putfield 12, 3) := by decide +kernel
theorem dX2_begin_5 : decode cX2_begin 5 = .ok (.aload_n 1, 1) := by decide +kernel
theorem dX2_begin_6 : decode cX2_begin 6 = .ok (.getfield 40, 3) := by decide +kernel
theorem dX2_begin_9 : decode cX2_begin 9 = .ok (.iconst 0, 1) := by decide +kernel
theorem dX2_begin_10 : decode cX2_begin 10 = .ok (.aload_n 0, 1) := by decide +kernel
theorem dX2_begin_11 : decode cX2_begin 11 = .ok (.getfield 18, 3) := by decide +kernel
theorem dX2_begin_14 : decode cX2_begin 14 = .ok (.iconst 0, 1) := by decide +kernel
theorem dX2_begin_15 : decode cX2_begin 15 = .ok (.iconst 5, 1) := by decide +kernel
theorem dX2_begin_16 : decode cX2_begin 16 = .ok (.invokestatic 43, 3) := by decide +kernel
theorem dX2_begin_19 : decode cX2_begin 19 = .ok (.aload_n 1, 1) := by decide +kernel
theorem dX2_begin_20 : decode cX2_begin 20 = .ok (.getfield 49, 3) := by decide +kernel
theorem dX2_begin_23 : decode cX2_begin 23 = .ok (.iconst 0, 1) := by decide +kernel
theorem dX2_begin_24 : decode cX2_begin 24 = .ok (.aload_n 0, 1) := by decide +kernel
theorem dX2_begin_25 : decode cX2_begin 25 = .ok (.getfield 28, 3) := by decide +kernel
theorem dX2_begin_28 : decode cX2_begin 28 = .ok (.iconst 0, 1) := by decide +kernel
theorem dX2_begin_29 : decode cX2_begin 29 = .ok (.bipush 6, 2) := by decide +kernel
theorem dX2_begin_31 : decode cX2_begin 31 = .ok (.invokestatic 43, 3) := by decide +kernel
theorem dX2_begin_34 : decode cX2_begin 34 = .ok (.aload_n 0, 1) := by decide +kernel
theorem dX2_begin_35 : decode cX2_begin 35 = .ok (.getfield 22, 3) := by decide +kernel
theorem dX2_begin_38 : decode cX2_begin 38 = .ok (.iconst 0, 1) := by decide +kernel
theorem dX2_begin_39 : decode cX2_begin 39 = .ok (.invokestatic 50, 3) := by decide +kernel
theorem dX2_begin_42 : decode cX2_begin 42 = .ok (.aload_n 0, 1) := by decide +kernel
theorem dX2_begin_43 : decode cX2_begin 43 = .ok (.getfield 25, 3) := by decide +kernel
theorem dX2_begin_46 : decode cX2_begin 46 = .ok (.iconst 0, 1) := by decide +kernel
theorem dX2_begin_47 : decode cX2_begin 47 = .ok (.invokestatic 50, 3) := by decide +kernel
theorem dX2_begin_50 : decode cX2_begin 50 = .ok (.aload_n 0, 1) := by decide +kernel
theorem dX2_begin_51 : decode cX2_begin 51 = .ok (.getfield 31, 3) := by decide +kernel
theorem dX2_begin_54 : decode cX2_begin 54 = .ok (.iconst (-1), 1) := by decide +kernel
theorem dX2_begin_55 : decode cX2_begin 55 = .ok (.invokestatic 50, 3) := by decide +kernel
theorem dX2_begin_58 : decode cX2_begin 58 = .ok (.aload_n 0, 1) := by decide +kernel
theorem dX2_begin_59 : decode cX2_begin 59 = .ok (.getfield 34, 3) := by decide +kernel
theorem dX2_begin_62 : decode cX2_begin 62 = .ok (.iconst 0, 1) := by decide +kernel
theorem dX2_begin_63 : decode cX2_begin 63 = .ok (.invokestatic 50, 3) := by decide +kernel
theorem dX2_begin_66 : decode cX2_begin 66 = .ok (.aload_n 0, 1) := by decide +kernel
theorem dX2_begin_67 : decode cX2_begin 67 = .ok (.aload_n 1, 1) := by decide +kernel
theorem dX2_begin_68 : decode cX2_begin 68 = .ok (.getfield 56, 3) := by decide +kernel
theorem dX2_begin_71 : decode cX2_begin 71 = .ok (.putfield 60, 3) := by decide +kernel
theorem dX2_begin_74 : decode cX2_begin 74 = .ok (.aload_n 0, 1) := by decide +kernel
theorem dX2_begin_75 : decode cX2_begin 75 = .ok (.iconst 0, 1) := by decide +kernel
theorem dX2_begin_76 : decode cX2_begin 76 = .ok (.putfield 61, 3) := by decide +kernel
theorem dX2_begin_79 : decode cX2_begin 79 = .ok (.aload_n 0, 1) := by decide +kernel
theorem dX2_begin_80 : decode cX2_begin 80 = .ok (.iconst 0, 1) := by decide +kernel
theorem dX2_begin_81 : decode cX2_begin 81 = .ok (.putfield 64, 3) := by decide +kernel
theorem dX2_begin_84 : decode cX2_begin 84 = .ok (.aload_n 0, 1) := by decide +kernel
theorem dX2_begin_85 : decode cX2_begin 85 = .ok (.iconst 0, 1) := by decide +kernel
theorem dX2_begin_86 : decode cX2_begin 86 = .ok (.putfield 67, 3) := by decide +kernel
theorem dX2_begin_89 : decode cX2_begin 89 = .ok (.aload_n 0, 1) := by decide +kernel
theorem dX2_begin_90 : decode cX2_begin 90 = .ok (.iconst 0, 1) := by decide +kernel
theorem dX2_begin_91 : decode cX2_begin 91 = .ok (.putfield 69, 3) := by decide +kernel
theorem dX2_begin_94 : decode cX2_begin 94 = .ok (.aload_n 0, 1) := by decide +kernel
theorem dX2_begin_95 : decode cX2_begin 95 = .ok (.iconst (-1), 1) := by decide +kernel
theorem dX2_begin_96 : decode cX2_begin 96 = .ok (.putfield 72, 3) := by decide +kernel
theorem dX2_begin_99 : decode cX2_begin 99 = .ok (.return_, 1) := by decide +kernel
set_option maxRecDepth 20000 in
theorem ggX2_playFirst_X2_begin : GoodIn wsX2_playFirst wsX2_begin := goodIn_r _ [5, 6, 7, 8, 9, 10, 11, 12, 13, 14, 15, 16, 17, 18, 19, 20, 21, 22, 23, 24, 25, 26, 99, 100, 101, 102, 103, 104, 105, 106, 107, 108, 109, 110, 111, 112, 113, 114, 115, 116, 117, 118, 119, 120, 121, 122, 123, 124] (by decide +kernel) (by decide +kernel)
set_option maxRecDepth 20000 in
theorem gX2_playFirst_X2_begin : GoodIn wsX2_playFirst (wsV RX2 75 RX2 yX2_begin wsX2_begin) := goodIn_app (goodIn_of _ (by decide +kernel)) ggX2_playFirst_X2_begin
set_option maxRecDepth 20000 in
theorem ggX2_playFirst_X2_canBe : GoodIn wsX2_playFirst wsX2_canBe := goodIn_r _ [30, 13, 12, 17, 31, 32, 33, 34, 35, 36, 37, 38, 39, 4, 40, 7, 41, 42, 43, 44, 6, 45, 46, 47, 48, 21, 49, 50, 51, 52, 15, 53, 54, 55, 56, 99, 100, 101, 102, 103, 104, 105, 106, 107, 108, 109, 110, 111, 112, 125, 126, 113, 114, 115, 116, 117, 118, 119, 120, 121, 122, 123, 124] (by decide +kernel) (by decide +kernel)
set_option maxRecDepth 20000 in
theorem gX2_playFirst_X2_canBe : GoodIn wsX2_playFirst (wsV RX2 79 RX2 yX2_canBe wsX2_canBe) := goodIn_app (goodIn_of _ (by decide +kernel)) ggX2_playFirst_X2_canBe
set_option maxRecDepth 20000 in
theorem ggX2_playFirst_X2_act : GoodIn wsX2_playFirst wsX2_act := goodIn_r _ [60, 13, 21, 16, 18, 22, 31, 32, 33, 34, 35, 36, 61, 62, 63, 4, 64, 6, 7, 20, 14, 65, 66, 67, 68, 12, 17, 69, 70, 71, 72, 73, 74, 75, 76, 8, 9, 10, 11, 19, 49, 50, 51, 52, 15, 53, 54, 55, 56, 77, 78, 79, 80, 81, 82, 83, 84, 85, 86, 87, 88, 89, 90, 91, 92, 93, 94, 95, 96, 97, 98, 99, 100, 101, 102, 103, 104, 105, 106, 107, 108, 109, 110, 111, 112, 125, 126, 113, 114, 115, 116, 117, 118, 119, 120, 121, 122, 123, 124] (by decide +kernel) (by decide +kernel)
set_option maxRecDepth 20000 in
theorem gX2_playFirst_X2_act : GoodIn wsX2_playFirst (wsV RX2 83 RX2 yX2_act wsX2_act) := goodIn_app (goodIn_of _ (by decide +kernel)) ggX2_playFirst_X2_act
theorem dX2_playFirst_0 : decode cX2_playFirst 0 = .ok (.aload_n 0, 1) := by decide +kernel
theorem dX2_playFirst_1 : decode cX2_playFirst 1 = .ok (.aload_n 1, 1) := by decide +kernel
theorem dX2_playFirst_2 : decode cX2_playFirst 2 = .ok (.invokevirtual 75, 3) := by decide +kernel
theorem dX2_playFirst_5 : decode cX2_playFirst 5 = .ok (.iconst 0, 1) := by decide +kernel
theorem dX2_playFirst_6 : decode cX2_playFirst 6 = .ok (.istore 4, 2) := by decide +kernel
theorem dX2_playFirst_8 : decode cX2_playFirst 8 = .ok (.iload 4, 2) := by decide +kernel
theorem dX2_playFirst_10 : decode cX2_playFirst 10 = .ok (.iload_n 3, 1) := by decide +kernel
theorem dX2_playFirst_11 : decode cX2_playFirst 11 = .ok (.if_icmp .ge 28, 3) := by decide +kernel
theorem dX2_playFirst_14 : decode cX2_playFirst 14 = .ok (.aload_n 0, 1) := by decide +kernel
theorem dX2_playFirst_15 : decode cX2_playFirst 15 = .ok (.aload_n 2, 1) := by decide +kernel
theorem dX2_playFirst_16 : decode cX2_playFirst 16 = .ok (.iload 4, 2) := by decide +kernel
theorem dX2_playFirst_18 : decode cX2_playFirst 18 = .ok (.invokevirtual 79, 3) := by decide +kernel
theorem dX2_playFirst_21 : decode cX2_playFirst 21 = .ok (.ifCond .ne 5, 3) := by decide +kernel
theorem dX2_playFirst_24 : decode cX2_playFirst 24 = .ok (.iconst 0, 1) := by decide +kernel
theorem dX2_playFirst_25 : decode cX2_playFirst 25 = .ok (.ireturn, 1) := by decide +kernel
theorem dX2_playFirst_26 : decode cX2_playFirst 26 = .ok (.aload_n 0, 1) := by decide +kernel
theorem dX2_playFirst_27 : decode cX2_playFirst 27 = .ok (.aload_n 2, 1) := by decide +kernel
theorem dX2_playFirst_28 : decode cX2_playFirst 28 = .ok (.iload 4, 2) := by decide +kernel
theorem dX2_playFirst_30 : decode cX2_playFirst 30 = .ok (.invokevirtual 83, 3) := by decide +kernel
theorem dX2_playFirst_33 : decode cX2_playFirst 33 = .ok (.iinc 4 1, 3) := by decide +kernel
theorem dX2_playFirst_36 : decode cX2_playFirst 36 = .ok (.goto (-28), 3) := by decide +kernel
theorem dX2_playFirst_39 : decode cX2_playFirst 39 = .ok (.iconst 1, 1) := by decide +kernel
theorem dX2_playFirst_40 : decode cX2_playFirst 40 = .ok (.ireturn, 1) := by decide +kernel
set_option maxRecDepth 20000 in
theorem ggX2_playAll_X2_begin : GoodIn wsX2_playAll wsX2_begin := goodIn_r _ [5, 6, 7, 8, 9, 10, 11, 12, 13, 14, 15, 16, 17, 18, 19, 20, 21, 22, 23, 24, 25, 26, 101, 102, 103, 104, 105, 106, 107, 108, 109, 110, 111, 112, 113, 114, 115, 116, 117, 118, 119, 120, 121, 122, 123, 124, 125, 126] (by decide +kernel) (by decide +kernel)
set_option maxRecDepth 20000 in
theorem gX2_playAll_X2_begin : GoodIn wsX2_playAll (wsV RX2 75 RX2 yX2_begin wsX2_begin) := goodIn_app (goodIn_of _ (by decide +kernel)) ggX2_playAll_X2_begin
set_option maxRecDepth 20000 in
theorem ggX2_playAll_X2_canBe : GoodIn wsX2_playAll wsX2_canBe := goodIn_r _ [30, 13, 12, 17, 31, 32, 33, 34, 35, 36, 37, 38, 39, 4, 40, 7, 41, 42, 43, 44, 6, 45, 46, 47, 48, 21, 49, 50, 51, 52, 15, 53, 54, 55, 56, 101, 102, 103, 104, 105, 106, 107, 108, 109, 110, 111, 112, 113, 114, 99, 100, 115, 116, 117, 118, 119, 120, 121, 122, 123, 124, 125, 126] (by decide +kernel) (by decide +kernel)
set_option maxRecDepth 20000 in
theorem gX2_playAll_X2_canBe : GoodIn wsX2_playAll (wsV RX2 79 RX2 yX2_canBe wsX2_canBe) := goodIn_app (goodIn_of _ (by decide +kernel)) ggX2_playAll_X2_canBe
set_option maxRecDepth 20000 in
theorem ggX2_playAll_X2_act : GoodIn wsX2_playAll wsX2_act := goodIn_r _ [60, 13, 21, 16, 18, 22, 31, 32, 33, 34, 35, 36, 61, 62, 63, 4, 64, 6, 7, 20, 14, 65, 66, 67, 68, 12, 17, 69, 70, 71, 72, 73, 74, 75, 76, 8, 9, 10, 11, 19, 49, 50, 51, 52, 15, 53, 54, 55, 56, 77, 78, 79, 80, 81, 82, 83, 84, 85, 86, 87, 88, 89, 90, 91, 92, 93, 94, 95, 96, 97, 98, 101, 102, 103, 104, 105, 106, 107, 108, 109, 110, 111, 112, 113, 114, 99, 100, 115, 116, 117, 118, 119, 120, 121, 122, 123, 124, 125, 126] (by decide +kernel) (by decide +kernel)
set_option maxRecDepth 20000 in
theorem gX2_playAll_X2_act : GoodIn wsX2_playAll (wsV RX2 83 RX2 yX2_act wsX2_act) := goodIn_app (goodIn_of _ (by decide +kernel)) ggX2_playAll_X2_act
theorem dX2_playAll_0 : decode cX2_playAll 0 = .ok (.aload_n 0, 1) := by decide +kernel
theorem dX2_playAll_1 : decode cX2_playAll 1 = .ok (.aload_n 1, 1) := by decide +kernel
theorem dX2_playAll_2 : decode cX2_playAll 2 = .ok (.invokevirtual 75, 3) := by decide +kernel
theorem dX2_playAll_5 : decode cX2_playAll 5 = .ok (.iconst 0, 1) := by decide +kernel
theorem dX2_playAll_6 : decode cX2_playAll 6 = .ok (.istore_n 3, 1) := by decide +kernel
theorem dX2_playAll_7 : decode cX2_playAll 7 = .ok (.iload_n 3, 1) := by decide +kernel
theorem dX2_playAll_8 : decode cX2_playAll 8 = .ok (.aload_n 2, 1) := by decide +kernel
theorem dX2_playAll_9 : decode cX2_playAll 9 = .ok (.getfield 87, 3) := by decide +kernel
theorem dX2_playAll_12 : decode cX2_playAll 12 = .ok (.if_icmp .ge 26, 3) := by decide +kernel
theorem dX2_playAll_15 : decode cX2_playAll 15 = .ok (.aload_n 0, 1) := by decide +kernel
theorem dX2_playAll_16 : decode cX2_playAll 16 = .ok (.aload_n 2, 1) := by decide +kernel
theorem dX2_playAll_17 : decode cX2_playAll 17 = .ok (.iload_n 3, 1) := by decide +kernel
theorem dX2_playAll_18 : decode cX2_playAll 18 = .ok (.invokevirtual 79, 3) := by decide +kernel
theorem dX2_playAll_21 : decode cX2_playAll 21 = .ok (.ifCond .ne 5, 3) := by decide +kernel
theorem dX2_playAll_24 : decode cX2_playAll 24 = .ok (.iload_n 3, 1) := by decide +kernel
theorem dX2_playAll_25 : decode cX2_playAll 25 = .ok (.ireturn, 1) := by decide +kernel
theorem dX2_playAll_26 : decode cX2_playAll 26 = .ok (.aload_n 0, 1) := by decide +kernel
theorem dX2_playAll_27 : decode cX2_playAll 27 = .ok (.aload_n 2, 1) := by decide +kernel
theorem dX2_playAll_28 : decode cX2_playAll 28 = .ok (.iload_n 3, 1) := by decide +kernel
theorem dX2_playAll_29 : decode cX2_playAll 29 = .ok (.invokevirtual 83, 3) := by decide +kernel
theorem dX2_playAll_32 : decode cX2_playAll 32 = .ok (.iinc 3 1, 3) := by decide +kernel
theorem dX2_playAll_35 : decode cX2_playAll 35 = .ok (.goto (-28), 3) := by decide +kernel
theorem dX2_playAll_38 : decode cX2_playAll 38 = .ok (.aload_n 2, 1) := by decide +kernel
theorem dX2_playAll_39 : decode cX2_playAll 39 = .ok (.getfield 87, 3) := by decide +kernel
theorem dX2_playAll_42 : decode cX2_playAll 42 = .ok (.ireturn, 1) := by decide +kernel
set_option maxRecDepth 20000 in
theorem ggX2_playWithout_X2_begin : GoodIn wsX2_playWithout wsX2_begin := goodIn_r _ [5, 6, 7, 8, 9, 10, 11, 12, 13, 14, 15, 16, 17, 18, 19, 20, 21, 22, 23, 24, 25, 26, 104, 105, 106, 107, 108, 109, 110, 111, 112, 113, 114, 115, 116, 117, 118, 119, 120, 121, 122, 123, 124, 125, 126, 127, 128, 129] (by decide +kernel) (by decide +kernel)
set_option maxRecDepth 20000 in
theorem gX2_playWithout_X2_begin : GoodIn wsX2_playWithout (wsV RX2 75 RX2 yX2_begin wsX2_begin) := goodIn_app (goodIn_of _ (by decide +kernel)) ggX2_playWithout_X2_begin
set_option maxRecDepth 20000 in
theorem ggX2_playWithout_X0_isOf : GoodIn wsX2_playWithout wsX0_isOf := goodIn_r _ [31, 32, 33, 34, 30, 35, 36, 130, 131] (by decide +kernel) (by decide +kernel)
set_option maxRecDepth 20000 in
theorem gX2_playWithout_X0_isOf : GoodIn wsX2_playWithout (wsV RX2 92 RX0 yX0_isOf wsX0_isOf) := goodIn_app (goodIn_of _ (by decide +kernel)) ggX2_playWithout_X0_isOf
set_option maxRecDepth 20000 in
theorem ggX2_playWithout_X2_canBe : GoodIn wsX2_playWithout wsX2_canBe := goodIn_r _ [40, 13, 12, 17, 41, 33, 34, 30, 35, 36, 42, 43, 44, 4, 45, 7, 46, 47, 48, 49, 6, 50, 51, 52, 53, 21, 54, 55, 56, 57, 15, 58, 59, 60, 61, 104, 105, 106, 107, 108, 109, 110, 111, 112, 113, 114, 115, 116, 117, 130, 131, 118, 119, 120, 121, 122, 123, 124, 125, 126, 127, 128, 129] (by decide +kernel) (by decide +kernel)
set_option maxRecDepth 20000 in
theorem gX2_playWithout_X2_canBe : GoodIn wsX2_playWithout (wsV RX2 79 RX2 yX2_canBe wsX2_canBe) := goodIn_app (goodIn_of _ (by decide +kernel)) ggX2_playWithout_X2_canBe
set_option maxRecDepth 20000 in
theorem ggX2_playWithout_X2_act : GoodIn wsX2_playWithout wsX2_act := goodIn_r _ [65, 13, 21, 16, 18, 22, 41, 33, 34, 30, 35, 36, 66, 67, 68, 4, 69, 6, 7, 20, 14, 70, 71, 72, 73, 12, 17, 74, 75, 76, 77, 78, 79, 80, 81, 8, 9, 10, 11, 19, 54, 55, 56, 57, 15, 58, 59, 60, 61, 82, 83, 84, 85, 86, 87, 88, 89, 90, 91, 92, 93, 94, 95, 96, 97, 98, 99, 100, 101, 102, 103, 104, 105, 106, 107, 108, 109, 110, 111, 112, 113, 114, 115, 116, 117, 130, 131, 118, 119, 120, 121, 122, 123, 124, 125, 126, 127, 128, 129] (by decide +kernel) (by decide +kernel)
set_option maxRecDepth 20000 in
theorem gX2_playWithout_X2_act : GoodIn wsX2_playWithout (wsV RX2 83 RX2 yX2_act wsX2_act) := goodIn_app (goodIn_of _ (by decide +kernel)) ggX2_playWithout_X2_act
theorem dX2_playWithout_0 : decode cX2_playWithout 0 = .ok (.aload_n 0, 1) := by decide +kernel
theorem dX2_playWithout_1 : decode cX2_playWithout 1 = .ok (.aload_n 1, 1) := by decide +kernel
theorem dX2_playWithout_2 : decode cX2_playWithout 2 = .ok (.invokevirtual 75, 3) := by decide +kernel
theorem dX2_playWithout_5 : decode cX2_playWithout 5 = .ok (.iconst 0, 1) := by decide +kernel
theorem dX2_playWithout_6 : decode cX2_playWithout 6 = .ok (.istore 5, 2) := by decide +kernel
theorem dX2_playWithout_8 : decode cX2_playWithout 8 = .ok (.iload 5, 2) := by decide +kernel
theorem dX2_playWithout_10 : decode cX2_playWithout 10 = .ok (.iload_n 3, 1) := by decide +kernel
theorem dX2_playWithout_11 : decode cX2_playWithout 11 = .ok (.if_icmp .ge 37, 3) := by decide +kernel
theorem dX2_playWithout_14 : decode cX2_playWithout 14 = .ok (.aload_n 2, 1) := by decide +kernel
theorem dX2_playWithout_15 : decode cX2_playWithout 15 = .ok (.iload 5, 2) := by decide +kernel
theorem dX2_playWithout_17 : decode cX2_playWithout 17 = .ok (.iload 4, 2) := by decide +kernel
theorem dX2_playWithout_19 : decode cX2_playWithout 19 = .ok (.invokevirtual 92, 3) := by decide +kernel
theorem dX2_playWithout_22 : decode cX2_playWithout 22 = .ok (.ifCond .ne 20, 3) := by decide +kernel
theorem dX2_playWithout_25 : decode cX2_playWithout 25 = .ok (.aload_n 0, 1) := by decide +kernel
theorem dX2_playWithout_26 : decode cX2_playWithout 26 = .ok (.aload_n 2, 1) := by decide +kernel
theorem dX2_playWithout_27 : decode cX2_playWithout 27 = .ok (.iload 5, 2) := by decide +kernel
theorem dX2_playWithout_29 : decode cX2_playWithout 29 = .ok (.invokevirtual 79, 3) := by decide +kernel
theorem dX2_playWithout_32 : decode cX2_playWithout 32 = .ok (.ifCond .eq 10, 3) := by decide +kernel
theorem dX2_playWithout_35 : decode cX2_playWithout 35 = .ok (.aload_n 0, 1) := by decide +kernel
theorem dX2_playWithout_36 : decode cX2_playWithout 36 = .ok (.aload_n 2, 1) := by decide +kernel
theorem dX2_playWithout_37 : decode cX2_playWithout 37 = .ok (.iload 5, 2) := by decide +kernel
theorem dX2_playWithout_39 : decode cX2_playWithout 39 = .ok (.invokevirtual 83, 3) := by decide +kernel
theorem dX2_playWithout_42 : decode cX2_playWithout 42 = .ok (.iinc 5 1, 3) := by decide +kernel
theorem dX2_playWithout_45 : decode cX2_playWithout 45 = .ok (.goto (-37), 3) := by decide +kernel
theorem dX2_playWithout_48 : decode cX2_playWithout 48 = .ok (.return_, 1) := by decide +kernel
set_option maxRecDepth 20000 in
theorem ggX2_canBe_X0_part : GoodIn wsX2_canBe wsX0_part := goodIn_r _ [8, 9, 49, 50] (by decide +kernel) (by decide +kernel)
set_option maxRecDepth 20000 in
theorem gX2_canBe_X0_part : GoodIn wsX2_canBe (wsV RX2 120 RX0 yX0_part wsX0_part) := goodIn_app (goodIn_of _ (by decide +kernel)) ggX2_canBe_X0_part
set_option maxRecDepth 20000 in
theorem ggX2_canBe_X2_canGive : GoodIn wsX2_canBe wsX2_canGive := goodIn_r _ [14, 15, 16, 17, 18, 13, 19, 20, 21, 22, 23, 24, 25, 35, 36, 37, 38, 39, 40, 41, 42, 43, 44, 45, 46, 47, 48, 51, 52, 53, 54, 55, 56, 57, 58, 59, 60, 61, 62] (by decide +kernel) (by decide +kernel)
set_option maxRecDepth 20000 in
theorem gX2_canBe_X2_canGive : GoodIn wsX2_canBe (wsV RX2 124 RX2 yX2_canGive wsX2_canGive) := goodIn_app (goodIn_of _ (by decide +kernel)) ggX2_canBe_X2_canGive
set_option maxRecDepth 20000 in
theorem ggX2_canBe_X2_lives : GoodIn wsX2_canBe wsX2_lives := goodIn_r _ [29, 30, 31, 32, 33, 13, 34, 20, 35, 36, 37, 38, 39, 40, 41, 42, 43, 44, 45, 46, 47, 48, 51, 52, 53, 54, 55, 56, 57, 58, 59, 60, 61, 62] (by decide +kernel) (by decide +kernel)
set_option maxRecDepth 20000 in
theorem gX2_canBe_X2_lives : GoodIn wsX2_canBe (wsV RX2 99 RX2 yX2_lives wsX2_lives) := goodIn_app (goodIn_of _ (by decide +kernel)) ggX2_canBe_X2_lives
set_option maxRecDepth 20000 in
theorem ggX2_canBe_X2_hasPalm : GoodIn wsX2_canBe wsX2_hasPalm := goodIn_r _ [19, 20, 35, 36, 37, 38, 39, 40, 41, 42, 43, 44, 45, 46, 47, 48, 51, 52, 53, 54, 55, 56, 57, 58, 59, 60, 61, 62] (by decide +kernel) (by decide +kernel)
set_option maxRecDepth 20000 in
theorem gX2_canBe_X2_hasPalm : GoodIn wsX2_canBe (wsV RX2 127 RX2 yX2_hasPalm wsX2_hasPalm) := goodIn_app (goodIn_of _ (by decide +kernel)) ggX2_canBe_X2_hasPalm
theorem dX2_canBe_0 : decode cX2_canBe 0 = .ok (.aload_n 1, 1) := by decide +kernel
theorem dX2_canBe_1 : decode cX2_canBe 1 = .ok (.iload_n 2, 1) := by decide +kernel
theorem dX2_canBe_2 : decode cX2_canBe 2 = .ok (.iconst 1, 1) := by decide +kernel
theorem dX2_canBe_3 : decode cX2_canBe 3 = .ok (.invokevirtual 120, 3) := by decide +kernel
theorem dX2_canBe_6 : decode cX2_canBe 6 = .ok (.istore_n 3, 1) := by decide +kernel
theorem dX2_canBe_7 : decode cX2_canBe 7 = .ok (.aload_n 1, 1) := by decide +kernel
theorem dX2_canBe_8 : decode cX2_canBe 8 = .ok (.iload_n 2, 1) := by decide +kernel
theorem dX2_canBe_9 : decode cX2_canBe 9 = .ok (.iconst 2, 1) := by decide +kernel
theorem dX2_canBe_10 : decode cX2_canBe 10 = .ok (.invokevirtual 120, 3) := by decide +kernel
theorem dX2_canBe_13 : decode cX2_canBe 13 = .ok (.istore 4, 2) := by decide +kernel
theorem dX2_canBe_15 : decode cX2_canBe 15 = .ok (.aload_n 1, 1) := by decide +kernel
theorem dX2_canBe_16 : decode cX2_canBe 16 = .ok (.iload_n 2, 1) := by decide +kernel
theorem dX2_canBe_17 : decode cX2_canBe 17 = .ok (.iconst 3, 1) := by decide +kernel
theorem dX2_canBe_18 : decode cX2_canBe 18 = .ok (.invokevirtual 120, 3) := by decide +kernel
theorem dX2_canBe_21 : decode cX2_canBe 21 = .ok (.istore 5, 2) := by decide +kernel
theorem dX2_canBe_23 : decode cX2_canBe 23 = .ok (.aload_n 1, 1) := by decide +kernel
theorem dX2_canBe_24 : decode cX2_canBe 24 = .ok (.iload_n 2, 1) := by decide +kernel
theorem dX2_canBe_25 : decode cX2_canBe 25 = .ok (.iconst 0, 1) := by decide +kernel
theorem dX2_canBe_26 : decode cX2_canBe 26 = .ok (.invokevirtual 120, 3) := by decide +kernel
theorem dX2_canBe_29 : decode cX2_canBe 29 = .ok (.tableswitch 175 0 4 #[35, 60, 85, 126, 169], 35) := by decide +kernel
theorem dX2_canBe_64 : decode cX2_canBe 64 = .ok (.aload_n 0, 1) := by decide +kernel
theorem dX2_canBe_65 : decode cX2_canBe 65 = .ok (.iload_n 3, 1) := by decide +kernel
theorem dX2_canBe_66 : decode cX2_canBe 66 = .ok (.iload 5, 2) := by decide +kernel
theorem dX2_canBe_68 : decode cX2_canBe 68 = .ok (.invokevirtual 124, 3) := by decide +kernel
theorem dX2_canBe_71 : decode cX2_canBe 71 = .ok (.ifCond .eq 16, 3) := by decide +kernel
theorem dX2_canBe_74 : decode cX2_canBe 74 = .ok (.aload_n 0, 1) := by decide +kernel
theorem dX2_canBe_75 : decode cX2_canBe 75 = .ok (.iload 4, 2) := by decide +kernel
theorem dX2_canBe_77 : decode cX2_canBe 77 = .ok (.invokevirtual 99, 3) := by decide +kernel
theorem dX2_canBe_80 : decode cX2_canBe 80 = .ok (.ifCond .eq 7, 3) := by decide +kernel
theorem dX2_canBe_83 : decode cX2_canBe 83 = .ok (.iconst 1, 1) := by decide +kernel
theorem dX2_canBe_84 : decode cX2_canBe 84 = .ok (.goto 4, 3) := by decide +kernel
theorem dX2_canBe_87 : decode cX2_canBe 87 = .ok (.iconst 0, 1) := by decide +kernel
theorem dX2_canBe_88 : decode cX2_canBe 88 = .ok (.ireturn, 1) := by decide +kernel
theorem dX2_canBe_89 : decode cX2_canBe 89 = .ok (.aload_n 0, 1) := by decide +kernel
theorem dX2_canBe_90 : decode cX2_canBe 90 = .ok (.iload_n 3, 1) := by decide +kernel
theorem dX2_canBe_91 : decode cX2_canBe 91 = .ok (.iload 5, 2) := by decide +kernel
theorem dX2_canBe_93 : decode cX2_canBe 93 = .ok (.invokevirtual 124, 3) := by decide +kernel
theorem dX2_canBe_96 : decode cX2_canBe 96 = .ok (.ifCond .eq 16, 3) := by decide +kernel
theorem dX2_canBe_99 : decode cX2_canBe 99 = .ok (.aload_n 0, 1) := by decide +kernel
theorem dX2_canBe_100 : decode cX2_canBe 100 = .ok (.iload 4, 2) := by decide +kernel
theorem dX2_canBe_102 : decode cX2_canBe 102 = .ok (.invokevirtual 127, 3) := by decide +kernel
theorem dX2_canBe_105 : decode cX2_canBe 105 = .ok (.ifCond .eq 7, 3) := by decide +kernel
theorem dX2_canBe_108 : decode cX2_canBe 108 = .ok (.iconst 1, 1) := by decide +kernel
theorem dX2_canBe_109 : decode cX2_canBe 109 = .ok (.goto 4, 3) := by decide +kernel
theorem dX2_canBe_112 : decode cX2_canBe 112 = .ok (.iconst 0, 1) := by decide +kernel
theorem dX2_canBe_113 : decode cX2_canBe 113 = .ok (.ireturn, 1) := by decide +kernel
theorem dX2_canBe_114 : decode cX2_canBe 114 = .ok (.aload_n 0, 1) := by decide +kernel
theorem dX2_canBe_115 : decode cX2_canBe 115 = .ok (.iload_n 3, 1) := by decide +kernel
theorem dX2_canBe_116 : decode cX2_canBe 116 = .ok (.iload 5, 2) := by decide +kernel
theorem dX2_canBe_118 : decode cX2_canBe 118 = .ok (.invokevirtual 124, 3) := by decide +kernel
theorem dX2_canBe_121 : decode cX2_canBe 121 = .ok (.ifCond .eq 32, 3) := by decide +kernel
theorem dX2_canBe_124 : decode cX2_canBe 124 = .ok (.aload_n 0, 1) := by decide +kernel
theorem dX2_canBe_125 : decode cX2_canBe 125 = .ok (.iload 4, 2) := by decide +kernel
theorem dX2_canBe_127 : decode cX2_canBe 127 = .ok (.invokevirtual 127, 3) := by decide +kernel
theorem dX2_canBe_130 : decode cX2_canBe 130 = .ok (.ifCond .eq 23, 3) := by decide +kernel
theorem dX2_canBe_133 : decode cX2_canBe 133 = .ok (.aload_n 0, 1) := by decide +kernel
theorem dX2_canBe_134 : decode cX2_canBe 134 = .ok (.getfield 22, 3) := by decide +kernel
theorem dX2_canBe_137 : decode cX2_canBe 137 = .ok (.iload_n 3, 1) := by decide +kernel
theorem dX2_canBe_138 : decode cX2_canBe 138 = .ok (.iconst 5, 1) := by decide +kernel
theorem dX2_canBe_139 : decode cX2_canBe 139 = .ok (.imul, 1) := by decide +kernel
theorem dX2_canBe_140 : decode cX2_canBe 140 = .ok (.iload 4, 2) := by decide +kernel
theorem dX2_canBe_142 : decode cX2_canBe 142 = .ok (.iadd, 1) := by decide +kernel
theorem dX2_canBe_143 : decode cX2_canBe 143 = .ok (.iaload, 1) := by decide +kernel
theorem dX2_canBe_144 : decode cX2_canBe 144 = .ok (.iload 5, 2) := by decide +kernel
theorem dX2_canBe_146 : decode cX2_canBe 146 = .ok (.if_icmp .lt 7, 3) := by decide +kernel
theorem dX2_canBe_149 : decode cX2_canBe 149 = .ok (.iconst 1, 1) := by decide +kernel
theorem dX2_canBe_150 : decode cX2_canBe 150 = .ok (.goto 4, 3) := by decide +kernel
theorem dX2_canBe_153 : decode cX2_canBe 153 = .ok (.iconst 0, 1) := by decide +kernel
theorem dX2_canBe_154 : decode cX2_canBe 154 = .ok (.ireturn, 1) := by decide +kernel
theorem dX2_canBe_155 : decode cX2_canBe 155 = .ok (.aload_n 0, 1) := by decide +kernel
theorem dX2_canBe_156 : decode cX2_canBe 156 = .ok (.iload_n 3, 1) := by decide +kernel
theorem dX2_canBe_157 : decode cX2_canBe 157 = .ok (.invokevirtual 99, 3) := by decide +kernel
theorem dX2_canBe_160 : decode cX2_canBe 160 = .ok (.ifCond .eq 36, 3) := by decide +kernel
theorem dX2_canBe_163 : decode cX2_canBe 163 = .ok (.aload_n 0, 1) := by decide +kernel
theorem dX2_canBe_164 : decode cX2_canBe 164 = .ok (.iload 4, 2) := by decide +kernel
theorem dX2_canBe_166 : decode cX2_canBe 166 = .ok (.invokevirtual 127, 3) := by decide +kernel
theorem dX2_canBe_169 : decode cX2_canBe 169 = .ok (.ifCond .eq 27, 3) := by decide +kernel
theorem dX2_canBe_172 : decode cX2_canBe 172 = .ok (.aload_n 0, 1) := by decide +kernel
theorem dX2_canBe_173 : decode cX2_canBe 173 = .ok (.getfield 28, 3) := by decide +kernel
theorem dX2_canBe_176 : decode cX2_canBe 176 = .ok (.iload_n 3, 1) := by decide +kernel
theorem dX2_canBe_177 : decode cX2_canBe 177 = .ok (.iaload, 1) := by decide +kernel
theorem dX2_canBe_178 : decode cX2_canBe 178 = .ok (.iload 5, 2) := by decide +kernel
theorem dX2_canBe_180 : decode cX2_canBe 180 = .ok (.if_icmp .lt 16, 3) := by decide +kernel
theorem dX2_canBe_183 : decode cX2_canBe 183 = .ok (.aload_n 0, 1) := by decide +kernel
theorem dX2_canBe_184 : decode cX2_canBe 184 = .ok (.getfield 60, 3) := by decide +kernel
theorem dX2_canBe_187 : decode cX2_canBe 187 = .ok (.iload 5, 2) := by decide +kernel
theorem dX2_canBe_189 : decode cX2_canBe 189 = .ok (.if_icmp .lt 7, 3) := by decide +kernel
theorem dX2_canBe_192 : decode cX2_canBe 192 = .ok (.iconst 1, 1) := by decide +kernel
theorem dX2_canBe_193 : decode cX2_canBe 193 = .ok (.goto 4, 3) := by decide +kernel
theorem dX2_canBe_196 : decode cX2_canBe 196 = .ok (.iconst 0, 1) := by decide +kernel
theorem dX2_canBe_197 : decode cX2_canBe 197 = .ok (.ireturn, 1) := by decide +kernel
theorem dX2_canBe_198 : decode cX2_canBe 198 = .ok (.aload_n 0, 1) := by decide +kernel
theorem dX2_canBe_199 : decode cX2_canBe 199 = .ok (.iload_n 3, 1) := by decide +kernel
theorem dX2_canBe_200 : decode cX2_canBe 200 = .ok (.invokevirtual 99, 3) := by decide +kernel
theorem dX2_canBe_203 : decode cX2_canBe 203 = .ok (.ireturn, 1) := by decide +kernel
theorem dX2_canBe_204 : decode cX2_canBe 204 = .ok (.iconst 1, 1) := by decide +kernel
theorem dX2_canBe_205 : decode cX2_canBe 205 = .ok (.ireturn, 1) := by decide +kernel
set_option maxRecDepth 20000 in
theorem ggX2_act_X0_part : GoodIn wsX2_act wsX0_part := goodIn_r _ [10, 11, 85, 86] (by decide +kernel) (by decide +kernel)
set_option maxRecDepth 20000 in
theorem gX2_act_X0_part : GoodIn wsX2_act (wsV RX2 120 RX0 yX0_part wsX0_part) := goodIn_app (goodIn_of _ (by decide +kernel)) ggX2_act_X0_part
set_option maxRecDepth 20000 in
theorem ggX2_act_X2_clapFor : GoodIn wsX2_act wsX2_clapFor := goodIn_r _ [16, 17, 5, 18, 19, 20, 21, 22, 23, 15, 24, 25, 26, 71, 72, 73, 74, 75, 76, 77, 78, 79, 80, 81, 82, 83, 84, 87, 88, 89, 90, 91, 92, 93, 94, 95, 96, 97, 98] (by decide +kernel) (by decide +kernel)
set_option maxRecDepth 20000 in
theorem gX2_act_X2_clapFor : GoodIn wsX2_act (wsV RX2 133 RX2 yX2_clapFor wsX2_clapFor) := goodIn_app (goodIn_of _ (by decide +kernel)) ggX2_act_X2_clapFor
set_option maxRecDepth 20000 in
theorem ggX2_act_X2_move : GoodIn wsX2_act wsX2_move := goodIn_r _ [30, 18, 71, 72, 73, 74, 75, 76, 77, 78, 79, 80, 81, 82, 83, 84] (by decide +kernel) (by decide +kernel)
set_option maxRecDepth 20000 in
theorem gX2_act_X2_move : GoodIn wsX2_act (wsV RX2 137 RX2 yX2_move wsX2_move) := goodIn_app (goodIn_of _ (by decide +kernel)) ggX2_act_X2_move
set_option maxRecDepth 20000 in
theorem ggX2_act_X2_give : GoodIn wsX2_act wsX2_give := goodIn_r _ [24, 25, 26, 71, 72, 73, 74, 75, 76, 77, 78, 79, 80, 81, 82, 83, 84] (by decide +kernel) (by decide +kernel)
set_option maxRecDepth 20000 in
theorem gX2_act_X2_give : GoodIn wsX2_act (wsV RX2 110 RX2 yX2_give wsX2_give) := goodIn_app (goodIn_of _ (by decide +kernel)) ggX2_act_X2_give
set_option maxRecDepth 20000 in
theorem ggX2_act_X2_passNight : GoodIn wsX2_act wsX2_passNight := goodIn_r _ [34, 17, 1, 18, 35, 36, 37, 38, 2, 39, 40, 41, 42, 15, 43, 44, 45, 46, 47, 48, 49, 50, 51, 52, 25, 26, 53, 54, 55, 56, 57, 58, 59, 60, 4, 21, 22, 23, 24, 61, 62, 63, 64, 65, 66, 67, 68, 69, 70, 71, 72, 73, 74, 75, 76, 77, 78, 79, 80, 81, 82, 83, 84, 87, 88, 89, 90, 91, 92, 93, 94, 95, 96, 97, 98] (by decide +kernel) (by decide +kernel)
set_option maxRecDepth 20000 in
theorem gX2_act_X2_passNight : GoodIn wsX2_act (wsV RX2 114 RX2 yX2_passNight wsX2_passNight) := goodIn_app (goodIn_of _ (by decide +kernel)) ggX2_act_X2_passNight
theorem dX2_act_0 : decode cX2_act 0 = .ok (.aload_n 1, 1) := by decide +kernel
theorem dX2_act_1 : decode cX2_act 1 = .ok (.iload_n 2, 1) := by decide +kernel
theorem dX2_act_2 : decode cX2_act 2 = .ok (.iconst 0, 1) := by decide +kernel
theorem dX2_act_3 : decode cX2_act 3 = .ok (.invokevirtual 120, 3) := by decide +kernel
theorem dX2_act_6 : decode cX2_act 6 = .ok (.istore_n 3, 1) := by decide +kernel
theorem dX2_act_7 : decode cX2_act 7 = .ok (.aload_n 1, 1) := by decide +kernel
theorem dX2_act_8 : decode cX2_act 8 = .ok (.iload_n 2, 1) := by decide +kernel
theorem dX2_act_9 : decode cX2_act 9 = .ok (.iconst 1, 1) := by decide +kernel
theorem dX2_act_10 : decode cX2_act 10 = .ok (.invokevirtual 120, 3) := by decide +kernel
theorem dX2_act_13 : decode cX2_act 13 = .ok (.istore 4, 2) := by decide +kernel
theorem dX2_act_15 : decode cX2_act 15 = .ok (.aload_n 1, 1) := by decide +kernel
theorem dX2_act_16 : decode cX2_act 16 = .ok (.iload_n 2, 1) := by decide +kernel
theorem dX2_act_17 : decode cX2_act 17 = .ok (.iconst 2, 1) := by decide +kernel
theorem dX2_act_18 : decode cX2_act 18 = .ok (.invokevirtual 120, 3) := by decide +kernel
theorem dX2_act_21 : decode cX2_act 21 = .ok (.istore 5, 2) := by decide +kernel
theorem dX2_act_23 : decode cX2_act 23 = .ok (.aload_n 1, 1) := by decide +kernel
theorem dX2_act_24 : decode cX2_act 24 = .ok (.iload_n 2, 1) := by decide +kernel
theorem dX2_act_25 : decode cX2_act 25 = .ok (.iconst 3, 1) := by decide +kernel
theorem dX2_act_26 : decode cX2_act 26 = .ok (.invokevirtual 120, 3) := by decide +kernel
theorem dX2_act_29 : decode cX2_act 29 = .ok (.istore 6, 2) := by decide +kernel
theorem dX2_act_31 : decode cX2_act 31 = .ok (.iload_n 3, 1) := by decide +kernel
theorem dX2_act_32 : decode cX2_act 32 = .ok (.tableswitch 178 0 5 #[40, 53, 83, 113, 138, 165], 40) := by decide +kernel
theorem dX2_act_72 : decode cX2_act 72 = .ok (.aload_n 0, 1) := by decide +kernel
theorem dX2_act_73 : decode cX2_act 73 = .ok (.iload 4, 2) := by decide +kernel
theorem dX2_act_75 : decode cX2_act 75 = .ok (.iload 5, 2) := by decide +kernel
theorem dX2_act_77 : decode cX2_act 77 = .ok (.iload 6, 2) := by decide +kernel
theorem dX2_act_79 : decode cX2_act 79 = .ok (.invokevirtual 133, 3) := by decide +kernel
theorem dX2_act_82 : decode cX2_act 82 = .ok (.goto 132, 3) := by decide +kernel
theorem dX2_act_85 : decode cX2_act 85 = .ok (.aload_n 0, 1) := by decide +kernel
theorem dX2_act_86 : decode cX2_act 86 = .ok (.iload 4, 2) := by decide +kernel
theorem dX2_act_88 : decode cX2_act 88 = .ok (.iload 5, 2) := by decide +kernel
theorem dX2_act_90 : decode cX2_act 90 = .ok (.iload 6, 2) := by decide +kernel
theorem dX2_act_92 : decode cX2_act 92 = .ok (.invokevirtual 137, 3) := by decide +kernel
theorem dX2_act_95 : decode cX2_act 95 = .ok (.aload_n 0, 1) := by decide +kernel
theorem dX2_act_96 : decode cX2_act 96 = .ok (.getfield 22, 3) := by decide +kernel
theorem dX2_act_99 : decode cX2_act 99 = .ok (.iload 5, 2) := by decide +kernel
theorem dX2_act_101 : decode cX2_act 101 = .ok (.iconst 5, 1) := by decide +kernel
theorem dX2_act_102 : decode cX2_act 102 = .ok (.imul, 1) := by decide +kernel
theorem dX2_act_103 : decode cX2_act 103 = .ok (.iload 4, 2) := by decide +kernel
theorem dX2_act_105 : decode cX2_act 105 = .ok (.iadd, 1) := by decide +kernel
theorem dX2_act_106 : decode cX2_act 106 = .ok (.dup2, 1) := by decide +kernel
theorem dX2_act_107 : decode cX2_act 107 = .ok (.iaload, 1) := by decide +kernel
theorem dX2_act_108 : decode cX2_act 108 = .ok (.iload 6, 2) := by decide +kernel
theorem dX2_act_110 : decode cX2_act 110 = .ok (.iadd, 1) := by decide +kernel
theorem dX2_act_111 : decode cX2_act 111 = .ok (.iastore, 1) := by decide +kernel
theorem dX2_act_112 : decode cX2_act 112 = .ok (.goto 102, 3) := by decide +kernel
theorem dX2_act_115 : decode cX2_act 115 = .ok (.aload_n 0, 1) := by decide +kernel
theorem dX2_act_116 : decode cX2_act 116 = .ok (.iload 4, 2) := by decide +kernel
theorem dX2_act_118 : decode cX2_act 118 = .ok (.iload 5, 2) := by decide +kernel
theorem dX2_act_120 : decode cX2_act 120 = .ok (.iload 6, 2) := by decide +kernel
theorem dX2_act_122 : decode cX2_act 122 = .ok (.invokevirtual 137, 3) := by decide +kernel
theorem dX2_act_125 : decode cX2_act 125 = .ok (.aload_n 0, 1) := by decide +kernel
theorem dX2_act_126 : decode cX2_act 126 = .ok (.getfield 22, 3) := by decide +kernel
theorem dX2_act_129 : decode cX2_act 129 = .ok (.iload 4, 2) := by decide +kernel
theorem dX2_act_131 : decode cX2_act 131 = .ok (.iconst 5, 1) := by decide +kernel
theorem dX2_act_132 : decode cX2_act 132 = .ok (.imul, 1) := by decide +kernel
theorem dX2_act_133 : decode cX2_act 133 = .ok (.iload 5, 2) := by decide +kernel
theorem dX2_act_135 : decode cX2_act 135 = .ok (.iadd, 1) := by decide +kernel
theorem dX2_act_136 : decode cX2_act 136 = .ok (.dup2, 1) := by decide +kernel
theorem dX2_act_137 : decode cX2_act 137 = .ok (.iaload, 1) := by decide +kernel
theorem dX2_act_138 : decode cX2_act 138 = .ok (.iload 6, 2) := by decide +kernel
theorem dX2_act_140 : decode cX2_act 140 = .ok (.isub, 1) := by decide +kernel
theorem dX2_act_141 : decode cX2_act 141 = .ok (.iastore, 1) := by decide +kernel
theorem dX2_act_142 : decode cX2_act 142 = .ok (.goto 72, 3) := by decide +kernel
theorem dX2_act_145 : decode cX2_act 145 = .ok (.aload_n 0, 1) := by decide +kernel
theorem dX2_act_146 : decode cX2_act 146 = .ok (.iload 4, 2) := by decide +kernel
theorem dX2_act_148 : decode cX2_act 148 = .ok (.iload 6, 2) := by decide +kernel
theorem dX2_act_150 : decode cX2_act 150 = .ok (.ineg, 1) := by decide +kernel
theorem dX2_act_151 : decode cX2_act 151 = .ok (.invokevirtual 110, 3) := by decide +kernel
theorem dX2_act_154 : decode cX2_act 154 = .ok (.aload_n 0, 1) := by decide +kernel
theorem dX2_act_155 : decode cX2_act 155 = .ok (.dup, 1) := by decide +kernel
theorem dX2_act_156 : decode cX2_act 156 = .ok (.getfield 69, 3) := by decide +kernel
theorem dX2_act_159 : decode cX2_act 159 = .ok (.iconst 1, 1) := by decide +kernel
theorem dX2_act_160 : decode cX2_act 160 = .ok (.iload 5, 2) := by decide +kernel
theorem dX2_act_162 : decode cX2_act 162 = .ok (.ishl, 1) := by decide +kernel
theorem dX2_act_163 : decode cX2_act 163 = .ok (.ior, 1) := by decide +kernel
theorem dX2_act_164 : decode cX2_act 164 = .ok (.putfield 69, 3) := by decide +kernel
theorem dX2_act_167 : decode cX2_act 167 = .ok (.goto 47, 3) := by decide +kernel
theorem dX2_act_170 : decode cX2_act 170 = .ok (.aload_n 0, 1) := by decide +kernel
theorem dX2_act_171 : decode cX2_act 171 = .ok (.iload 4, 2) := by decide +kernel
theorem dX2_act_173 : decode cX2_act 173 = .ok (.iconst 2, 1) := by decide +kernel
theorem dX2_act_174 : decode cX2_act 174 = .ok (.iload 5, 2) := by decide +kernel
theorem dX2_act_176 : decode cX2_act 176 = .ok (.imul, 1) := by decide +kernel
theorem dX2_act_177 : decode cX2_act 177 = .ok (.invokevirtual 110, 3) := by decide +kernel
theorem dX2_act_180 : decode cX2_act 180 = .ok (.aload_n 0, 1) := by decide +kernel
theorem dX2_act_181 : decode cX2_act 181 = .ok (.getfield 34, 3) := by decide +kernel
theorem dX2_act_184 : decode cX2_act 184 = .ok (.iload 4, 2) := by decide +kernel
theorem dX2_act_186 : decode cX2_act 186 = .ok (.dup2, 1) := by decide +kernel
theorem dX2_act_187 : decode cX2_act 187 = .ok (.iaload, 1) := by decide +kernel
theorem dX2_act_188 : decode cX2_act 188 = .ok (.iconst 2, 1) := by decide +kernel
theorem dX2_act_189 : decode cX2_act 189 = .ok (.iload 5, 2) := by decide +kernel
theorem dX2_act_191 : decode cX2_act 191 = .ok (.imul, 1) := by decide +kernel
theorem dX2_act_192 : decode cX2_act 192 = .ok (.iadd, 1) := by decide +kernel
theorem dX2_act_193 : decode cX2_act 193 = .ok (.iastore, 1) := by decide +kernel
theorem dX2_act_194 : decode cX2_act 194 = .ok (.goto 20, 3) := by decide +kernel
theorem dX2_act_197 : decode cX2_act 197 = .ok (.aload_n 0, 1) := by decide +kernel
theorem dX2_act_198 : decode cX2_act 198 = .ok (.dup, 1) := by decide +kernel
theorem dX2_act_199 : decode cX2_act 199 = .ok (.getfield 61, 3) := by decide +kernel
theorem dX2_act_202 : decode cX2_act 202 = .ok (.iconst 1, 1) := by decide +kernel
theorem dX2_act_203 : decode cX2_act 203 = .ok (.iadd, 1) := by decide +kernel
theorem dX2_act_204 : decode cX2_act 204 = .ok (.putfield 61, 3) := by decide +kernel
theorem dX2_act_207 : decode cX2_act 207 = .ok (.goto 7, 3) := by decide +kernel
theorem dX2_act_210 : decode cX2_act 210 = .ok (.aload_n 0, 1) := by decide +kernel
theorem dX2_act_211 : decode cX2_act 211 = .ok (.invokevirtual 114, 3) := by decide +kernel
theorem dX2_act_214 : decode cX2_act 214 = .ok (.aload_n 0, 1) := by decide +kernel
theorem dX2_act_215 : decode cX2_act 215 = .ok (.iload_n 3, 1) := by decide +kernel
theorem dX2_act_216 : decode cX2_act 216 = .ok (.ifCond .ne 8, 3) := by decide +kernel
theorem dX2_act_219 : decode cX2_act 219 = .ok (.iload 5, 2) := by decide +kernel
theorem dX2_act_221 : decode cX2_act 221 = .ok (.goto 4, 3) := by decide +kernel
theorem dX2_act_224 : decode cX2_act 224 = .ok (.iconst (-1), 1) := by decide +kernel
theorem dX2_act_225 : decode cX2_act 225 = .ok (.putfield 72, 3) := by decide +kernel
theorem dX2_act_228 : decode cX2_act 228 = .ok (.return_, 1) := by decide +kernel
theorem dJ7_fill_53178_0 : decode cJ7_fill_53178 0 = .ok (.iconst 0, 1) := by decide +kernel
theorem dJ7_fill_53178_1 : decode cJ7_fill_53178 1 = .ok (.istore_n 2, 1) := by decide +kernel
theorem dJ7_fill_53178_2 : decode cJ7_fill_53178 2 = .ok (.aload_n 0, 1) := by decide +kernel
theorem dJ7_fill_53178_3 : decode cJ7_fill_53178 3 = .ok (.arraylength, 1) := by decide +kernel
theorem dJ7_fill_53178_4 : decode cJ7_fill_53178 4 = .ok (.istore_n 3, 1) := by decide +kernel
theorem dJ7_fill_53178_5 : decode cJ7_fill_53178 5 = .ok (.iload_n 2, 1) := by decide +kernel
theorem dJ7_fill_53178_6 : decode cJ7_fill_53178 6 = .ok (.iload_n 3, 1) := by decide +kernel
theorem dJ7_fill_53178_7 : decode cJ7_fill_53178 7 = .ok (.if_icmp .ge 13, 3) := by decide +kernel
theorem dJ7_fill_53178_10 : decode cJ7_fill_53178 10 = .ok (.aload_n 0, 1) := by decide +kernel
theorem dJ7_fill_53178_11 : decode cJ7_fill_53178 11 = .ok (.iload_n 2, 1) := by decide +kernel
theorem dJ7_fill_53178_12 : decode cJ7_fill_53178 12 = .ok (.iload_n 1, 1) := by decide +kernel
theorem dJ7_fill_53178_13 : decode cJ7_fill_53178 13 = .ok (.iastore, 1) := by decide +kernel
theorem dJ7_fill_53178_14 : decode cJ7_fill_53178 14 = .ok (.iinc 2 1, 3) := by decide +kernel
theorem dJ7_fill_53178_17 : decode cJ7_fill_53178 17 = .ok (.goto (-12), 3) := by decide +kernel
theorem dJ7_fill_53178_20 : decode cJ7_fill_53178 20 = .ok (.return_, 1) := by decide +kernel
