abbrev wsX20 : List Cond := u_ws RX2 TX2 14
theorem nmX2 : ∀ a, a < 14 → ∀ b, b < 14 → a ≠ b → (TX2 a).2.1 ≠ (TX2 b).2.1 := by decide +kernel
theorem tyX2_ok : ∀ k, k < 14 → parseFieldDescriptor (TX2 k).2.2.1 = some (tyX2 k) := by decide +kernel
abbrev cX2_hasPalm : ByteArray := prog_4_method_7_code
def yX2_hasPalm : MethodName := ⟨RX2, "hasPalm", "(I)Z"⟩
abbrev cX2_hasActor : ByteArray := prog_4_method_8_code
def yX2_hasActor : MethodName := ⟨RX2, "hasActor", "(I)Z"⟩
abbrev cX2_lives : ByteArray := prog_4_method_9_code
def yX2_lives : MethodName := ⟨RX2, "lives", "(I)Z"⟩
abbrev cX2_isHushed : ByteArray := prog_4_method_10_code
def yX2_isHushed : MethodName := ⟨RX2, "isHushed", "(I)Z"⟩
abbrev cX2_canGive : ByteArray := prog_4_method_12_code
def yX2_canGive : MethodName := ⟨RX2, "canGive", "(II)Z"⟩
abbrev cX2_clapFor : ByteArray := prog_4_method_14_code
def yX2_clapFor : MethodName := ⟨RX2, "clapFor", "(III)V"⟩
abbrev cX2_move : ByteArray := prog_4_method_15_code
def yX2_move : MethodName := ⟨RX2, "move", "(III)V"⟩
abbrev cX2_give : ByteArray := prog_4_method_16_code
def yX2_give : MethodName := ⟨RX2, "give", "(II)V"⟩
abbrev cX2_priceBehind : ByteArray := prog_4_method_17_code
def yX2_priceBehind : MethodName := ⟨RX2, "priceBehind", "(II)I"⟩
abbrev cX2_price : ByteArray := prog_4_method_18_code
def yX2_price : MethodName := ⟨RX2, "price", "(I)I"⟩
abbrev cX2_need : ByteArray := prog_4_method_19_code
def yX2_need : MethodName := ⟨RX2, "need", "(I)I"⟩
abbrev cX2_grown : ByteArray := prog_4_method_20_code
def yX2_grown : MethodName := ⟨RX2, "grown", "(I)I"⟩
abbrev cX2_passNight : ByteArray := prog_4_method_21_code
def yX2_passNight : MethodName := ⟨RX2, "passNight", "()V"⟩
abbrev cX2_dine : ByteArray := prog_4_method_22_code
def yX2_dine : MethodName := ⟨RX2, "dine", "(I)V"⟩
abbrev cX2_living : ByteArray := prog_4_method_23_code
def yX2_living : MethodName := ⟨RX2, "living", "()I"⟩
abbrev cX2_allLeft : ByteArray := prog_4_method_24_code
def yX2_allLeft : MethodName := ⟨RX2, "allLeft", "()I"⟩
abbrev cX2_allNeeds : ByteArray := prog_4_method_25_code
def yX2_allNeeds : MethodName := ⟨RX2, "allNeeds", "()I"⟩
abbrev cX2_allSaved : ByteArray := prog_4_method_26_code
def yX2_allSaved : MethodName := ⟨RX2, "allSaved", "()I"⟩
abbrev cX2_tell : ByteArray := prog_4_method_27_code
def yX2_tell : MethodName := ⟨RX2, "tell", "(I)I"⟩
abbrev cX2_tellPalm : ByteArray := prog_4_method_28_code
def yX2_tellPalm : MethodName := ⟨RX2, "tellPalm", "(II)I"⟩
abbrev cX2_tellActor : ByteArray := prog_4_method_29_code
def yX2_tellActor : MethodName := ⟨RX2, "tellActor", "(II)I"⟩
abbrev cX2_friday : ByteArray := prog_4_method_30_code
def yX2_friday : MethodName := ⟨RX2, "friday", "(I)I"⟩
abbrev cX2_star : ByteArray := prog_4_method_31_code
def yX2_star : MethodName := ⟨RX2, "star", "(I)I"⟩
abbrev cX2_doomed : ByteArray := prog_4_method_32_code
def yX2_doomed : MethodName := ⟨RX2, "doomed", "()I"⟩
abbrev cX2_danger : ByteArray := prog_4_method_33_code
def yX2_danger : MethodName := ⟨RX2, "danger", "()I"⟩
abbrev cX2_pricesOf : ByteArray := prog_4_method_34_code
def yX2_pricesOf : MethodName := ⟨RX2, "pricesOf", "(I)I"⟩
abbrev cX2_dearerThan : ByteArray := prog_4_method_35_code
def yX2_dearerThan : MethodName := ⟨RX2, "dearerThan", "(I)I"⟩
abbrev cX2_loan : ByteArray := prog_4_method_36_code
def yX2_loan : MethodName := ⟨RX2, "loan", "()I"⟩
abbrev cX2_idol : ByteArray := prog_4_method_37_code
def yX2_idol : MethodName := ⟨RX2, "idol", "()I"⟩
abbrev cX2_tip : ByteArray := prog_4_method_38_code
def yX2_tip : MethodName := ⟨RX2, "tip", "(I)I"⟩
abbrev cX2_eatsWith : ByteArray := prog_4_method_39_code
def yX2_eatsWith : MethodName := ⟨RX2, "eatsWith", "(II)Z"⟩
abbrev cX2_dear : ByteArray := prog_4_method_40_code
def yX2_dear : MethodName := ⟨RX2, "dear", "(I)I"⟩
def wsX2_hasPalm : List Cond := .code yX2_hasPalm cX2_hasPalm 2 (some .boolean) :: ([.fieldLink RX2 12 "ClapBank$Evening" "house" "LClapBank$Theatre;"] ++ wsX20 ++ wsX70)
def wsX2_isHushed : List Cond := .code yX2_isHushed cX2_isHushed 2 (some .boolean) :: ([.fieldLink RX2 69 "ClapBank$Evening" "hushed" "I"] ++ wsX20)
def wsX2_canGive : List Cond := .code yX2_canGive cX2_canGive 3 (some .boolean) :: ([.fieldLink RX2 18 "ClapBank$Evening" "left" "[I", .methodLink RX2 127 yX2_hasPalm, .instanceMethod yX2_hasPalm, .selects RX2 yX2_hasPalm yX2_hasPalm, .initialized RX2, .code yX2_hasPalm cX2_hasPalm 2 (some .boolean), .fieldLink RX2 12 "ClapBank$Evening" "house" "LClapBank$Theatre;", .methodLink RX2 130 yX2_isHushed, .instanceMethod yX2_isHushed, .selects RX2 yX2_isHushed yX2_isHushed, .code yX2_isHushed cX2_isHushed 2 (some .boolean), .fieldLink RX2 69 "ClapBank$Evening" "hushed" "I"] ++ wsX20 ++ wsX70)
def wsX2_hasActor : List Cond := .code yX2_hasActor cX2_hasActor 2 (some .boolean) :: ([.fieldLink RX2 12 "ClapBank$Evening" "house" "LClapBank$Theatre;"] ++ wsX20 ++ wsX70)
def wsX2_lives : List Cond := .code yX2_lives cX2_lives 2 (some .boolean) :: ([.fieldLink RX2 31 "ClapBank$Evening" "starved" "[I", .methodLink RX2 117 yX2_hasActor, .instanceMethod yX2_hasActor, .selects RX2 yX2_hasActor yX2_hasActor, .initialized RX2, .code yX2_hasActor cX2_hasActor 2 (some .boolean), .fieldLink RX2 12 "ClapBank$Evening" "house" "LClapBank$Theatre;"] ++ wsX20 ++ wsX70)
def wsX2_give : List Cond := .code yX2_give cX2_give 3 none :: ([.fieldLink RX2 28 "ClapBank$Evening" "saved" "[I", .fieldLink RX2 60 "ClapBank$Evening" "chest" "I"] ++ wsX20)
def wsX2_clapFor : List Cond := .code yX2_clapFor cX2_clapFor 5 none :: ([.fieldLink RX2 12 "ClapBank$Evening" "house" "LClapBank$Theatre;", .fieldLink RX2 72 "ClapBank$Evening" "echo" "I", .fieldLink RX2 18 "ClapBank$Evening" "left" "[I", .fieldLink RX2 67 "ClapBank$Evening" "claps" "I", .fieldLink RX2 25 "ClapBank$Evening" "got" "[I", .methodLink RX2 110 yX2_give, .instanceMethod yX2_give, .selects RX2 yX2_give yX2_give, .initialized RX2, .code yX2_give cX2_give 3 none, .fieldLink RX2 28 "ClapBank$Evening" "saved" "[I", .fieldLink RX2 60 "ClapBank$Evening" "chest" "I"] ++ wsX20 ++ wsX70)
def wsX2_move : List Cond := .code yX2_move cX2_move 4 none :: ([.fieldLink RX2 18 "ClapBank$Evening" "left" "[I"] ++ wsX20)
def wsX2_priceBehind : List Cond := .code yX2_priceBehind cX2_priceBehind 3 (some .int) :: ([.fieldLink RX2 12 "ClapBank$Evening" "house" "LClapBank$Theatre;", .fieldLink RX2 61 "ClapBank$Evening" "encores" "I"] ++ wsX20 ++ wsX70)
def wsX2_price : List Cond := .code yX2_price cX2_price 2 (some .int) :: ([.methodLink RX2 143 yX2_priceBehind, .instanceMethod yX2_priceBehind, .selects RX2 yX2_priceBehind yX2_priceBehind, .initialized RX2, .code yX2_priceBehind cX2_priceBehind 3 (some .int), .fieldLink RX2 12 "ClapBank$Evening" "house" "LClapBank$Theatre;", .fieldLink RX2 61 "ClapBank$Evening" "encores" "I"] ++ wsX20 ++ wsX70)
def wsX2_grown : List Cond := .code yX2_grown cX2_grown 4 (some .int) :: ([.fieldLink RX2 12 "ClapBank$Evening" "house" "LClapBank$Theatre;", .constantLong RX2 158 (100), .constantLong RX2 160 (1000000000), .methodLink RX2 162 Lib.MathLoose.min_long.x, .static Lib.MathLoose.min_long.x, .initialized "java/lang/Math", .code Lib.MathLoose.min_long.x Lib.MathLoose.min_long.code 4 (some .long)] ++ wsX20 ++ wsX70)
def wsX2_dine_r1 : List Cond := [Cond.fieldLink RX2 28 "ClapBank$Evening" "saved" "[I", Cond.fieldLink RX2 60 "ClapBank$Evening" "chest" "I", Cond.fieldLink RX2 31 "ClapBank$Evening" "starved" "[I", Cond.fieldLink RX2 64 "ClapBank$Evening" "nights" "I", Cond.methodLink RX2 146 yX2_price, Cond.instanceMethod yX2_price, Cond.selects RX2 yX2_price yX2_price, Cond.initialized RX2, Cond.code yX2_price cX2_price 2 (some .int), Cond.methodLink RX2 143 yX2_priceBehind, Cond.instanceMethod yX2_priceBehind, Cond.selects RX2 yX2_priceBehind yX2_priceBehind, Cond.code yX2_priceBehind cX2_priceBehind 3 (some .int), Cond.fieldLink RX2 12 "ClapBank$Evening" "house" "LClapBank$Theatre;", Cond.fieldLink RX2 61 "ClapBank$Evening" "encores" "I", Cond.methodLink RX2 110 yX2_give, Cond.instanceMethod yX2_give, Cond.selects RX2 yX2_give yX2_give, Cond.code yX2_give cX2_give 3 none, Cond.methodLink RX2 170 yX2_grown, Cond.instanceMethod yX2_grown, Cond.selects RX2 yX2_grown yX2_grown, Cond.code yX2_grown cX2_grown 4 (some .int), Cond.constantLong RX2 158 (100)]
def wsX2_dine_r2 : List Cond := [Cond.constantLong RX2 160 (1000000000), Cond.methodLink RX2 162 Lib.MathLoose.min_long.x, Cond.static Lib.MathLoose.min_long.x, Cond.initialized "java/lang/Math", Cond.code Lib.MathLoose.min_long.x Lib.MathLoose.min_long.code 4 (some .long)]
def wsX2_dine : List Cond := .code yX2_dine cX2_dine 3 none :: ((wsX2_dine_r1 ++ wsX2_dine_r2) ++ wsX20 ++ wsX70)
def wsX2_passNight_r1 : List Cond := [Cond.fieldLink RX2 12 "ClapBank$Evening" "house" "LClapBank$Theatre;", Cond.fieldLink RX2 22 "ClapBank$Evening" "owes" "[I", Cond.fieldLink RX2 18 "ClapBank$Evening" "left" "[I", Cond.methodLink RX2 43 arraycopyName, Cond.native arraycopyName, Cond.static arraycopyName, Cond.initialized "java/lang/System", Cond.fieldLink RX2 69 "ClapBank$Evening" "hushed" "I", Cond.fieldLink RX2 64 "ClapBank$Evening" "nights" "I", Cond.methodLink RX2 99 yX2_lives, Cond.instanceMethod yX2_lives, Cond.selects RX2 yX2_lives yX2_lives, Cond.initialized RX2, Cond.code yX2_lives cX2_lives 2 (some .boolean), Cond.fieldLink RX2 31 "ClapBank$Evening" "starved" "[I", Cond.methodLink RX2 117 yX2_hasActor, Cond.instanceMethod yX2_hasActor, Cond.selects RX2 yX2_hasActor yX2_hasActor, Cond.code yX2_hasActor cX2_hasActor 2 (some .boolean), Cond.methodLink RX2 166 yX2_dine, Cond.instanceMethod yX2_dine, Cond.selects RX2 yX2_dine yX2_dine, Cond.code yX2_dine cX2_dine 3 none, Cond.fieldLink RX2 28 "ClapBank$Evening" "saved" "[I"]
def wsX2_passNight_r2 : List Cond := [Cond.fieldLink RX2 60 "ClapBank$Evening" "chest" "I", Cond.methodLink RX2 146 yX2_price, Cond.instanceMethod yX2_price, Cond.selects RX2 yX2_price yX2_price, Cond.code yX2_price cX2_price 2 (some .int), Cond.methodLink RX2 143 yX2_priceBehind, Cond.instanceMethod yX2_priceBehind, Cond.selects RX2 yX2_priceBehind yX2_priceBehind, Cond.code yX2_priceBehind cX2_priceBehind 3 (some .int), Cond.fieldLink RX2 61 "ClapBank$Evening" "encores" "I", Cond.methodLink RX2 110 yX2_give, Cond.instanceMethod yX2_give, Cond.selects RX2 yX2_give yX2_give, Cond.code yX2_give cX2_give 3 none, Cond.methodLink RX2 170 yX2_grown, Cond.instanceMethod yX2_grown, Cond.selects RX2 yX2_grown yX2_grown, Cond.code yX2_grown cX2_grown 4 (some .int), Cond.constantLong RX2 158 (100), Cond.constantLong RX2 160 (1000000000), Cond.methodLink RX2 162 Lib.MathLoose.min_long.x, Cond.static Lib.MathLoose.min_long.x, Cond.initialized "java/lang/Math", Cond.code Lib.MathLoose.min_long.x Lib.MathLoose.min_long.code 4 (some .long)]
def wsX2_passNight : List Cond := .code yX2_passNight cX2_passNight 2 none :: ((wsX2_passNight_r1 ++ wsX2_passNight_r2) ++ wsX20 ++ wsX70)
def wsX2_need_r1 : List Cond := [Cond.fieldLink RX2 28 "ClapBank$Evening" "saved" "[I", Cond.methodLink RX2 150 Lib.Math.max.name, Cond.static Lib.Math.max.name, Cond.initialized "java/lang/Math", Cond.code Lib.Math.max.name Lib.Math.max.code 2 (some .int), Cond.methodLink RX2 99 yX2_lives, Cond.instanceMethod yX2_lives, Cond.selects RX2 yX2_lives yX2_lives, Cond.initialized RX2, Cond.code yX2_lives cX2_lives 2 (some .boolean), Cond.fieldLink RX2 31 "ClapBank$Evening" "starved" "[I", Cond.methodLink RX2 117 yX2_hasActor, Cond.instanceMethod yX2_hasActor, Cond.selects RX2 yX2_hasActor yX2_hasActor, Cond.code yX2_hasActor cX2_hasActor 2 (some .boolean), Cond.fieldLink RX2 12 "ClapBank$Evening" "house" "LClapBank$Theatre;", Cond.methodLink RX2 146 yX2_price, Cond.instanceMethod yX2_price, Cond.selects RX2 yX2_price yX2_price, Cond.code yX2_price cX2_price 2 (some .int), Cond.methodLink RX2 143 yX2_priceBehind, Cond.instanceMethod yX2_priceBehind, Cond.selects RX2 yX2_priceBehind yX2_priceBehind, Cond.code yX2_priceBehind cX2_priceBehind 3 (some .int)]
def wsX2_need_r2 : List Cond := [Cond.fieldLink RX2 61 "ClapBank$Evening" "encores" "I"]
def wsX2_need : List Cond := .code yX2_need cX2_need 2 (some .int) :: ((wsX2_need_r1 ++ wsX2_need_r2) ++ wsX20 ++ wsX70)
def wsX2_living : List Cond := .code yX2_living cX2_living 3 (some .int) :: ([.fieldLink RX2 12 "ClapBank$Evening" "house" "LClapBank$Theatre;", .methodLink RX2 99 yX2_lives, .instanceMethod yX2_lives, .selects RX2 yX2_lives yX2_lives, .initialized RX2, .code yX2_lives cX2_lives 2 (some .boolean), .fieldLink RX2 31 "ClapBank$Evening" "starved" "[I", .methodLink RX2 117 yX2_hasActor, .instanceMethod yX2_hasActor, .selects RX2 yX2_hasActor yX2_hasActor, .code yX2_hasActor cX2_hasActor 2 (some .boolean)] ++ wsX20 ++ wsX70)
def wsX2_allLeft : List Cond := .code yX2_allLeft cX2_allLeft 3 (some .int) :: ([.fieldLink RX2 12 "ClapBank$Evening" "house" "LClapBank$Theatre;", .fieldLink RX2 18 "ClapBank$Evening" "left" "[I"] ++ wsX20 ++ wsX70)
def wsX2_allNeeds_r1 : List Cond := [Cond.fieldLink RX2 12 "ClapBank$Evening" "house" "LClapBank$Theatre;", Cond.methodLink RX2 173 yX2_need, Cond.instanceMethod yX2_need, Cond.selects RX2 yX2_need yX2_need, Cond.initialized RX2, Cond.code yX2_need cX2_need 2 (some .int), Cond.fieldLink RX2 28 "ClapBank$Evening" "saved" "[I", Cond.methodLink RX2 150 Lib.Math.max.name, Cond.static Lib.Math.max.name, Cond.initialized "java/lang/Math", Cond.code Lib.Math.max.name Lib.Math.max.code 2 (some .int), Cond.methodLink RX2 99 yX2_lives, Cond.instanceMethod yX2_lives, Cond.selects RX2 yX2_lives yX2_lives, Cond.code yX2_lives cX2_lives 2 (some .boolean), Cond.fieldLink RX2 31 "ClapBank$Evening" "starved" "[I", Cond.methodLink RX2 117 yX2_hasActor, Cond.instanceMethod yX2_hasActor, Cond.selects RX2 yX2_hasActor yX2_hasActor, Cond.code yX2_hasActor cX2_hasActor 2 (some .boolean), Cond.methodLink RX2 146 yX2_price, Cond.instanceMethod yX2_price, Cond.selects RX2 yX2_price yX2_price, Cond.code yX2_price cX2_price 2 (some .int)]
def wsX2_allNeeds_r2 : List Cond := [Cond.methodLink RX2 143 yX2_priceBehind, Cond.instanceMethod yX2_priceBehind, Cond.selects RX2 yX2_priceBehind yX2_priceBehind, Cond.code yX2_priceBehind cX2_priceBehind 3 (some .int), Cond.fieldLink RX2 61 "ClapBank$Evening" "encores" "I"]
def wsX2_allNeeds : List Cond := .code yX2_allNeeds cX2_allNeeds 3 (some .int) :: ((wsX2_allNeeds_r1 ++ wsX2_allNeeds_r2) ++ wsX20 ++ wsX70)
def wsX2_allSaved : List Cond := .code yX2_allSaved cX2_allSaved 3 (some .int) :: ([.fieldLink RX2 12 "ClapBank$Evening" "house" "LClapBank$Theatre;", .fieldLink RX2 28 "ClapBank$Evening" "saved" "[I", .methodLink RX2 99 yX2_lives, .instanceMethod yX2_lives, .selects RX2 yX2_lives yX2_lives, .initialized RX2, .code yX2_lives cX2_lives 2 (some .boolean), .fieldLink RX2 31 "ClapBank$Evening" "starved" "[I", .methodLink RX2 117 yX2_hasActor, .instanceMethod yX2_hasActor, .selects RX2 yX2_hasActor yX2_hasActor, .code yX2_hasActor cX2_hasActor 2 (some .boolean)] ++ wsX20 ++ wsX70)
def wsX2_tell_r1 : List Cond := [Cond.fieldLink RX2 60 "ClapBank$Evening" "chest" "I", Cond.fieldLink RX2 61 "ClapBank$Evening" "encores" "I", Cond.fieldLink RX2 64 "ClapBank$Evening" "nights" "I", Cond.fieldLink RX2 69 "ClapBank$Evening" "hushed" "I", Cond.fieldLink RX2 67 "ClapBank$Evening" "claps" "I", Cond.methodLink RX2 176 yX2_living, Cond.instanceMethod yX2_living, Cond.selects RX2 yX2_living yX2_living, Cond.initialized RX2, Cond.code yX2_living cX2_living 3 (some .int), Cond.fieldLink RX2 12 "ClapBank$Evening" "house" "LClapBank$Theatre;", Cond.methodLink RX2 99 yX2_lives, Cond.instanceMethod yX2_lives, Cond.selects RX2 yX2_lives yX2_lives, Cond.code yX2_lives cX2_lives 2 (some .boolean), Cond.fieldLink RX2 31 "ClapBank$Evening" "starved" "[I", Cond.methodLink RX2 117 yX2_hasActor, Cond.instanceMethod yX2_hasActor, Cond.selects RX2 yX2_hasActor yX2_hasActor, Cond.code yX2_hasActor cX2_hasActor 2 (some .boolean), Cond.methodLink RX2 180 yX2_allSaved, Cond.instanceMethod yX2_allSaved, Cond.selects RX2 yX2_allSaved yX2_allSaved, Cond.code yX2_allSaved cX2_allSaved 3 (some .int)]
def wsX2_tell_r2 : List Cond := [Cond.fieldLink RX2 28 "ClapBank$Evening" "saved" "[I"]
def wsX2_tell : List Cond := .code yX2_tell cX2_tell 2 (some .int) :: ((wsX2_tell_r1 ++ wsX2_tell_r2) ++ wsX20 ++ wsX70)
def wsX2_tellPalm : List Cond := .code yX2_tellPalm cX2_tellPalm 3 (some .int) :: ([.fieldLink RX2 18 "ClapBank$Evening" "left" "[I", .fieldLink RX2 22 "ClapBank$Evening" "owes" "[I", .fieldLink RX2 25 "ClapBank$Evening" "got" "[I", .methodLink RX2 127 yX2_hasPalm, .instanceMethod yX2_hasPalm, .selects RX2 yX2_hasPalm yX2_hasPalm, .initialized RX2, .code yX2_hasPalm cX2_hasPalm 2 (some .boolean), .fieldLink RX2 12 "ClapBank$Evening" "house" "LClapBank$Theatre;", .methodLink RX2 117 yX2_hasActor, .instanceMethod yX2_hasActor, .selects RX2 yX2_hasActor yX2_hasActor, .code yX2_hasActor cX2_hasActor 2 (some .boolean)] ++ wsX20 ++ wsX70)
def wsX2_friday_r1 : List Cond := [Cond.methodLink RX2 99 yX2_lives, Cond.instanceMethod yX2_lives, Cond.selects RX2 yX2_lives yX2_lives, Cond.initialized RX2, Cond.code yX2_lives cX2_lives 2 (some .boolean), Cond.fieldLink RX2 31 "ClapBank$Evening" "starved" "[I", Cond.methodLink RX2 117 yX2_hasActor, Cond.instanceMethod yX2_hasActor, Cond.selects RX2 yX2_hasActor yX2_hasActor, Cond.code yX2_hasActor cX2_hasActor 2 (some .boolean), Cond.fieldLink RX2 12 "ClapBank$Evening" "house" "LClapBank$Theatre;", Cond.methodLink RX2 114 yX2_passNight, Cond.instanceMethod yX2_passNight, Cond.selects RX2 yX2_passNight yX2_passNight, Cond.code yX2_passNight cX2_passNight 2 none, Cond.fieldLink RX2 22 "ClapBank$Evening" "owes" "[I", Cond.fieldLink RX2 18 "ClapBank$Evening" "left" "[I", Cond.methodLink RX2 43 arraycopyName, Cond.native arraycopyName, Cond.static arraycopyName, Cond.initialized "java/lang/System", Cond.fieldLink RX2 69 "ClapBank$Evening" "hushed" "I", Cond.fieldLink RX2 64 "ClapBank$Evening" "nights" "I", Cond.methodLink RX2 166 yX2_dine]
def wsX2_friday_r2 : List Cond := [Cond.instanceMethod yX2_dine, Cond.selects RX2 yX2_dine yX2_dine, Cond.code yX2_dine cX2_dine 3 none, Cond.fieldLink RX2 28 "ClapBank$Evening" "saved" "[I", Cond.fieldLink RX2 60 "ClapBank$Evening" "chest" "I", Cond.methodLink RX2 146 yX2_price, Cond.instanceMethod yX2_price, Cond.selects RX2 yX2_price yX2_price, Cond.code yX2_price cX2_price 2 (some .int), Cond.methodLink RX2 143 yX2_priceBehind, Cond.instanceMethod yX2_priceBehind, Cond.selects RX2 yX2_priceBehind yX2_priceBehind, Cond.code yX2_priceBehind cX2_priceBehind 3 (some .int), Cond.fieldLink RX2 61 "ClapBank$Evening" "encores" "I", Cond.methodLink RX2 110 yX2_give, Cond.instanceMethod yX2_give, Cond.selects RX2 yX2_give yX2_give, Cond.code yX2_give cX2_give 3 none, Cond.methodLink RX2 170 yX2_grown, Cond.instanceMethod yX2_grown, Cond.selects RX2 yX2_grown yX2_grown, Cond.code yX2_grown cX2_grown 4 (some .int), Cond.constantLong RX2 158 (100), Cond.constantLong RX2 160 (1000000000)]
def wsX2_friday_r3 : List Cond := [Cond.methodLink RX2 162 Lib.MathLoose.min_long.x, Cond.static Lib.MathLoose.min_long.x, Cond.initialized "java/lang/Math", Cond.code Lib.MathLoose.min_long.x Lib.MathLoose.min_long.code 4 (some .long)]
def wsX2_friday : List Cond := .code yX2_friday cX2_friday 3 (some .int) :: ((wsX2_friday_r1 ++ (wsX2_friday_r2 ++ wsX2_friday_r3)) ++ wsX20 ++ wsX70)
def wsX2_star_r1 : List Cond := [Cond.fieldLink RX2 28 "ClapBank$Evening" "saved" "[I", Cond.methodLink RX2 99 yX2_lives, Cond.instanceMethod yX2_lives, Cond.selects RX2 yX2_lives yX2_lives, Cond.initialized RX2, Cond.code yX2_lives cX2_lives 2 (some .boolean), Cond.fieldLink RX2 31 "ClapBank$Evening" "starved" "[I", Cond.methodLink RX2 117 yX2_hasActor, Cond.instanceMethod yX2_hasActor, Cond.selects RX2 yX2_hasActor yX2_hasActor, Cond.code yX2_hasActor cX2_hasActor 2 (some .boolean), Cond.fieldLink RX2 12 "ClapBank$Evening" "house" "LClapBank$Theatre;", Cond.methodLink RX2 146 yX2_price, Cond.instanceMethod yX2_price, Cond.selects RX2 yX2_price yX2_price, Cond.code yX2_price cX2_price 2 (some .int), Cond.methodLink RX2 143 yX2_priceBehind, Cond.instanceMethod yX2_priceBehind, Cond.selects RX2 yX2_priceBehind yX2_priceBehind, Cond.code yX2_priceBehind cX2_priceBehind 3 (some .int), Cond.fieldLink RX2 61 "ClapBank$Evening" "encores" "I", Cond.methodLink RX2 170 yX2_grown, Cond.instanceMethod yX2_grown, Cond.selects RX2 yX2_grown yX2_grown]
def wsX2_star_r2 : List Cond := [Cond.code yX2_grown cX2_grown 4 (some .int), Cond.constantLong RX2 158 (100), Cond.constantLong RX2 160 (1000000000), Cond.methodLink RX2 162 Lib.MathLoose.min_long.x, Cond.static Lib.MathLoose.min_long.x, Cond.initialized "java/lang/Math", Cond.code Lib.MathLoose.min_long.x Lib.MathLoose.min_long.code 4 (some .long)]
def wsX2_star : List Cond := .code yX2_star cX2_star 5 (some .int) :: ((wsX2_star_r1 ++ wsX2_star_r2) ++ wsX20 ++ wsX70)
def wsX2_tellActor_r1 : List Cond := [Cond.fieldLink RX2 28 "ClapBank$Evening" "saved" "[I", Cond.fieldLink RX2 31 "ClapBank$Evening" "starved" "[I", Cond.fieldLink RX2 34 "ClapBank$Evening" "storms" "[I", Cond.methodLink RX2 99 yX2_lives, Cond.instanceMethod yX2_lives, Cond.selects RX2 yX2_lives yX2_lives, Cond.initialized RX2, Cond.code yX2_lives cX2_lives 2 (some .boolean), Cond.methodLink RX2 117 yX2_hasActor, Cond.instanceMethod yX2_hasActor, Cond.selects RX2 yX2_hasActor yX2_hasActor, Cond.code yX2_hasActor cX2_hasActor 2 (some .boolean), Cond.fieldLink RX2 12 "ClapBank$Evening" "house" "LClapBank$Theatre;", Cond.methodLink RX2 146 yX2_price, Cond.instanceMethod yX2_price, Cond.selects RX2 yX2_price yX2_price, Cond.code yX2_price cX2_price 2 (some .int), Cond.methodLink RX2 143 yX2_priceBehind, Cond.instanceMethod yX2_priceBehind, Cond.selects RX2 yX2_priceBehind yX2_priceBehind, Cond.code yX2_priceBehind cX2_priceBehind 3 (some .int), Cond.fieldLink RX2 61 "ClapBank$Evening" "encores" "I", Cond.methodLink RX2 173 yX2_need, Cond.instanceMethod yX2_need]
def wsX2_tellActor_r2 : List Cond := [Cond.selects RX2 yX2_need yX2_need, Cond.code yX2_need cX2_need 2 (some .int), Cond.methodLink RX2 150 Lib.Math.max.name, Cond.static Lib.Math.max.name, Cond.initialized "java/lang/Math", Cond.code Lib.Math.max.name Lib.Math.max.code 2 (some .int), Cond.methodLink RX2 183 yX2_friday, Cond.instanceMethod yX2_friday, Cond.selects RX2 yX2_friday yX2_friday, Cond.code yX2_friday cX2_friday 3 (some .int), Cond.methodLink RX2 114 yX2_passNight, Cond.instanceMethod yX2_passNight, Cond.selects RX2 yX2_passNight yX2_passNight, Cond.code yX2_passNight cX2_passNight 2 none, Cond.fieldLink RX2 22 "ClapBank$Evening" "owes" "[I", Cond.fieldLink RX2 18 "ClapBank$Evening" "left" "[I", Cond.methodLink RX2 43 arraycopyName, Cond.native arraycopyName, Cond.static arraycopyName, Cond.initialized "java/lang/System", Cond.fieldLink RX2 69 "ClapBank$Evening" "hushed" "I", Cond.fieldLink RX2 64 "ClapBank$Evening" "nights" "I", Cond.methodLink RX2 166 yX2_dine, Cond.instanceMethod yX2_dine]
def wsX2_tellActor_r3 : List Cond := [Cond.selects RX2 yX2_dine yX2_dine, Cond.code yX2_dine cX2_dine 3 none, Cond.fieldLink RX2 60 "ClapBank$Evening" "chest" "I", Cond.methodLink RX2 110 yX2_give, Cond.instanceMethod yX2_give, Cond.selects RX2 yX2_give yX2_give, Cond.code yX2_give cX2_give 3 none, Cond.methodLink RX2 170 yX2_grown, Cond.instanceMethod yX2_grown, Cond.selects RX2 yX2_grown yX2_grown, Cond.code yX2_grown cX2_grown 4 (some .int), Cond.constantLong RX2 158 (100), Cond.constantLong RX2 160 (1000000000), Cond.methodLink RX2 162 Lib.MathLoose.min_long.x, Cond.static Lib.MathLoose.min_long.x, Cond.code Lib.MathLoose.min_long.x Lib.MathLoose.min_long.code 4 (some .long), Cond.methodLink RX2 186 yX2_star, Cond.instanceMethod yX2_star, Cond.selects RX2 yX2_star yX2_star, Cond.code yX2_star cX2_star 5 (some .int)]
def wsX2_tellActor : List Cond := .code yX2_tellActor cX2_tellActor 3 (some .int) :: ((wsX2_tellActor_r1 ++ (wsX2_tellActor_r2 ++ wsX2_tellActor_r3)) ++ wsX20 ++ wsX70)
def wsX2_doomed : List Cond := .code yX2_doomed cX2_doomed 3 (some .int) :: ([.fieldLink RX2 12 "ClapBank$Evening" "house" "LClapBank$Theatre;", .fieldLink RX2 28 "ClapBank$Evening" "saved" "[I", .fieldLink RX2 60 "ClapBank$Evening" "chest" "I", .methodLink RX2 99 yX2_lives, .instanceMethod yX2_lives, .selects RX2 yX2_lives yX2_lives, .initialized RX2, .code yX2_lives cX2_lives 2 (some .boolean), .fieldLink RX2 31 "ClapBank$Evening" "starved" "[I", .methodLink RX2 117 yX2_hasActor, .instanceMethod yX2_hasActor, .selects RX2 yX2_hasActor yX2_hasActor, .code yX2_hasActor cX2_hasActor 2 (some .boolean), .methodLink RX2 146 yX2_price, .instanceMethod yX2_price, .selects RX2 yX2_price yX2_price, .code yX2_price cX2_price 2 (some .int), .methodLink RX2 143 yX2_priceBehind, .instanceMethod yX2_priceBehind, .selects RX2 yX2_priceBehind yX2_priceBehind, .code yX2_priceBehind cX2_priceBehind 3 (some .int), .fieldLink RX2 61 "ClapBank$Evening" "encores" "I"] ++ wsX20 ++ wsX70)
def wsX2_pricesOf : List Cond := .code yX2_pricesOf cX2_pricesOf 4 (some .int) :: ([.fieldLink RX2 12 "ClapBank$Evening" "house" "LClapBank$Theatre;", .methodLink RX2 146 yX2_price, .instanceMethod yX2_price, .selects RX2 yX2_price yX2_price, .initialized RX2, .code yX2_price cX2_price 2 (some .int), .methodLink RX2 143 yX2_priceBehind, .instanceMethod yX2_priceBehind, .selects RX2 yX2_priceBehind yX2_priceBehind, .code yX2_priceBehind cX2_priceBehind 3 (some .int), .fieldLink RX2 61 "ClapBank$Evening" "encores" "I"] ++ wsX20 ++ wsX70)
def wsX2_dearerThan : List Cond := .code yX2_dearerThan cX2_dearerThan 4 (some .int) :: ([.fieldLink RX2 12 "ClapBank$Evening" "house" "LClapBank$Theatre;", .methodLink RX2 146 yX2_price, .instanceMethod yX2_price, .selects RX2 yX2_price yX2_price, .initialized RX2, .code yX2_price cX2_price 2 (some .int), .methodLink RX2 143 yX2_priceBehind, .instanceMethod yX2_priceBehind, .selects RX2 yX2_priceBehind yX2_priceBehind, .code yX2_priceBehind cX2_priceBehind 3 (some .int), .fieldLink RX2 61 "ClapBank$Evening" "encores" "I"] ++ wsX20 ++ wsX70)
def wsX2_danger_r1 : List Cond := [Cond.fieldLink RX2 60 "ClapBank$Evening" "chest" "I", Cond.methodLink RX2 189 yX2_doomed, Cond.instanceMethod yX2_doomed, Cond.selects RX2 yX2_doomed yX2_doomed, Cond.initialized RX2, Cond.code yX2_doomed cX2_doomed 3 (some .int), Cond.fieldLink RX2 12 "ClapBank$Evening" "house" "LClapBank$Theatre;", Cond.fieldLink RX2 28 "ClapBank$Evening" "saved" "[I", Cond.methodLink RX2 99 yX2_lives, Cond.instanceMethod yX2_lives, Cond.selects RX2 yX2_lives yX2_lives, Cond.code yX2_lives cX2_lives 2 (some .boolean), Cond.fieldLink RX2 31 "ClapBank$Evening" "starved" "[I", Cond.methodLink RX2 117 yX2_hasActor, Cond.instanceMethod yX2_hasActor, Cond.selects RX2 yX2_hasActor yX2_hasActor, Cond.code yX2_hasActor cX2_hasActor 2 (some .boolean), Cond.methodLink RX2 146 yX2_price, Cond.instanceMethod yX2_price, Cond.selects RX2 yX2_price yX2_price, Cond.code yX2_price cX2_price 2 (some .int), Cond.methodLink RX2 143 yX2_priceBehind, Cond.instanceMethod yX2_priceBehind, Cond.selects RX2 yX2_priceBehind yX2_priceBehind]
def wsX2_danger_r2 : List Cond := [Cond.code yX2_priceBehind cX2_priceBehind 3 (some .int), Cond.fieldLink RX2 61 "ClapBank$Evening" "encores" "I", Cond.methodLink RX2 176 yX2_living, Cond.instanceMethod yX2_living, Cond.selects RX2 yX2_living yX2_living, Cond.code yX2_living cX2_living 3 (some .int), Cond.methodLink RX2 192 yX2_pricesOf, Cond.instanceMethod yX2_pricesOf, Cond.selects RX2 yX2_pricesOf yX2_pricesOf, Cond.code yX2_pricesOf cX2_pricesOf 4 (some .int), Cond.methodLink RX2 195 yX2_dearerThan, Cond.instanceMethod yX2_dearerThan, Cond.selects RX2 yX2_dearerThan yX2_dearerThan, Cond.code yX2_dearerThan cX2_dearerThan 4 (some .int)]
def wsX2_danger : List Cond := .code yX2_danger cX2_danger 5 (some .int) :: ((wsX2_danger_r1 ++ wsX2_danger_r2) ++ wsX20 ++ wsX70)
def wsX2_loan : List Cond := .code yX2_loan cX2_loan 6 (some .int) :: ([.fieldLink RX2 12 "ClapBank$Evening" "house" "LClapBank$Theatre;", .fieldLink RX2 22 "ClapBank$Evening" "owes" "[I"] ++ wsX20 ++ wsX70)
def wsX2_idol : List Cond := .code yX2_idol cX2_idol 6 (some .int) :: ([.fieldLink RX2 12 "ClapBank$Evening" "house" "LClapBank$Theatre;", .fieldLink RX2 25 "ClapBank$Evening" "got" "[I"] ++ wsX20 ++ wsX70)
def wsX2_eatsWith : List Cond := .code yX2_eatsWith cX2_eatsWith 5 (some .boolean) :: ([.fieldLink RX2 60 "ClapBank$Evening" "chest" "I", .fieldLink RX2 28 "ClapBank$Evening" "saved" "[I", .methodLink RX2 99 yX2_lives, .instanceMethod yX2_lives, .selects RX2 yX2_lives yX2_lives, .initialized RX2, .code yX2_lives cX2_lives 2 (some .boolean), .fieldLink RX2 31 "ClapBank$Evening" "starved" "[I", .methodLink RX2 117 yX2_hasActor, .instanceMethod yX2_hasActor, .selects RX2 yX2_hasActor yX2_hasActor, .code yX2_hasActor cX2_hasActor 2 (some .boolean), .fieldLink RX2 12 "ClapBank$Evening" "house" "LClapBank$Theatre;", .methodLink RX2 146 yX2_price, .instanceMethod yX2_price, .selects RX2 yX2_price yX2_price, .code yX2_price cX2_price 2 (some .int), .methodLink RX2 143 yX2_priceBehind, .instanceMethod yX2_priceBehind, .selects RX2 yX2_priceBehind yX2_priceBehind, .code yX2_priceBehind cX2_priceBehind 3 (some .int), .fieldLink RX2 61 "ClapBank$Evening" "encores" "I"] ++ wsX20 ++ wsX70)
def wsX2_tip_r1 : List Cond := [Cond.methodLink RX2 99 yX2_lives, Cond.instanceMethod yX2_lives, Cond.selects RX2 yX2_lives yX2_lives, Cond.initialized RX2, Cond.code yX2_lives cX2_lives 2 (some .boolean), Cond.fieldLink RX2 31 "ClapBank$Evening" "starved" "[I", Cond.methodLink RX2 117 yX2_hasActor, Cond.instanceMethod yX2_hasActor, Cond.selects RX2 yX2_hasActor yX2_hasActor, Cond.code yX2_hasActor cX2_hasActor 2 (some .boolean), Cond.fieldLink RX2 12 "ClapBank$Evening" "house" "LClapBank$Theatre;", Cond.methodLink RX2 198 yX2_eatsWith, Cond.instanceMethod yX2_eatsWith, Cond.selects RX2 yX2_eatsWith yX2_eatsWith, Cond.code yX2_eatsWith cX2_eatsWith 5 (some .boolean), Cond.fieldLink RX2 60 "ClapBank$Evening" "chest" "I", Cond.fieldLink RX2 28 "ClapBank$Evening" "saved" "[I", Cond.methodLink RX2 146 yX2_price, Cond.instanceMethod yX2_price, Cond.selects RX2 yX2_price yX2_price, Cond.code yX2_price cX2_price 2 (some .int), Cond.methodLink RX2 143 yX2_priceBehind, Cond.instanceMethod yX2_priceBehind, Cond.selects RX2 yX2_priceBehind yX2_priceBehind]
def wsX2_tip_r2 : List Cond := [Cond.code yX2_priceBehind cX2_priceBehind 3 (some .int), Cond.fieldLink RX2 61 "ClapBank$Evening" "encores" "I"]
def wsX2_tip : List Cond := .code yX2_tip cX2_tip 3 (some .int) :: ((wsX2_tip_r1 ++ wsX2_tip_r2) ++ wsX20 ++ wsX70)
def wsX2_dear : List Cond := .code yX2_dear cX2_dear 3 (some .int) :: ([.fieldLink RX2 28 "ClapBank$Evening" "saved" "[I", .methodLink RX2 99 yX2_lives, .instanceMethod yX2_lives, .selects RX2 yX2_lives yX2_lives, .initialized RX2, .code yX2_lives cX2_lives 2 (some .boolean), .fieldLink RX2 31 "ClapBank$Evening" "starved" "[I", .methodLink RX2 117 yX2_hasActor, .instanceMethod yX2_hasActor, .selects RX2 yX2_hasActor yX2_hasActor, .code yX2_hasActor cX2_hasActor 2 (some .boolean), .fieldLink RX2 12 "ClapBank$Evening" "house" "LClapBank$Theatre;", .methodLink RX2 143 yX2_priceBehind, .instanceMethod yX2_priceBehind, .selects RX2 yX2_priceBehind yX2_priceBehind, .code yX2_priceBehind cX2_priceBehind 3 (some .int), .fieldLink RX2 61 "ClapBank$Evening" "encores" "I"] ++ wsX20 ++ wsX70)
theorem dX2_hasPalm_0 : decode cX2_hasPalm 0 = .ok (.iload_n 1, 1) := by decide +kernel
theorem dX2_hasPalm_1 : decode cX2_hasPalm 1 = .ok (.ifCond .lt 18, 3) := by decide +kernel
theorem dX2_hasPalm_4 : decode cX2_hasPalm 4 = .ok (.iload_n 1, 1) := by decide +kernel
theorem dX2_hasPalm_5 : decode cX2_hasPalm 5 = .ok (.aload_n 0, 1) := by decide +kernel
theorem dX2_hasPalm_6 : decode cX2_hasPalm 6 = .ok (.getfield 12, 3) := by decide +kernel
theorem dX2_hasPalm_9 : decode cX2_hasPalm 9 = .ok (.getfield 103, 3) := by decide +kernel
theorem dX2_hasPalm_12 : decode cX2_hasPalm 12 = .ok (.if_icmp .ge 7, 3) := by decide +kernel
theorem dX2_hasPalm_15 : decode cX2_hasPalm 15 = .ok (.iconst 1, 1) := by decide +kernel
theorem dX2_hasPalm_16 : decode cX2_hasPalm 16 = .ok (.goto 4, 3) := by decide +kernel
theorem dX2_hasPalm_19 : decode cX2_hasPalm 19 = .ok (.iconst 0, 1) := by decide +kernel
theorem dX2_hasPalm_20 : decode cX2_hasPalm 20 = .ok (.ireturn, 1) := by decide +kernel
theorem dX2_hasActor_0 : decode cX2_hasActor 0 = .ok (.iload_n 1, 1) := by decide +kernel
theorem dX2_hasActor_1 : decode cX2_hasActor 1 = .ok (.ifCond .lt 18, 3) := by decide +kernel
theorem dX2_hasActor_4 : decode cX2_hasActor 4 = .ok (.iload_n 1, 1) := by decide +kernel
theorem dX2_hasActor_5 : decode cX2_hasActor 5 = .ok (.aload_n 0, 1) := by decide +kernel
theorem dX2_hasActor_6 : decode cX2_hasActor 6 = .ok (.getfield 12, 3) := by decide +kernel
theorem dX2_hasActor_9 : decode cX2_hasActor 9 = .ok (.getfield 96, 3) := by decide +kernel
theorem dX2_hasActor_12 : decode cX2_hasActor 12 = .ok (.if_icmp .ge 7, 3) := by decide +kernel
theorem dX2_hasActor_15 : decode cX2_hasActor 15 = .ok (.iconst 1, 1) := by decide +kernel
theorem dX2_hasActor_16 : decode cX2_hasActor 16 = .ok (.goto 4, 3) := by decide +kernel
theorem dX2_hasActor_19 : decode cX2_hasActor 19 = .ok (.iconst 0, 1) := by decide +kernel
theorem dX2_hasActor_20 : decode cX2_hasActor 20 = .ok (.ireturn, 1) := by decide +kernel
set_option maxRecDepth 20000 in
theorem ggX2_lives_X2_hasActor : GoodIn wsX2_lives wsX2_hasActor := goodIn_r _ [6, 7, 8, 9, 10, 11, 12, 13, 14, 15, 16, 17, 18, 19, 20, 21, 22, 23, 24, 25, 26, 27, 28, 29, 30, 31, 32, 33] (by decide +kernel) (by decide +kernel)
set_option maxRecDepth 20000 in
theorem gX2_lives_X2_hasActor : GoodIn wsX2_lives (wsV RX2 117 RX2 yX2_hasActor wsX2_hasActor) := goodIn_app (goodIn_of _ (by decide +kernel)) ggX2_lives_X2_hasActor
theorem dX2_lives_0 : decode cX2_lives 0 = .ok (.aload_n 0, 1) := by decide +kernel
theorem dX2_lives_1 : decode cX2_lives 1 = .ok (.iload_n 1, 1) := by decide +kernel
theorem dX2_lives_2 : decode cX2_lives 2 = .ok (.invokevirtual 117, 3) := by decide +kernel
theorem dX2_lives_5 : decode cX2_lives 5 = .ok (.ifCond .eq 17, 3) := by decide +kernel
theorem dX2_lives_8 : decode cX2_lives 8 = .ok (.aload_n 0, 1) := by decide +kernel
theorem dX2_lives_9 : decode cX2_lives 9 = .ok (.getfield 31, 3) := by decide +kernel
theorem dX2_lives_12 : decode cX2_lives 12 = .ok (.iload_n 1, 1) := by decide +kernel
theorem dX2_lives_13 : decode cX2_lives 13 = .ok (.iaload, 1) := by decide +kernel
theorem dX2_lives_14 : decode cX2_lives 14 = .ok (.iconst (-1), 1) := by decide +kernel
theorem dX2_lives_15 : decode cX2_lives 15 = .ok (.if_icmp .ne 7, 3) := by decide +kernel
theorem dX2_lives_18 : decode cX2_lives 18 = .ok (.iconst 1, 1) := by decide +kernel
theorem dX2_lives_19 : decode cX2_lives 19 = .ok (.goto 4, 3) := by decide +kernel
theorem dX2_lives_22 : decode cX2_lives 22 = .ok (.iconst 0, 1) := by decide +kernel
theorem dX2_lives_23 : decode cX2_lives 23 = .ok (.ireturn, 1) := by decide +kernel
theorem dX2_isHushed_0 : decode cX2_isHushed 0 = .ok (.aload_n 0, 1) := by decide +kernel
theorem dX2_isHushed_1 : decode cX2_isHushed 1 = .ok (.getfield 69, 3) := by decide +kernel
theorem dX2_isHushed_4 : decode cX2_isHushed 4 = .ok (.iload_n 1, 1) := by decide +kernel
theorem dX2_isHushed_5 : decode cX2_isHushed 5 = .ok (.ishr, 1) := by decide +kernel
theorem dX2_isHushed_6 : decode cX2_isHushed 6 = .ok (.iconst 1, 1) := by decide +kernel
theorem dX2_isHushed_7 : decode cX2_isHushed 7 = .ok (.iand, 1) := by decide +kernel
theorem dX2_isHushed_8 : decode cX2_isHushed 8 = .ok (.ifCond .eq 7, 3) := by decide +kernel
theorem dX2_isHushed_11 : decode cX2_isHushed 11 = .ok (.iconst 1, 1) := by decide +kernel
theorem dX2_isHushed_12 : decode cX2_isHushed 12 = .ok (.goto 4, 3) := by decide +kernel
theorem dX2_isHushed_15 : decode cX2_isHushed 15 = .ok (.iconst 0, 1) := by decide +kernel
theorem dX2_isHushed_16 : decode cX2_isHushed 16 = .ok (.ireturn, 1) := by decide +kernel
set_option maxRecDepth 20000 in
theorem ggX2_canGive_X2_hasPalm : GoodIn wsX2_canGive wsX2_hasPalm := goodIn_r _ [6, 7, 13, 14, 15, 16, 17, 18, 19, 20, 21, 22, 23, 24, 25, 26, 27, 28, 29, 30, 31, 32, 33, 34, 35, 36, 37, 38] (by decide +kernel) (by decide +kernel)
set_option maxRecDepth 20000 in
theorem gX2_canGive_X2_hasPalm : GoodIn wsX2_canGive (wsV RX2 127 RX2 yX2_hasPalm wsX2_hasPalm) := goodIn_app (goodIn_of _ (by decide +kernel)) ggX2_canGive_X2_hasPalm
set_option maxRecDepth 20000 in
theorem ggX2_canGive_X2_isHushed : GoodIn wsX2_canGive wsX2_isHushed := goodIn_r _ [11, 12, 13, 14, 15, 16, 17, 18, 19, 20, 21, 22, 23, 24, 25, 26] (by decide +kernel) (by decide +kernel)
set_option maxRecDepth 20000 in
theorem gX2_canGive_X2_isHushed : GoodIn wsX2_canGive (wsV RX2 130 RX2 yX2_isHushed wsX2_isHushed) := goodIn_app (goodIn_of _ (by decide +kernel)) ggX2_canGive_X2_isHushed
theorem dX2_canGive_0 : decode cX2_canGive 0 = .ok (.aload_n 0, 1) := by decide +kernel
theorem dX2_canGive_1 : decode cX2_canGive 1 = .ok (.iload_n 1, 1) := by decide +kernel
theorem dX2_canGive_2 : decode cX2_canGive 2 = .ok (.invokevirtual 127, 3) := by decide +kernel
theorem dX2_canGive_5 : decode cX2_canGive 5 = .ok (.ifCond .eq 25, 3) := by decide +kernel
theorem dX2_canGive_8 : decode cX2_canGive 8 = .ok (.aload_n 0, 1) := by decide +kernel
theorem dX2_canGive_9 : decode cX2_canGive 9 = .ok (.iload_n 1, 1) := by decide +kernel
theorem dX2_canGive_10 : decode cX2_canGive 10 = .ok (.invokevirtual 130, 3) := by decide +kernel
theorem dX2_canGive_13 : decode cX2_canGive 13 = .ok (.ifCond .ne 17, 3) := by decide +kernel
theorem dX2_canGive_16 : decode cX2_canGive 16 = .ok (.aload_n 0, 1) := by decide +kernel
theorem dX2_canGive_17 : decode cX2_canGive 17 = .ok (.getfield 18, 3) := by decide +kernel
theorem dX2_canGive_20 : decode cX2_canGive 20 = .ok (.iload_n 1, 1) := by decide +kernel
theorem dX2_canGive_21 : decode cX2_canGive 21 = .ok (.iaload, 1) := by decide +kernel
theorem dX2_canGive_22 : decode cX2_canGive 22 = .ok (.iload_n 2, 1) := by decide +kernel
theorem dX2_canGive_23 : decode cX2_canGive 23 = .ok (.if_icmp .lt 7, 3) := by decide +kernel
theorem dX2_canGive_26 : decode cX2_canGive 26 = .ok (.iconst 1, 1) := by decide +kernel
theorem dX2_canGive_27 : decode cX2_canGive 27 = .ok (.goto 4, 3) := by decide +kernel
theorem dX2_canGive_30 : decode cX2_canGive 30 = .ok (.iconst 0, 1) := by decide +kernel
theorem dX2_canGive_31 : decode cX2_canGive 31 = .ok (.ireturn, 1) := by decide +kernel
set_option maxRecDepth 20000 in
theorem ggX2_clapFor_X2_give : GoodIn wsX2_clapFor wsX2_give := goodIn_r _ [10, 11, 12, 13, 14, 15, 16, 17, 18, 19, 20, 21, 22, 23, 24, 25, 26] (by decide +kernel) (by decide +kernel)
set_option maxRecDepth 20000 in
theorem gX2_clapFor_X2_give : GoodIn wsX2_clapFor (wsV RX2 110 RX2 yX2_give wsX2_give) := goodIn_app (goodIn_of _ (by decide +kernel)) ggX2_clapFor_X2_give
theorem dX2_clapFor_0 : decode cX2_clapFor 0 = .ok (.iload_n 3, 1) := by decide +kernel
theorem dX2_clapFor_1 : decode cX2_clapFor 1 = .ok (.aload_n 0, 1) := by decide +kernel
theorem dX2_clapFor_2 : decode cX2_clapFor 2 = .ok (.getfield 12, 3) := by decide +kernel
theorem dX2_clapFor_5 : decode cX2_clapFor 5 = .ok (.getfield 107, 3) := by decide +kernel
theorem dX2_clapFor_8 : decode cX2_clapFor 8 = .ok (.iload_n 1, 1) := by decide +kernel
theorem dX2_clapFor_9 : decode cX2_clapFor 9 = .ok (.iaload, 1) := by decide +kernel
theorem dX2_clapFor_10 : decode cX2_clapFor 10 = .ok (.imul, 1) := by decide +kernel
theorem dX2_clapFor_11 : decode cX2_clapFor 11 = .ok (.istore 4, 2) := by decide +kernel
theorem dX2_clapFor_13 : decode cX2_clapFor 13 = .ok (.aload_n 0, 1) := by decide +kernel
theorem dX2_clapFor_14 : decode cX2_clapFor 14 = .ok (.getfield 72, 3) := by decide +kernel
theorem dX2_clapFor_17 : decode cX2_clapFor 17 = .ok (.iload_n 2, 1) := by decide +kernel
theorem dX2_clapFor_18 : decode cX2_clapFor 18 = .ok (.if_icmp .ne 9, 3) := by decide +kernel
theorem dX2_clapFor_21 : decode cX2_clapFor 21 = .ok (.iload 4, 2) := by decide +kernel
theorem dX2_clapFor_23 : decode cX2_clapFor 23 = .ok (.iconst 2, 1) := by decide +kernel
theorem dX2_clapFor_24 : decode cX2_clapFor 24 = .ok (.imul, 1) := by decide +kernel
theorem dX2_clapFor_25 : decode cX2_clapFor 25 = .ok (.istore 4, 2) := by decide +kernel
theorem dX2_clapFor_27 : decode cX2_clapFor 27 = .ok (.aload_n 0, 1) := by decide +kernel
theorem dX2_clapFor_28 : decode cX2_clapFor 28 = .ok (.getfield 18, 3) := by decide +kernel
theorem dX2_clapFor_31 : decode cX2_clapFor 31 = .ok (.iload_n 1, 1) := by decide +kernel
theorem dX2_clapFor_32 : decode cX2_clapFor 32 = .ok (.dup2, 1) := by decide +kernel
theorem dX2_clapFor_33 : decode cX2_clapFor 33 = .ok (.iaload, 1) := by decide +kernel
theorem dX2_clapFor_34 : decode cX2_clapFor 34 = .ok (.iload_n 3, 1) := by decide +kernel
theorem dX2_clapFor_35 : decode cX2_clapFor 35 = .ok (.isub, 1) := by decide +kernel
theorem dX2_clapFor_36 : decode cX2_clapFor 36 = .ok (.iastore, 1) := by decide +kernel
theorem dX2_clapFor_37 : decode cX2_clapFor 37 = .ok (.aload_n 0, 1) := by decide +kernel
theorem dX2_clapFor_38 : decode cX2_clapFor 38 = .ok (.dup, 1) := by decide +kernel
theorem dX2_clapFor_39 : decode cX2_clapFor 39 = .ok (.getfield 67, 3) := by decide +kernel
theorem dX2_clapFor_42 : decode cX2_clapFor 42 = .ok (.iload_n 3, 1) := by decide +kernel
theorem dX2_clapFor_43 : decode cX2_clapFor 43 = .ok (.iadd, 1) := by decide +kernel
theorem dX2_clapFor_44 : decode cX2_clapFor 44 = .ok (.putfield 67, 3) := by decide +kernel
theorem dX2_clapFor_47 : decode cX2_clapFor 47 = .ok (.aload_n 0, 1) := by decide +kernel
theorem dX2_clapFor_48 : decode cX2_clapFor 48 = .ok (.getfield 25, 3) := by decide +kernel
theorem dX2_clapFor_51 : decode cX2_clapFor 51 = .ok (.iload_n 1, 1) := by decide +kernel
theorem dX2_clapFor_52 : decode cX2_clapFor 52 = .ok (.bipush 6, 2) := by decide +kernel
theorem dX2_clapFor_54 : decode cX2_clapFor 54 = .ok (.imul, 1) := by decide +kernel
theorem dX2_clapFor_55 : decode cX2_clapFor 55 = .ok (.iload_n 2, 1) := by decide +kernel
theorem dX2_clapFor_56 : decode cX2_clapFor 56 = .ok (.iadd, 1) := by decide +kernel
theorem dX2_clapFor_57 : decode cX2_clapFor 57 = .ok (.dup2, 1) := by decide +kernel
theorem dX2_clapFor_58 : decode cX2_clapFor 58 = .ok (.iaload, 1) := by decide +kernel
theorem dX2_clapFor_59 : decode cX2_clapFor 59 = .ok (.iload 4, 2) := by decide +kernel
theorem dX2_clapFor_61 : decode cX2_clapFor 61 = .ok (.iadd, 1) := by decide +kernel
theorem dX2_clapFor_62 : decode cX2_clapFor 62 = .ok (.iastore, 1) := by decide +kernel
theorem dX2_clapFor_63 : decode cX2_clapFor 63 = .ok (.aload_n 0, 1) := by decide +kernel
theorem dX2_clapFor_64 : decode cX2_clapFor 64 = .ok (.iload_n 2, 1) := by decide +kernel
theorem dX2_clapFor_65 : decode cX2_clapFor 65 = .ok (.iload 4, 2) := by decide +kernel
theorem dX2_clapFor_67 : decode cX2_clapFor 67 = .ok (.invokevirtual 110, 3) := by decide +kernel
theorem dX2_clapFor_70 : decode cX2_clapFor 70 = .ok (.return_, 1) := by decide +kernel
theorem dX2_move_0 : decode cX2_move 0 = .ok (.aload_n 0, 1) := by decide +kernel
theorem dX2_move_1 : decode cX2_move 1 = .ok (.getfield 18, 3) := by decide +kernel
theorem dX2_move_4 : decode cX2_move 4 = .ok (.iload_n 1, 1) := by decide +kernel
theorem dX2_move_5 : decode cX2_move 5 = .ok (.dup2, 1) := by decide +kernel
theorem dX2_move_6 : decode cX2_move 6 = .ok (.iaload, 1) := by decide +kernel
theorem dX2_move_7 : decode cX2_move 7 = .ok (.iload_n 3, 1) := by decide +kernel
theorem dX2_move_8 : decode cX2_move 8 = .ok (.isub, 1) := by decide +kernel
theorem dX2_move_9 : decode cX2_move 9 = .ok (.iastore, 1) := by decide +kernel
theorem dX2_move_10 : decode cX2_move 10 = .ok (.aload_n 0, 1) := by decide +kernel
theorem dX2_move_11 : decode cX2_move 11 = .ok (.getfield 18, 3) := by decide +kernel
theorem dX2_move_14 : decode cX2_move 14 = .ok (.iload_n 2, 1) := by decide +kernel
theorem dX2_move_15 : decode cX2_move 15 = .ok (.dup2, 1) := by decide +kernel
theorem dX2_move_16 : decode cX2_move 16 = .ok (.iaload, 1) := by decide +kernel
theorem dX2_move_17 : decode cX2_move 17 = .ok (.iload_n 3, 1) := by decide +kernel
theorem dX2_move_18 : decode cX2_move 18 = .ok (.iadd, 1) := by decide +kernel
theorem dX2_move_19 : decode cX2_move 19 = .ok (.iastore, 1) := by decide +kernel
theorem dX2_move_20 : decode cX2_move 20 = .ok (.return_, 1) := by decide +kernel
theorem dX2_give_0 : decode cX2_give 0 = .ok (.aload_n 0, 1) := by decide +kernel
theorem dX2_give_1 : decode cX2_give 1 = .ok (.getfield 28, 3) := by decide +kernel
theorem dX2_give_4 : decode cX2_give 4 = .ok (.iload_n 1, 1) := by decide +kernel
theorem dX2_give_5 : decode cX2_give 5 = .ok (.dup2, 1) := by decide +kernel
theorem dX2_give_6 : decode cX2_give 6 = .ok (.iaload, 1) := by decide +kernel
theorem dX2_give_7 : decode cX2_give 7 = .ok (.iload_n 2, 1) := by decide +kernel
theorem dX2_give_8 : decode cX2_give 8 = .ok (.iadd, 1) := by decide +kernel
theorem dX2_give_9 : decode cX2_give 9 = .ok (.iastore, 1) := by decide +kernel
theorem dX2_give_10 : decode cX2_give 10 = .ok (.aload_n 0, 1) := by decide +kernel
theorem dX2_give_11 : decode cX2_give 11 = .ok (.dup, 1) := by decide +kernel
theorem dX2_give_12 : decode cX2_give 12 = .ok (.getfield 60, 3) := by decide +kernel
theorem dX2_give_15 : decode cX2_give 15 = .ok (.iload_n 2, 1) := by decide +kernel
theorem dX2_give_16 : decode cX2_give 16 = .ok (.iadd, 1) := by decide +kernel
theorem dX2_give_17 : decode cX2_give 17 = .ok (.putfield 60, 3) := by decide +kernel
theorem dX2_give_20 : decode cX2_give 20 = .ok (.return_, 1) := by decide +kernel
theorem dX2_priceBehind_0 : decode cX2_priceBehind 0 = .ok (.aload_n 0, 1) := by decide +kernel
theorem dX2_priceBehind_1 : decode cX2_priceBehind 1 = .ok (.getfield 12, 3) := by decide +kernel
theorem dX2_priceBehind_4 : decode cX2_priceBehind 4 = .ok (.getfield 140, 3) := by decide +kernel
theorem dX2_priceBehind_7 : decode cX2_priceBehind 7 = .ok (.iload_n 1, 1) := by decide +kernel
theorem dX2_priceBehind_8 : decode cX2_priceBehind 8 = .ok (.iaload, 1) := by decide +kernel
theorem dX2_priceBehind_9 : decode cX2_priceBehind 9 = .ok (.aload_n 0, 1) := by decide +kernel
theorem dX2_priceBehind_10 : decode cX2_priceBehind 10 = .ok (.getfield 12, 3) := by decide +kernel
theorem dX2_priceBehind_13 : decode cX2_priceBehind 13 = .ok (.getfield 140, 3) := by decide +kernel
theorem dX2_priceBehind_16 : decode cX2_priceBehind 16 = .ok (.iload_n 1, 1) := by decide +kernel
theorem dX2_priceBehind_17 : decode cX2_priceBehind 17 = .ok (.iaload, 1) := by decide +kernel
theorem dX2_priceBehind_18 : decode cX2_priceBehind 18 = .ok (.aload_n 0, 1) := by decide +kernel
theorem dX2_priceBehind_19 : decode cX2_priceBehind 19 = .ok (.getfield 61, 3) := by decide +kernel
theorem dX2_priceBehind_22 : decode cX2_priceBehind 22 = .ok (.iload_n 2, 1) := by decide +kernel
theorem dX2_priceBehind_23 : decode cX2_priceBehind 23 = .ok (.iadd, 1) := by decide +kernel
theorem dX2_priceBehind_24 : decode cX2_priceBehind 24 = .ok (.imul, 1) := by decide +kernel
theorem dX2_priceBehind_25 : decode cX2_priceBehind 25 = .ok (.bipush 10, 2) := by decide +kernel
theorem dX2_priceBehind_27 : decode cX2_priceBehind 27 = .ok (.idiv, 1) := by decide +kernel
theorem dX2_priceBehind_28 : decode cX2_priceBehind 28 = .ok (.iadd, 1) := by decide +kernel
theorem dX2_priceBehind_29 : decode cX2_priceBehind 29 = .ok (.ireturn, 1) := by decide +kernel
set_option maxRecDepth 20000 in
theorem ggX2_price_X2_priceBehind : GoodIn wsX2_price wsX2_priceBehind := goodIn_r _ [5, 6, 7, 8, 9, 10, 11, 12, 13, 14, 15, 16, 17, 18, 19, 20, 21, 22, 23, 24, 25, 26, 27, 28, 29, 30, 31, 32, 33] (by decide +kernel) (by decide +kernel)
set_option maxRecDepth 20000 in
theorem gX2_price_X2_priceBehind : GoodIn wsX2_price (wsV RX2 143 RX2 yX2_priceBehind wsX2_priceBehind) := goodIn_app (goodIn_of _ (by decide +kernel)) ggX2_price_X2_priceBehind
theorem dX2_price_0 : decode cX2_price 0 = .ok (.aload_n 0, 1) := by decide +kernel
theorem dX2_price_1 : decode cX2_price 1 = .ok (.iload_n 1, 1) := by decide +kernel
theorem dX2_price_2 : decode cX2_price 2 = .ok (.iconst 0, 1) := by decide +kernel
theorem dX2_price_3 : decode cX2_price 3 = .ok (.invokevirtual 143, 3) := by decide +kernel
theorem dX2_price_6 : decode cX2_price 6 = .ok (.ireturn, 1) := by decide +kernel
set_option maxRecDepth 20000 in
theorem ggX2_need_X2_lives : GoodIn wsX2_need wsX2_lives := goodIn_r _ [10, 11, 12, 13, 14, 9, 15, 16, 26, 27, 28, 29, 30, 31, 32, 33, 34, 35, 36, 37, 38, 39, 40, 41, 42, 43, 44, 45, 46, 47, 48, 49, 50, 51] (by decide +kernel) (by decide +kernel)
set_option maxRecDepth 20000 in
theorem gX2_need_X2_lives : GoodIn wsX2_need (wsV RX2 99 RX2 yX2_lives wsX2_lives) := goodIn_app (goodIn_of _ (by decide +kernel)) ggX2_need_X2_lives
set_option maxRecDepth 20000 in
theorem ggX2_need_X2_price : GoodIn wsX2_need wsX2_price := goodIn_r _ [20, 21, 22, 23, 9, 24, 16, 25, 26, 27, 28, 29, 30, 31, 32, 33, 34, 35, 36, 37, 38, 39, 40, 41, 42, 43, 44, 45, 46, 47, 48, 49, 50, 51] (by decide +kernel) (by decide +kernel)
set_option maxRecDepth 20000 in
theorem gX2_need_X2_price : GoodIn wsX2_need (wsV RX2 146 RX2 yX2_price wsX2_price) := goodIn_app (goodIn_of _ (by decide +kernel)) ggX2_need_X2_price
theorem dX2_need_0 : decode cX2_need 0 = .ok (.aload_n 0, 1) := by decide +kernel
theorem dX2_need_1 : decode cX2_need 1 = .ok (.iload_n 1, 1) := by decide +kernel
theorem dX2_need_2 : decode cX2_need 2 = .ok (.invokevirtual 99, 3) := by decide +kernel
theorem dX2_need_5 : decode cX2_need 5 = .ok (.ifCond .eq 22, 3) := by decide +kernel
theorem dX2_need_8 : decode cX2_need 8 = .ok (.iconst 0, 1) := by decide +kernel
theorem dX2_need_9 : decode cX2_need 9 = .ok (.aload_n 0, 1) := by decide +kernel
theorem dX2_need_10 : decode cX2_need 10 = .ok (.iload_n 1, 1) := by decide +kernel
theorem dX2_need_11 : decode cX2_need 11 = .ok (.invokevirtual 146, 3) := by decide +kernel
theorem dX2_need_14 : decode cX2_need 14 = .ok (.aload_n 0, 1) := by decide +kernel
theorem dX2_need_15 : decode cX2_need 15 = .ok (.getfield 28, 3) := by decide +kernel
theorem dX2_need_18 : decode cX2_need 18 = .ok (.iload_n 1, 1) := by decide +kernel
theorem dX2_need_19 : decode cX2_need 19 = .ok (.iaload, 1) := by decide +kernel
theorem dX2_need_20 : decode cX2_need 20 = .ok (.isub, 1) := by decide +kernel
theorem dX2_need_21 : decode cX2_need 21 = .ok (.invokestatic 150, 3) := by decide +kernel
theorem dX2_need_24 : decode cX2_need 24 = .ok (.goto 4, 3) := by decide +kernel
theorem dX2_need_27 : decode cX2_need 27 = .ok (.iconst 0, 1) := by decide +kernel
theorem dX2_need_28 : decode cX2_need 28 = .ok (.ireturn, 1) := by decide +kernel
theorem dX2_grown_0 : decode cX2_grown 0 = .ok (.iload_n 1, 1) := by decide +kernel
theorem dX2_grown_1 : decode cX2_grown 1 = .ok (.i2l, 1) := by decide +kernel
theorem dX2_grown_2 : decode cX2_grown 2 = .ok (.iload_n 1, 1) := by decide +kernel
theorem dX2_grown_3 : decode cX2_grown 3 = .ok (.i2l, 1) := by decide +kernel
theorem dX2_grown_4 : decode cX2_grown 4 = .ok (.aload_n 0, 1) := by decide +kernel
theorem dX2_grown_5 : decode cX2_grown 5 = .ok (.getfield 12, 3) := by decide +kernel
theorem dX2_grown_8 : decode cX2_grown 8 = .ok (.getfield 155, 3) := by decide +kernel
theorem dX2_grown_11 : decode cX2_grown 11 = .ok (.i2l, 1) := by decide +kernel
theorem dX2_grown_12 : decode cX2_grown 12 = .ok (.lmul, 1) := by decide +kernel
theorem dX2_grown_13 : decode cX2_grown 13 = .ok (.ldc2_w 158, 3) := by decide +kernel
theorem dX2_grown_16 : decode cX2_grown 16 = .ok (.ldiv, 1) := by decide +kernel
theorem dX2_grown_17 : decode cX2_grown 17 = .ok (.ladd, 1) := by decide +kernel
theorem dX2_grown_18 : decode cX2_grown 18 = .ok (.lstore_n 2, 1) := by decide +kernel
theorem dX2_grown_19 : decode cX2_grown 19 = .ok (.ldc2_w 160, 3) := by decide +kernel
theorem dX2_grown_22 : decode cX2_grown 22 = .ok (.lload_n 2, 1) := by decide +kernel
theorem dX2_grown_23 : decode cX2_grown 23 = .ok (.invokestatic 162, 3) := by decide +kernel
theorem dX2_grown_26 : decode cX2_grown 26 = .ok (.l2i, 1) := by decide +kernel
theorem dX2_grown_27 : decode cX2_grown 27 = .ok (.ireturn, 1) := by decide +kernel
set_option maxRecDepth 20000 in
theorem ggX2_passNight_X2_lives : GoodIn wsX2_passNight wsX2_lives := goodIn_r _ [14, 15, 16, 17, 18, 13, 19, 1, 49, 50, 51, 52, 53, 54, 55, 56, 57, 58, 59, 60, 61, 62, 63, 64, 65, 66, 67, 68, 69, 70, 71, 72, 73, 74] (by decide +kernel) (by decide +kernel)
set_option maxRecDepth 20000 in
theorem gX2_passNight_X2_lives : GoodIn wsX2_passNight (wsV RX2 99 RX2 yX2_lives wsX2_lives) := goodIn_app (goodIn_of _ (by decide +kernel)) ggX2_passNight_X2_lives
set_option maxRecDepth 20000 in
theorem ggX2_passNight_X2_dine : GoodIn wsX2_passNight wsX2_dine := goodIn_r _ [23, 24, 25, 15, 9, 26, 27, 28, 13, 29, 30, 31, 32, 33, 1, 34, 35, 36, 37, 38, 39, 40, 41, 42, 43, 44, 45, 46, 47, 48, 49, 50, 51, 52, 53, 54, 55, 56, 57, 58, 59, 60, 61, 62, 63, 64, 65, 66, 67, 68, 69, 70, 71, 72, 73, 74] (by decide +kernel) (by decide +kernel)
set_option maxRecDepth 20000 in
theorem gX2_passNight_X2_dine : GoodIn wsX2_passNight (wsV RX2 166 RX2 yX2_dine wsX2_dine) := goodIn_app (goodIn_of _ (by decide +kernel)) ggX2_passNight_X2_dine
set_option maxRecDepth 20000 in
theorem ggX2_passNight_X2_grown : GoodIn wsX2_passNight wsX2_grown := goodIn_r _ [42, 1, 43, 44, 45, 46, 47, 48, 49, 50, 51, 52, 53, 54, 55, 56, 57, 58, 59, 60, 61, 62, 63, 64, 65, 66, 67, 68, 69, 70, 71, 72, 73, 74] (by decide +kernel) (by decide +kernel)
set_option maxRecDepth 20000 in
theorem gX2_passNight_X2_grown : GoodIn wsX2_passNight (wsV RX2 170 RX2 yX2_grown wsX2_grown) := goodIn_app (goodIn_of _ (by decide +kernel)) ggX2_passNight_X2_grown
theorem dX2_passNight_0 : decode cX2_passNight 0 = .ok (.iconst 0, 1) := by decide +kernel
theorem dX2_passNight_1 : decode cX2_passNight 1 = .ok (.istore_n 1, 1) := by decide +kernel
theorem dX2_passNight_2 : decode cX2_passNight 2 = .ok (.iload_n 1, 1) := by decide +kernel
theorem dX2_passNight_3 : decode cX2_passNight 3 = .ok (.aload_n 0, 1) := by decide +kernel
theorem dX2_passNight_4 : decode cX2_passNight 4 = .ok (.getfield 12, 3) := by decide +kernel
theorem dX2_passNight_7 : decode cX2_passNight 7 = .ok (.getfield 96, 3) := by decide +kernel
theorem dX2_passNight_10 : decode cX2_passNight 10 = .ok (.if_icmp .ge 22, 3) := by decide +kernel
theorem dX2_passNight_13 : decode cX2_passNight 13 = .ok (.aload_n 0, 1) := by decide +kernel
theorem dX2_passNight_14 : decode cX2_passNight 14 = .ok (.iload_n 1, 1) := by decide +kernel
theorem dX2_passNight_15 : decode cX2_passNight 15 = .ok (.invokevirtual 99, 3) := by decide +kernel
theorem dX2_passNight_18 : decode cX2_passNight 18 = .ok (.ifCond .eq 8, 3) := by decide +kernel
theorem dX2_passNight_21 : decode cX2_passNight 21 = .ok (.aload_n 0, 1) := by decide +kernel
theorem dX2_passNight_22 : decode cX2_passNight 22 = .ok (.iload_n 1, 1) := by decide +kernel
theorem dX2_passNight_23 : decode cX2_passNight 23 = .ok (.invokevirtual 166, 3) := by decide +kernel
theorem dX2_passNight_26 : decode cX2_passNight 26 = .ok (.iinc 1 1, 3) := by decide +kernel
theorem dX2_passNight_29 : decode cX2_passNight 29 = .ok (.goto (-27), 3) := by decide +kernel
theorem dX2_passNight_32 : decode cX2_passNight 32 = .ok (.iconst 0, 1) := by decide +kernel
theorem dX2_passNight_33 : decode cX2_passNight 33 = .ok (.istore_n 1, 1) := by decide +kernel
theorem dX2_passNight_34 : decode cX2_passNight 34 = .ok (.iload_n 1, 1) := by decide +kernel
theorem dX2_passNight_35 : decode cX2_passNight 35 = .ok (.bipush 25, 2) := by decide +kernel
theorem dX2_passNight_37 : decode cX2_passNight 37 = .ok (.if_icmp .ge 25, 3) := by decide +kernel
theorem dX2_passNight_40 : decode cX2_passNight 40 = .ok (.aload_n 0, 1) := by decide +kernel
theorem dX2_passNight_41 : decode cX2_passNight 41 = .ok (.getfield 22, 3) := by decide +kernel
theorem dX2_passNight_44 : decode cX2_passNight 44 = .ok (.iload_n 1, 1) := by decide +kernel
theorem dX2_passNight_45 : decode cX2_passNight 45 = .ok (.aload_n 0, 1) := by decide +kernel
theorem dX2_passNight_46 : decode cX2_passNight 46 = .ok (.aload_n 0, 1) := by decide +kernel
theorem dX2_passNight_47 : decode cX2_passNight 47 = .ok (.getfield 22, 3) := by decide +kernel
theorem dX2_passNight_50 : decode cX2_passNight 50 = .ok (.iload_n 1, 1) := by decide +kernel
theorem dX2_passNight_51 : decode cX2_passNight 51 = .ok (.iaload, 1) := by decide +kernel
theorem dX2_passNight_52 : decode cX2_passNight 52 = .ok (.invokevirtual 170, 3) := by decide +kernel
theorem dX2_passNight_55 : decode cX2_passNight 55 = .ok (.iastore, 1) := by decide +kernel
theorem dX2_passNight_56 : decode cX2_passNight 56 = .ok (.iinc 1 1, 3) := by decide +kernel
theorem dX2_passNight_59 : decode cX2_passNight 59 = .ok (.goto (-25), 3) := by decide +kernel
theorem dX2_passNight_62 : decode cX2_passNight 62 = .ok (.aload_n 0, 1) := by decide +kernel
theorem dX2_passNight_63 : decode cX2_passNight 63 = .ok (.getfield 12, 3) := by decide +kernel
theorem dX2_passNight_66 : decode cX2_passNight 66 = .ok (.getfield 40, 3) := by decide +kernel
theorem dX2_passNight_69 : decode cX2_passNight 69 = .ok (.iconst 0, 1) := by decide +kernel
theorem dX2_passNight_70 : decode cX2_passNight 70 = .ok (.aload_n 0, 1) := by decide +kernel
theorem dX2_passNight_71 : decode cX2_passNight 71 = .ok (.getfield 18, 3) := by decide +kernel
theorem dX2_passNight_74 : decode cX2_passNight 74 = .ok (.iconst 0, 1) := by decide +kernel
theorem dX2_passNight_75 : decode cX2_passNight 75 = .ok (.iconst 5, 1) := by decide +kernel
theorem dX2_passNight_76 : decode cX2_passNight 76 = .ok (.invokestatic 43, 3) := by decide +kernel
theorem dX2_passNight_79 : decode cX2_passNight 79 = .ok (.aload_n 0, 1) := by decide +kernel
theorem dX2_passNight_80 : decode cX2_passNight 80 = .ok (.iconst 0, 1) := by decide +kernel
theorem dX2_passNight_81 : decode cX2_passNight 81 = .ok (.putfield 69, 3) := by decide +kernel
theorem dX2_passNight_84 : decode cX2_passNight 84 = .ok (.aload_n 0, 1) := by decide +kernel
theorem dX2_passNight_85 : decode cX2_passNight 85 = .ok (.dup, 1) := by decide +kernel
theorem dX2_passNight_86 : decode cX2_passNight 86 = .ok (.getfield 64, 3) := by decide +kernel
theorem dX2_passNight_89 : decode cX2_passNight 89 = .ok (.iconst 1, 1) := by decide +kernel
theorem dX2_passNight_90 : decode cX2_passNight 90 = .ok (.iadd, 1) := by decide +kernel
theorem dX2_passNight_91 : decode cX2_passNight 91 = .ok (.putfield 64, 3) := by decide +kernel
theorem dX2_passNight_94 : decode cX2_passNight 94 = .ok (.return_, 1) := by decide +kernel
set_option maxRecDepth 20000 in
theorem ggX2_dine_X2_price : GoodIn wsX2_dine wsX2_price := goodIn_r _ [9, 10, 11, 12, 8, 13, 14, 15, 30, 31, 32, 33, 34, 35, 36, 37, 38, 39, 40, 41, 42, 43, 44, 45, 46, 47, 48, 49, 50, 51, 52, 53, 54, 55] (by decide +kernel) (by decide +kernel)
set_option maxRecDepth 20000 in
theorem gX2_dine_X2_price : GoodIn wsX2_dine (wsV RX2 146 RX2 yX2_price wsX2_price) := goodIn_app (goodIn_of _ (by decide +kernel)) ggX2_dine_X2_price
set_option maxRecDepth 20000 in
theorem ggX2_dine_X2_give : GoodIn wsX2_dine wsX2_give := goodIn_r _ [19, 1, 2, 30, 31, 32, 33, 34, 35, 36, 37, 38, 39, 40, 41, 42, 43] (by decide +kernel) (by decide +kernel)
set_option maxRecDepth 20000 in
theorem gX2_dine_X2_give : GoodIn wsX2_dine (wsV RX2 110 RX2 yX2_give wsX2_give) := goodIn_app (goodIn_of _ (by decide +kernel)) ggX2_dine_X2_give
set_option maxRecDepth 20000 in
theorem ggX2_dine_X2_grown : GoodIn wsX2_dine wsX2_grown := goodIn_r _ [23, 14, 24, 25, 26, 27, 28, 29, 30, 31, 32, 33, 34, 35, 36, 37, 38, 39, 40, 41, 42, 43, 44, 45, 46, 47, 48, 49, 50, 51, 52, 53, 54, 55] (by decide +kernel) (by decide +kernel)
set_option maxRecDepth 20000 in
theorem gX2_dine_X2_grown : GoodIn wsX2_dine (wsV RX2 170 RX2 yX2_grown wsX2_grown) := goodIn_app (goodIn_of _ (by decide +kernel)) ggX2_dine_X2_grown
theorem dX2_dine_0 : decode cX2_dine 0 = .ok (.aload_n 0, 1) := by decide +kernel
theorem dX2_dine_1 : decode cX2_dine 1 = .ok (.iload_n 1, 1) := by decide +kernel
theorem dX2_dine_2 : decode cX2_dine 2 = .ok (.invokevirtual 146, 3) := by decide +kernel
theorem dX2_dine_5 : decode cX2_dine 5 = .ok (.istore_n 2, 1) := by decide +kernel
theorem dX2_dine_6 : decode cX2_dine 6 = .ok (.aload_n 0, 1) := by decide +kernel
theorem dX2_dine_7 : decode cX2_dine 7 = .ok (.getfield 28, 3) := by decide +kernel
theorem dX2_dine_10 : decode cX2_dine 10 = .ok (.iload_n 1, 1) := by decide +kernel
theorem dX2_dine_11 : decode cX2_dine 11 = .ok (.iaload, 1) := by decide +kernel
theorem dX2_dine_12 : decode cX2_dine 12 = .ok (.iload_n 2, 1) := by decide +kernel
theorem dX2_dine_13 : decode cX2_dine 13 = .ok (.if_icmp .lt 11, 3) := by decide +kernel
theorem dX2_dine_16 : decode cX2_dine 16 = .ok (.aload_n 0, 1) := by decide +kernel
theorem dX2_dine_17 : decode cX2_dine 17 = .ok (.getfield 60, 3) := by decide +kernel
theorem dX2_dine_20 : decode cX2_dine 20 = .ok (.iload_n 2, 1) := by decide +kernel
theorem dX2_dine_21 : decode cX2_dine 21 = .ok (.if_icmp .ge 14, 3) := by decide +kernel
theorem dX2_dine_24 : decode cX2_dine 24 = .ok (.aload_n 0, 1) := by decide +kernel
theorem dX2_dine_25 : decode cX2_dine 25 = .ok (.getfield 31, 3) := by decide +kernel
theorem dX2_dine_28 : decode cX2_dine 28 = .ok (.iload_n 1, 1) := by decide +kernel
theorem dX2_dine_29 : decode cX2_dine 29 = .ok (.aload_n 0, 1) := by decide +kernel
theorem dX2_dine_30 : decode cX2_dine 30 = .ok (.getfield 64, 3) := by decide +kernel
theorem dX2_dine_33 : decode cX2_dine 33 = .ok (.iastore, 1) := by decide +kernel
theorem dX2_dine_34 : decode cX2_dine 34 = .ok (.return_, 1) := by decide +kernel
theorem dX2_dine_35 : decode cX2_dine 35 = .ok (.aload_n 0, 1) := by decide +kernel
theorem dX2_dine_36 : decode cX2_dine 36 = .ok (.iload_n 1, 1) := by decide +kernel
theorem dX2_dine_37 : decode cX2_dine 37 = .ok (.iload_n 2, 1) := by decide +kernel
theorem dX2_dine_38 : decode cX2_dine 38 = .ok (.ineg, 1) := by decide +kernel
theorem dX2_dine_39 : decode cX2_dine 39 = .ok (.invokevirtual 110, 3) := by decide +kernel
theorem dX2_dine_42 : decode cX2_dine 42 = .ok (.aload_n 0, 1) := by decide +kernel
theorem dX2_dine_43 : decode cX2_dine 43 = .ok (.getfield 28, 3) := by decide +kernel
theorem dX2_dine_46 : decode cX2_dine 46 = .ok (.iload_n 1, 1) := by decide +kernel
theorem dX2_dine_47 : decode cX2_dine 47 = .ok (.aload_n 0, 1) := by decide +kernel
theorem dX2_dine_48 : decode cX2_dine 48 = .ok (.aload_n 0, 1) := by decide +kernel
theorem dX2_dine_49 : decode cX2_dine 49 = .ok (.getfield 28, 3) := by decide +kernel
theorem dX2_dine_52 : decode cX2_dine 52 = .ok (.iload_n 1, 1) := by decide +kernel
theorem dX2_dine_53 : decode cX2_dine 53 = .ok (.iaload, 1) := by decide +kernel
theorem dX2_dine_54 : decode cX2_dine 54 = .ok (.invokevirtual 170, 3) := by decide +kernel
theorem dX2_dine_57 : decode cX2_dine 57 = .ok (.iastore, 1) := by decide +kernel
theorem dX2_dine_58 : decode cX2_dine 58 = .ok (.return_, 1) := by decide +kernel
set_option maxRecDepth 20000 in
theorem ggX2_living_X2_lives : GoodIn wsX2_living wsX2_lives := goodIn_r _ [6, 7, 8, 9, 10, 5, 11, 1, 12, 13, 14, 15, 16, 17, 18, 19, 20, 21, 22, 23, 24, 25, 26, 27, 28, 29, 30, 31, 32, 33, 34, 35, 36, 37] (by decide +kernel) (by decide +kernel)
set_option maxRecDepth 20000 in
theorem gX2_living_X2_lives : GoodIn wsX2_living (wsV RX2 99 RX2 yX2_lives wsX2_lives) := goodIn_app (goodIn_of _ (by decide +kernel)) ggX2_living_X2_lives
theorem dX2_living_0 : decode cX2_living 0 = .ok (.iconst 0, 1) := by decide +kernel
theorem dX2_living_1 : decode cX2_living 1 = .ok (.istore_n 1, 1) := by decide +kernel
theorem dX2_living_2 : decode cX2_living 2 = .ok (.iconst 0, 1) := by decide +kernel
theorem dX2_living_3 : decode cX2_living 3 = .ok (.istore_n 2, 1) := by decide +kernel
theorem dX2_living_4 : decode cX2_living 4 = .ok (.iload_n 2, 1) := by decide +kernel
theorem dX2_living_5 : decode cX2_living 5 = .ok (.aload_n 0, 1) := by decide +kernel
theorem dX2_living_6 : decode cX2_living 6 = .ok (.getfield 12, 3) := by decide +kernel
theorem dX2_living_9 : decode cX2_living 9 = .ok (.getfield 96, 3) := by decide +kernel
theorem dX2_living_12 : decode cX2_living 12 = .ok (.if_icmp .ge 23, 3) := by decide +kernel
theorem dX2_living_15 : decode cX2_living 15 = .ok (.aload_n 0, 1) := by decide +kernel
theorem dX2_living_16 : decode cX2_living 16 = .ok (.iload_n 2, 1) := by decide +kernel
theorem dX2_living_17 : decode cX2_living 17 = .ok (.invokevirtual 99, 3) := by decide +kernel
theorem dX2_living_20 : decode cX2_living 20 = .ok (.ifCond .eq 9, 3) := by decide +kernel
theorem dX2_living_23 : decode cX2_living 23 = .ok (.iload_n 1, 1) := by decide +kernel
theorem dX2_living_24 : decode cX2_living 24 = .ok (.iconst 1, 1) := by decide +kernel
theorem dX2_living_25 : decode cX2_living 25 = .ok (.iload_n 2, 1) := by decide +kernel
theorem dX2_living_26 : decode cX2_living 26 = .ok (.ishl, 1) := by decide +kernel
theorem dX2_living_27 : decode cX2_living 27 = .ok (.ior, 1) := by decide +kernel
theorem dX2_living_28 : decode cX2_living 28 = .ok (.istore_n 1, 1) := by decide +kernel
theorem dX2_living_29 : decode cX2_living 29 = .ok (.iinc 2 1, 3) := by decide +kernel
theorem dX2_living_32 : decode cX2_living 32 = .ok (.goto (-28), 3) := by decide +kernel
theorem dX2_living_35 : decode cX2_living 35 = .ok (.iload_n 1, 1) := by decide +kernel
theorem dX2_living_36 : decode cX2_living 36 = .ok (.ireturn, 1) := by decide +kernel
theorem dX2_allLeft_0 : decode cX2_allLeft 0 = .ok (.iconst 0, 1) := by decide +kernel
theorem dX2_allLeft_1 : decode cX2_allLeft 1 = .ok (.istore_n 1, 1) := by decide +kernel
theorem dX2_allLeft_2 : decode cX2_allLeft 2 = .ok (.iconst 0, 1) := by decide +kernel
theorem dX2_allLeft_3 : decode cX2_allLeft 3 = .ok (.istore_n 2, 1) := by decide +kernel
theorem dX2_allLeft_4 : decode cX2_allLeft 4 = .ok (.iload_n 2, 1) := by decide +kernel
theorem dX2_allLeft_5 : decode cX2_allLeft 5 = .ok (.aload_n 0, 1) := by decide +kernel
theorem dX2_allLeft_6 : decode cX2_allLeft 6 = .ok (.getfield 12, 3) := by decide +kernel
theorem dX2_allLeft_9 : decode cX2_allLeft 9 = .ok (.getfield 103, 3) := by decide +kernel
theorem dX2_allLeft_12 : decode cX2_allLeft 12 = .ok (.if_icmp .ge 18, 3) := by decide +kernel
theorem dX2_allLeft_15 : decode cX2_allLeft 15 = .ok (.iload_n 1, 1) := by decide +kernel
theorem dX2_allLeft_16 : decode cX2_allLeft 16 = .ok (.aload_n 0, 1) := by decide +kernel
theorem dX2_allLeft_17 : decode cX2_allLeft 17 = .ok (.getfield 18, 3) := by decide +kernel
theorem dX2_allLeft_20 : decode cX2_allLeft 20 = .ok (.iload_n 2, 1) := by decide +kernel
theorem dX2_allLeft_21 : decode cX2_allLeft 21 = .ok (.iaload, 1) := by decide +kernel
theorem dX2_allLeft_22 : decode cX2_allLeft 22 = .ok (.iadd, 1) := by decide +kernel
theorem dX2_allLeft_23 : decode cX2_allLeft 23 = .ok (.istore_n 1, 1) := by decide +kernel
theorem dX2_allLeft_24 : decode cX2_allLeft 24 = .ok (.iinc 2 1, 3) := by decide +kernel
theorem dX2_allLeft_27 : decode cX2_allLeft 27 = .ok (.goto (-23), 3) := by decide +kernel
theorem dX2_allLeft_30 : decode cX2_allLeft 30 = .ok (.iload_n 1, 1) := by decide +kernel
theorem dX2_allLeft_31 : decode cX2_allLeft 31 = .ok (.ireturn, 1) := by decide +kernel
set_option maxRecDepth 20000 in
theorem ggX2_allNeeds_X2_need : GoodIn wsX2_allNeeds wsX2_need := goodIn_r _ [6, 7, 8, 9, 10, 11, 12, 13, 14, 5, 15, 16, 17, 18, 19, 20, 1, 21, 22, 23, 24, 25, 26, 27, 28, 29, 30, 31, 32, 33, 34, 35, 36, 37, 38, 39, 40, 41, 42, 43, 44, 45, 46, 47, 48, 49, 50, 51, 52, 53, 54, 55] (by decide +kernel) (by decide +kernel)
set_option maxRecDepth 20000 in
theorem gX2_allNeeds_X2_need : GoodIn wsX2_allNeeds (wsV RX2 173 RX2 yX2_need wsX2_need) := goodIn_app (goodIn_of _ (by decide +kernel)) ggX2_allNeeds_X2_need
theorem dX2_allNeeds_0 : decode cX2_allNeeds 0 = .ok (.iconst 0, 1) := by decide +kernel
theorem dX2_allNeeds_1 : decode cX2_allNeeds 1 = .ok (.istore_n 1, 1) := by decide +kernel
theorem dX2_allNeeds_2 : decode cX2_allNeeds 2 = .ok (.iconst 0, 1) := by decide +kernel
theorem dX2_allNeeds_3 : decode cX2_allNeeds 3 = .ok (.istore_n 2, 1) := by decide +kernel
theorem dX2_allNeeds_4 : decode cX2_allNeeds 4 = .ok (.iload_n 2, 1) := by decide +kernel
theorem dX2_allNeeds_5 : decode cX2_allNeeds 5 = .ok (.aload_n 0, 1) := by decide +kernel
theorem dX2_allNeeds_6 : decode cX2_allNeeds 6 = .ok (.getfield 12, 3) := by decide +kernel
theorem dX2_allNeeds_9 : decode cX2_allNeeds 9 = .ok (.getfield 96, 3) := by decide +kernel
theorem dX2_allNeeds_12 : decode cX2_allNeeds 12 = .ok (.if_icmp .ge 17, 3) := by decide +kernel
theorem dX2_allNeeds_15 : decode cX2_allNeeds 15 = .ok (.iload_n 1, 1) := by decide +kernel
theorem dX2_allNeeds_16 : decode cX2_allNeeds 16 = .ok (.aload_n 0, 1) := by decide +kernel
theorem dX2_allNeeds_17 : decode cX2_allNeeds 17 = .ok (.iload_n 2, 1) := by decide +kernel
theorem dX2_allNeeds_18 : decode cX2_allNeeds 18 = .ok (.invokevirtual 173, 3) := by decide +kernel
theorem dX2_allNeeds_21 : decode cX2_allNeeds 21 = .ok (.iadd, 1) := by decide +kernel
theorem dX2_allNeeds_22 : decode cX2_allNeeds 22 = .ok (.istore_n 1, 1) := by decide +kernel
theorem dX2_allNeeds_23 : decode cX2_allNeeds 23 = .ok (.iinc 2 1, 3) := by decide +kernel
theorem dX2_allNeeds_26 : decode cX2_allNeeds 26 = .ok (.goto (-22), 3) := by decide +kernel
theorem dX2_allNeeds_29 : decode cX2_allNeeds 29 = .ok (.iload_n 1, 1) := by decide +kernel
theorem dX2_allNeeds_30 : decode cX2_allNeeds 30 = .ok (.ireturn, 1) := by decide +kernel
set_option maxRecDepth 20000 in
theorem ggX2_allSaved_X2_lives : GoodIn wsX2_allSaved wsX2_lives := goodIn_r _ [7, 8, 9, 10, 11, 6, 12, 1, 13, 14, 15, 16, 17, 18, 19, 20, 21, 22, 23, 24, 25, 26, 27, 28, 29, 30, 31, 32, 33, 34, 35, 36, 37, 38] (by decide +kernel) (by decide +kernel)
set_option maxRecDepth 20000 in
theorem gX2_allSaved_X2_lives : GoodIn wsX2_allSaved (wsV RX2 99 RX2 yX2_lives wsX2_lives) := goodIn_app (goodIn_of _ (by decide +kernel)) ggX2_allSaved_X2_lives
theorem dX2_allSaved_0 : decode cX2_allSaved 0 = .ok (.iconst 0, 1) := by decide +kernel
theorem dX2_allSaved_1 : decode cX2_allSaved 1 = .ok (.istore_n 1, 1) := by decide +kernel
theorem dX2_allSaved_2 : decode cX2_allSaved 2 = .ok (.iconst 0, 1) := by decide +kernel
theorem dX2_allSaved_3 : decode cX2_allSaved 3 = .ok (.istore_n 2, 1) := by decide +kernel
theorem dX2_allSaved_4 : decode cX2_allSaved 4 = .ok (.iload_n 2, 1) := by decide +kernel
theorem dX2_allSaved_5 : decode cX2_allSaved 5 = .ok (.aload_n 0, 1) := by decide +kernel
theorem dX2_allSaved_6 : decode cX2_allSaved 6 = .ok (.getfield 12, 3) := by decide +kernel
theorem dX2_allSaved_9 : decode cX2_allSaved 9 = .ok (.getfield 96, 3) := by decide +kernel
theorem dX2_allSaved_12 : decode cX2_allSaved 12 = .ok (.if_icmp .ge 26, 3) := by decide +kernel
theorem dX2_allSaved_15 : decode cX2_allSaved 15 = .ok (.aload_n 0, 1) := by decide +kernel
theorem dX2_allSaved_16 : decode cX2_allSaved 16 = .ok (.iload_n 2, 1) := by decide +kernel
theorem dX2_allSaved_17 : decode cX2_allSaved 17 = .ok (.invokevirtual 99, 3) := by decide +kernel
theorem dX2_allSaved_20 : decode cX2_allSaved 20 = .ok (.ifCond .eq 12, 3) := by decide +kernel
theorem dX2_allSaved_23 : decode cX2_allSaved 23 = .ok (.iload_n 1, 1) := by decide +kernel
theorem dX2_allSaved_24 : decode cX2_allSaved 24 = .ok (.aload_n 0, 1) := by decide +kernel
theorem dX2_allSaved_25 : decode cX2_allSaved 25 = .ok (.getfield 28, 3) := by decide +kernel
theorem dX2_allSaved_28 : decode cX2_allSaved 28 = .ok (.iload_n 2, 1) := by decide +kernel
theorem dX2_allSaved_29 : decode cX2_allSaved 29 = .ok (.iaload, 1) := by decide +kernel
theorem dX2_allSaved_30 : decode cX2_allSaved 30 = .ok (.iadd, 1) := by decide +kernel
theorem dX2_allSaved_31 : decode cX2_allSaved 31 = .ok (.istore_n 1, 1) := by decide +kernel
theorem dX2_allSaved_32 : decode cX2_allSaved 32 = .ok (.iinc 2 1, 3) := by decide +kernel
theorem dX2_allSaved_35 : decode cX2_allSaved 35 = .ok (.goto (-31), 3) := by decide +kernel
theorem dX2_allSaved_38 : decode cX2_allSaved 38 = .ok (.iload_n 1, 1) := by decide +kernel
theorem dX2_allSaved_39 : decode cX2_allSaved 39 = .ok (.ireturn, 1) := by decide +kernel
set_option maxRecDepth 20000 in
theorem ggX2_tell_X2_living : GoodIn wsX2_tell wsX2_living := goodIn_r _ [10, 11, 12, 13, 14, 9, 15, 16, 17, 18, 19, 20, 26, 27, 28, 29, 30, 31, 32, 33, 34, 35, 36, 37, 38, 39, 40, 41, 42, 43, 44, 45, 46, 47, 48, 49, 50, 51] (by decide +kernel) (by decide +kernel)
set_option maxRecDepth 20000 in
theorem gX2_tell_X2_living : GoodIn wsX2_tell (wsV RX2 176 RX2 yX2_living wsX2_living) := goodIn_app (goodIn_of _ (by decide +kernel)) ggX2_tell_X2_living
set_option maxRecDepth 20000 in
theorem ggX2_tell_X2_allSaved : GoodIn wsX2_tell wsX2_allSaved := goodIn_r _ [24, 11, 25, 12, 13, 14, 9, 15, 16, 17, 18, 19, 20, 26, 27, 28, 29, 30, 31, 32, 33, 34, 35, 36, 37, 38, 39, 40, 41, 42, 43, 44, 45, 46, 47, 48, 49, 50, 51] (by decide +kernel) (by decide +kernel)
set_option maxRecDepth 20000 in
theorem gX2_tell_X2_allSaved : GoodIn wsX2_tell (wsV RX2 180 RX2 yX2_allSaved wsX2_allSaved) := goodIn_app (goodIn_of _ (by decide +kernel)) ggX2_tell_X2_allSaved
theorem dX2_tell_0 : decode cX2_tell 0 = .ok (.iload_n 1, 1) := by decide +kernel
theorem dX2_tell_1 : decode cX2_tell 1 = .ok (.tableswitch 78 0 6 #[43, 48, 53, 58, 63, 68, 73], 43) := by decide +kernel
theorem dX2_tell_44 : decode cX2_tell 44 = .ok (.aload_n 0, 1) := by decide +kernel
theorem dX2_tell_45 : decode cX2_tell 45 = .ok (.getfield 60, 3) := by decide +kernel
theorem dX2_tell_48 : decode cX2_tell 48 = .ok (.ireturn, 1) := by decide +kernel
theorem dX2_tell_49 : decode cX2_tell 49 = .ok (.aload_n 0, 1) := by decide +kernel
theorem dX2_tell_50 : decode cX2_tell 50 = .ok (.getfield 61, 3) := by decide +kernel
theorem dX2_tell_53 : decode cX2_tell 53 = .ok (.ireturn, 1) := by decide +kernel
theorem dX2_tell_54 : decode cX2_tell 54 = .ok (.aload_n 0, 1) := by decide +kernel
theorem dX2_tell_55 : decode cX2_tell 55 = .ok (.getfield 64, 3) := by decide +kernel
theorem dX2_tell_58 : decode cX2_tell 58 = .ok (.ireturn, 1) := by decide +kernel
theorem dX2_tell_59 : decode cX2_tell 59 = .ok (.aload_n 0, 1) := by decide +kernel
theorem dX2_tell_60 : decode cX2_tell 60 = .ok (.invokevirtual 176, 3) := by decide +kernel
theorem dX2_tell_63 : decode cX2_tell 63 = .ok (.ireturn, 1) := by decide +kernel
theorem dX2_tell_64 : decode cX2_tell 64 = .ok (.aload_n 0, 1) := by decide +kernel
theorem dX2_tell_65 : decode cX2_tell 65 = .ok (.getfield 69, 3) := by decide +kernel
theorem dX2_tell_68 : decode cX2_tell 68 = .ok (.ireturn, 1) := by decide +kernel
theorem dX2_tell_69 : decode cX2_tell 69 = .ok (.aload_n 0, 1) := by decide +kernel
theorem dX2_tell_70 : decode cX2_tell 70 = .ok (.invokevirtual 180, 3) := by decide +kernel
theorem dX2_tell_73 : decode cX2_tell 73 = .ok (.ireturn, 1) := by decide +kernel
theorem dX2_tell_74 : decode cX2_tell 74 = .ok (.aload_n 0, 1) := by decide +kernel
theorem dX2_tell_75 : decode cX2_tell 75 = .ok (.getfield 67, 3) := by decide +kernel
theorem dX2_tell_78 : decode cX2_tell 78 = .ok (.ireturn, 1) := by decide +kernel
theorem dX2_tell_79 : decode cX2_tell 79 = .ok (.bipush (-2), 2) := by decide +kernel
theorem dX2_tell_81 : decode cX2_tell 81 = .ok (.ireturn, 1) := by decide +kernel
set_option maxRecDepth 20000 in
theorem ggX2_tellPalm_X2_hasPalm : GoodIn wsX2_tellPalm wsX2_hasPalm := goodIn_r _ [8, 9, 14, 15, 16, 17, 18, 19, 20, 21, 22, 23, 24, 25, 26, 27, 28, 29, 30, 31, 32, 33, 34, 35, 36, 37, 38, 39] (by decide +kernel) (by decide +kernel)
set_option maxRecDepth 20000 in
theorem gX2_tellPalm_X2_hasPalm : GoodIn wsX2_tellPalm (wsV RX2 127 RX2 yX2_hasPalm wsX2_hasPalm) := goodIn_app (goodIn_of _ (by decide +kernel)) ggX2_tellPalm_X2_hasPalm
set_option maxRecDepth 20000 in
theorem ggX2_tellPalm_X2_hasActor : GoodIn wsX2_tellPalm wsX2_hasActor := goodIn_r _ [13, 9, 14, 15, 16, 17, 18, 19, 20, 21, 22, 23, 24, 25, 26, 27, 28, 29, 30, 31, 32, 33, 34, 35, 36, 37, 38, 39] (by decide +kernel) (by decide +kernel)
set_option maxRecDepth 20000 in
theorem gX2_tellPalm_X2_hasActor : GoodIn wsX2_tellPalm (wsV RX2 117 RX2 yX2_hasActor wsX2_hasActor) := goodIn_app (goodIn_of _ (by decide +kernel)) ggX2_tellPalm_X2_hasActor
theorem dX2_tellPalm_0 : decode cX2_tellPalm 0 = .ok (.iload_n 2, 1) := by decide +kernel
theorem dX2_tellPalm_1 : decode cX2_tellPalm 1 = .ok (.ifCond .ne 10, 3) := by decide +kernel
theorem dX2_tellPalm_4 : decode cX2_tellPalm 4 = .ok (.aload_n 0, 1) := by decide +kernel
theorem dX2_tellPalm_5 : decode cX2_tellPalm 5 = .ok (.getfield 18, 3) := by decide +kernel
theorem dX2_tellPalm_8 : decode cX2_tellPalm 8 = .ok (.iload_n 1, 1) := by decide +kernel
theorem dX2_tellPalm_9 : decode cX2_tellPalm 9 = .ok (.iaload, 1) := by decide +kernel
theorem dX2_tellPalm_10 : decode cX2_tellPalm 10 = .ok (.ireturn, 1) := by decide +kernel
theorem dX2_tellPalm_11 : decode cX2_tellPalm 11 = .ok (.iload_n 2, 1) := by decide +kernel
theorem dX2_tellPalm_12 : decode cX2_tellPalm 12 = .ok (.bipush 10, 2) := by decide +kernel
theorem dX2_tellPalm_14 : decode cX2_tellPalm 14 = .ok (.if_icmp .lt 36, 3) := by decide +kernel
theorem dX2_tellPalm_17 : decode cX2_tellPalm 17 = .ok (.aload_n 0, 1) := by decide +kernel
theorem dX2_tellPalm_18 : decode cX2_tellPalm 18 = .ok (.iload_n 2, 1) := by decide +kernel
theorem dX2_tellPalm_19 : decode cX2_tellPalm 19 = .ok (.bipush 10, 2) := by decide +kernel
theorem dX2_tellPalm_21 : decode cX2_tellPalm 21 = .ok (.isub, 1) := by decide +kernel
theorem dX2_tellPalm_22 : decode cX2_tellPalm 22 = .ok (.invokevirtual 127, 3) := by decide +kernel
theorem dX2_tellPalm_25 : decode cX2_tellPalm 25 = .ok (.ifCond .eq 25, 3) := by decide +kernel
theorem dX2_tellPalm_28 : decode cX2_tellPalm 28 = .ok (.iload_n 2, 1) := by decide +kernel
theorem dX2_tellPalm_29 : decode cX2_tellPalm 29 = .ok (.bipush 10, 2) := by decide +kernel
theorem dX2_tellPalm_31 : decode cX2_tellPalm 31 = .ok (.isub, 1) := by decide +kernel
theorem dX2_tellPalm_32 : decode cX2_tellPalm 32 = .ok (.iload_n 1, 1) := by decide +kernel
theorem dX2_tellPalm_33 : decode cX2_tellPalm 33 = .ok (.if_icmp .eq 17, 3) := by decide +kernel
theorem dX2_tellPalm_36 : decode cX2_tellPalm 36 = .ok (.aload_n 0, 1) := by decide +kernel
theorem dX2_tellPalm_37 : decode cX2_tellPalm 37 = .ok (.getfield 22, 3) := by decide +kernel
theorem dX2_tellPalm_40 : decode cX2_tellPalm 40 = .ok (.iload_n 1, 1) := by decide +kernel
theorem dX2_tellPalm_41 : decode cX2_tellPalm 41 = .ok (.iconst 5, 1) := by decide +kernel
theorem dX2_tellPalm_42 : decode cX2_tellPalm 42 = .ok (.imul, 1) := by decide +kernel
theorem dX2_tellPalm_43 : decode cX2_tellPalm 43 = .ok (.iload_n 2, 1) := by decide +kernel
theorem dX2_tellPalm_44 : decode cX2_tellPalm 44 = .ok (.iadd, 1) := by decide +kernel
theorem dX2_tellPalm_45 : decode cX2_tellPalm 45 = .ok (.bipush 10, 2) := by decide +kernel
theorem dX2_tellPalm_47 : decode cX2_tellPalm 47 = .ok (.isub, 1) := by decide +kernel
theorem dX2_tellPalm_48 : decode cX2_tellPalm 48 = .ok (.iaload, 1) := by decide +kernel
theorem dX2_tellPalm_49 : decode cX2_tellPalm 49 = .ok (.ireturn, 1) := by decide +kernel
theorem dX2_tellPalm_50 : decode cX2_tellPalm 50 = .ok (.iload_n 2, 1) := by decide +kernel
theorem dX2_tellPalm_51 : decode cX2_tellPalm 51 = .ok (.bipush 20, 2) := by decide +kernel
theorem dX2_tellPalm_53 : decode cX2_tellPalm 53 = .ok (.if_icmp .lt 29, 3) := by decide +kernel
theorem dX2_tellPalm_56 : decode cX2_tellPalm 56 = .ok (.aload_n 0, 1) := by decide +kernel
theorem dX2_tellPalm_57 : decode cX2_tellPalm 57 = .ok (.iload_n 2, 1) := by decide +kernel
theorem dX2_tellPalm_58 : decode cX2_tellPalm 58 = .ok (.bipush 20, 2) := by decide +kernel
theorem dX2_tellPalm_60 : decode cX2_tellPalm 60 = .ok (.isub, 1) := by decide +kernel
theorem dX2_tellPalm_61 : decode cX2_tellPalm 61 = .ok (.invokevirtual 117, 3) := by decide +kernel
theorem dX2_tellPalm_64 : decode cX2_tellPalm 64 = .ok (.ifCond .eq 18, 3) := by decide +kernel
theorem dX2_tellPalm_67 : decode cX2_tellPalm 67 = .ok (.aload_n 0, 1) := by decide +kernel
theorem dX2_tellPalm_68 : decode cX2_tellPalm 68 = .ok (.getfield 25, 3) := by decide +kernel
theorem dX2_tellPalm_71 : decode cX2_tellPalm 71 = .ok (.iload_n 1, 1) := by decide +kernel
theorem dX2_tellPalm_72 : decode cX2_tellPalm 72 = .ok (.bipush 6, 2) := by decide +kernel
theorem dX2_tellPalm_74 : decode cX2_tellPalm 74 = .ok (.imul, 1) := by decide +kernel
theorem dX2_tellPalm_75 : decode cX2_tellPalm 75 = .ok (.iload_n 2, 1) := by decide +kernel
theorem dX2_tellPalm_76 : decode cX2_tellPalm 76 = .ok (.iadd, 1) := by decide +kernel
theorem dX2_tellPalm_77 : decode cX2_tellPalm 77 = .ok (.bipush 20, 2) := by decide +kernel
theorem dX2_tellPalm_79 : decode cX2_tellPalm 79 = .ok (.isub, 1) := by decide +kernel
theorem dX2_tellPalm_80 : decode cX2_tellPalm 80 = .ok (.iaload, 1) := by decide +kernel
theorem dX2_tellPalm_81 : decode cX2_tellPalm 81 = .ok (.ireturn, 1) := by decide +kernel
theorem dX2_tellPalm_82 : decode cX2_tellPalm 82 = .ok (.bipush (-2), 2) := by decide +kernel
theorem dX2_tellPalm_84 : decode cX2_tellPalm 84 = .ok (.ireturn, 1) := by decide +kernel
set_option maxRecDepth 20000 in
theorem ggX2_tellActor_X2_lives : GoodIn wsX2_tellActor wsX2_lives := goodIn_r _ [8, 2, 9, 10, 11, 7, 12, 13, 69, 70, 71, 72, 73, 74, 75, 76, 77, 78, 79, 80, 81, 82, 83, 84, 85, 86, 87, 88, 89, 90, 91, 92, 93, 94] (by decide +kernel) (by decide +kernel)
set_option maxRecDepth 20000 in
theorem gX2_tellActor_X2_lives : GoodIn wsX2_tellActor (wsV RX2 99 RX2 yX2_lives wsX2_lives) := goodIn_app (goodIn_of _ (by decide +kernel)) ggX2_tellActor_X2_lives
set_option maxRecDepth 20000 in
theorem ggX2_tellActor_X2_price : GoodIn wsX2_tellActor wsX2_price := goodIn_r _ [17, 18, 19, 20, 7, 21, 13, 22, 69, 70, 71, 72, 73, 74, 75, 76, 77, 78, 79, 80, 81, 82, 83, 84, 85, 86, 87, 88, 89, 90, 91, 92, 93, 94] (by decide +kernel) (by decide +kernel)
set_option maxRecDepth 20000 in
theorem gX2_tellActor_X2_price : GoodIn wsX2_tellActor (wsV RX2 146 RX2 yX2_price wsX2_price) := goodIn_app (goodIn_of _ (by decide +kernel)) ggX2_tellActor_X2_price
set_option maxRecDepth 20000 in
theorem ggX2_tellActor_X2_need : GoodIn wsX2_tellActor wsX2_need := goodIn_r _ [26, 1, 27, 28, 29, 30, 4, 5, 6, 7, 8, 2, 9, 10, 11, 12, 13, 14, 15, 16, 17, 18, 19, 20, 21, 22, 69, 70, 71, 72, 73, 74, 75, 76, 77, 78, 79, 80, 81, 82, 83, 84, 85, 86, 87, 88, 89, 90, 91, 92, 93, 94] (by decide +kernel) (by decide +kernel)
set_option maxRecDepth 20000 in
theorem gX2_tellActor_X2_need : GoodIn wsX2_tellActor (wsV RX2 173 RX2 yX2_need wsX2_need) := goodIn_app (goodIn_of _ (by decide +kernel)) ggX2_tellActor_X2_need
set_option maxRecDepth 20000 in
theorem ggX2_tellActor_X2_friday : GoodIn wsX2_tellActor wsX2_friday := goodIn_r _ [34, 4, 5, 6, 7, 8, 2, 9, 10, 11, 12, 13, 35, 36, 37, 38, 39, 40, 41, 42, 43, 44, 45, 46, 47, 48, 49, 50, 1, 51, 14, 15, 16, 17, 18, 19, 20, 21, 22, 52, 53, 54, 55, 56, 57, 58, 59, 60, 61, 62, 63, 29, 64, 69, 70, 71, 72, 73, 74, 75, 76, 77, 78, 79, 80, 81, 82, 83, 84, 85, 86, 87, 88, 89, 90, 91, 92, 93, 94] (by decide +kernel) (by decide +kernel)
set_option maxRecDepth 20000 in
theorem gX2_tellActor_X2_friday : GoodIn wsX2_tellActor (wsV RX2 183 RX2 yX2_friday wsX2_friday) := goodIn_app (goodIn_of _ (by decide +kernel)) ggX2_tellActor_X2_friday
set_option maxRecDepth 20000 in
theorem ggX2_tellActor_X2_star : GoodIn wsX2_tellActor wsX2_star := goodIn_r _ [68, 1, 4, 5, 6, 7, 8, 2, 9, 10, 11, 12, 13, 14, 15, 16, 17, 18, 19, 20, 21, 22, 56, 57, 58, 59, 60, 61, 62, 63, 29, 64, 69, 70, 71, 72, 73, 74, 75, 76, 77, 78, 79, 80, 81, 82, 83, 84, 85, 86, 87, 88, 89, 90, 91, 92, 93, 94] (by decide +kernel) (by decide +kernel)
set_option maxRecDepth 20000 in
theorem gX2_tellActor_X2_star : GoodIn wsX2_tellActor (wsV RX2 186 RX2 yX2_star wsX2_star) := goodIn_app (goodIn_of _ (by decide +kernel)) ggX2_tellActor_X2_star
theorem dX2_tellActor_0 : decode cX2_tellActor 0 = .ok (.iload_n 2, 1) := by decide +kernel
theorem dX2_tellActor_1 : decode cX2_tellActor 1 = .ok (.tableswitch 118 0 7 #[47, 54, 68, 86, 92, 99, 105, 111], 47) := by decide +kernel
theorem dX2_tellActor_48 : decode cX2_tellActor 48 = .ok (.aload_n 0, 1) := by decide +kernel
theorem dX2_tellActor_49 : decode cX2_tellActor 49 = .ok (.getfield 28, 3) := by decide +kernel
theorem dX2_tellActor_52 : decode cX2_tellActor 52 = .ok (.iload_n 1, 1) := by decide +kernel
theorem dX2_tellActor_53 : decode cX2_tellActor 53 = .ok (.iaload, 1) := by decide +kernel
theorem dX2_tellActor_54 : decode cX2_tellActor 54 = .ok (.ireturn, 1) := by decide +kernel
theorem dX2_tellActor_55 : decode cX2_tellActor 55 = .ok (.aload_n 0, 1) := by decide +kernel
theorem dX2_tellActor_56 : decode cX2_tellActor 56 = .ok (.iload_n 1, 1) := by decide +kernel
theorem dX2_tellActor_57 : decode cX2_tellActor 57 = .ok (.invokevirtual 99, 3) := by decide +kernel
theorem dX2_tellActor_60 : decode cX2_tellActor 60 = .ok (.ifCond .eq 7, 3) := by decide +kernel
theorem dX2_tellActor_63 : decode cX2_tellActor 63 = .ok (.iconst 1, 1) := by decide +kernel
theorem dX2_tellActor_64 : decode cX2_tellActor 64 = .ok (.goto 4, 3) := by decide +kernel
theorem dX2_tellActor_67 : decode cX2_tellActor 67 = .ok (.iconst 0, 1) := by decide +kernel
theorem dX2_tellActor_68 : decode cX2_tellActor 68 = .ok (.ireturn, 1) := by decide +kernel
theorem dX2_tellActor_69 : decode cX2_tellActor 69 = .ok (.aload_n 0, 1) := by decide +kernel
theorem dX2_tellActor_70 : decode cX2_tellActor 70 = .ok (.iload_n 1, 1) := by decide +kernel
theorem dX2_tellActor_71 : decode cX2_tellActor 71 = .ok (.invokevirtual 99, 3) := by decide +kernel
theorem dX2_tellActor_74 : decode cX2_tellActor 74 = .ok (.ifCond .eq 11, 3) := by decide +kernel
theorem dX2_tellActor_77 : decode cX2_tellActor 77 = .ok (.aload_n 0, 1) := by decide +kernel
theorem dX2_tellActor_78 : decode cX2_tellActor 78 = .ok (.iload_n 1, 1) := by decide +kernel
theorem dX2_tellActor_79 : decode cX2_tellActor 79 = .ok (.invokevirtual 146, 3) := by decide +kernel
theorem dX2_tellActor_82 : decode cX2_tellActor 82 = .ok (.goto 4, 3) := by decide +kernel
theorem dX2_tellActor_85 : decode cX2_tellActor 85 = .ok (.iconst 0, 1) := by decide +kernel
theorem dX2_tellActor_86 : decode cX2_tellActor 86 = .ok (.ireturn, 1) := by decide +kernel
theorem dX2_tellActor_87 : decode cX2_tellActor 87 = .ok (.aload_n 0, 1) := by decide +kernel
theorem dX2_tellActor_88 : decode cX2_tellActor 88 = .ok (.iload_n 1, 1) := by decide +kernel
theorem dX2_tellActor_89 : decode cX2_tellActor 89 = .ok (.invokevirtual 173, 3) := by decide +kernel
theorem dX2_tellActor_92 : decode cX2_tellActor 92 = .ok (.ireturn, 1) := by decide +kernel
theorem dX2_tellActor_93 : decode cX2_tellActor 93 = .ok (.aload_n 0, 1) := by decide +kernel
theorem dX2_tellActor_94 : decode cX2_tellActor 94 = .ok (.getfield 31, 3) := by decide +kernel
theorem dX2_tellActor_97 : decode cX2_tellActor 97 = .ok (.iload_n 1, 1) := by decide +kernel
theorem dX2_tellActor_98 : decode cX2_tellActor 98 = .ok (.iaload, 1) := by decide +kernel
theorem dX2_tellActor_99 : decode cX2_tellActor 99 = .ok (.ireturn, 1) := by decide +kernel
theorem dX2_tellActor_100 : decode cX2_tellActor 100 = .ok (.aload_n 0, 1) := by decide +kernel
theorem dX2_tellActor_101 : decode cX2_tellActor 101 = .ok (.iload_n 1, 1) := by decide +kernel
theorem dX2_tellActor_102 : decode cX2_tellActor 102 = .ok (.invokevirtual 183, 3) := by decide +kernel
theorem dX2_tellActor_105 : decode cX2_tellActor 105 = .ok (.ireturn, 1) := by decide +kernel
theorem dX2_tellActor_106 : decode cX2_tellActor 106 = .ok (.aload_n 0, 1) := by decide +kernel
theorem dX2_tellActor_107 : decode cX2_tellActor 107 = .ok (.iload_n 1, 1) := by decide +kernel
theorem dX2_tellActor_108 : decode cX2_tellActor 108 = .ok (.invokevirtual 186, 3) := by decide +kernel
theorem dX2_tellActor_111 : decode cX2_tellActor 111 = .ok (.ireturn, 1) := by decide +kernel
theorem dX2_tellActor_112 : decode cX2_tellActor 112 = .ok (.aload_n 0, 1) := by decide +kernel
theorem dX2_tellActor_113 : decode cX2_tellActor 113 = .ok (.getfield 34, 3) := by decide +kernel
theorem dX2_tellActor_116 : decode cX2_tellActor 116 = .ok (.iload_n 1, 1) := by decide +kernel
theorem dX2_tellActor_117 : decode cX2_tellActor 117 = .ok (.iaload, 1) := by decide +kernel
theorem dX2_tellActor_118 : decode cX2_tellActor 118 = .ok (.ireturn, 1) := by decide +kernel
theorem dX2_tellActor_119 : decode cX2_tellActor 119 = .ok (.bipush (-2), 2) := by decide +kernel
theorem dX2_tellActor_121 : decode cX2_tellActor 121 = .ok (.ireturn, 1) := by decide +kernel
set_option maxRecDepth 20000 in
theorem ggX2_friday_X2_lives : GoodIn wsX2_friday wsX2_lives := goodIn_r _ [5, 6, 7, 8, 9, 4, 10, 11, 53, 54, 55, 56, 57, 58, 59, 60, 61, 62, 63, 64, 65, 66, 67, 68, 69, 70, 71, 72, 73, 74, 75, 76, 77, 78] (by decide +kernel) (by decide +kernel)
set_option maxRecDepth 20000 in
theorem gX2_friday_X2_lives : GoodIn wsX2_friday (wsV RX2 99 RX2 yX2_lives wsX2_lives) := goodIn_app (goodIn_of _ (by decide +kernel)) ggX2_friday_X2_lives
set_option maxRecDepth 20000 in
theorem ggX2_friday_X2_passNight : GoodIn wsX2_friday wsX2_passNight := goodIn_r _ [15, 11, 16, 17, 18, 19, 20, 21, 22, 23, 1, 2, 3, 4, 5, 6, 7, 8, 9, 10, 24, 25, 26, 27, 28, 29, 30, 31, 32, 33, 34, 35, 36, 37, 38, 39, 40, 41, 42, 43, 44, 45, 46, 47, 48, 49, 50, 51, 52, 53, 54, 55, 56, 57, 58, 59, 60, 61, 62, 63, 64, 65, 66, 67, 68, 69, 70, 71, 72, 73, 74, 75, 76, 77, 78] (by decide +kernel) (by decide +kernel)
set_option maxRecDepth 20000 in
theorem gX2_friday_X2_passNight : GoodIn wsX2_friday (wsV RX2 114 RX2 yX2_passNight wsX2_passNight) := goodIn_app (goodIn_of _ (by decide +kernel)) ggX2_friday_X2_passNight
theorem dX2_friday_0 : decode cX2_friday 0 = .ok (.aload_n 0, 1) := by decide +kernel
theorem dX2_friday_1 : decode cX2_friday 1 = .ok (.iload_n 1, 1) := by decide +kernel
theorem dX2_friday_2 : decode cX2_friday 2 = .ok (.invokevirtual 99, 3) := by decide +kernel
theorem dX2_friday_5 : decode cX2_friday 5 = .ok (.ifCond .ne 5, 3) := by decide +kernel
theorem dX2_friday_8 : decode cX2_friday 8 = .ok (.iconst 0, 1) := by decide +kernel
theorem dX2_friday_9 : decode cX2_friday 9 = .ok (.ireturn, 1) := by decide +kernel
theorem dX2_friday_10 : decode cX2_friday 10 = .ok (.iconst 0, 1) := by decide +kernel
theorem dX2_friday_11 : decode cX2_friday 11 = .ok (.istore_n 2, 1) := by decide +kernel
theorem dX2_friday_12 : decode cX2_friday 12 = .ok (.iload_n 2, 1) := by decide +kernel
theorem dX2_friday_13 : decode cX2_friday 13 = .ok (.bipush 99, 2) := by decide +kernel
theorem dX2_friday_15 : decode cX2_friday 15 = .ok (.if_icmp .ge 23, 3) := by decide +kernel
theorem dX2_friday_18 : decode cX2_friday 18 = .ok (.aload_n 0, 1) := by decide +kernel
theorem dX2_friday_19 : decode cX2_friday 19 = .ok (.invokevirtual 114, 3) := by decide +kernel
theorem dX2_friday_22 : decode cX2_friday 22 = .ok (.aload_n 0, 1) := by decide +kernel
theorem dX2_friday_23 : decode cX2_friday 23 = .ok (.iload_n 1, 1) := by decide +kernel
theorem dX2_friday_24 : decode cX2_friday 24 = .ok (.invokevirtual 99, 3) := by decide +kernel
theorem dX2_friday_27 : decode cX2_friday 27 = .ok (.ifCond .ne 5, 3) := by decide +kernel
theorem dX2_friday_30 : decode cX2_friday 30 = .ok (.iload_n 2, 1) := by decide +kernel
theorem dX2_friday_31 : decode cX2_friday 31 = .ok (.ireturn, 1) := by decide +kernel
theorem dX2_friday_32 : decode cX2_friday 32 = .ok (.iinc 2 1, 3) := by decide +kernel
theorem dX2_friday_35 : decode cX2_friday 35 = .ok (.goto (-23), 3) := by decide +kernel
theorem dX2_friday_38 : decode cX2_friday 38 = .ok (.bipush 99, 2) := by decide +kernel
theorem dX2_friday_40 : decode cX2_friday 40 = .ok (.ireturn, 1) := by decide +kernel
set_option maxRecDepth 20000 in
theorem ggX2_star_X2_lives : GoodIn wsX2_star wsX2_lives := goodIn_r _ [6, 7, 8, 9, 10, 5, 11, 12, 32, 33, 34, 35, 36, 37, 38, 39, 40, 41, 42, 43, 44, 45, 46, 47, 48, 49, 50, 51, 52, 53, 54, 55, 56, 57] (by decide +kernel) (by decide +kernel)
set_option maxRecDepth 20000 in
theorem gX2_star_X2_lives : GoodIn wsX2_star (wsV RX2 99 RX2 yX2_lives wsX2_lives) := goodIn_app (goodIn_of _ (by decide +kernel)) ggX2_star_X2_lives
set_option maxRecDepth 20000 in
theorem ggX2_star_X2_price : GoodIn wsX2_star wsX2_price := goodIn_r _ [16, 17, 18, 19, 5, 20, 12, 21, 32, 33, 34, 35, 36, 37, 38, 39, 40, 41, 42, 43, 44, 45, 46, 47, 48, 49, 50, 51, 52, 53, 54, 55, 56, 57] (by decide +kernel) (by decide +kernel)
set_option maxRecDepth 20000 in
theorem gX2_star_X2_price : GoodIn wsX2_star (wsV RX2 146 RX2 yX2_price wsX2_price) := goodIn_app (goodIn_of _ (by decide +kernel)) ggX2_star_X2_price
set_option maxRecDepth 20000 in
theorem ggX2_star_X2_grown : GoodIn wsX2_star wsX2_grown := goodIn_r _ [25, 12, 26, 27, 28, 29, 30, 31, 32, 33, 34, 35, 36, 37, 38, 39, 40, 41, 42, 43, 44, 45, 46, 47, 48, 49, 50, 51, 52, 53, 54, 55, 56, 57] (by decide +kernel) (by decide +kernel)
set_option maxRecDepth 20000 in
theorem gX2_star_X2_grown : GoodIn wsX2_star (wsV RX2 170 RX2 yX2_grown wsX2_grown) := goodIn_app (goodIn_of _ (by decide +kernel)) ggX2_star_X2_grown
theorem dX2_star_0 : decode cX2_star 0 = .ok (.aload_n 0, 1) := by decide +kernel
theorem dX2_star_1 : decode cX2_star 1 = .ok (.iload_n 1, 1) := by decide +kernel
theorem dX2_star_2 : decode cX2_star 2 = .ok (.invokevirtual 99, 3) := by decide +kernel
theorem dX2_star_5 : decode cX2_star 5 = .ok (.ifCond .ne 5, 3) := by decide +kernel
theorem dX2_star_8 : decode cX2_star 8 = .ok (.iconst 0, 1) := by decide +kernel
theorem dX2_star_9 : decode cX2_star 9 = .ok (.ireturn, 1) := by decide +kernel
theorem dX2_star_10 : decode cX2_star 10 = .ok (.aload_n 0, 1) := by decide +kernel
theorem dX2_star_11 : decode cX2_star 11 = .ok (.getfield 28, 3) := by decide +kernel
theorem dX2_star_14 : decode cX2_star 14 = .ok (.iload_n 1, 1) := by decide +kernel
theorem dX2_star_15 : decode cX2_star 15 = .ok (.iaload, 1) := by decide +kernel
theorem dX2_star_16 : decode cX2_star 16 = .ok (.istore_n 2, 1) := by decide +kernel
theorem dX2_star_17 : decode cX2_star 17 = .ok (.aload_n 0, 1) := by decide +kernel
theorem dX2_star_18 : decode cX2_star 18 = .ok (.iload_n 1, 1) := by decide +kernel
theorem dX2_star_19 : decode cX2_star 19 = .ok (.invokevirtual 146, 3) := by decide +kernel
theorem dX2_star_22 : decode cX2_star 22 = .ok (.istore_n 3, 1) := by decide +kernel
theorem dX2_star_23 : decode cX2_star 23 = .ok (.iconst 0, 1) := by decide +kernel
theorem dX2_star_24 : decode cX2_star 24 = .ok (.istore 4, 2) := by decide +kernel
theorem dX2_star_26 : decode cX2_star 26 = .ok (.iload 4, 2) := by decide +kernel
theorem dX2_star_28 : decode cX2_star 28 = .ok (.bipush 99, 2) := by decide +kernel
theorem dX2_star_30 : decode cX2_star 30 = .ok (.if_icmp .ge 25, 3) := by decide +kernel
theorem dX2_star_33 : decode cX2_star 33 = .ok (.iload_n 2, 1) := by decide +kernel
theorem dX2_star_34 : decode cX2_star 34 = .ok (.iload_n 3, 1) := by decide +kernel
theorem dX2_star_35 : decode cX2_star 35 = .ok (.if_icmp .ge 6, 3) := by decide +kernel
theorem dX2_star_38 : decode cX2_star 38 = .ok (.iload 4, 2) := by decide +kernel
theorem dX2_star_40 : decode cX2_star 40 = .ok (.ireturn, 1) := by decide +kernel
theorem dX2_star_41 : decode cX2_star 41 = .ok (.aload_n 0, 1) := by decide +kernel
theorem dX2_star_42 : decode cX2_star 42 = .ok (.iload_n 2, 1) := by decide +kernel
theorem dX2_star_43 : decode cX2_star 43 = .ok (.iload_n 3, 1) := by decide +kernel
theorem dX2_star_44 : decode cX2_star 44 = .ok (.isub, 1) := by decide +kernel
theorem dX2_star_45 : decode cX2_star 45 = .ok (.invokevirtual 170, 3) := by decide +kernel
theorem dX2_star_48 : decode cX2_star 48 = .ok (.istore_n 2, 1) := by decide +kernel
theorem dX2_star_49 : decode cX2_star 49 = .ok (.iinc 4 1, 3) := by decide +kernel
theorem dX2_star_52 : decode cX2_star 52 = .ok (.goto (-26), 3) := by decide +kernel
theorem dX2_star_55 : decode cX2_star 55 = .ok (.bipush 99, 2) := by decide +kernel
theorem dX2_star_57 : decode cX2_star 57 = .ok (.ireturn, 1) := by decide +kernel
set_option maxRecDepth 20000 in
theorem ggX2_doomed_X2_lives : GoodIn wsX2_doomed wsX2_lives := goodIn_r _ [8, 9, 10, 11, 12, 7, 13, 1, 23, 24, 25, 26, 27, 28, 29, 30, 31, 32, 33, 34, 35, 36, 37, 38, 39, 40, 41, 42, 43, 44, 45, 46, 47, 48] (by decide +kernel) (by decide +kernel)
set_option maxRecDepth 20000 in
theorem gX2_doomed_X2_lives : GoodIn wsX2_doomed (wsV RX2 99 RX2 yX2_lives wsX2_lives) := goodIn_app (goodIn_of _ (by decide +kernel)) ggX2_doomed_X2_lives
set_option maxRecDepth 20000 in
theorem ggX2_doomed_X2_price : GoodIn wsX2_doomed wsX2_price := goodIn_r _ [17, 18, 19, 20, 7, 21, 1, 22, 23, 24, 25, 26, 27, 28, 29, 30, 31, 32, 33, 34, 35, 36, 37, 38, 39, 40, 41, 42, 43, 44, 45, 46, 47, 48] (by decide +kernel) (by decide +kernel)
set_option maxRecDepth 20000 in
theorem gX2_doomed_X2_price : GoodIn wsX2_doomed (wsV RX2 146 RX2 yX2_price wsX2_price) := goodIn_app (goodIn_of _ (by decide +kernel)) ggX2_doomed_X2_price
theorem dX2_doomed_0 : decode cX2_doomed 0 = .ok (.iconst 0, 1) := by decide +kernel
theorem dX2_doomed_1 : decode cX2_doomed 1 = .ok (.istore_n 1, 1) := by decide +kernel
theorem dX2_doomed_2 : decode cX2_doomed 2 = .ok (.iconst 0, 1) := by decide +kernel
theorem dX2_doomed_3 : decode cX2_doomed 3 = .ok (.istore_n 2, 1) := by decide +kernel
theorem dX2_doomed_4 : decode cX2_doomed 4 = .ok (.iload_n 2, 1) := by decide +kernel
theorem dX2_doomed_5 : decode cX2_doomed 5 = .ok (.aload_n 0, 1) := by decide +kernel
theorem dX2_doomed_6 : decode cX2_doomed 6 = .ok (.getfield 12, 3) := by decide +kernel
theorem dX2_doomed_9 : decode cX2_doomed 9 = .ok (.getfield 96, 3) := by decide +kernel
theorem dX2_doomed_12 : decode cX2_doomed 12 = .ok (.if_icmp .ge 49, 3) := by decide +kernel
theorem dX2_doomed_15 : decode cX2_doomed 15 = .ok (.aload_n 0, 1) := by decide +kernel
theorem dX2_doomed_16 : decode cX2_doomed 16 = .ok (.iload_n 2, 1) := by decide +kernel
theorem dX2_doomed_17 : decode cX2_doomed 17 = .ok (.invokevirtual 99, 3) := by decide +kernel
theorem dX2_doomed_20 : decode cX2_doomed 20 = .ok (.ifCond .eq 35, 3) := by decide +kernel
theorem dX2_doomed_23 : decode cX2_doomed 23 = .ok (.aload_n 0, 1) := by decide +kernel
theorem dX2_doomed_24 : decode cX2_doomed 24 = .ok (.getfield 28, 3) := by decide +kernel
theorem dX2_doomed_27 : decode cX2_doomed 27 = .ok (.iload_n 2, 1) := by decide +kernel
theorem dX2_doomed_28 : decode cX2_doomed 28 = .ok (.iaload, 1) := by decide +kernel
theorem dX2_doomed_29 : decode cX2_doomed 29 = .ok (.aload_n 0, 1) := by decide +kernel
theorem dX2_doomed_30 : decode cX2_doomed 30 = .ok (.iload_n 2, 1) := by decide +kernel
theorem dX2_doomed_31 : decode cX2_doomed 31 = .ok (.invokevirtual 146, 3) := by decide +kernel
theorem dX2_doomed_34 : decode cX2_doomed 34 = .ok (.if_icmp .lt 15, 3) := by decide +kernel
theorem dX2_doomed_37 : decode cX2_doomed 37 = .ok (.aload_n 0, 1) := by decide +kernel
theorem dX2_doomed_38 : decode cX2_doomed 38 = .ok (.getfield 60, 3) := by decide +kernel
theorem dX2_doomed_41 : decode cX2_doomed 41 = .ok (.aload_n 0, 1) := by decide +kernel
theorem dX2_doomed_42 : decode cX2_doomed 42 = .ok (.iload_n 2, 1) := by decide +kernel
theorem dX2_doomed_43 : decode cX2_doomed 43 = .ok (.invokevirtual 146, 3) := by decide +kernel
theorem dX2_doomed_46 : decode cX2_doomed 46 = .ok (.if_icmp .ge 9, 3) := by decide +kernel
theorem dX2_doomed_49 : decode cX2_doomed 49 = .ok (.iload_n 1, 1) := by decide +kernel
theorem dX2_doomed_50 : decode cX2_doomed 50 = .ok (.iconst 1, 1) := by decide +kernel
theorem dX2_doomed_51 : decode cX2_doomed 51 = .ok (.iload_n 2, 1) := by decide +kernel
theorem dX2_doomed_52 : decode cX2_doomed 52 = .ok (.ishl, 1) := by decide +kernel
theorem dX2_doomed_53 : decode cX2_doomed 53 = .ok (.ior, 1) := by decide +kernel
theorem dX2_doomed_54 : decode cX2_doomed 54 = .ok (.istore_n 1, 1) := by decide +kernel
theorem dX2_doomed_55 : decode cX2_doomed 55 = .ok (.iinc 2 1, 3) := by decide +kernel
theorem dX2_doomed_58 : decode cX2_doomed 58 = .ok (.goto (-54), 3) := by decide +kernel
theorem dX2_doomed_61 : decode cX2_doomed 61 = .ok (.iload_n 1, 1) := by decide +kernel
theorem dX2_doomed_62 : decode cX2_doomed 62 = .ok (.ireturn, 1) := by decide +kernel
set_option maxRecDepth 20000 in
theorem ggX2_danger_X2_doomed : GoodIn wsX2_danger wsX2_doomed := goodIn_r _ [6, 7, 8, 1, 9, 10, 11, 5, 12, 13, 14, 15, 16, 17, 18, 19, 20, 21, 22, 23, 24, 25, 26, 39, 40, 41, 42, 43, 44, 45, 46, 47, 48, 49, 50, 51, 52, 53, 54, 55, 56, 57, 58, 59, 60, 61, 62, 63, 64] (by decide +kernel) (by decide +kernel)
set_option maxRecDepth 20000 in
theorem gX2_danger_X2_doomed : GoodIn wsX2_danger (wsV RX2 189 RX2 yX2_doomed wsX2_doomed) := goodIn_app (goodIn_of _ (by decide +kernel)) ggX2_danger_X2_doomed
set_option maxRecDepth 20000 in
theorem ggX2_danger_X2_living : GoodIn wsX2_danger wsX2_living := goodIn_r _ [30, 7, 9, 10, 11, 5, 12, 13, 14, 15, 16, 17, 39, 40, 41, 42, 43, 44, 45, 46, 47, 48, 49, 50, 51, 52, 53, 54, 55, 56, 57, 58, 59, 60, 61, 62, 63, 64] (by decide +kernel) (by decide +kernel)
set_option maxRecDepth 20000 in
theorem gX2_danger_X2_living : GoodIn wsX2_danger (wsV RX2 176 RX2 yX2_living wsX2_living) := goodIn_app (goodIn_of _ (by decide +kernel)) ggX2_danger_X2_living
set_option maxRecDepth 20000 in
theorem ggX2_danger_X2_pricesOf : GoodIn wsX2_danger wsX2_pricesOf := goodIn_r _ [34, 7, 18, 19, 20, 5, 21, 22, 23, 24, 25, 26, 39, 40, 41, 42, 43, 44, 45, 46, 47, 48, 49, 50, 51, 52, 53, 54, 55, 56, 57, 58, 59, 60, 61, 62, 63, 64] (by decide +kernel) (by decide +kernel)
set_option maxRecDepth 20000 in
theorem gX2_danger_X2_pricesOf : GoodIn wsX2_danger (wsV RX2 192 RX2 yX2_pricesOf wsX2_pricesOf) := goodIn_app (goodIn_of _ (by decide +kernel)) ggX2_danger_X2_pricesOf
set_option maxRecDepth 20000 in
theorem ggX2_danger_X2_dearerThan : GoodIn wsX2_danger wsX2_dearerThan := goodIn_r _ [38, 7, 18, 19, 20, 5, 21, 22, 23, 24, 25, 26, 39, 40, 41, 42, 43, 44, 45, 46, 47, 48, 49, 50, 51, 52, 53, 54, 55, 56, 57, 58, 59, 60, 61, 62, 63, 64] (by decide +kernel) (by decide +kernel)
set_option maxRecDepth 20000 in
theorem gX2_danger_X2_dearerThan : GoodIn wsX2_danger (wsV RX2 195 RX2 yX2_dearerThan wsX2_dearerThan) := goodIn_app (goodIn_of _ (by decide +kernel)) ggX2_danger_X2_dearerThan
theorem dX2_danger_0 : decode cX2_danger 0 = .ok (.aload_n 0, 1) := by decide +kernel
theorem dX2_danger_1 : decode cX2_danger 1 = .ok (.invokevirtual 189, 3) := by decide +kernel
theorem dX2_danger_4 : decode cX2_danger 4 = .ok (.istore_n 1, 1) := by decide +kernel
theorem dX2_danger_5 : decode cX2_danger 5 = .ok (.aload_n 0, 1) := by decide +kernel
theorem dX2_danger_6 : decode cX2_danger 6 = .ok (.invokevirtual 176, 3) := by decide +kernel
theorem dX2_danger_9 : decode cX2_danger 9 = .ok (.iload_n 1, 1) := by decide +kernel
theorem dX2_danger_10 : decode cX2_danger 10 = .ok (.iconst (-1), 1) := by decide +kernel
theorem dX2_danger_11 : decode cX2_danger 11 = .ok (.ixor, 1) := by decide +kernel
theorem dX2_danger_12 : decode cX2_danger 12 = .ok (.iand, 1) := by decide +kernel
theorem dX2_danger_13 : decode cX2_danger 13 = .ok (.istore_n 2, 1) := by decide +kernel
theorem dX2_danger_14 : decode cX2_danger 14 = .ok (.iconst 0, 1) := by decide +kernel
theorem dX2_danger_15 : decode cX2_danger 15 = .ok (.istore_n 3, 1) := by decide +kernel
theorem dX2_danger_16 : decode cX2_danger 16 = .ok (.iload_n 3, 1) := by decide +kernel
theorem dX2_danger_17 : decode cX2_danger 17 = .ok (.bipush 64, 2) := by decide +kernel
theorem dX2_danger_19 : decode cX2_danger 19 = .ok (.if_icmp .ge 49, 3) := by decide +kernel
theorem dX2_danger_22 : decode cX2_danger 22 = .ok (.aload_n 0, 1) := by decide +kernel
theorem dX2_danger_23 : decode cX2_danger 23 = .ok (.getfield 60, 3) := by decide +kernel
theorem dX2_danger_26 : decode cX2_danger 26 = .ok (.aload_n 0, 1) := by decide +kernel
theorem dX2_danger_27 : decode cX2_danger 27 = .ok (.iload_n 3, 1) := by decide +kernel
theorem dX2_danger_28 : decode cX2_danger 28 = .ok (.invokevirtual 192, 3) := by decide +kernel
theorem dX2_danger_31 : decode cX2_danger 31 = .ok (.isub, 1) := by decide +kernel
theorem dX2_danger_32 : decode cX2_danger 32 = .ok (.istore 4, 2) := by decide +kernel
theorem dX2_danger_34 : decode cX2_danger 34 = .ok (.iload_n 3, 1) := by decide +kernel
theorem dX2_danger_35 : decode cX2_danger 35 = .ok (.iload_n 2, 1) := by decide +kernel
theorem dX2_danger_36 : decode cX2_danger 36 = .ok (.iconst (-1), 1) := by decide +kernel
theorem dX2_danger_37 : decode cX2_danger 37 = .ok (.ixor, 1) := by decide +kernel
theorem dX2_danger_38 : decode cX2_danger 38 = .ok (.iand, 1) := by decide +kernel
theorem dX2_danger_39 : decode cX2_danger 39 = .ok (.ifCond .ne 23, 3) := by decide +kernel
theorem dX2_danger_42 : decode cX2_danger 42 = .ok (.iload 4, 2) := by decide +kernel
theorem dX2_danger_44 : decode cX2_danger 44 = .ok (.ifCond .lt 18, 3) := by decide +kernel
theorem dX2_danger_47 : decode cX2_danger 47 = .ok (.iload_n 1, 1) := by decide +kernel
theorem dX2_danger_48 : decode cX2_danger 48 = .ok (.iload_n 2, 1) := by decide +kernel
theorem dX2_danger_49 : decode cX2_danger 49 = .ok (.iload_n 3, 1) := by decide +kernel
theorem dX2_danger_50 : decode cX2_danger 50 = .ok (.iconst (-1), 1) := by decide +kernel
theorem dX2_danger_51 : decode cX2_danger 51 = .ok (.ixor, 1) := by decide +kernel
theorem dX2_danger_52 : decode cX2_danger 52 = .ok (.iand, 1) := by decide +kernel
theorem dX2_danger_53 : decode cX2_danger 53 = .ok (.aload_n 0, 1) := by decide +kernel
theorem dX2_danger_54 : decode cX2_danger 54 = .ok (.iload 4, 2) := by decide +kernel
theorem dX2_danger_56 : decode cX2_danger 56 = .ok (.invokevirtual 195, 3) := by decide +kernel
theorem dX2_danger_59 : decode cX2_danger 59 = .ok (.iand, 1) := by decide +kernel
theorem dX2_danger_60 : decode cX2_danger 60 = .ok (.ior, 1) := by decide +kernel
theorem dX2_danger_61 : decode cX2_danger 61 = .ok (.istore_n 1, 1) := by decide +kernel
theorem dX2_danger_62 : decode cX2_danger 62 = .ok (.iinc 3 1, 3) := by decide +kernel
theorem dX2_danger_65 : decode cX2_danger 65 = .ok (.goto (-49), 3) := by decide +kernel
theorem dX2_danger_68 : decode cX2_danger 68 = .ok (.iload_n 1, 1) := by decide +kernel
theorem dX2_danger_69 : decode cX2_danger 69 = .ok (.ireturn, 1) := by decide +kernel
set_option maxRecDepth 20000 in
theorem ggX2_pricesOf_X2_price : GoodIn wsX2_pricesOf wsX2_price := goodIn_r _ [6, 7, 8, 9, 5, 10, 1, 11, 12, 13, 14, 15, 16, 17, 18, 19, 20, 21, 22, 23, 24, 25, 26, 27, 28, 29, 30, 31, 32, 33, 34, 35, 36, 37] (by decide +kernel) (by decide +kernel)
set_option maxRecDepth 20000 in
theorem gX2_pricesOf_X2_price : GoodIn wsX2_pricesOf (wsV RX2 146 RX2 yX2_price wsX2_price) := goodIn_app (goodIn_of _ (by decide +kernel)) ggX2_pricesOf_X2_price
theorem dX2_pricesOf_0 : decode cX2_pricesOf 0 = .ok (.iconst 0, 1) := by decide +kernel
theorem dX2_pricesOf_1 : decode cX2_pricesOf 1 = .ok (.istore_n 2, 1) := by decide +kernel
theorem dX2_pricesOf_2 : decode cX2_pricesOf 2 = .ok (.iconst 0, 1) := by decide +kernel
theorem dX2_pricesOf_3 : decode cX2_pricesOf 3 = .ok (.istore_n 3, 1) := by decide +kernel
theorem dX2_pricesOf_4 : decode cX2_pricesOf 4 = .ok (.iload_n 3, 1) := by decide +kernel
theorem dX2_pricesOf_5 : decode cX2_pricesOf 5 = .ok (.aload_n 0, 1) := by decide +kernel
theorem dX2_pricesOf_6 : decode cX2_pricesOf 6 = .ok (.getfield 12, 3) := by decide +kernel
theorem dX2_pricesOf_9 : decode cX2_pricesOf 9 = .ok (.getfield 96, 3) := by decide +kernel
theorem dX2_pricesOf_12 : decode cX2_pricesOf 12 = .ok (.if_icmp .ge 25, 3) := by decide +kernel
theorem dX2_pricesOf_15 : decode cX2_pricesOf 15 = .ok (.iload_n 1, 1) := by decide +kernel
theorem dX2_pricesOf_16 : decode cX2_pricesOf 16 = .ok (.iload_n 3, 1) := by decide +kernel
theorem dX2_pricesOf_17 : decode cX2_pricesOf 17 = .ok (.ishr, 1) := by decide +kernel
theorem dX2_pricesOf_18 : decode cX2_pricesOf 18 = .ok (.iconst 1, 1) := by decide +kernel
theorem dX2_pricesOf_19 : decode cX2_pricesOf 19 = .ok (.iand, 1) := by decide +kernel
theorem dX2_pricesOf_20 : decode cX2_pricesOf 20 = .ok (.ifCond .eq 11, 3) := by decide +kernel
theorem dX2_pricesOf_23 : decode cX2_pricesOf 23 = .ok (.iload_n 2, 1) := by decide +kernel
theorem dX2_pricesOf_24 : decode cX2_pricesOf 24 = .ok (.aload_n 0, 1) := by decide +kernel
theorem dX2_pricesOf_25 : decode cX2_pricesOf 25 = .ok (.iload_n 3, 1) := by decide +kernel
theorem dX2_pricesOf_26 : decode cX2_pricesOf 26 = .ok (.invokevirtual 146, 3) := by decide +kernel
theorem dX2_pricesOf_29 : decode cX2_pricesOf 29 = .ok (.iadd, 1) := by decide +kernel
theorem dX2_pricesOf_30 : decode cX2_pricesOf 30 = .ok (.istore_n 2, 1) := by decide +kernel
theorem dX2_pricesOf_31 : decode cX2_pricesOf 31 = .ok (.iinc 3 1, 3) := by decide +kernel
theorem dX2_pricesOf_34 : decode cX2_pricesOf 34 = .ok (.goto (-30), 3) := by decide +kernel
theorem dX2_pricesOf_37 : decode cX2_pricesOf 37 = .ok (.iload_n 2, 1) := by decide +kernel
theorem dX2_pricesOf_38 : decode cX2_pricesOf 38 = .ok (.ireturn, 1) := by decide +kernel
set_option maxRecDepth 20000 in
theorem ggX2_dearerThan_X2_price : GoodIn wsX2_dearerThan wsX2_price := goodIn_r _ [6, 7, 8, 9, 5, 10, 1, 11, 12, 13, 14, 15, 16, 17, 18, 19, 20, 21, 22, 23, 24, 25, 26, 27, 28, 29, 30, 31, 32, 33, 34, 35, 36, 37] (by decide +kernel) (by decide +kernel)
set_option maxRecDepth 20000 in
theorem gX2_dearerThan_X2_price : GoodIn wsX2_dearerThan (wsV RX2 146 RX2 yX2_price wsX2_price) := goodIn_app (goodIn_of _ (by decide +kernel)) ggX2_dearerThan_X2_price
theorem dX2_dearerThan_0 : decode cX2_dearerThan 0 = .ok (.iconst 0, 1) := by decide +kernel
theorem dX2_dearerThan_1 : decode cX2_dearerThan 1 = .ok (.istore_n 2, 1) := by decide +kernel
theorem dX2_dearerThan_2 : decode cX2_dearerThan 2 = .ok (.iconst 0, 1) := by decide +kernel
theorem dX2_dearerThan_3 : decode cX2_dearerThan 3 = .ok (.istore_n 3, 1) := by decide +kernel
theorem dX2_dearerThan_4 : decode cX2_dearerThan 4 = .ok (.iload_n 3, 1) := by decide +kernel
theorem dX2_dearerThan_5 : decode cX2_dearerThan 5 = .ok (.aload_n 0, 1) := by decide +kernel
theorem dX2_dearerThan_6 : decode cX2_dearerThan 6 = .ok (.getfield 12, 3) := by decide +kernel
theorem dX2_dearerThan_9 : decode cX2_dearerThan 9 = .ok (.getfield 96, 3) := by decide +kernel
theorem dX2_dearerThan_12 : decode cX2_dearerThan 12 = .ok (.if_icmp .ge 24, 3) := by decide +kernel
theorem dX2_dearerThan_15 : decode cX2_dearerThan 15 = .ok (.aload_n 0, 1) := by decide +kernel
theorem dX2_dearerThan_16 : decode cX2_dearerThan 16 = .ok (.iload_n 3, 1) := by decide +kernel
theorem dX2_dearerThan_17 : decode cX2_dearerThan 17 = .ok (.invokevirtual 146, 3) := by decide +kernel
theorem dX2_dearerThan_20 : decode cX2_dearerThan 20 = .ok (.iload_n 1, 1) := by decide +kernel
theorem dX2_dearerThan_21 : decode cX2_dearerThan 21 = .ok (.if_icmp .le 9, 3) := by decide +kernel
theorem dX2_dearerThan_24 : decode cX2_dearerThan 24 = .ok (.iload_n 2, 1) := by decide +kernel
theorem dX2_dearerThan_25 : decode cX2_dearerThan 25 = .ok (.iconst 1, 1) := by decide +kernel
theorem dX2_dearerThan_26 : decode cX2_dearerThan 26 = .ok (.iload_n 3, 1) := by decide +kernel
theorem dX2_dearerThan_27 : decode cX2_dearerThan 27 = .ok (.ishl, 1) := by decide +kernel
theorem dX2_dearerThan_28 : decode cX2_dearerThan 28 = .ok (.ior, 1) := by decide +kernel
theorem dX2_dearerThan_29 : decode cX2_dearerThan 29 = .ok (.istore_n 2, 1) := by decide +kernel
theorem dX2_dearerThan_30 : decode cX2_dearerThan 30 = .ok (.iinc 3 1, 3) := by decide +kernel
theorem dX2_dearerThan_33 : decode cX2_dearerThan 33 = .ok (.goto (-29), 3) := by decide +kernel
theorem dX2_dearerThan_36 : decode cX2_dearerThan 36 = .ok (.iload_n 2, 1) := by decide +kernel
theorem dX2_dearerThan_37 : decode cX2_dearerThan 37 = .ok (.ireturn, 1) := by decide +kernel
theorem dX2_loan_0 : decode cX2_loan 0 = .ok (.iconst (-1), 1) := by decide +kernel
theorem dX2_loan_1 : decode cX2_loan 1 = .ok (.istore_n 1, 1) := by decide +kernel
theorem dX2_loan_2 : decode cX2_loan 2 = .ok (.iconst 0, 1) := by decide +kernel
theorem dX2_loan_3 : decode cX2_loan 3 = .ok (.istore_n 2, 1) := by decide +kernel
theorem dX2_loan_4 : decode cX2_loan 4 = .ok (.iconst 0, 1) := by decide +kernel
theorem dX2_loan_5 : decode cX2_loan 5 = .ok (.istore_n 3, 1) := by decide +kernel
theorem dX2_loan_6 : decode cX2_loan 6 = .ok (.iload_n 3, 1) := by decide +kernel
theorem dX2_loan_7 : decode cX2_loan 7 = .ok (.aload_n 0, 1) := by decide +kernel
theorem dX2_loan_8 : decode cX2_loan 8 = .ok (.getfield 12, 3) := by decide +kernel
theorem dX2_loan_11 : decode cX2_loan 11 = .ok (.getfield 103, 3) := by decide +kernel
theorem dX2_loan_14 : decode cX2_loan 14 = .ok (.if_icmp .ge 60, 3) := by decide +kernel
theorem dX2_loan_17 : decode cX2_loan 17 = .ok (.iconst 0, 1) := by decide +kernel
theorem dX2_loan_18 : decode cX2_loan 18 = .ok (.istore 4, 2) := by decide +kernel
theorem dX2_loan_20 : decode cX2_loan 20 = .ok (.iconst 0, 1) := by decide +kernel
theorem dX2_loan_21 : decode cX2_loan 21 = .ok (.istore 5, 2) := by decide +kernel
theorem dX2_loan_23 : decode cX2_loan 23 = .ok (.iload 5, 2) := by decide +kernel
theorem dX2_loan_25 : decode cX2_loan 25 = .ok (.aload_n 0, 1) := by decide +kernel
theorem dX2_loan_26 : decode cX2_loan 26 = .ok (.getfield 12, 3) := by decide +kernel
theorem dX2_loan_29 : decode cX2_loan 29 = .ok (.getfield 103, 3) := by decide +kernel
theorem dX2_loan_32 : decode cX2_loan 32 = .ok (.if_icmp .ge 25, 3) := by decide +kernel
theorem dX2_loan_35 : decode cX2_loan 35 = .ok (.iload 4, 2) := by decide +kernel
theorem dX2_loan_37 : decode cX2_loan 37 = .ok (.aload_n 0, 1) := by decide +kernel
theorem dX2_loan_38 : decode cX2_loan 38 = .ok (.getfield 22, 3) := by decide +kernel
theorem dX2_loan_41 : decode cX2_loan 41 = .ok (.iload_n 3, 1) := by decide +kernel
theorem dX2_loan_42 : decode cX2_loan 42 = .ok (.iconst 5, 1) := by decide +kernel
theorem dX2_loan_43 : decode cX2_loan 43 = .ok (.imul, 1) := by decide +kernel
theorem dX2_loan_44 : decode cX2_loan 44 = .ok (.iload 5, 2) := by decide +kernel
theorem dX2_loan_46 : decode cX2_loan 46 = .ok (.iadd, 1) := by decide +kernel
theorem dX2_loan_47 : decode cX2_loan 47 = .ok (.iaload, 1) := by decide +kernel
theorem dX2_loan_48 : decode cX2_loan 48 = .ok (.iadd, 1) := by decide +kernel
theorem dX2_loan_49 : decode cX2_loan 49 = .ok (.istore 4, 2) := by decide +kernel
theorem dX2_loan_51 : decode cX2_loan 51 = .ok (.iinc 5 1, 3) := by decide +kernel
theorem dX2_loan_54 : decode cX2_loan 54 = .ok (.goto (-31), 3) := by decide +kernel
theorem dX2_loan_57 : decode cX2_loan 57 = .ok (.iload 4, 2) := by decide +kernel
theorem dX2_loan_59 : decode cX2_loan 59 = .ok (.iload_n 2, 1) := by decide +kernel
theorem dX2_loan_60 : decode cX2_loan 60 = .ok (.if_icmp .le 8, 3) := by decide +kernel
theorem dX2_loan_63 : decode cX2_loan 63 = .ok (.iload_n 3, 1) := by decide +kernel
theorem dX2_loan_64 : decode cX2_loan 64 = .ok (.istore_n 1, 1) := by decide +kernel
theorem dX2_loan_65 : decode cX2_loan 65 = .ok (.iload 4, 2) := by decide +kernel
theorem dX2_loan_67 : decode cX2_loan 67 = .ok (.istore_n 2, 1) := by decide +kernel
theorem dX2_loan_68 : decode cX2_loan 68 = .ok (.iinc 3 1, 3) := by decide +kernel
theorem dX2_loan_71 : decode cX2_loan 71 = .ok (.goto (-65), 3) := by decide +kernel
theorem dX2_loan_74 : decode cX2_loan 74 = .ok (.iload_n 1, 1) := by decide +kernel
theorem dX2_loan_75 : decode cX2_loan 75 = .ok (.ireturn, 1) := by decide +kernel
theorem dX2_idol_0 : decode cX2_idol 0 = .ok (.iconst (-1), 1) := by decide +kernel
theorem dX2_idol_1 : decode cX2_idol 1 = .ok (.istore_n 1, 1) := by decide +kernel
theorem dX2_idol_2 : decode cX2_idol 2 = .ok (.iconst 0, 1) := by decide +kernel
theorem dX2_idol_3 : decode cX2_idol 3 = .ok (.istore_n 2, 1) := by decide +kernel
theorem dX2_idol_4 : decode cX2_idol 4 = .ok (.iconst 0, 1) := by decide +kernel
theorem dX2_idol_5 : decode cX2_idol 5 = .ok (.istore_n 3, 1) := by decide +kernel
theorem dX2_idol_6 : decode cX2_idol 6 = .ok (.iload_n 3, 1) := by decide +kernel
theorem dX2_idol_7 : decode cX2_idol 7 = .ok (.aload_n 0, 1) := by decide +kernel
theorem dX2_idol_8 : decode cX2_idol 8 = .ok (.getfield 12, 3) := by decide +kernel
theorem dX2_idol_11 : decode cX2_idol 11 = .ok (.getfield 96, 3) := by decide +kernel
theorem dX2_idol_14 : decode cX2_idol 14 = .ok (.if_icmp .ge 61, 3) := by decide +kernel
theorem dX2_idol_17 : decode cX2_idol 17 = .ok (.iconst 0, 1) := by decide +kernel
theorem dX2_idol_18 : decode cX2_idol 18 = .ok (.istore 4, 2) := by decide +kernel
theorem dX2_idol_20 : decode cX2_idol 20 = .ok (.iconst 0, 1) := by decide +kernel
theorem dX2_idol_21 : decode cX2_idol 21 = .ok (.istore 5, 2) := by decide +kernel
theorem dX2_idol_23 : decode cX2_idol 23 = .ok (.iload 5, 2) := by decide +kernel
theorem dX2_idol_25 : decode cX2_idol 25 = .ok (.aload_n 0, 1) := by decide +kernel
theorem dX2_idol_26 : decode cX2_idol 26 = .ok (.getfield 12, 3) := by decide +kernel
theorem dX2_idol_29 : decode cX2_idol 29 = .ok (.getfield 103, 3) := by decide +kernel
theorem dX2_idol_32 : decode cX2_idol 32 = .ok (.if_icmp .ge 26, 3) := by decide +kernel
theorem dX2_idol_35 : decode cX2_idol 35 = .ok (.iload 4, 2) := by decide +kernel
theorem dX2_idol_37 : decode cX2_idol 37 = .ok (.aload_n 0, 1) := by decide +kernel
theorem dX2_idol_38 : decode cX2_idol 38 = .ok (.getfield 25, 3) := by decide +kernel
theorem dX2_idol_41 : decode cX2_idol 41 = .ok (.iload 5, 2) := by decide +kernel
theorem dX2_idol_43 : decode cX2_idol 43 = .ok (.bipush 6, 2) := by decide +kernel
theorem dX2_idol_45 : decode cX2_idol 45 = .ok (.imul, 1) := by decide +kernel
theorem dX2_idol_46 : decode cX2_idol 46 = .ok (.iload_n 3, 1) := by decide +kernel
theorem dX2_idol_47 : decode cX2_idol 47 = .ok (.iadd, 1) := by decide +kernel
theorem dX2_idol_48 : decode cX2_idol 48 = .ok (.iaload, 1) := by decide +kernel
theorem dX2_idol_49 : decode cX2_idol 49 = .ok (.iadd, 1) := by decide +kernel
theorem dX2_idol_50 : decode cX2_idol 50 = .ok (.istore 4, 2) := by decide +kernel
theorem dX2_idol_52 : decode cX2_idol 52 = .ok (.iinc 5 1, 3) := by decide +kernel
theorem dX2_idol_55 : decode cX2_idol 55 = .ok (.goto (-32), 3) := by decide +kernel
theorem dX2_idol_58 : decode cX2_idol 58 = .ok (.iload 4, 2) := by decide +kernel
theorem dX2_idol_60 : decode cX2_idol 60 = .ok (.iload_n 2, 1) := by decide +kernel
theorem dX2_idol_61 : decode cX2_idol 61 = .ok (.if_icmp .le 8, 3) := by decide +kernel
theorem dX2_idol_64 : decode cX2_idol 64 = .ok (.iload_n 3, 1) := by decide +kernel
theorem dX2_idol_65 : decode cX2_idol 65 = .ok (.istore_n 1, 1) := by decide +kernel
theorem dX2_idol_66 : decode cX2_idol 66 = .ok (.iload 4, 2) := by decide +kernel
theorem dX2_idol_68 : decode cX2_idol 68 = .ok (.istore_n 2, 1) := by decide +kernel
theorem dX2_idol_69 : decode cX2_idol 69 = .ok (.iinc 3 1, 3) := by decide +kernel
theorem dX2_idol_72 : decode cX2_idol 72 = .ok (.goto (-66), 3) := by decide +kernel
theorem dX2_idol_75 : decode cX2_idol 75 = .ok (.iload_n 1, 1) := by decide +kernel
theorem dX2_idol_76 : decode cX2_idol 76 = .ok (.ireturn, 1) := by decide +kernel
set_option maxRecDepth 20000 in
theorem ggX2_tip_X2_lives : GoodIn wsX2_tip wsX2_lives := goodIn_r _ [5, 6, 7, 8, 9, 4, 10, 11, 27, 28, 29, 30, 31, 32, 33, 34, 35, 36, 37, 38, 39, 40, 41, 42, 43, 44, 45, 46, 47, 48, 49, 50, 51, 52] (by decide +kernel) (by decide +kernel)
set_option maxRecDepth 20000 in
theorem gX2_tip_X2_lives : GoodIn wsX2_tip (wsV RX2 99 RX2 yX2_lives wsX2_lives) := goodIn_app (goodIn_of _ (by decide +kernel)) ggX2_tip_X2_lives
set_option maxRecDepth 20000 in
theorem ggX2_tip_X2_eatsWith : GoodIn wsX2_tip wsX2_eatsWith := goodIn_r _ [15, 16, 17, 1, 2, 3, 4, 5, 6, 7, 8, 9, 10, 11, 18, 19, 20, 21, 22, 23, 24, 25, 26, 27, 28, 29, 30, 31, 32, 33, 34, 35, 36, 37, 38, 39, 40, 41, 42, 43, 44, 45, 46, 47, 48, 49, 50, 51, 52] (by decide +kernel) (by decide +kernel)
set_option maxRecDepth 20000 in
theorem gX2_tip_X2_eatsWith : GoodIn wsX2_tip (wsV RX2 198 RX2 yX2_eatsWith wsX2_eatsWith) := goodIn_app (goodIn_of _ (by decide +kernel)) ggX2_tip_X2_eatsWith
theorem dX2_tip_0 : decode cX2_tip 0 = .ok (.aload_n 0, 1) := by decide +kernel
theorem dX2_tip_1 : decode cX2_tip 1 = .ok (.iload_n 1, 1) := by decide +kernel
theorem dX2_tip_2 : decode cX2_tip 2 = .ok (.invokevirtual 99, 3) := by decide +kernel
theorem dX2_tip_5 : decode cX2_tip 5 = .ok (.ifCond .ne 5, 3) := by decide +kernel
theorem dX2_tip_8 : decode cX2_tip 8 = .ok (.iconst (-1), 1) := by decide +kernel
theorem dX2_tip_9 : decode cX2_tip 9 = .ok (.ireturn, 1) := by decide +kernel
theorem dX2_tip_10 : decode cX2_tip 10 = .ok (.iconst 0, 1) := by decide +kernel
theorem dX2_tip_11 : decode cX2_tip 11 = .ok (.istore_n 2, 1) := by decide +kernel
theorem dX2_tip_12 : decode cX2_tip 12 = .ok (.iload_n 2, 1) := by decide +kernel
theorem dX2_tip_13 : decode cX2_tip 13 = .ok (.bipush 99, 2) := by decide +kernel
theorem dX2_tip_15 : decode cX2_tip 15 = .ok (.if_icmp .gt 22, 3) := by decide +kernel
theorem dX2_tip_18 : decode cX2_tip 18 = .ok (.aload_n 0, 1) := by decide +kernel
theorem dX2_tip_19 : decode cX2_tip 19 = .ok (.iload_n 1, 1) := by decide +kernel
theorem dX2_tip_20 : decode cX2_tip 20 = .ok (.iconst 2, 1) := by decide +kernel
theorem dX2_tip_21 : decode cX2_tip 21 = .ok (.iload_n 2, 1) := by decide +kernel
theorem dX2_tip_22 : decode cX2_tip 22 = .ok (.imul, 1) := by decide +kernel
theorem dX2_tip_23 : decode cX2_tip 23 = .ok (.invokevirtual 198, 3) := by decide +kernel
theorem dX2_tip_26 : decode cX2_tip 26 = .ok (.ifCond .eq 5, 3) := by decide +kernel
theorem dX2_tip_29 : decode cX2_tip 29 = .ok (.iload_n 2, 1) := by decide +kernel
theorem dX2_tip_30 : decode cX2_tip 30 = .ok (.ireturn, 1) := by decide +kernel
theorem dX2_tip_31 : decode cX2_tip 31 = .ok (.iinc 2 1, 3) := by decide +kernel
theorem dX2_tip_34 : decode cX2_tip 34 = .ok (.goto (-22), 3) := by decide +kernel
theorem dX2_tip_37 : decode cX2_tip 37 = .ok (.iconst (-1), 1) := by decide +kernel
theorem dX2_tip_38 : decode cX2_tip 38 = .ok (.ireturn, 1) := by decide +kernel
set_option maxRecDepth 20000 in
theorem ggX2_eatsWith_X2_lives : GoodIn wsX2_eatsWith wsX2_lives := goodIn_r _ [7, 8, 9, 10, 11, 6, 12, 13, 23, 24, 25, 26, 27, 28, 29, 30, 31, 32, 33, 34, 35, 36, 37, 38, 39, 40, 41, 42, 43, 44, 45, 46, 47, 48] (by decide +kernel) (by decide +kernel)
set_option maxRecDepth 20000 in
theorem gX2_eatsWith_X2_lives : GoodIn wsX2_eatsWith (wsV RX2 99 RX2 yX2_lives wsX2_lives) := goodIn_app (goodIn_of _ (by decide +kernel)) ggX2_eatsWith_X2_lives
set_option maxRecDepth 20000 in
theorem ggX2_eatsWith_X2_price : GoodIn wsX2_eatsWith wsX2_price := goodIn_r _ [17, 18, 19, 20, 6, 21, 13, 22, 23, 24, 25, 26, 27, 28, 29, 30, 31, 32, 33, 34, 35, 36, 37, 38, 39, 40, 41, 42, 43, 44, 45, 46, 47, 48] (by decide +kernel) (by decide +kernel)
set_option maxRecDepth 20000 in
theorem gX2_eatsWith_X2_price : GoodIn wsX2_eatsWith (wsV RX2 146 RX2 yX2_price wsX2_price) := goodIn_app (goodIn_of _ (by decide +kernel)) ggX2_eatsWith_X2_price
theorem dX2_eatsWith_0 : decode cX2_eatsWith 0 = .ok (.aload_n 0, 1) := by decide +kernel
theorem dX2_eatsWith_1 : decode cX2_eatsWith 1 = .ok (.getfield 60, 3) := by decide +kernel
theorem dX2_eatsWith_4 : decode cX2_eatsWith 4 = .ok (.iload_n 2, 1) := by decide +kernel
theorem dX2_eatsWith_5 : decode cX2_eatsWith 5 = .ok (.iadd, 1) := by decide +kernel
theorem dX2_eatsWith_6 : decode cX2_eatsWith 6 = .ok (.istore_n 3, 1) := by decide +kernel
theorem dX2_eatsWith_7 : decode cX2_eatsWith 7 = .ok (.iconst 0, 1) := by decide +kernel
theorem dX2_eatsWith_8 : decode cX2_eatsWith 8 = .ok (.istore 4, 2) := by decide +kernel
theorem dX2_eatsWith_10 : decode cX2_eatsWith 10 = .ok (.iload 4, 2) := by decide +kernel
theorem dX2_eatsWith_12 : decode cX2_eatsWith 12 = .ok (.iload_n 1, 1) := by decide +kernel
theorem dX2_eatsWith_13 : decode cX2_eatsWith 13 = .ok (.if_icmp .ge 53, 3) := by decide +kernel
theorem dX2_eatsWith_16 : decode cX2_eatsWith 16 = .ok (.aload_n 0, 1) := by decide +kernel
theorem dX2_eatsWith_17 : decode cX2_eatsWith 17 = .ok (.iload 4, 2) := by decide +kernel
theorem dX2_eatsWith_19 : decode cX2_eatsWith 19 = .ok (.invokevirtual 99, 3) := by decide +kernel
theorem dX2_eatsWith_22 : decode cX2_eatsWith 22 = .ok (.ifCond .eq 38, 3) := by decide +kernel
theorem dX2_eatsWith_25 : decode cX2_eatsWith 25 = .ok (.aload_n 0, 1) := by decide +kernel
theorem dX2_eatsWith_26 : decode cX2_eatsWith 26 = .ok (.getfield 28, 3) := by decide +kernel
theorem dX2_eatsWith_29 : decode cX2_eatsWith 29 = .ok (.iload 4, 2) := by decide +kernel
theorem dX2_eatsWith_31 : decode cX2_eatsWith 31 = .ok (.iaload, 1) := by decide +kernel
theorem dX2_eatsWith_32 : decode cX2_eatsWith 32 = .ok (.aload_n 0, 1) := by decide +kernel
theorem dX2_eatsWith_33 : decode cX2_eatsWith 33 = .ok (.iload 4, 2) := by decide +kernel
theorem dX2_eatsWith_35 : decode cX2_eatsWith 35 = .ok (.invokevirtual 146, 3) := by decide +kernel
theorem dX2_eatsWith_38 : decode cX2_eatsWith 38 = .ok (.if_icmp .lt 22, 3) := by decide +kernel
theorem dX2_eatsWith_41 : decode cX2_eatsWith 41 = .ok (.iload_n 3, 1) := by decide +kernel
theorem dX2_eatsWith_42 : decode cX2_eatsWith 42 = .ok (.aload_n 0, 1) := by decide +kernel
theorem dX2_eatsWith_43 : decode cX2_eatsWith 43 = .ok (.iload 4, 2) := by decide +kernel
theorem dX2_eatsWith_45 : decode cX2_eatsWith 45 = .ok (.invokevirtual 146, 3) := by decide +kernel
theorem dX2_eatsWith_48 : decode cX2_eatsWith 48 = .ok (.if_icmp .lt 12, 3) := by decide +kernel
theorem dX2_eatsWith_51 : decode cX2_eatsWith 51 = .ok (.iload_n 3, 1) := by decide +kernel
theorem dX2_eatsWith_52 : decode cX2_eatsWith 52 = .ok (.aload_n 0, 1) := by decide +kernel
theorem dX2_eatsWith_53 : decode cX2_eatsWith 53 = .ok (.iload 4, 2) := by decide +kernel
theorem dX2_eatsWith_55 : decode cX2_eatsWith 55 = .ok (.invokevirtual 146, 3) := by decide +kernel
theorem dX2_eatsWith_58 : decode cX2_eatsWith 58 = .ok (.isub, 1) := by decide +kernel
theorem dX2_eatsWith_59 : decode cX2_eatsWith 59 = .ok (.istore_n 3, 1) := by decide +kernel
theorem dX2_eatsWith_60 : decode cX2_eatsWith 60 = .ok (.iinc 4 1, 3) := by decide +kernel
theorem dX2_eatsWith_63 : decode cX2_eatsWith 63 = .ok (.goto (-53), 3) := by decide +kernel
theorem dX2_eatsWith_66 : decode cX2_eatsWith 66 = .ok (.aload_n 0, 1) := by decide +kernel
theorem dX2_eatsWith_67 : decode cX2_eatsWith 67 = .ok (.getfield 28, 3) := by decide +kernel
theorem dX2_eatsWith_70 : decode cX2_eatsWith 70 = .ok (.iload_n 1, 1) := by decide +kernel
theorem dX2_eatsWith_71 : decode cX2_eatsWith 71 = .ok (.iaload, 1) := by decide +kernel
theorem dX2_eatsWith_72 : decode cX2_eatsWith 72 = .ok (.iload_n 2, 1) := by decide +kernel
theorem dX2_eatsWith_73 : decode cX2_eatsWith 73 = .ok (.iadd, 1) := by decide +kernel
theorem dX2_eatsWith_74 : decode cX2_eatsWith 74 = .ok (.aload_n 0, 1) := by decide +kernel
theorem dX2_eatsWith_75 : decode cX2_eatsWith 75 = .ok (.iload_n 1, 1) := by decide +kernel
theorem dX2_eatsWith_76 : decode cX2_eatsWith 76 = .ok (.invokevirtual 146, 3) := by decide +kernel
theorem dX2_eatsWith_79 : decode cX2_eatsWith 79 = .ok (.if_icmp .lt 16, 3) := by decide +kernel
theorem dX2_eatsWith_82 : decode cX2_eatsWith 82 = .ok (.iload_n 3, 1) := by decide +kernel
theorem dX2_eatsWith_83 : decode cX2_eatsWith 83 = .ok (.aload_n 0, 1) := by decide +kernel
theorem dX2_eatsWith_84 : decode cX2_eatsWith 84 = .ok (.iload_n 1, 1) := by decide +kernel
theorem dX2_eatsWith_85 : decode cX2_eatsWith 85 = .ok (.invokevirtual 146, 3) := by decide +kernel
theorem dX2_eatsWith_88 : decode cX2_eatsWith 88 = .ok (.if_icmp .lt 7, 3) := by decide +kernel
theorem dX2_eatsWith_91 : decode cX2_eatsWith 91 = .ok (.iconst 1, 1) := by decide +kernel
theorem dX2_eatsWith_92 : decode cX2_eatsWith 92 = .ok (.goto 4, 3) := by decide +kernel
theorem dX2_eatsWith_95 : decode cX2_eatsWith 95 = .ok (.iconst 0, 1) := by decide +kernel
theorem dX2_eatsWith_96 : decode cX2_eatsWith 96 = .ok (.ireturn, 1) := by decide +kernel
set_option maxRecDepth 20000 in
theorem ggX2_dear_X2_lives : GoodIn wsX2_dear wsX2_lives := goodIn_r _ [6, 7, 8, 9, 10, 5, 11, 12, 18, 19, 20, 21, 22, 23, 24, 25, 26, 27, 28, 29, 30, 31, 32, 33, 34, 35, 36, 37, 38, 39, 40, 41, 42, 43] (by decide +kernel) (by decide +kernel)
set_option maxRecDepth 20000 in
theorem gX2_dear_X2_lives : GoodIn wsX2_dear (wsV RX2 99 RX2 yX2_lives wsX2_lives) := goodIn_app (goodIn_of _ (by decide +kernel)) ggX2_dear_X2_lives
set_option maxRecDepth 20000 in
theorem ggX2_dear_X2_priceBehind : GoodIn wsX2_dear wsX2_priceBehind := goodIn_r _ [16, 12, 17, 18, 19, 20, 21, 22, 23, 24, 25, 26, 27, 28, 29, 30, 31, 32, 33, 34, 35, 36, 37, 38, 39, 40, 41, 42, 43] (by decide +kernel) (by decide +kernel)
set_option maxRecDepth 20000 in
theorem gX2_dear_X2_priceBehind : GoodIn wsX2_dear (wsV RX2 143 RX2 yX2_priceBehind wsX2_priceBehind) := goodIn_app (goodIn_of _ (by decide +kernel)) ggX2_dear_X2_priceBehind
theorem dX2_dear_0 : decode cX2_dear 0 = .ok (.aload_n 0, 1) := by decide +kernel
theorem dX2_dear_1 : decode cX2_dear 1 = .ok (.iload_n 1, 1) := by decide +kernel
theorem dX2_dear_2 : decode cX2_dear 2 = .ok (.invokevirtual 99, 3) := by decide +kernel
theorem dX2_dear_5 : decode cX2_dear 5 = .ok (.ifCond .ne 5, 3) := by decide +kernel
theorem dX2_dear_8 : decode cX2_dear 8 = .ok (.iconst 0, 1) := by decide +kernel
theorem dX2_dear_9 : decode cX2_dear 9 = .ok (.ireturn, 1) := by decide +kernel
theorem dX2_dear_10 : decode cX2_dear 10 = .ok (.iconst 0, 1) := by decide +kernel
theorem dX2_dear_11 : decode cX2_dear 11 = .ok (.istore_n 2, 1) := by decide +kernel
theorem dX2_dear_12 : decode cX2_dear 12 = .ok (.iload_n 2, 1) := by decide +kernel
theorem dX2_dear_13 : decode cX2_dear 13 = .ok (.bipush 99, 2) := by decide +kernel
theorem dX2_dear_15 : decode cX2_dear 15 = .ok (.if_icmp .ge 26, 3) := by decide +kernel
theorem dX2_dear_18 : decode cX2_dear 18 = .ok (.aload_n 0, 1) := by decide +kernel
theorem dX2_dear_19 : decode cX2_dear 19 = .ok (.iload_n 1, 1) := by decide +kernel
theorem dX2_dear_20 : decode cX2_dear 20 = .ok (.iload_n 2, 1) := by decide +kernel
theorem dX2_dear_21 : decode cX2_dear 21 = .ok (.invokevirtual 143, 3) := by decide +kernel
theorem dX2_dear_24 : decode cX2_dear 24 = .ok (.aload_n 0, 1) := by decide +kernel
theorem dX2_dear_25 : decode cX2_dear 25 = .ok (.getfield 28, 3) := by decide +kernel
theorem dX2_dear_28 : decode cX2_dear 28 = .ok (.iload_n 1, 1) := by decide +kernel
theorem dX2_dear_29 : decode cX2_dear 29 = .ok (.iaload, 1) := by decide +kernel
theorem dX2_dear_30 : decode cX2_dear 30 = .ok (.if_icmp .le 5, 3) := by decide +kernel
theorem dX2_dear_33 : decode cX2_dear 33 = .ok (.iload_n 2, 1) := by decide +kernel
theorem dX2_dear_34 : decode cX2_dear 34 = .ok (.ireturn, 1) := by decide +kernel
theorem dX2_dear_35 : decode cX2_dear 35 = .ok (.iinc 2 1, 3) := by decide +kernel
theorem dX2_dear_38 : decode cX2_dear 38 = .ok (.goto (-26), 3) := by decide +kernel
theorem dX2_dear_41 : decode cX2_dear 41 = .ok (.bipush 99, 2) := by decide +kernel
theorem dX2_dear_43 : decode cX2_dear 43 = .ok (.ireturn, 1) := by decide +kernel
