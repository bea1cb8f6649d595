abbrev cX10_friday : ByteArray := prog_12_method_62_code
def yX10_friday : MethodName := ⟨RX10, "friday", "(I)I"⟩
abbrev cX10_actor : ByteArray := prog_12_method_64_code
def yX10_actor : MethodName := ⟨RX10, "actor", "(IIIII)I"⟩
def wsX10_friday_r1 : List Cond := [Cond.fieldLink RX10 302 "ClapBankModel" "capped" "Z", Cond.fieldLink RX10 267 "ClapBankModel" "lives" "I", Cond.methodLink RX10 84 yX10_has, Cond.static yX10_has, Cond.initialized RX10, Cond.code yX10_has cX10_has 2 (some .boolean), Cond.methodLink RX10 317 yX10_night, Cond.instanceMethod yX10_night, Cond.selects RX10 yX10_night yX10_night, Cond.code yX10_night cX10_night 2 none, Cond.fieldLink RX10 231 "ClapBankModel" "actors" "I", Cond.fieldLink RX10 56 "ClapBankModel" "starved" "[I", Cond.fieldLink RX10 264 "ClapBankModel" "nights" "I", Cond.fieldLink RX10 50 "ClapBankModel" "saved" "[I", Cond.fieldLink RX10 234 "ClapBankModel" "rate" "I", Cond.constantLong RX10 300 (100), Cond.constant RX10 306 (1000000), Cond.fieldLink RX10 44 "ClapBankModel" "owes" "[I", Cond.methodLink RX10 297 yX10_eatsNow, Cond.instanceMethod yX10_eatsNow, Cond.selects RX10 yX10_eatsNow yX10_eatsNow, Cond.code yX10_eatsNow cX10_eatsNow 3 (some .boolean), Cond.fieldLink RX10 258 "ClapBankModel" "chest" "I", Cond.methodLink RX10 294 yX10_eats]
def wsX10_friday_r2 : List Cond := [Cond.instanceMethod yX10_eats, Cond.selects RX10 yX10_eats yX10_eats, Cond.code yX10_eats cX10_eats 3 (some .int), Cond.fieldLink RX10 261 "ClapBankModel" "encores" "I", Cond.methodLink RX10 282 yX10_hungerOf, Cond.instanceMethod yX10_hungerOf, Cond.selects RX10 yX10_hungerOf yX10_hungerOf, Cond.code yX10_hungerOf cX10_hungerOf 2 (some .int), Cond.methodLink RX10 224 yX10_of, Cond.instanceMethod yX10_of, Cond.selects RX10 yX10_of yX10_of, Cond.code yX10_of cX10_of 2 (some .int), Cond.fieldLink RX10 26 "ClapBankModel" "theatres" "[I", Cond.fieldLink RX10 221 "ClapBankModel" "theatre" "I", Cond.methodLink RX10 291 yX10_gets, Cond.instanceMethod yX10_gets, Cond.selects RX10 yX10_gets yX10_gets, Cond.code yX10_gets cX10_gets 3 none, Cond.methodLink RX10 170 yX10_lesser, Cond.static yX10_lesser, Cond.code yX10_lesser cX10_lesser 2 (some .int), Cond.methodLink RX10 276 yX10_morning, Cond.instanceMethod yX10_morning, Cond.selects RX10 yX10_morning yX10_morning]
def wsX10_friday_r3 : List Cond := [Cond.code yX10_morning cX10_morning 2 none, Cond.fieldLink RX10 228 "ClapBankModel" "palms" "I", Cond.fieldLink RX10 41 "ClapBankModel" "left" "[I", Cond.fieldLink RX10 279 "ClapBankModel" "hushed" "I"]
def wsX10_friday : List Cond := .code yX10_friday cX10_friday 3 (some .int) :: ((wsX10_friday_r1 ++ (wsX10_friday_r2 ++ wsX10_friday_r3)) ++ wsX100)
def wsX10_actor_r1 : List Cond := [Cond.fieldLink RX10 80 "ClapBankModel" "code" "I", Cond.fieldLink RX10 267 "ClapBankModel" "lives" "I", Cond.fieldLink RX10 50 "ClapBankModel" "saved" "[I", Cond.fieldLink RX10 56 "ClapBankModel" "starved" "[I", Cond.fieldLink RX10 53 "ClapBankModel" "storms" "[I", Cond.methodLink RX10 332 yX10_layState, Cond.instanceMethod yX10_layState, Cond.selects RX10 yX10_layState yX10_layState, Cond.initialized RX10, Cond.code yX10_layState cX10_layState 4 (some .boolean), Cond.methodLink RX10 249 yX10_hasBook, Cond.instanceMethod yX10_hasBook, Cond.selects RX10 yX10_hasBook yX10_hasBook, Cond.code yX10_hasBook cX10_hasBook 2 (some .boolean), Cond.fieldLink RX10 246 "ClapBankModel" "book" "I", Cond.methodLink RX10 211 yX10_is, Cond.instanceMethod yX10_is, Cond.selects RX10 yX10_is yX10_is, Cond.code yX10_is cX10_is 3 (some .boolean), Cond.fieldLink RX10 23 "ClapBankModel" "many" "[I", Cond.methodLink RX10 92 yX10_in, Cond.static yX10_in, Cond.code yX10_in cX10_in 3 (some .boolean), Cond.methodLink RX10 237 yX10_hand]
def wsX10_actor_r2 : List Cond := [Cond.instanceMethod yX10_hand, Cond.selects RX10 yX10_hand yX10_hand, Cond.code yX10_hand cX10_hand 2 (some .boolean), Cond.fieldLink RX10 221 "ClapBankModel" "theatre" "I", Cond.fieldLink RX10 228 "ClapBankModel" "palms" "I", Cond.fieldLink RX10 231 "ClapBankModel" "actors" "I", Cond.fieldLink RX10 234 "ClapBankModel" "rate" "I", Cond.methodLink RX10 224 yX10_of, Cond.instanceMethod yX10_of, Cond.selects RX10 yX10_of yX10_of, Cond.code yX10_of cX10_of 2 (some .int), Cond.fieldLink RX10 26 "ClapBankModel" "theatres" "[I", Cond.methodLink RX10 252 yX10_deeds, Cond.instanceMethod yX10_deeds, Cond.selects RX10 yX10_deeds yX10_deeds, Cond.code yX10_deeds cX10_deeds 1 (some .int), Cond.fieldLink RX10 29 "ClapBankModel" "books" "[I", Cond.methodLink RX10 329 yX10_play, Cond.instanceMethod yX10_play, Cond.selects RX10 yX10_play yX10_play, Cond.code yX10_play cX10_play 3 (some .int), Cond.methodLink RX10 323 yX10_begin, Cond.instanceMethod yX10_begin, Cond.selects RX10 yX10_begin yX10_begin]
def wsX10_actor_r3 : List Cond := [Cond.code yX10_begin cX10_begin 2 none, Cond.fieldLink RX10 258 "ClapBankModel" "chest" "I", Cond.fieldLink RX10 261 "ClapBankModel" "encores" "I", Cond.fieldLink RX10 264 "ClapBankModel" "nights" "I", Cond.fieldLink RX10 270 "ClapBankModel" "claps" "I", Cond.fieldLink RX10 273 "ClapBankModel" "echoFor" "I", Cond.fieldLink RX10 44 "ClapBankModel" "owes" "[I", Cond.fieldLink RX10 47 "ClapBankModel" "got" "[I", Cond.methodLink RX10 276 yX10_morning, Cond.instanceMethod yX10_morning, Cond.selects RX10 yX10_morning yX10_morning, Cond.code yX10_morning cX10_morning 2 none, Cond.fieldLink RX10 41 "ClapBankModel" "left" "[I", Cond.fieldLink RX10 279 "ClapBankModel" "hushed" "I", Cond.methodLink RX10 326 yX10_doesNext, Cond.instanceMethod yX10_doesNext, Cond.selects RX10 yX10_doesNext yX10_doesNext, Cond.code yX10_doesNext cX10_doesNext 2 (some .boolean), Cond.methodLink RX10 320 yX10_does, Cond.instanceMethod yX10_does, Cond.selects RX10 yX10_does yX10_does, Cond.code yX10_does cX10_does 5 (some .boolean), Cond.methodLink RX10 255 yX10_deedOf, Cond.instanceMethod yX10_deedOf]
def wsX10_actor_r4 : List Cond := [Cond.selects RX10 yX10_deedOf yX10_deedOf, Cond.code yX10_deedOf cX10_deedOf 3 (some .int), Cond.methodLink RX10 307 yX10_clapsFor, Cond.instanceMethod yX10_clapsFor, Cond.selects RX10 yX10_clapsFor yX10_clapsFor, Cond.code yX10_clapsFor cX10_clapsFor 5 (some .boolean), Cond.methodLink RX10 240 yX10_isPalm, Cond.instanceMethod yX10_isPalm, Cond.selects RX10 yX10_isPalm yX10_isPalm, Cond.code yX10_isPalm cX10_isPalm 2 (some .boolean), Cond.methodLink RX10 285 yX10_isLiving, Cond.instanceMethod yX10_isLiving, Cond.selects RX10 yX10_isLiving yX10_isLiving, Cond.code yX10_isLiving cX10_isLiving 2 (some .boolean), Cond.methodLink RX10 243 yX10_isActor, Cond.instanceMethod yX10_isActor, Cond.selects RX10 yX10_isActor yX10_isActor, Cond.code yX10_isActor cX10_isActor 2 (some .boolean), Cond.methodLink RX10 84 yX10_has, Cond.static yX10_has, Cond.code yX10_has cX10_has 2 (some .boolean), Cond.methodLink RX10 288 yX10_handsOf, Cond.instanceMethod yX10_handsOf, Cond.selects RX10 yX10_handsOf yX10_handsOf]
def wsX10_actor_r5 : List Cond := [Cond.code yX10_handsOf cX10_handsOf 2 (some .int), Cond.methodLink RX10 291 yX10_gets, Cond.instanceMethod yX10_gets, Cond.selects RX10 yX10_gets yX10_gets, Cond.code yX10_gets cX10_gets 3 none, Cond.methodLink RX10 310 yX10_gives, Cond.instanceMethod yX10_gives, Cond.selects RX10 yX10_gives yX10_gives, Cond.code yX10_gives cX10_gives 5 (some .boolean), Cond.methodLink RX10 314 yX10_hushes, Cond.instanceMethod yX10_hushes, Cond.selects RX10 yX10_hushes yX10_hushes, Cond.code yX10_hushes cX10_hushes 4 (some .boolean), Cond.methodLink RX10 317 yX10_night, Cond.instanceMethod yX10_night, Cond.selects RX10 yX10_night yX10_night, Cond.code yX10_night cX10_night 2 none, Cond.constantLong RX10 300 (100), Cond.fieldLink RX10 302 "ClapBankModel" "capped" "Z", Cond.constant RX10 306 (1000000), Cond.methodLink RX10 297 yX10_eatsNow, Cond.instanceMethod yX10_eatsNow, Cond.selects RX10 yX10_eatsNow yX10_eatsNow, Cond.code yX10_eatsNow cX10_eatsNow 3 (some .boolean)]
def wsX10_actor_r6 : List Cond := [Cond.methodLink RX10 294 yX10_eats, Cond.instanceMethod yX10_eats, Cond.selects RX10 yX10_eats yX10_eats, Cond.code yX10_eats cX10_eats 3 (some .int), Cond.methodLink RX10 282 yX10_hungerOf, Cond.instanceMethod yX10_hungerOf, Cond.selects RX10 yX10_hungerOf yX10_hungerOf, Cond.code yX10_hungerOf cX10_hungerOf 2 (some .int), Cond.methodLink RX10 170 yX10_lesser, Cond.static yX10_lesser, Cond.code yX10_lesser cX10_lesser 2 (some .int), Cond.methodLink RX10 341 yX10_needOf, Cond.instanceMethod yX10_needOf, Cond.selects RX10 yX10_needOf yX10_needOf, Cond.code yX10_needOf cX10_needOf 2 (some .int), Cond.methodLink RX10 338 yX10_greater, Cond.static yX10_greater, Cond.code yX10_greater cX10_greater 2 (some .int), Cond.methodLink RX10 344 yX10_friday, Cond.instanceMethod yX10_friday, Cond.selects RX10 yX10_friday yX10_friday, Cond.code yX10_friday cX10_friday 3 (some .int), Cond.methodLink RX10 347 yX10_star, Cond.instanceMethod yX10_star]
def wsX10_actor_r7 : List Cond := [Cond.selects RX10 yX10_star yX10_star, Cond.code yX10_star cX10_star 5 (some .int)]
def wsX10_actor : List Cond := .code yX10_actor cX10_actor 7 (some .int) :: ((wsX10_actor_r1 ++ (wsX10_actor_r2 ++ (wsX10_actor_r3 ++ (wsX10_actor_r4 ++ (wsX10_actor_r5 ++ (wsX10_actor_r6 ++ wsX10_actor_r7)))))) ++ wsX100)
set_option maxRecDepth 20000 in
theorem ggX10_friday_X10_has : GoodIn wsX10_friday wsX10_has := goodIn_r _ [6] (by decide +kernel) (by decide +kernel)
set_option maxRecDepth 20000 in
theorem gX10_friday_X10_has : GoodIn wsX10_friday (va_wsS RX10 84 yX10_has wsX10_has) := goodIn_app (goodIn_of _ (by decide +kernel)) ggX10_friday_X10_has
set_option maxRecDepth 20000 in
theorem ggX10_friday_X10_night : GoodIn wsX10_friday wsX10_night := goodIn_r _ [10, 11, 2, 12, 13, 14, 15, 16, 1, 17, 18, 3, 4, 5, 6, 19, 20, 21, 22, 23, 24, 25, 26, 27, 28, 29, 30, 31, 32, 33, 34, 35, 36, 37, 38, 39, 40, 41, 42, 43, 44, 45, 46, 47, 48, 49, 50, 51, 52, 53, 54, 55, 56, 57, 58, 59, 60, 61, 62, 63, 64, 65, 66, 67, 68, 69, 70, 71, 72, 73, 74, 75, 76, 77, 78, 79, 80, 81, 82, 83, 84, 85, 86, 87, 88, 89, 90, 91, 92, 93, 94, 95, 96, 97, 98, 99, 100, 101, 102] (by decide +kernel) (by decide +kernel)
set_option maxRecDepth 20000 in
theorem gX10_friday_X10_night : GoodIn wsX10_friday (wsV RX10 317 RX10 yX10_night wsX10_night) := goodIn_app (goodIn_of _ (by decide +kernel)) ggX10_friday_X10_night
theorem dX10_friday_0 : decode cX10_friday 0 = .ok (.iconst 0, 1) := by decide +kernel
theorem dX10_friday_1 : decode cX10_friday 1 = .ok (.istore_n 2, 1) := by decide +kernel
theorem dX10_friday_2 : decode cX10_friday 2 = .ok (.aload_n 0, 1) := by decide +kernel
theorem dX10_friday_3 : decode cX10_friday 3 = .ok (.iconst 1, 1) := by decide +kernel
theorem dX10_friday_4 : decode cX10_friday 4 = .ok (.putfield 302, 3) := by decide +kernel
theorem dX10_friday_7 : decode cX10_friday 7 = .ok (.iload_n 2, 1) := by decide +kernel
theorem dX10_friday_8 : decode cX10_friday 8 = .ok (.bipush 99, 2) := by decide +kernel
theorem dX10_friday_10 : decode cX10_friday 10 = .ok (.if_icmp .ge 40, 3) := by decide +kernel
theorem dX10_friday_13 : decode cX10_friday 13 = .ok (.aload_n 0, 1) := by decide +kernel
theorem dX10_friday_14 : decode cX10_friday 14 = .ok (.getfield 267, 3) := by decide +kernel
theorem dX10_friday_17 : decode cX10_friday 17 = .ok (.iload_n 1, 1) := by decide +kernel
theorem dX10_friday_18 : decode cX10_friday 18 = .ok (.invokestatic 84, 3) := by decide +kernel
theorem dX10_friday_21 : decode cX10_friday 21 = .ok (.ifCond .eq 29, 3) := by decide +kernel
theorem dX10_friday_24 : decode cX10_friday 24 = .ok (.aload_n 0, 1) := by decide +kernel
theorem dX10_friday_25 : decode cX10_friday 25 = .ok (.invokevirtual 317, 3) := by decide +kernel
theorem dX10_friday_28 : decode cX10_friday 28 = .ok (.iload_n 2, 1) := by decide +kernel
theorem dX10_friday_29 : decode cX10_friday 29 = .ok (.aload_n 0, 1) := by decide +kernel
theorem dX10_friday_30 : decode cX10_friday 30 = .ok (.getfield 267, 3) := by decide +kernel
theorem dX10_friday_33 : decode cX10_friday 33 = .ok (.iload_n 1, 1) := by decide +kernel
theorem dX10_friday_34 : decode cX10_friday 34 = .ok (.invokestatic 84, 3) := by decide +kernel
theorem dX10_friday_37 : decode cX10_friday 37 = .ok (.ifCond .eq 7, 3) := by decide +kernel
theorem dX10_friday_40 : decode cX10_friday 40 = .ok (.iconst 1, 1) := by decide +kernel
theorem dX10_friday_41 : decode cX10_friday 41 = .ok (.goto 4, 3) := by decide +kernel
theorem dX10_friday_44 : decode cX10_friday 44 = .ok (.iconst 0, 1) := by decide +kernel
theorem dX10_friday_45 : decode cX10_friday 45 = .ok (.iadd, 1) := by decide +kernel
theorem dX10_friday_46 : decode cX10_friday 46 = .ok (.istore_n 2, 1) := by decide +kernel
theorem dX10_friday_47 : decode cX10_friday 47 = .ok (.goto (-40), 3) := by decide +kernel
theorem dX10_friday_50 : decode cX10_friday 50 = .ok (.aload_n 0, 1) := by decide +kernel
theorem dX10_friday_51 : decode cX10_friday 51 = .ok (.iconst 0, 1) := by decide +kernel
theorem dX10_friday_52 : decode cX10_friday 52 = .ok (.putfield 302, 3) := by decide +kernel
theorem dX10_friday_55 : decode cX10_friday 55 = .ok (.iload_n 2, 1) := by decide +kernel
theorem dX10_friday_56 : decode cX10_friday 56 = .ok (.ireturn, 1) := by decide +kernel
set_option maxRecDepth 20000 in
theorem ggX10_actor_X10_layState : GoodIn wsX10_actor wsX10_layState := goodIn_r _ [10, 11, 12, 13, 9, 14, 15, 16, 17, 18, 19, 20, 21, 22, 23, 24, 25, 26, 27, 28, 29, 30, 31, 32, 33, 34, 35, 36, 37, 38, 39, 40, 41, 42, 43, 44, 45, 46, 47, 48, 49, 50, 51, 52, 2, 53, 54, 55, 56, 3, 5, 4, 57, 58, 59, 60, 61, 62, 63, 64, 65, 66, 67, 68, 69, 70, 71, 72, 73, 74, 75, 76, 77, 78, 79, 80, 81, 82, 83, 84, 85, 86, 87, 88, 89, 90, 91, 92, 93, 94, 95, 96, 97, 98, 99, 100, 101, 102, 103, 104, 105, 106, 107, 108, 109, 110, 111, 112, 113, 114, 115, 116, 117, 118, 119, 120, 121, 122, 123, 124, 125, 126, 127, 128, 129, 130, 131, 147, 148, 149, 150, 151, 152, 153, 154, 155, 156, 157, 158, 159, 160, 161, 162, 163, 164, 165, 166, 167, 168, 169, 170, 171, 172, 173, 174, 175, 176, 177, 178, 179, 180, 181, 182, 183, 184, 185, 186, 187, 188, 189, 190, 191, 192, 193, 194, 195, 196] (by decide +kernel) (by decide +kernel)
set_option maxRecDepth 20000 in
theorem gX10_actor_X10_layState : GoodIn wsX10_actor (wsV RX10 332 RX10 yX10_layState wsX10_layState) := goodIn_app (goodIn_of _ (by decide +kernel)) ggX10_actor_X10_layState
set_option maxRecDepth 20000 in
theorem ggX10_actor_X10_isActor : GoodIn wsX10_actor wsX10_isActor := goodIn_r _ [90, 30, 21, 22, 9, 23, 147, 148, 149, 150, 151, 152, 153, 154, 155, 156, 157, 158, 159, 160, 161, 162, 163, 164, 165, 166, 167, 168, 169, 170, 171, 172, 173, 174, 175, 176, 177, 178, 179, 180, 181, 182, 183, 184, 185, 186, 187, 188, 189, 190, 191, 192, 193, 194, 195, 196] (by decide +kernel) (by decide +kernel)
set_option maxRecDepth 20000 in
theorem gX10_actor_X10_isActor : GoodIn wsX10_actor (wsV RX10 243 RX10 yX10_isActor wsX10_isActor) := goodIn_app (goodIn_of _ (by decide +kernel)) ggX10_actor_X10_isActor
set_option maxRecDepth 20000 in
theorem ggX10_actor_X10_has : GoodIn wsX10_actor wsX10_has := goodIn_r _ [93] (by decide +kernel) (by decide +kernel)
set_option maxRecDepth 20000 in
theorem gX10_actor_X10_has : GoodIn wsX10_actor (va_wsS RX10 84 yX10_has wsX10_has) := goodIn_app (goodIn_of _ (by decide +kernel)) ggX10_actor_X10_has
set_option maxRecDepth 20000 in
theorem ggX10_actor_X10_eats : GoodIn wsX10_actor wsX10_eats := goodIn_r _ [124, 51, 125, 126, 127, 9, 128, 32, 33, 34, 35, 36, 28, 147, 148, 149, 150, 151, 152, 153, 154, 155, 156, 157, 158, 159, 160, 161, 162, 163, 164, 165, 166, 167, 168, 169, 170, 171, 172, 173, 174, 175, 176, 177, 178, 179, 180, 181, 182, 183, 184, 185, 186, 187, 188, 189, 190, 191, 192, 193, 194, 195, 196] (by decide +kernel) (by decide +kernel)
set_option maxRecDepth 20000 in
theorem gX10_actor_X10_eats : GoodIn wsX10_actor (wsV RX10 294 RX10 yX10_eats wsX10_eats) := goodIn_app (goodIn_of _ (by decide +kernel)) ggX10_actor_X10_eats
set_option maxRecDepth 20000 in
theorem ggX10_actor_X10_needOf : GoodIn wsX10_actor wsX10_needOf := goodIn_r _ [135, 2, 3, 91, 92, 9, 93, 121, 122, 123, 124, 51, 125, 126, 127, 128, 32, 33, 34, 35, 36, 28, 136, 137, 138, 147, 148, 149, 150, 151, 152, 153, 154, 155, 156, 157, 158, 159, 160, 161, 162, 163, 164, 165, 166, 167, 168, 169, 170, 171, 172, 173, 174, 175, 176, 177, 178, 179, 180, 181, 182, 183, 184, 185, 186, 187, 188, 189, 190, 191, 192, 193, 194, 195, 196] (by decide +kernel) (by decide +kernel)
set_option maxRecDepth 20000 in
theorem gX10_actor_X10_needOf : GoodIn wsX10_actor (wsV RX10 341 RX10 yX10_needOf wsX10_needOf) := goodIn_app (goodIn_of _ (by decide +kernel)) ggX10_actor_X10_needOf
set_option maxRecDepth 20000 in
theorem ggX10_actor_X10_friday : GoodIn wsX10_actor wsX10_friday := goodIn_r _ [142, 115, 2, 91, 92, 9, 93, 110, 111, 112, 113, 30, 4, 52, 3, 31, 114, 116, 55, 117, 118, 119, 120, 50, 121, 122, 123, 124, 51, 125, 126, 127, 128, 32, 33, 34, 35, 36, 28, 98, 99, 100, 101, 129, 130, 131, 57, 58, 59, 60, 29, 61, 62, 147, 148, 149, 150, 151, 152, 153, 154, 155, 156, 157, 158, 159, 160, 161, 162, 163, 164, 165, 166, 167, 168, 169, 170, 171, 172, 173, 174, 175, 176, 177, 178, 179, 180, 181, 182, 183, 184, 185, 186, 187, 188, 189, 190, 191, 192, 193, 194, 195, 196] (by decide +kernel) (by decide +kernel)
set_option maxRecDepth 20000 in
theorem gX10_actor_X10_friday : GoodIn wsX10_actor (wsV RX10 344 RX10 yX10_friday wsX10_friday) := goodIn_app (goodIn_of _ (by decide +kernel)) ggX10_actor_X10_friday
set_option maxRecDepth 20000 in
theorem ggX10_actor_X10_star : GoodIn wsX10_actor wsX10_star := goodIn_r _ [146, 116, 3, 31, 129, 130, 9, 131, 121, 122, 123, 124, 51, 125, 126, 127, 128, 32, 33, 34, 35, 36, 28, 147, 148, 149, 150, 151, 152, 153, 154, 155, 156, 157, 158, 159, 160, 161, 162, 163, 164, 165, 166, 167, 168, 169, 170, 171, 172, 173, 174, 175, 176, 177, 178, 179, 180, 181, 182, 183, 184, 185, 186, 187, 188, 189, 190, 191, 192, 193, 194, 195, 196] (by decide +kernel) (by decide +kernel)
set_option maxRecDepth 20000 in
theorem gX10_actor_X10_star : GoodIn wsX10_actor (wsV RX10 347 RX10 yX10_star wsX10_star) := goodIn_app (goodIn_of _ (by decide +kernel)) ggX10_actor_X10_star
theorem dX10_actor_0 : decode cX10_actor 0 = .ok (.aload_n 0, 1) := by decide +kernel
theorem dX10_actor_1 : decode cX10_actor 1 = .ok (.iconst 0, 1) := by decide +kernel
theorem dX10_actor_2 : decode cX10_actor 2 = .ok (.putfield 80, 3) := by decide +kernel
theorem dX10_actor_5 : decode cX10_actor 5 = .ok (.aload_n 0, 1) := by decide +kernel
theorem dX10_actor_6 : decode cX10_actor 6 = .ok (.iload_n 1, 1) := by decide +kernel
theorem dX10_actor_7 : decode cX10_actor 7 = .ok (.iload_n 2, 1) := by decide +kernel
theorem dX10_actor_8 : decode cX10_actor 8 = .ok (.iload_n 3, 1) := by decide +kernel
theorem dX10_actor_9 : decode cX10_actor 9 = .ok (.invokevirtual 332, 3) := by decide +kernel
theorem dX10_actor_12 : decode cX10_actor 12 = .ok (.ifCond .eq 12, 3) := by decide +kernel
theorem dX10_actor_15 : decode cX10_actor 15 = .ok (.aload_n 0, 1) := by decide +kernel
theorem dX10_actor_16 : decode cX10_actor 16 = .ok (.iload 4, 2) := by decide +kernel
theorem dX10_actor_18 : decode cX10_actor 18 = .ok (.invokevirtual 243, 3) := by decide +kernel
theorem dX10_actor_21 : decode cX10_actor 21 = .ok (.ifCond .ne 6, 3) := by decide +kernel
theorem dX10_actor_24 : decode cX10_actor 24 = .ok (.bipush (-2), 2) := by decide +kernel
theorem dX10_actor_26 : decode cX10_actor 26 = .ok (.ireturn, 1) := by decide +kernel
theorem dX10_actor_27 : decode cX10_actor 27 = .ok (.aload_n 0, 1) := by decide +kernel
theorem dX10_actor_28 : decode cX10_actor 28 = .ok (.getfield 267, 3) := by decide +kernel
theorem dX10_actor_31 : decode cX10_actor 31 = .ok (.iload 4, 2) := by decide +kernel
theorem dX10_actor_33 : decode cX10_actor 33 = .ok (.invokestatic 84, 3) := by decide +kernel
theorem dX10_actor_36 : decode cX10_actor 36 = .ok (.istore 6, 2) := by decide +kernel
theorem dX10_actor_38 : decode cX10_actor 38 = .ok (.iload 5, 2) := by decide +kernel
theorem dX10_actor_40 : decode cX10_actor 40 = .ok (.tableswitch 139 0 7 #[48, 56, 67, 84, 91, 99, 115, 131], 48) := by decide +kernel
theorem dX10_actor_88 : decode cX10_actor 88 = .ok (.aload_n 0, 1) := by decide +kernel
theorem dX10_actor_89 : decode cX10_actor 89 = .ok (.getfield 50, 3) := by decide +kernel
theorem dX10_actor_92 : decode cX10_actor 92 = .ok (.iload 4, 2) := by decide +kernel
theorem dX10_actor_94 : decode cX10_actor 94 = .ok (.iaload, 1) := by decide +kernel
theorem dX10_actor_95 : decode cX10_actor 95 = .ok (.ireturn, 1) := by decide +kernel
theorem dX10_actor_96 : decode cX10_actor 96 = .ok (.iload 6, 2) := by decide +kernel
theorem dX10_actor_98 : decode cX10_actor 98 = .ok (.ifCond .eq 7, 3) := by decide +kernel
theorem dX10_actor_101 : decode cX10_actor 101 = .ok (.iconst 1, 1) := by decide +kernel
theorem dX10_actor_102 : decode cX10_actor 102 = .ok (.goto 4, 3) := by decide +kernel
theorem dX10_actor_105 : decode cX10_actor 105 = .ok (.iconst 0, 1) := by decide +kernel
theorem dX10_actor_106 : decode cX10_actor 106 = .ok (.ireturn, 1) := by decide +kernel
theorem dX10_actor_107 : decode cX10_actor 107 = .ok (.iload 6, 2) := by decide +kernel
theorem dX10_actor_109 : decode cX10_actor 109 = .ok (.ifCond .eq 13, 3) := by decide +kernel
theorem dX10_actor_112 : decode cX10_actor 112 = .ok (.aload_n 0, 1) := by decide +kernel
theorem dX10_actor_113 : decode cX10_actor 113 = .ok (.iload 4, 2) := by decide +kernel
theorem dX10_actor_115 : decode cX10_actor 115 = .ok (.iconst 0, 1) := by decide +kernel
theorem dX10_actor_116 : decode cX10_actor 116 = .ok (.invokevirtual 294, 3) := by decide +kernel
theorem dX10_actor_119 : decode cX10_actor 119 = .ok (.goto 4, 3) := by decide +kernel
theorem dX10_actor_122 : decode cX10_actor 122 = .ok (.iconst 0, 1) := by decide +kernel
theorem dX10_actor_123 : decode cX10_actor 123 = .ok (.ireturn, 1) := by decide +kernel
theorem dX10_actor_124 : decode cX10_actor 124 = .ok (.aload_n 0, 1) := by decide +kernel
theorem dX10_actor_125 : decode cX10_actor 125 = .ok (.iload 4, 2) := by decide +kernel
theorem dX10_actor_127 : decode cX10_actor 127 = .ok (.invokevirtual 341, 3) := by decide +kernel
theorem dX10_actor_130 : decode cX10_actor 130 = .ok (.ireturn, 1) := by decide +kernel
theorem dX10_actor_131 : decode cX10_actor 131 = .ok (.aload_n 0, 1) := by decide +kernel
theorem dX10_actor_132 : decode cX10_actor 132 = .ok (.getfield 56, 3) := by decide +kernel
theorem dX10_actor_135 : decode cX10_actor 135 = .ok (.iload 4, 2) := by decide +kernel
theorem dX10_actor_137 : decode cX10_actor 137 = .ok (.iaload, 1) := by decide +kernel
theorem dX10_actor_138 : decode cX10_actor 138 = .ok (.ireturn, 1) := by decide +kernel
theorem dX10_actor_139 : decode cX10_actor 139 = .ok (.iload 6, 2) := by decide +kernel
theorem dX10_actor_141 : decode cX10_actor 141 = .ok (.ifCond .eq 12, 3) := by decide +kernel
theorem dX10_actor_144 : decode cX10_actor 144 = .ok (.aload_n 0, 1) := by decide +kernel
theorem dX10_actor_145 : decode cX10_actor 145 = .ok (.iload 4, 2) := by decide +kernel
theorem dX10_actor_147 : decode cX10_actor 147 = .ok (.invokevirtual 344, 3) := by decide +kernel
theorem dX10_actor_150 : decode cX10_actor 150 = .ok (.goto 4, 3) := by decide +kernel
theorem dX10_actor_153 : decode cX10_actor 153 = .ok (.iconst 0, 1) := by decide +kernel
theorem dX10_actor_154 : decode cX10_actor 154 = .ok (.ireturn, 1) := by decide +kernel
theorem dX10_actor_155 : decode cX10_actor 155 = .ok (.iload 6, 2) := by decide +kernel
theorem dX10_actor_157 : decode cX10_actor 157 = .ok (.ifCond .eq 12, 3) := by decide +kernel
theorem dX10_actor_160 : decode cX10_actor 160 = .ok (.aload_n 0, 1) := by decide +kernel
theorem dX10_actor_161 : decode cX10_actor 161 = .ok (.iload 4, 2) := by decide +kernel
theorem dX10_actor_163 : decode cX10_actor 163 = .ok (.invokevirtual 347, 3) := by decide +kernel
theorem dX10_actor_166 : decode cX10_actor 166 = .ok (.goto 4, 3) := by decide +kernel
theorem dX10_actor_169 : decode cX10_actor 169 = .ok (.iconst 0, 1) := by decide +kernel
theorem dX10_actor_170 : decode cX10_actor 170 = .ok (.ireturn, 1) := by decide +kernel
theorem dX10_actor_171 : decode cX10_actor 171 = .ok (.aload_n 0, 1) := by decide +kernel
theorem dX10_actor_172 : decode cX10_actor 172 = .ok (.getfield 53, 3) := by decide +kernel
theorem dX10_actor_175 : decode cX10_actor 175 = .ok (.iload 4, 2) := by decide +kernel
theorem dX10_actor_177 : decode cX10_actor 177 = .ok (.iaload, 1) := by decide +kernel
theorem dX10_actor_178 : decode cX10_actor 178 = .ok (.ireturn, 1) := by decide +kernel
theorem dX10_actor_179 : decode cX10_actor 179 = .ok (.bipush (-2), 2) := by decide +kernel
theorem dX10_actor_181 : decode cX10_actor 181 = .ok (.ireturn, 1) := by decide +kernel
