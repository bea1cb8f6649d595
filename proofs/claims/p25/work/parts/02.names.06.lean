abbrev wsX30 : List Cond := u_ws RX3 TX3 3
theorem nmX3 : ∀ a, a < 3 → ∀ b, b < 3 → a ≠ b → (TX3 a).2.1 ≠ (TX3 b).2.1 := by decide +kernel
theorem tyX3_ok : ∀ k, k < 3 → parseFieldDescriptor (TX3 k).2.2.1 = some (tyX3 k) := by decide +kernel
abbrev cX3_lay : ByteArray := prog_5_method_2_code
def yX3_lay : MethodName := ⟨RX3, "lay", "(LClapBank$Evening;)V"⟩
abbrev cX3_tryGuests : ByteArray := prog_5_method_3_code
def yX3_tryGuests : MethodName := ⟨RX3, "tryGuests", "(LClapBank$Evening;III)V"⟩
abbrev cX3_isBetter : ByteArray := prog_5_method_4_code
def yX3_isBetter : MethodName := ⟨RX3, "isBetter", "(III)Z"⟩
abbrev cX3_tell : ByteArray := prog_5_method_5_code
def yX3_tell : MethodName := ⟨RX3, "tell", "(I)I"⟩
abbrev cX6_goRound : ByteArray := prog_8_method_3_code
def yX6_goRound : MethodName := ⟨RX6, "goRound", "()V"⟩
abbrev cX6_cheapest : ByteArray := prog_8_method_4_code
def yX6_cheapest : MethodName := ⟨RX6, "cheapest", "()I"⟩
abbrev cX6_findRepeat : ByteArray := prog_8_method_5_code
def yX6_findRepeat : MethodName := ⟨RX6, "findRepeat", "(LClapBank$Theatre;)I"⟩
def RJ6 : String := "java/lang/Integer"
abbrev cJ6_bitCount_0f7a4 : ByteArray := prog_13_method_49_code
def yJ6_bitCount_0f7a4 : MethodName := ⟨RJ6, "bitCount", "(I)I"⟩
def wsJ6_bitCount_0f7a4 : List Cond := .code yJ6_bitCount_0f7a4 cJ6_bitCount_0f7a4 1 (some .int) :: ([.constant RJ6 265 (1431655765), .constant RJ6 266 (858993459), .constant RJ6 267 (252645135)])
def wsX3_isBetter : List Cond := .code yX3_isBetter cX3_isBetter 6 (some .boolean) :: ([.fieldLink RX3 32 "ClapBank$Feast" "who" "I", .fieldLink RX3 37 "ClapBank$Feast" "two" "I", .fieldLink RX3 40 "ClapBank$Feast" "one" "I", .methodLink RX3 65 yJ6_bitCount_0f7a4, .static yJ6_bitCount_0f7a4, .initialized RJ6, .code yJ6_bitCount_0f7a4 cJ6_bitCount_0f7a4 1 (some .int), .constant RJ6 265 (1431655765), .constant RJ6 266 (858993459), .constant RJ6 267 (252645135)] ++ wsX30)
def wsX3_tryGuests_r1 : List Cond := [Cond.methodLink RX3 55 Lib.Math.min.name, Cond.static Lib.Math.min.name, Cond.initialized "java/lang/Math", Cond.code Lib.Math.min.name Lib.Math.min.code 2 (some .int), Cond.fieldLink RX3 32 "ClapBank$Feast" "who" "I", Cond.fieldLink RX3 37 "ClapBank$Feast" "two" "I", Cond.fieldLink RX3 40 "ClapBank$Feast" "one" "I", Cond.methodLink RX3 51 yX2_need, Cond.instanceMethod yX2_need, Cond.selects RX2 yX2_need yX2_need, Cond.initialized RX2, Cond.code yX2_need cX2_need 2 (some .int), Cond.fieldLink RX2 28 "ClapBank$Evening" "saved" "[I", Cond.methodLink RX2 150 Lib.Math.max.name, Cond.static Lib.Math.max.name, Cond.code Lib.Math.max.name Lib.Math.max.code 2 (some .int), Cond.methodLink RX2 99 yX2_lives, Cond.instanceMethod yX2_lives, Cond.selects RX2 yX2_lives yX2_lives, Cond.code yX2_lives cX2_lives 2 (some .boolean), Cond.fieldLink RX2 31 "ClapBank$Evening" "starved" "[I", Cond.methodLink RX2 117 yX2_hasActor, Cond.instanceMethod yX2_hasActor, Cond.selects RX2 yX2_hasActor yX2_hasActor]
def wsX3_tryGuests_r2 : List Cond := [Cond.code yX2_hasActor cX2_hasActor 2 (some .boolean), Cond.fieldLink RX2 12 "ClapBank$Evening" "house" "LClapBank$Theatre;", Cond.methodLink RX2 146 yX2_price, Cond.instanceMethod yX2_price, Cond.selects RX2 yX2_price yX2_price, Cond.code yX2_price cX2_price 2 (some .int), Cond.methodLink RX2 143 yX2_priceBehind, Cond.instanceMethod yX2_priceBehind, Cond.selects RX2 yX2_priceBehind yX2_priceBehind, Cond.code yX2_priceBehind cX2_priceBehind 3 (some .int), Cond.fieldLink RX2 61 "ClapBank$Evening" "encores" "I", Cond.methodLink RX3 61 yX3_isBetter, Cond.instanceMethod yX3_isBetter, Cond.selects RX3 yX3_isBetter yX3_isBetter, Cond.initialized RX3, Cond.code yX3_isBetter cX3_isBetter 6 (some .boolean), Cond.methodLink RX3 65 yJ6_bitCount_0f7a4, Cond.static yJ6_bitCount_0f7a4, Cond.initialized RJ6, Cond.code yJ6_bitCount_0f7a4 cJ6_bitCount_0f7a4 1 (some .int), Cond.constant RJ6 265 (1431655765), Cond.constant RJ6 266 (858993459), Cond.constant RJ6 267 (252645135)]
def wsX3_tryGuests : List Cond := .code yX3_tryGuests cX3_tryGuests 9 none :: ((wsX3_tryGuests_r1 ++ wsX3_tryGuests_r2) ++ wsX30 ++ wsX20 ++ wsX70)
def wsX3_lay_r1 : List Cond := [Cond.fieldLink RX3 32 "ClapBank$Feast" "who" "I", Cond.fieldLink RX3 37 "ClapBank$Feast" "two" "I", Cond.fieldLink RX3 40 "ClapBank$Feast" "one" "I", Cond.methodLink RX3 21 yX2_isHushed, Cond.instanceMethod yX2_isHushed, Cond.selects RX2 yX2_isHushed yX2_isHushed, Cond.initialized RX2, Cond.code yX2_isHushed cX2_isHushed 2 (some .boolean), Cond.fieldLink RX2 69 "ClapBank$Evening" "hushed" "I", Cond.methodLink RX3 43 yX2_living, Cond.instanceMethod yX2_living, Cond.selects RX2 yX2_living yX2_living, Cond.code yX2_living cX2_living 3 (some .int), Cond.fieldLink RX2 12 "ClapBank$Evening" "house" "LClapBank$Theatre;", Cond.methodLink RX2 99 yX2_lives, Cond.instanceMethod yX2_lives, Cond.selects RX2 yX2_lives yX2_lives, Cond.code yX2_lives cX2_lives 2 (some .boolean), Cond.fieldLink RX2 31 "ClapBank$Evening" "starved" "[I", Cond.methodLink RX2 117 yX2_hasActor, Cond.instanceMethod yX2_hasActor, Cond.selects RX2 yX2_hasActor yX2_hasActor, Cond.code yX2_hasActor cX2_hasActor 2 (some .boolean), Cond.methodLink RX3 47 yX3_tryGuests]
def wsX3_lay_r2 : List Cond := [Cond.instanceMethod yX3_tryGuests, Cond.selects RX3 yX3_tryGuests yX3_tryGuests, Cond.initialized RX3, Cond.code yX3_tryGuests cX3_tryGuests 9 none, Cond.methodLink RX3 55 Lib.Math.min.name, Cond.static Lib.Math.min.name, Cond.initialized "java/lang/Math", Cond.code Lib.Math.min.name Lib.Math.min.code 2 (some .int), Cond.methodLink RX3 51 yX2_need, Cond.instanceMethod yX2_need, Cond.selects RX2 yX2_need yX2_need, Cond.code yX2_need cX2_need 2 (some .int), Cond.fieldLink RX2 28 "ClapBank$Evening" "saved" "[I", Cond.methodLink RX2 150 Lib.Math.max.name, Cond.static Lib.Math.max.name, Cond.code Lib.Math.max.name Lib.Math.max.code 2 (some .int), Cond.methodLink RX2 146 yX2_price, Cond.instanceMethod yX2_price, Cond.selects RX2 yX2_price yX2_price, Cond.code yX2_price cX2_price 2 (some .int), Cond.methodLink RX2 143 yX2_priceBehind, Cond.instanceMethod yX2_priceBehind, Cond.selects RX2 yX2_priceBehind yX2_priceBehind, Cond.code yX2_priceBehind cX2_priceBehind 3 (some .int)]
def wsX3_lay_r3 : List Cond := [Cond.fieldLink RX2 61 "ClapBank$Evening" "encores" "I", Cond.methodLink RX3 61 yX3_isBetter, Cond.instanceMethod yX3_isBetter, Cond.selects RX3 yX3_isBetter yX3_isBetter, Cond.code yX3_isBetter cX3_isBetter 6 (some .boolean), Cond.methodLink RX3 65 yJ6_bitCount_0f7a4, Cond.static yJ6_bitCount_0f7a4, Cond.initialized RJ6, Cond.code yJ6_bitCount_0f7a4 cJ6_bitCount_0f7a4 1 (some .int), Cond.constant RJ6 265 (1431655765), Cond.constant RJ6 266 (858993459), Cond.constant RJ6 267 (252645135)]
def wsX3_lay : List Cond := .code yX3_lay cX3_lay 6 none :: ((wsX3_lay_r1 ++ (wsX3_lay_r2 ++ wsX3_lay_r3)) ++ wsX20 ++ wsX70 ++ wsX30)
def wsX3_tell : List Cond := .code yX3_tell cX3_tell 2 (some .int) :: ([.fieldLink RX3 32 "ClapBank$Feast" "who" "I", .fieldLink RX3 37 "ClapBank$Feast" "two" "I", .fieldLink RX3 40 "ClapBank$Feast" "one" "I", .methodLink RX3 65 yJ6_bitCount_0f7a4, .static yJ6_bitCount_0f7a4, .initialized RJ6, .code yJ6_bitCount_0f7a4 cJ6_bitCount_0f7a4 1 (some .int), .constant RJ6 265 (1431655765), .constant RJ6 266 (858993459), .constant RJ6 267 (252645135)] ++ wsX30)
def wsX6_cheapest : List Cond := .code yX6_cheapest cX6_cheapest 3 (some .int) :: ([.fieldLink RX6 30 "ClapBank$Rounds" "usurers" "I", .fieldLink RX6 9 "ClapBank$Rounds" "asks" "[I"] ++ wsX60)
def wsX6_goRound : List Cond := .code yX6_goRound cX6_goRound 3 none :: ([.fieldLink RX6 34 "ClapBank$Rounds" "borrowers" "I", .fieldLink RX6 30 "ClapBank$Rounds" "usurers" "I", .fieldLink RX6 18 "ClapBank$Rounds" "gains" "[I", .fieldLink RX6 9 "ClapBank$Rounds" "asks" "[I", .methodLink RX6 53 Lib.Math.min.name, .static Lib.Math.min.name, .initialized "java/lang/Math", .code Lib.Math.min.name Lib.Math.min.code 2 (some .int), .fieldLink RX6 15 "ClapBank$Rounds" "floors" "[I", .methodLink RX6 59 Lib.Math.max.name, .static Lib.Math.max.name, .code Lib.Math.max.name Lib.Math.max.code 2 (some .int), .methodLink RX6 49 yX6_cheapest, .instanceMethod yX6_cheapest, .selects RX6 yX6_cheapest yX6_cheapest, .initialized RX6, .code yX6_cheapest cX6_cheapest 3 (some .int)] ++ wsX60)
def wsX6_findRepeat_r1 : List Cond := [Cond.fieldLink RX6 21 "ClapBank$Rounds" "seen" "[I", Cond.fieldLink RX6 72 "ClapBank$Rounds" "period" "I", Cond.methodLink RX6 62 yX6_begin, Cond.instanceMethod yX6_begin, Cond.selects RX6 yX6_begin yX6_begin, Cond.initialized RX6, Cond.code yX6_begin cX6_begin 2 none, Cond.fieldLink RX6 30 "ClapBank$Rounds" "usurers" "I", Cond.fieldLink RX6 34 "ClapBank$Rounds" "borrowers" "I", Cond.fieldLink RX6 9 "ClapBank$Rounds" "asks" "[I", Cond.methodLink RX6 36 arraycopyName, Cond.native arraycopyName, Cond.static arraycopyName, Cond.initialized "java/lang/System", Cond.fieldLink RX6 15 "ClapBank$Rounds" "floors" "[I", Cond.fieldLink RX6 18 "ClapBank$Rounds" "gains" "[I", Cond.methodLink RX6 43 yJ7_fill_53178, Cond.static yJ7_fill_53178, Cond.initialized RJ7, Cond.code yJ7_fill_53178 cJ7_fill_53178 4 none, Cond.methodLink RX6 66 yX6_allAsks, Cond.instanceMethod yX6_allAsks, Cond.selects RX6 yX6_allAsks yX6_allAsks, Cond.code yX6_allAsks cX6_allAsks 3 (some .int)]
def wsX6_findRepeat_r2 : List Cond := [Cond.methodLink RX6 69 yX6_goRound, Cond.instanceMethod yX6_goRound, Cond.selects RX6 yX6_goRound yX6_goRound, Cond.code yX6_goRound cX6_goRound 3 none, Cond.methodLink RX6 53 Lib.Math.min.name, Cond.static Lib.Math.min.name, Cond.initialized "java/lang/Math", Cond.code Lib.Math.min.name Lib.Math.min.code 2 (some .int), Cond.methodLink RX6 59 Lib.Math.max.name, Cond.static Lib.Math.max.name, Cond.code Lib.Math.max.name Lib.Math.max.code 2 (some .int), Cond.methodLink RX6 49 yX6_cheapest, Cond.instanceMethod yX6_cheapest, Cond.selects RX6 yX6_cheapest yX6_cheapest, Cond.code yX6_cheapest cX6_cheapest 3 (some .int)]
def wsX6_findRepeat : List Cond := .code yX6_findRepeat cX6_findRepeat 4 (some .int) :: ((wsX6_findRepeat_r1 ++ wsX6_findRepeat_r2) ++ wsX60 ++ wsX70)
set_option maxRecDepth 20000 in
theorem ggX3_lay_X2_isHushed : GoodIn wsX3_lay wsX2_isHushed := goodIn_r _ [8, 9, 61, 62, 63, 64, 65, 66, 67, 68, 69, 70, 71, 72, 73, 74] (by decide +kernel) (by decide +kernel)
set_option maxRecDepth 20000 in
theorem gX3_lay_X2_isHushed : GoodIn wsX3_lay (wsV RX3 21 RX2 yX2_isHushed wsX2_isHushed) := goodIn_app (goodIn_of _ (by decide +kernel)) ggX3_lay_X2_isHushed
set_option maxRecDepth 20000 in
theorem ggX3_lay_X2_living : GoodIn wsX3_lay wsX2_living := goodIn_r _ [13, 14, 15, 16, 17, 7, 18, 19, 20, 21, 22, 23, 61, 62, 63, 64, 65, 66, 67, 68, 69, 70, 71, 72, 73, 74, 75, 76, 77, 78, 79, 80, 81, 82, 83, 84, 85, 86] (by decide +kernel) (by decide +kernel)
set_option maxRecDepth 20000 in
theorem gX3_lay_X2_living : GoodIn wsX3_lay (wsV RX3 43 RX2 yX2_living wsX2_living) := goodIn_app (goodIn_of _ (by decide +kernel)) ggX3_lay_X2_living
set_option maxRecDepth 20000 in
theorem ggX3_lay_X3_tryGuests : GoodIn wsX3_lay wsX3_tryGuests := goodIn_r _ [28, 29, 30, 31, 32, 1, 2, 3, 33, 34, 35, 7, 36, 37, 38, 39, 40, 15, 16, 17, 18, 19, 20, 21, 22, 23, 14, 41, 42, 43, 44, 45, 46, 47, 48, 49, 50, 51, 52, 27, 53, 54, 55, 56, 57, 58, 59, 60, 87, 88, 89, 61, 62, 63, 64, 65, 66, 67, 68, 69, 70, 71, 72, 73, 74, 75, 76, 77, 78, 79, 80, 81, 82, 83, 84, 85, 86] (by decide +kernel) (by decide +kernel)
set_option maxRecDepth 20000 in
theorem gX3_lay_X3_tryGuests : GoodIn wsX3_lay (wsV RX3 47 RX3 yX3_tryGuests wsX3_tryGuests) := goodIn_app (goodIn_of _ (by decide +kernel)) ggX3_lay_X3_tryGuests
theorem dX3_lay_0 : decode cX3_lay 0 = .ok (.iconst 0, 1) := by decide +kernel
theorem dX3_lay_1 : decode cX3_lay 1 = .ok (.istore_n 2, 1) := by decide +kernel
theorem dX3_lay_2 : decode cX3_lay 2 = .ok (.iconst 0, 1) := by decide +kernel
theorem dX3_lay_3 : decode cX3_lay 3 = .ok (.istore_n 3, 1) := by decide +kernel
theorem dX3_lay_4 : decode cX3_lay 4 = .ok (.iconst 0, 1) := by decide +kernel
theorem dX3_lay_5 : decode cX3_lay 5 = .ok (.istore 4, 2) := by decide +kernel
theorem dX3_lay_7 : decode cX3_lay 7 = .ok (.iload 4, 2) := by decide +kernel
theorem dX3_lay_9 : decode cX3_lay 9 = .ok (.aload_n 1, 1) := by decide +kernel
theorem dX3_lay_10 : decode cX3_lay 10 = .ok (.getfield 9, 3) := by decide +kernel
theorem dX3_lay_13 : decode cX3_lay 13 = .ok (.getfield 15, 3) := by decide +kernel
theorem dX3_lay_16 : decode cX3_lay 16 = .ok (.if_icmp .ge 55, 3) := by decide +kernel
theorem dX3_lay_19 : decode cX3_lay 19 = .ok (.aload_n 1, 1) := by decide +kernel
theorem dX3_lay_20 : decode cX3_lay 20 = .ok (.iload 4, 2) := by decide +kernel
theorem dX3_lay_22 : decode cX3_lay 22 = .ok (.invokevirtual 21, 3) := by decide +kernel
theorem dX3_lay_25 : decode cX3_lay 25 = .ok (.ifCond .ne 40, 3) := by decide +kernel
theorem dX3_lay_28 : decode cX3_lay 28 = .ok (.aload_n 1, 1) := by decide +kernel
theorem dX3_lay_29 : decode cX3_lay 29 = .ok (.getfield 9, 3) := by decide +kernel
theorem dX3_lay_32 : decode cX3_lay 32 = .ok (.getfield 25, 3) := by decide +kernel
theorem dX3_lay_35 : decode cX3_lay 35 = .ok (.iload 4, 2) := by decide +kernel
theorem dX3_lay_37 : decode cX3_lay 37 = .ok (.iaload, 1) := by decide +kernel
theorem dX3_lay_38 : decode cX3_lay 38 = .ok (.iconst 2, 1) := by decide +kernel
theorem dX3_lay_39 : decode cX3_lay 39 = .ok (.if_icmp .ne 16, 3) := by decide +kernel
theorem dX3_lay_42 : decode cX3_lay 42 = .ok (.iload_n 2, 1) := by decide +kernel
theorem dX3_lay_43 : decode cX3_lay 43 = .ok (.aload_n 1, 1) := by decide +kernel
theorem dX3_lay_44 : decode cX3_lay 44 = .ok (.getfield 29, 3) := by decide +kernel
theorem dX3_lay_47 : decode cX3_lay 47 = .ok (.iload 4, 2) := by decide +kernel
theorem dX3_lay_49 : decode cX3_lay 49 = .ok (.iaload, 1) := by decide +kernel
theorem dX3_lay_50 : decode cX3_lay 50 = .ok (.iadd, 1) := by decide +kernel
theorem dX3_lay_51 : decode cX3_lay 51 = .ok (.istore_n 2, 1) := by decide +kernel
theorem dX3_lay_52 : decode cX3_lay 52 = .ok (.goto 13, 3) := by decide +kernel
theorem dX3_lay_55 : decode cX3_lay 55 = .ok (.iload_n 3, 1) := by decide +kernel
theorem dX3_lay_56 : decode cX3_lay 56 = .ok (.aload_n 1, 1) := by decide +kernel
theorem dX3_lay_57 : decode cX3_lay 57 = .ok (.getfield 29, 3) := by decide +kernel
theorem dX3_lay_60 : decode cX3_lay 60 = .ok (.iload 4, 2) := by decide +kernel
theorem dX3_lay_62 : decode cX3_lay 62 = .ok (.iaload, 1) := by decide +kernel
theorem dX3_lay_63 : decode cX3_lay 63 = .ok (.iadd, 1) := by decide +kernel
theorem dX3_lay_64 : decode cX3_lay 64 = .ok (.istore_n 3, 1) := by decide +kernel
theorem dX3_lay_65 : decode cX3_lay 65 = .ok (.iinc 4 1, 3) := by decide +kernel
theorem dX3_lay_68 : decode cX3_lay 68 = .ok (.goto (-61), 3) := by decide +kernel
theorem dX3_lay_71 : decode cX3_lay 71 = .ok (.aload_n 0, 1) := by decide +kernel
theorem dX3_lay_72 : decode cX3_lay 72 = .ok (.iconst 0, 1) := by decide +kernel
theorem dX3_lay_73 : decode cX3_lay 73 = .ok (.putfield 32, 3) := by decide +kernel
theorem dX3_lay_76 : decode cX3_lay 76 = .ok (.aload_n 0, 1) := by decide +kernel
theorem dX3_lay_77 : decode cX3_lay 77 = .ok (.iconst 0, 1) := by decide +kernel
theorem dX3_lay_78 : decode cX3_lay 78 = .ok (.putfield 37, 3) := by decide +kernel
theorem dX3_lay_81 : decode cX3_lay 81 = .ok (.aload_n 0, 1) := by decide +kernel
theorem dX3_lay_82 : decode cX3_lay 82 = .ok (.iconst 0, 1) := by decide +kernel
theorem dX3_lay_83 : decode cX3_lay 83 = .ok (.putfield 40, 3) := by decide +kernel
theorem dX3_lay_86 : decode cX3_lay 86 = .ok (.aload_n 1, 1) := by decide +kernel
theorem dX3_lay_87 : decode cX3_lay 87 = .ok (.invokevirtual 43, 3) := by decide +kernel
theorem dX3_lay_90 : decode cX3_lay 90 = .ok (.istore 4, 2) := by decide +kernel
theorem dX3_lay_92 : decode cX3_lay 92 = .ok (.iconst 1, 1) := by decide +kernel
theorem dX3_lay_93 : decode cX3_lay 93 = .ok (.istore 5, 2) := by decide +kernel
theorem dX3_lay_95 : decode cX3_lay 95 = .ok (.iload 5, 2) := by decide +kernel
theorem dX3_lay_97 : decode cX3_lay 97 = .ok (.bipush 64, 2) := by decide +kernel
theorem dX3_lay_99 : decode cX3_lay 99 = .ok (.if_icmp .ge 28, 3) := by decide +kernel
theorem dX3_lay_102 : decode cX3_lay 102 = .ok (.iload 5, 2) := by decide +kernel
theorem dX3_lay_104 : decode cX3_lay 104 = .ok (.iload 4, 2) := by decide +kernel
theorem dX3_lay_106 : decode cX3_lay 106 = .ok (.iconst (-1), 1) := by decide +kernel
theorem dX3_lay_107 : decode cX3_lay 107 = .ok (.ixor, 1) := by decide +kernel
theorem dX3_lay_108 : decode cX3_lay 108 = .ok (.iand, 1) := by decide +kernel
theorem dX3_lay_109 : decode cX3_lay 109 = .ok (.ifCond .ne 12, 3) := by decide +kernel
theorem dX3_lay_112 : decode cX3_lay 112 = .ok (.aload_n 0, 1) := by decide +kernel
theorem dX3_lay_113 : decode cX3_lay 113 = .ok (.aload_n 1, 1) := by decide +kernel
theorem dX3_lay_114 : decode cX3_lay 114 = .ok (.iload 5, 2) := by decide +kernel
theorem dX3_lay_116 : decode cX3_lay 116 = .ok (.iload_n 2, 1) := by decide +kernel
theorem dX3_lay_117 : decode cX3_lay 117 = .ok (.iload_n 3, 1) := by decide +kernel
theorem dX3_lay_118 : decode cX3_lay 118 = .ok (.invokevirtual 47, 3) := by decide +kernel
theorem dX3_lay_121 : decode cX3_lay 121 = .ok (.iinc 5 1, 3) := by decide +kernel
theorem dX3_lay_124 : decode cX3_lay 124 = .ok (.goto (-29), 3) := by decide +kernel
theorem dX3_lay_127 : decode cX3_lay 127 = .ok (.return_, 1) := by decide +kernel
set_option maxRecDepth 20000 in
theorem ggX3_tryGuests_X2_need : GoodIn wsX3_tryGuests wsX2_need := goodIn_r _ [12, 13, 14, 15, 3, 16, 17, 18, 19, 11, 20, 21, 22, 23, 24, 25, 26, 27, 28, 29, 30, 31, 32, 33, 34, 35, 51, 52, 53, 54, 55, 56, 57, 58, 59, 60, 61, 62, 63, 64, 65, 66, 67, 68, 69, 70, 71, 72, 73, 74, 75, 76] (by decide +kernel) (by decide +kernel)
set_option maxRecDepth 20000 in
theorem gX3_tryGuests_X2_need : GoodIn wsX3_tryGuests (wsV RX3 51 RX2 yX2_need wsX2_need) := goodIn_app (goodIn_of _ (by decide +kernel)) ggX3_tryGuests_X2_need
set_option maxRecDepth 20000 in
theorem ggX3_tryGuests_X3_isBetter : GoodIn wsX3_tryGuests wsX3_isBetter := goodIn_r _ [40, 5, 6, 7, 41, 42, 43, 44, 45, 46, 47, 48, 49, 50] (by decide +kernel) (by decide +kernel)
set_option maxRecDepth 20000 in
theorem gX3_tryGuests_X3_isBetter : GoodIn wsX3_tryGuests (wsV RX3 61 RX3 yX3_isBetter wsX3_isBetter) := goodIn_app (goodIn_of _ (by decide +kernel)) ggX3_tryGuests_X3_isBetter
theorem dX3_tryGuests_0 : decode cX3_tryGuests 0 = .ok (.iconst 0, 1) := by decide +kernel
theorem dX3_tryGuests_1 : decode cX3_tryGuests 1 = .ok (.istore 5, 2) := by decide +kernel
theorem dX3_tryGuests_3 : decode cX3_tryGuests 3 = .ok (.iconst 0, 1) := by decide +kernel
theorem dX3_tryGuests_4 : decode cX3_tryGuests 4 = .ok (.istore 6, 2) := by decide +kernel
theorem dX3_tryGuests_6 : decode cX3_tryGuests 6 = .ok (.iconst 0, 1) := by decide +kernel
theorem dX3_tryGuests_7 : decode cX3_tryGuests 7 = .ok (.istore 7, 2) := by decide +kernel
theorem dX3_tryGuests_9 : decode cX3_tryGuests 9 = .ok (.iload 7, 2) := by decide +kernel
theorem dX3_tryGuests_11 : decode cX3_tryGuests 11 = .ok (.bipush 6, 2) := by decide +kernel
theorem dX3_tryGuests_13 : decode cX3_tryGuests 13 = .ok (.if_icmp .ge 44, 3) := by decide +kernel
theorem dX3_tryGuests_16 : decode cX3_tryGuests 16 = .ok (.iload_n 2, 1) := by decide +kernel
theorem dX3_tryGuests_17 : decode cX3_tryGuests 17 = .ok (.iload 7, 2) := by decide +kernel
theorem dX3_tryGuests_19 : decode cX3_tryGuests 19 = .ok (.ishr, 1) := by decide +kernel
theorem dX3_tryGuests_20 : decode cX3_tryGuests 20 = .ok (.iconst 1, 1) := by decide +kernel
theorem dX3_tryGuests_21 : decode cX3_tryGuests 21 = .ok (.iand, 1) := by decide +kernel
theorem dX3_tryGuests_22 : decode cX3_tryGuests 22 = .ok (.ifCond .eq 29, 3) := by decide +kernel
theorem dX3_tryGuests_25 : decode cX3_tryGuests 25 = .ok (.iload 5, 2) := by decide +kernel
theorem dX3_tryGuests_27 : decode cX3_tryGuests 27 = .ok (.aload_n 1, 1) := by decide +kernel
theorem dX3_tryGuests_28 : decode cX3_tryGuests 28 = .ok (.iload 7, 2) := by decide +kernel
theorem dX3_tryGuests_30 : decode cX3_tryGuests 30 = .ok (.invokevirtual 51, 3) := by decide +kernel
theorem dX3_tryGuests_33 : decode cX3_tryGuests 33 = .ok (.iconst 2, 1) := by decide +kernel
theorem dX3_tryGuests_34 : decode cX3_tryGuests 34 = .ok (.idiv, 1) := by decide +kernel
theorem dX3_tryGuests_35 : decode cX3_tryGuests 35 = .ok (.iadd, 1) := by decide +kernel
theorem dX3_tryGuests_36 : decode cX3_tryGuests 36 = .ok (.istore 5, 2) := by decide +kernel
theorem dX3_tryGuests_38 : decode cX3_tryGuests 38 = .ok (.iload 6, 2) := by decide +kernel
theorem dX3_tryGuests_40 : decode cX3_tryGuests 40 = .ok (.aload_n 1, 1) := by decide +kernel
theorem dX3_tryGuests_41 : decode cX3_tryGuests 41 = .ok (.iload 7, 2) := by decide +kernel
theorem dX3_tryGuests_43 : decode cX3_tryGuests 43 = .ok (.invokevirtual 51, 3) := by decide +kernel
theorem dX3_tryGuests_46 : decode cX3_tryGuests 46 = .ok (.iconst 2, 1) := by decide +kernel
theorem dX3_tryGuests_47 : decode cX3_tryGuests 47 = .ok (.irem, 1) := by decide +kernel
theorem dX3_tryGuests_48 : decode cX3_tryGuests 48 = .ok (.iadd, 1) := by decide +kernel
theorem dX3_tryGuests_49 : decode cX3_tryGuests 49 = .ok (.istore 6, 2) := by decide +kernel
theorem dX3_tryGuests_51 : decode cX3_tryGuests 51 = .ok (.iinc 7 1, 3) := by decide +kernel
theorem dX3_tryGuests_54 : decode cX3_tryGuests 54 = .ok (.goto (-45), 3) := by decide +kernel
theorem dX3_tryGuests_57 : decode cX3_tryGuests 57 = .ok (.iload_n 3, 1) := by decide +kernel
theorem dX3_tryGuests_58 : decode cX3_tryGuests 58 = .ok (.iload 5, 2) := by decide +kernel
theorem dX3_tryGuests_60 : decode cX3_tryGuests 60 = .ok (.if_icmp .ge 15, 3) := by decide +kernel
theorem dX3_tryGuests_63 : decode cX3_tryGuests 63 = .ok (.iconst 2, 1) := by decide +kernel
theorem dX3_tryGuests_64 : decode cX3_tryGuests 64 = .ok (.iload 5, 2) := by decide +kernel
theorem dX3_tryGuests_66 : decode cX3_tryGuests 66 = .ok (.iload_n 3, 1) := by decide +kernel
theorem dX3_tryGuests_67 : decode cX3_tryGuests 67 = .ok (.isub, 1) := by decide +kernel
theorem dX3_tryGuests_68 : decode cX3_tryGuests 68 = .ok (.imul, 1) := by decide +kernel
theorem dX3_tryGuests_69 : decode cX3_tryGuests 69 = .ok (.iload 6, 2) := by decide +kernel
theorem dX3_tryGuests_71 : decode cX3_tryGuests 71 = .ok (.iadd, 1) := by decide +kernel
theorem dX3_tryGuests_72 : decode cX3_tryGuests 72 = .ok (.goto 10, 3) := by decide +kernel
theorem dX3_tryGuests_75 : decode cX3_tryGuests 75 = .ok (.iload 6, 2) := by decide +kernel
theorem dX3_tryGuests_77 : decode cX3_tryGuests 77 = .ok (.iload 4, 2) := by decide +kernel
theorem dX3_tryGuests_79 : decode cX3_tryGuests 79 = .ok (.invokestatic 55, 3) := by decide +kernel
theorem dX3_tryGuests_82 : decode cX3_tryGuests 82 = .ok (.istore 7, 2) := by decide +kernel
theorem dX3_tryGuests_84 : decode cX3_tryGuests 84 = .ok (.iload_n 3, 1) := by decide +kernel
theorem dX3_tryGuests_85 : decode cX3_tryGuests 85 = .ok (.iload 5, 2) := by decide +kernel
theorem dX3_tryGuests_87 : decode cX3_tryGuests 87 = .ok (.if_icmp .ge 7, 3) := by decide +kernel
theorem dX3_tryGuests_90 : decode cX3_tryGuests 90 = .ok (.iload_n 3, 1) := by decide +kernel
theorem dX3_tryGuests_91 : decode cX3_tryGuests 91 = .ok (.goto 11, 3) := by decide +kernel
theorem dX3_tryGuests_94 : decode cX3_tryGuests 94 = .ok (.iload 5, 2) := by decide +kernel
theorem dX3_tryGuests_96 : decode cX3_tryGuests 96 = .ok (.iload 6, 2) := by decide +kernel
theorem dX3_tryGuests_98 : decode cX3_tryGuests 98 = .ok (.iadd, 1) := by decide +kernel
theorem dX3_tryGuests_99 : decode cX3_tryGuests 99 = .ok (.iload 7, 2) := by decide +kernel
theorem dX3_tryGuests_101 : decode cX3_tryGuests 101 = .ok (.isub, 1) := by decide +kernel
theorem dX3_tryGuests_102 : decode cX3_tryGuests 102 = .ok (.istore 8, 2) := by decide +kernel
theorem dX3_tryGuests_104 : decode cX3_tryGuests 104 = .ok (.iload 7, 2) := by decide +kernel
theorem dX3_tryGuests_106 : decode cX3_tryGuests 106 = .ok (.iload 4, 2) := by decide +kernel
theorem dX3_tryGuests_108 : decode cX3_tryGuests 108 = .ok (.if_icmp .gt 38, 3) := by decide +kernel
theorem dX3_tryGuests_111 : decode cX3_tryGuests 111 = .ok (.iload 8, 2) := by decide +kernel
theorem dX3_tryGuests_113 : decode cX3_tryGuests 113 = .ok (.iload_n 3, 1) := by decide +kernel
theorem dX3_tryGuests_114 : decode cX3_tryGuests 114 = .ok (.if_icmp .gt 32, 3) := by decide +kernel
theorem dX3_tryGuests_117 : decode cX3_tryGuests 117 = .ok (.aload_n 0, 1) := by decide +kernel
theorem dX3_tryGuests_118 : decode cX3_tryGuests 118 = .ok (.iload_n 2, 1) := by decide +kernel
theorem dX3_tryGuests_119 : decode cX3_tryGuests 119 = .ok (.iload 8, 2) := by decide +kernel
theorem dX3_tryGuests_121 : decode cX3_tryGuests 121 = .ok (.iload 7, 2) := by decide +kernel
theorem dX3_tryGuests_123 : decode cX3_tryGuests 123 = .ok (.invokevirtual 61, 3) := by decide +kernel
theorem dX3_tryGuests_126 : decode cX3_tryGuests 126 = .ok (.ifCond .eq 20, 3) := by decide +kernel
theorem dX3_tryGuests_129 : decode cX3_tryGuests 129 = .ok (.aload_n 0, 1) := by decide +kernel
theorem dX3_tryGuests_130 : decode cX3_tryGuests 130 = .ok (.iload_n 2, 1) := by decide +kernel
theorem dX3_tryGuests_131 : decode cX3_tryGuests 131 = .ok (.putfield 32, 3) := by decide +kernel
theorem dX3_tryGuests_134 : decode cX3_tryGuests 134 = .ok (.aload_n 0, 1) := by decide +kernel
theorem dX3_tryGuests_135 : decode cX3_tryGuests 135 = .ok (.iload 8, 2) := by decide +kernel
theorem dX3_tryGuests_137 : decode cX3_tryGuests 137 = .ok (.putfield 37, 3) := by decide +kernel
theorem dX3_tryGuests_140 : decode cX3_tryGuests 140 = .ok (.aload_n 0, 1) := by decide +kernel
theorem dX3_tryGuests_141 : decode cX3_tryGuests 141 = .ok (.iload 7, 2) := by decide +kernel
theorem dX3_tryGuests_143 : decode cX3_tryGuests 143 = .ok (.putfield 40, 3) := by decide +kernel
theorem dX3_tryGuests_146 : decode cX3_tryGuests 146 = .ok (.return_, 1) := by decide +kernel
set_option maxRecDepth 20000 in
theorem ggX3_isBetter_J6_bitCount_0f7a4 : GoodIn wsX3_isBetter wsJ6_bitCount_0f7a4 := goodIn_r _ [7, 8, 9, 10] (by decide +kernel) (by decide +kernel)
set_option maxRecDepth 20000 in
theorem gX3_isBetter_J6_bitCount_0f7a4 : GoodIn wsX3_isBetter (va_wsS RX3 65 yJ6_bitCount_0f7a4 wsJ6_bitCount_0f7a4) := goodIn_app (goodIn_of _ (by decide +kernel)) ggX3_isBetter_J6_bitCount_0f7a4
theorem dX3_isBetter_0 : decode cX3_isBetter 0 = .ok (.iload_n 1, 1) := by decide +kernel
theorem dX3_isBetter_1 : decode cX3_isBetter 1 = .ok (.invokestatic 65, 3) := by decide +kernel
theorem dX3_isBetter_4 : decode cX3_isBetter 4 = .ok (.aload_n 0, 1) := by decide +kernel
theorem dX3_isBetter_5 : decode cX3_isBetter 5 = .ok (.getfield 32, 3) := by decide +kernel
theorem dX3_isBetter_8 : decode cX3_isBetter 8 = .ok (.invokestatic 65, 3) := by decide +kernel
theorem dX3_isBetter_11 : decode cX3_isBetter 11 = .ok (.isub, 1) := by decide +kernel
theorem dX3_isBetter_12 : decode cX3_isBetter 12 = .ok (.istore 4, 2) := by decide +kernel
theorem dX3_isBetter_14 : decode cX3_isBetter 14 = .ok (.iload 4, 2) := by decide +kernel
theorem dX3_isBetter_16 : decode cX3_isBetter 16 = .ok (.ifCond .eq 14, 3) := by decide +kernel
theorem dX3_isBetter_19 : decode cX3_isBetter 19 = .ok (.iload 4, 2) := by decide +kernel
theorem dX3_isBetter_21 : decode cX3_isBetter 21 = .ok (.ifCond .le 7, 3) := by decide +kernel
theorem dX3_isBetter_24 : decode cX3_isBetter 24 = .ok (.iconst 1, 1) := by decide +kernel
theorem dX3_isBetter_25 : decode cX3_isBetter 25 = .ok (.goto 4, 3) := by decide +kernel
theorem dX3_isBetter_28 : decode cX3_isBetter 28 = .ok (.iconst 0, 1) := by decide +kernel
theorem dX3_isBetter_29 : decode cX3_isBetter 29 = .ok (.ireturn, 1) := by decide +kernel
theorem dX3_isBetter_30 : decode cX3_isBetter 30 = .ok (.aload_n 0, 1) := by decide +kernel
theorem dX3_isBetter_31 : decode cX3_isBetter 31 = .ok (.getfield 37, 3) := by decide +kernel
theorem dX3_isBetter_34 : decode cX3_isBetter 34 = .ok (.aload_n 0, 1) := by decide +kernel
theorem dX3_isBetter_35 : decode cX3_isBetter 35 = .ok (.getfield 40, 3) := by decide +kernel
theorem dX3_isBetter_38 : decode cX3_isBetter 38 = .ok (.iadd, 1) := by decide +kernel
theorem dX3_isBetter_39 : decode cX3_isBetter 39 = .ok (.iload_n 2, 1) := by decide +kernel
theorem dX3_isBetter_40 : decode cX3_isBetter 40 = .ok (.isub, 1) := by decide +kernel
theorem dX3_isBetter_41 : decode cX3_isBetter 41 = .ok (.iload_n 3, 1) := by decide +kernel
theorem dX3_isBetter_42 : decode cX3_isBetter 42 = .ok (.isub, 1) := by decide +kernel
theorem dX3_isBetter_43 : decode cX3_isBetter 43 = .ok (.istore 5, 2) := by decide +kernel
theorem dX3_isBetter_45 : decode cX3_isBetter 45 = .ok (.iload 5, 2) := by decide +kernel
theorem dX3_isBetter_47 : decode cX3_isBetter 47 = .ok (.ifCond .eq 16, 3) := by decide +kernel
theorem dX3_isBetter_50 : decode cX3_isBetter 50 = .ok (.iload 5, 2) := by decide +kernel
theorem dX3_isBetter_52 : decode cX3_isBetter 52 = .ok (.ifCond .le 7, 3) := by decide +kernel
theorem dX3_isBetter_55 : decode cX3_isBetter 55 = .ok (.iconst 1, 1) := by decide +kernel
theorem dX3_isBetter_56 : decode cX3_isBetter 56 = .ok (.goto 20, 3) := by decide +kernel
theorem dX3_isBetter_59 : decode cX3_isBetter 59 = .ok (.iconst 0, 1) := by decide +kernel
theorem dX3_isBetter_60 : decode cX3_isBetter 60 = .ok (.goto 16, 3) := by decide +kernel
theorem dX3_isBetter_63 : decode cX3_isBetter 63 = .ok (.iload_n 2, 1) := by decide +kernel
theorem dX3_isBetter_64 : decode cX3_isBetter 64 = .ok (.aload_n 0, 1) := by decide +kernel
theorem dX3_isBetter_65 : decode cX3_isBetter 65 = .ok (.getfield 37, 3) := by decide +kernel
theorem dX3_isBetter_68 : decode cX3_isBetter 68 = .ok (.if_icmp .ge 7, 3) := by decide +kernel
theorem dX3_isBetter_71 : decode cX3_isBetter 71 = .ok (.iconst 1, 1) := by decide +kernel
theorem dX3_isBetter_72 : decode cX3_isBetter 72 = .ok (.goto 4, 3) := by decide +kernel
theorem dX3_isBetter_75 : decode cX3_isBetter 75 = .ok (.iconst 0, 1) := by decide +kernel
theorem dX3_isBetter_76 : decode cX3_isBetter 76 = .ok (.ireturn, 1) := by decide +kernel
set_option maxRecDepth 20000 in
theorem ggX3_tell_J6_bitCount_0f7a4 : GoodIn wsX3_tell wsJ6_bitCount_0f7a4 := goodIn_r _ [7, 8, 9, 10] (by decide +kernel) (by decide +kernel)
set_option maxRecDepth 20000 in
theorem gX3_tell_J6_bitCount_0f7a4 : GoodIn wsX3_tell (va_wsS RX3 65 yJ6_bitCount_0f7a4 wsJ6_bitCount_0f7a4) := goodIn_app (goodIn_of _ (by decide +kernel)) ggX3_tell_J6_bitCount_0f7a4
theorem dX3_tell_0 : decode cX3_tell 0 = .ok (.iload_n 1, 1) := by decide +kernel
theorem dX3_tell_1 : decode cX3_tell 1 = .ok (.tableswitch 45 0 2 #[27, 35, 40], 27) := by decide +kernel
theorem dX3_tell_28 : decode cX3_tell 28 = .ok (.aload_n 0, 1) := by decide +kernel
theorem dX3_tell_29 : decode cX3_tell 29 = .ok (.getfield 32, 3) := by decide +kernel
theorem dX3_tell_32 : decode cX3_tell 32 = .ok (.invokestatic 65, 3) := by decide +kernel
theorem dX3_tell_35 : decode cX3_tell 35 = .ok (.ireturn, 1) := by decide +kernel
theorem dX3_tell_36 : decode cX3_tell 36 = .ok (.aload_n 0, 1) := by decide +kernel
theorem dX3_tell_37 : decode cX3_tell 37 = .ok (.getfield 32, 3) := by decide +kernel
theorem dX3_tell_40 : decode cX3_tell 40 = .ok (.ireturn, 1) := by decide +kernel
theorem dX3_tell_41 : decode cX3_tell 41 = .ok (.aload_n 0, 1) := by decide +kernel
theorem dX3_tell_42 : decode cX3_tell 42 = .ok (.getfield 37, 3) := by decide +kernel
theorem dX3_tell_45 : decode cX3_tell 45 = .ok (.ireturn, 1) := by decide +kernel
theorem dX3_tell_46 : decode cX3_tell 46 = .ok (.aload_n 0, 1) := by decide +kernel
theorem dX3_tell_47 : decode cX3_tell 47 = .ok (.getfield 40, 3) := by decide +kernel
theorem dX3_tell_50 : decode cX3_tell 50 = .ok (.ireturn, 1) := by decide +kernel
set_option maxRecDepth 20000 in
theorem ggX6_goRound_X6_cheapest : GoodIn wsX6_goRound wsX6_cheapest := goodIn_r _ [17, 2, 4, 18, 19, 20, 21, 22, 23, 24] (by decide +kernel) (by decide +kernel)
set_option maxRecDepth 20000 in
theorem gX6_goRound_X6_cheapest : GoodIn wsX6_goRound (wsV RX6 49 RX6 yX6_cheapest wsX6_cheapest) := goodIn_app (goodIn_of _ (by decide +kernel)) ggX6_goRound_X6_cheapest
theorem dX6_goRound_0 : decode cX6_goRound 0 = .ok (.aload_n 0, 1) := by decide +kernel
theorem dX6_goRound_1 : decode cX6_goRound 1 = .ok (.getfield 34, 3) := by decide +kernel
theorem dX6_goRound_4 : decode cX6_goRound 4 = .ok (.ifCond .le 10, 3) := by decide +kernel
theorem dX6_goRound_7 : decode cX6_goRound 7 = .ok (.aload_n 0, 1) := by decide +kernel
theorem dX6_goRound_8 : decode cX6_goRound 8 = .ok (.invokevirtual 49, 3) := by decide +kernel
theorem dX6_goRound_11 : decode cX6_goRound 11 = .ok (.goto 4, 3) := by decide +kernel
theorem dX6_goRound_14 : decode cX6_goRound 14 = .ok (.iconst (-1), 1) := by decide +kernel
theorem dX6_goRound_15 : decode cX6_goRound 15 = .ok (.istore_n 1, 1) := by decide +kernel
theorem dX6_goRound_16 : decode cX6_goRound 16 = .ok (.iconst 0, 1) := by decide +kernel
theorem dX6_goRound_17 : decode cX6_goRound 17 = .ok (.istore_n 2, 1) := by decide +kernel
theorem dX6_goRound_18 : decode cX6_goRound 18 = .ok (.iload_n 2, 1) := by decide +kernel
theorem dX6_goRound_19 : decode cX6_goRound 19 = .ok (.aload_n 0, 1) := by decide +kernel
theorem dX6_goRound_20 : decode cX6_goRound 20 = .ok (.getfield 30, 3) := by decide +kernel
theorem dX6_goRound_23 : decode cX6_goRound 23 = .ok (.if_icmp .ge 79, 3) := by decide +kernel
theorem dX6_goRound_26 : decode cX6_goRound 26 = .ok (.iload_n 2, 1) := by decide +kernel
theorem dX6_goRound_27 : decode cX6_goRound 27 = .ok (.iload_n 1, 1) := by decide +kernel
theorem dX6_goRound_28 : decode cX6_goRound 28 = .ok (.if_icmp .ne 45, 3) := by decide +kernel
theorem dX6_goRound_31 : decode cX6_goRound 31 = .ok (.aload_n 0, 1) := by decide +kernel
theorem dX6_goRound_32 : decode cX6_goRound 32 = .ok (.getfield 18, 3) := by decide +kernel
theorem dX6_goRound_35 : decode cX6_goRound 35 = .ok (.iload_n 2, 1) := by decide +kernel
theorem dX6_goRound_36 : decode cX6_goRound 36 = .ok (.dup2, 1) := by decide +kernel
theorem dX6_goRound_37 : decode cX6_goRound 37 = .ok (.iaload, 1) := by decide +kernel
theorem dX6_goRound_38 : decode cX6_goRound 38 = .ok (.aload_n 0, 1) := by decide +kernel
theorem dX6_goRound_39 : decode cX6_goRound 39 = .ok (.getfield 34, 3) := by decide +kernel
theorem dX6_goRound_42 : decode cX6_goRound 42 = .ok (.aload_n 0, 1) := by decide +kernel
theorem dX6_goRound_43 : decode cX6_goRound 43 = .ok (.getfield 9, 3) := by decide +kernel
theorem dX6_goRound_46 : decode cX6_goRound 46 = .ok (.iload_n 2, 1) := by decide +kernel
theorem dX6_goRound_47 : decode cX6_goRound 47 = .ok (.iaload, 1) := by decide +kernel
theorem dX6_goRound_48 : decode cX6_goRound 48 = .ok (.imul, 1) := by decide +kernel
theorem dX6_goRound_49 : decode cX6_goRound 49 = .ok (.iadd, 1) := by decide +kernel
theorem dX6_goRound_50 : decode cX6_goRound 50 = .ok (.iastore, 1) := by decide +kernel
theorem dX6_goRound_51 : decode cX6_goRound 51 = .ok (.aload_n 0, 1) := by decide +kernel
theorem dX6_goRound_52 : decode cX6_goRound 52 = .ok (.getfield 9, 3) := by decide +kernel
theorem dX6_goRound_55 : decode cX6_goRound 55 = .ok (.iload_n 2, 1) := by decide +kernel
theorem dX6_goRound_56 : decode cX6_goRound 56 = .ok (.bipush 30, 2) := by decide +kernel
theorem dX6_goRound_58 : decode cX6_goRound 58 = .ok (.aload_n 0, 1) := by decide +kernel
theorem dX6_goRound_59 : decode cX6_goRound 59 = .ok (.getfield 9, 3) := by decide +kernel
theorem dX6_goRound_62 : decode cX6_goRound 62 = .ok (.iload_n 2, 1) := by decide +kernel
theorem dX6_goRound_63 : decode cX6_goRound 63 = .ok (.iaload, 1) := by decide +kernel
theorem dX6_goRound_64 : decode cX6_goRound 64 = .ok (.iconst 1, 1) := by decide +kernel
theorem dX6_goRound_65 : decode cX6_goRound 65 = .ok (.iadd, 1) := by decide +kernel
theorem dX6_goRound_66 : decode cX6_goRound 66 = .ok (.invokestatic 53, 3) := by decide +kernel
theorem dX6_goRound_69 : decode cX6_goRound 69 = .ok (.iastore, 1) := by decide +kernel
theorem dX6_goRound_70 : decode cX6_goRound 70 = .ok (.goto 26, 3) := by decide +kernel
theorem dX6_goRound_73 : decode cX6_goRound 73 = .ok (.aload_n 0, 1) := by decide +kernel
theorem dX6_goRound_74 : decode cX6_goRound 74 = .ok (.getfield 9, 3) := by decide +kernel
theorem dX6_goRound_77 : decode cX6_goRound 77 = .ok (.iload_n 2, 1) := by decide +kernel
theorem dX6_goRound_78 : decode cX6_goRound 78 = .ok (.aload_n 0, 1) := by decide +kernel
theorem dX6_goRound_79 : decode cX6_goRound 79 = .ok (.getfield 15, 3) := by decide +kernel
theorem dX6_goRound_82 : decode cX6_goRound 82 = .ok (.iload_n 2, 1) := by decide +kernel
theorem dX6_goRound_83 : decode cX6_goRound 83 = .ok (.iaload, 1) := by decide +kernel
theorem dX6_goRound_84 : decode cX6_goRound 84 = .ok (.aload_n 0, 1) := by decide +kernel
theorem dX6_goRound_85 : decode cX6_goRound 85 = .ok (.getfield 9, 3) := by decide +kernel
theorem dX6_goRound_88 : decode cX6_goRound 88 = .ok (.iload_n 2, 1) := by decide +kernel
theorem dX6_goRound_89 : decode cX6_goRound 89 = .ok (.iaload, 1) := by decide +kernel
theorem dX6_goRound_90 : decode cX6_goRound 90 = .ok (.iconst 1, 1) := by decide +kernel
theorem dX6_goRound_91 : decode cX6_goRound 91 = .ok (.isub, 1) := by decide +kernel
theorem dX6_goRound_92 : decode cX6_goRound 92 = .ok (.invokestatic 59, 3) := by decide +kernel
theorem dX6_goRound_95 : decode cX6_goRound 95 = .ok (.iastore, 1) := by decide +kernel
theorem dX6_goRound_96 : decode cX6_goRound 96 = .ok (.iinc 2 1, 3) := by decide +kernel
theorem dX6_goRound_99 : decode cX6_goRound 99 = .ok (.goto (-81), 3) := by decide +kernel
theorem dX6_goRound_102 : decode cX6_goRound 102 = .ok (.return_, 1) := by decide +kernel
theorem dX6_cheapest_0 : decode cX6_cheapest 0 = .ok (.iconst 0, 1) := by decide +kernel
theorem dX6_cheapest_1 : decode cX6_cheapest 1 = .ok (.istore_n 1, 1) := by decide +kernel
theorem dX6_cheapest_2 : decode cX6_cheapest 2 = .ok (.iconst 1, 1) := by decide +kernel
theorem dX6_cheapest_3 : decode cX6_cheapest 3 = .ok (.istore_n 2, 1) := by decide +kernel
theorem dX6_cheapest_4 : decode cX6_cheapest 4 = .ok (.iload_n 2, 1) := by decide +kernel
theorem dX6_cheapest_5 : decode cX6_cheapest 5 = .ok (.aload_n 0, 1) := by decide +kernel
theorem dX6_cheapest_6 : decode cX6_cheapest 6 = .ok (.getfield 30, 3) := by decide +kernel
theorem dX6_cheapest_9 : decode cX6_cheapest 9 = .ok (.if_icmp .ge 26, 3) := by decide +kernel
theorem dX6_cheapest_12 : decode cX6_cheapest 12 = .ok (.aload_n 0, 1) := by decide +kernel
theorem dX6_cheapest_13 : decode cX6_cheapest 13 = .ok (.getfield 9, 3) := by decide +kernel
theorem dX6_cheapest_16 : decode cX6_cheapest 16 = .ok (.iload_n 2, 1) := by decide +kernel
theorem dX6_cheapest_17 : decode cX6_cheapest 17 = .ok (.iaload, 1) := by decide +kernel
theorem dX6_cheapest_18 : decode cX6_cheapest 18 = .ok (.aload_n 0, 1) := by decide +kernel
theorem dX6_cheapest_19 : decode cX6_cheapest 19 = .ok (.getfield 9, 3) := by decide +kernel
theorem dX6_cheapest_22 : decode cX6_cheapest 22 = .ok (.iload_n 1, 1) := by decide +kernel
theorem dX6_cheapest_23 : decode cX6_cheapest 23 = .ok (.iaload, 1) := by decide +kernel
theorem dX6_cheapest_24 : decode cX6_cheapest 24 = .ok (.if_icmp .ge 5, 3) := by decide +kernel
theorem dX6_cheapest_27 : decode cX6_cheapest 27 = .ok (.iload_n 2, 1) := by decide +kernel
theorem dX6_cheapest_28 : decode cX6_cheapest 28 = .ok (.istore_n 1, 1) := by decide +kernel
theorem dX6_cheapest_29 : decode cX6_cheapest 29 = .ok (.iinc 2 1, 3) := by decide +kernel
theorem dX6_cheapest_32 : decode cX6_cheapest 32 = .ok (.goto (-28), 3) := by decide +kernel
theorem dX6_cheapest_35 : decode cX6_cheapest 35 = .ok (.iload_n 1, 1) := by decide +kernel
theorem dX6_cheapest_36 : decode cX6_cheapest 36 = .ok (.ireturn, 1) := by decide +kernel
set_option maxRecDepth 20000 in
theorem ggX6_findRepeat_X6_begin : GoodIn wsX6_findRepeat wsX6_begin := goodIn_r _ [7, 8, 9, 10, 11, 12, 13, 14, 15, 16, 17, 18, 19, 20, 47, 48, 49, 50, 51, 52, 53, 54, 55, 56, 57, 58, 40, 41, 42, 43, 44, 45, 46] (by decide +kernel) (by decide +kernel)
set_option maxRecDepth 20000 in
theorem gX6_findRepeat_X6_begin : GoodIn wsX6_findRepeat (wsV RX6 62 RX6 yX6_begin wsX6_begin) := goodIn_app (goodIn_of _ (by decide +kernel)) ggX6_findRepeat_X6_begin
set_option maxRecDepth 20000 in
theorem ggX6_findRepeat_X6_allAsks : GoodIn wsX6_findRepeat wsX6_allAsks := goodIn_r _ [24, 8, 10, 40, 41, 42, 43, 44, 45, 46] (by decide +kernel) (by decide +kernel)
set_option maxRecDepth 20000 in
theorem gX6_findRepeat_X6_allAsks : GoodIn wsX6_findRepeat (wsV RX6 66 RX6 yX6_allAsks wsX6_allAsks) := goodIn_app (goodIn_of _ (by decide +kernel)) ggX6_findRepeat_X6_allAsks
set_option maxRecDepth 20000 in
theorem ggX6_findRepeat_X6_goRound : GoodIn wsX6_findRepeat wsX6_goRound := goodIn_r _ [28, 9, 8, 16, 10, 29, 30, 31, 32, 15, 33, 34, 35, 36, 37, 38, 6, 39, 40, 41, 42, 43, 44, 45, 46] (by decide +kernel) (by decide +kernel)
set_option maxRecDepth 20000 in
theorem gX6_findRepeat_X6_goRound : GoodIn wsX6_findRepeat (wsV RX6 69 RX6 yX6_goRound wsX6_goRound) := goodIn_app (goodIn_of _ (by decide +kernel)) ggX6_findRepeat_X6_goRound
theorem dX6_findRepeat_0 : decode cX6_findRepeat 0 = .ok (.aload_n 0, 1) := by decide +kernel
theorem dX6_findRepeat_1 : decode cX6_findRepeat 1 = .ok (.aload_n 1, 1) := by decide +kernel
theorem dX6_findRepeat_2 : decode cX6_findRepeat 2 = .ok (.invokevirtual 62, 3) := by decide +kernel
theorem dX6_findRepeat_5 : decode cX6_findRepeat 5 = .ok (.aload_n 0, 1) := by decide +kernel
theorem dX6_findRepeat_6 : decode cX6_findRepeat 6 = .ok (.getfield 21, 3) := by decide +kernel
theorem dX6_findRepeat_9 : decode cX6_findRepeat 9 = .ok (.iconst 0, 1) := by decide +kernel
theorem dX6_findRepeat_10 : decode cX6_findRepeat 10 = .ok (.aload_n 0, 1) := by decide +kernel
theorem dX6_findRepeat_11 : decode cX6_findRepeat 11 = .ok (.invokevirtual 66, 3) := by decide +kernel
theorem dX6_findRepeat_14 : decode cX6_findRepeat 14 = .ok (.iastore, 1) := by decide +kernel
theorem dX6_findRepeat_15 : decode cX6_findRepeat 15 = .ok (.iconst 1, 1) := by decide +kernel
theorem dX6_findRepeat_16 : decode cX6_findRepeat 16 = .ok (.istore_n 2, 1) := by decide +kernel
theorem dX6_findRepeat_17 : decode cX6_findRepeat 17 = .ok (.iload_n 2, 1) := by decide +kernel
theorem dX6_findRepeat_18 : decode cX6_findRepeat 18 = .ok (.sipush 200, 3) := by decide +kernel
theorem dX6_findRepeat_21 : decode cX6_findRepeat 21 = .ok (.if_icmp .gt 61, 3) := by decide +kernel
theorem dX6_findRepeat_24 : decode cX6_findRepeat 24 = .ok (.aload_n 0, 1) := by decide +kernel
theorem dX6_findRepeat_25 : decode cX6_findRepeat 25 = .ok (.invokevirtual 69, 3) := by decide +kernel
theorem dX6_findRepeat_28 : decode cX6_findRepeat 28 = .ok (.aload_n 0, 1) := by decide +kernel
theorem dX6_findRepeat_29 : decode cX6_findRepeat 29 = .ok (.getfield 21, 3) := by decide +kernel
theorem dX6_findRepeat_32 : decode cX6_findRepeat 32 = .ok (.iload_n 2, 1) := by decide +kernel
theorem dX6_findRepeat_33 : decode cX6_findRepeat 33 = .ok (.aload_n 0, 1) := by decide +kernel
theorem dX6_findRepeat_34 : decode cX6_findRepeat 34 = .ok (.invokevirtual 66, 3) := by decide +kernel
theorem dX6_findRepeat_37 : decode cX6_findRepeat 37 = .ok (.iastore, 1) := by decide +kernel
theorem dX6_findRepeat_38 : decode cX6_findRepeat 38 = .ok (.iload_n 2, 1) := by decide +kernel
theorem dX6_findRepeat_39 : decode cX6_findRepeat 39 = .ok (.iconst 1, 1) := by decide +kernel
theorem dX6_findRepeat_40 : decode cX6_findRepeat 40 = .ok (.isub, 1) := by decide +kernel
theorem dX6_findRepeat_41 : decode cX6_findRepeat 41 = .ok (.istore_n 3, 1) := by decide +kernel
theorem dX6_findRepeat_42 : decode cX6_findRepeat 42 = .ok (.iload_n 3, 1) := by decide +kernel
theorem dX6_findRepeat_43 : decode cX6_findRepeat 43 = .ok (.ifCond .lt 33, 3) := by decide +kernel
theorem dX6_findRepeat_46 : decode cX6_findRepeat 46 = .ok (.aload_n 0, 1) := by decide +kernel
theorem dX6_findRepeat_47 : decode cX6_findRepeat 47 = .ok (.getfield 21, 3) := by decide +kernel
theorem dX6_findRepeat_50 : decode cX6_findRepeat 50 = .ok (.iload_n 3, 1) := by decide +kernel
theorem dX6_findRepeat_51 : decode cX6_findRepeat 51 = .ok (.iaload, 1) := by decide +kernel
theorem dX6_findRepeat_52 : decode cX6_findRepeat 52 = .ok (.aload_n 0, 1) := by decide +kernel
theorem dX6_findRepeat_53 : decode cX6_findRepeat 53 = .ok (.getfield 21, 3) := by decide +kernel
theorem dX6_findRepeat_56 : decode cX6_findRepeat 56 = .ok (.iload_n 2, 1) := by decide +kernel
theorem dX6_findRepeat_57 : decode cX6_findRepeat 57 = .ok (.iaload, 1) := by decide +kernel
theorem dX6_findRepeat_58 : decode cX6_findRepeat 58 = .ok (.if_icmp .ne 12, 3) := by decide +kernel
theorem dX6_findRepeat_61 : decode cX6_findRepeat 61 = .ok (.aload_n 0, 1) := by decide +kernel
theorem dX6_findRepeat_62 : decode cX6_findRepeat 62 = .ok (.iload_n 2, 1) := by decide +kernel
theorem dX6_findRepeat_63 : decode cX6_findRepeat 63 = .ok (.iload_n 3, 1) := by decide +kernel
theorem dX6_findRepeat_64 : decode cX6_findRepeat 64 = .ok (.isub, 1) := by decide +kernel
theorem dX6_findRepeat_65 : decode cX6_findRepeat 65 = .ok (.putfield 72, 3) := by decide +kernel
theorem dX6_findRepeat_68 : decode cX6_findRepeat 68 = .ok (.iload_n 2, 1) := by decide +kernel
theorem dX6_findRepeat_69 : decode cX6_findRepeat 69 = .ok (.ireturn, 1) := by decide +kernel
theorem dX6_findRepeat_70 : decode cX6_findRepeat 70 = .ok (.iinc 3 (-1), 3) := by decide +kernel
theorem dX6_findRepeat_73 : decode cX6_findRepeat 73 = .ok (.goto (-31), 3) := by decide +kernel
theorem dX6_findRepeat_76 : decode cX6_findRepeat 76 = .ok (.iinc 2 1, 3) := by decide +kernel
theorem dX6_findRepeat_79 : decode cX6_findRepeat 79 = .ok (.goto (-62), 3) := by decide +kernel
theorem dX6_findRepeat_82 : decode cX6_findRepeat 82 = .ok (.iconst (-1), 1) := by decide +kernel
theorem dX6_findRepeat_83 : decode cX6_findRepeat 83 = .ok (.ireturn, 1) := by decide +kernel
theorem dJ6_bitCount_0f7a4_0 : decode cJ6_bitCount_0f7a4 0 = .ok (.iload_n 0, 1) := by decide +kernel
theorem dJ6_bitCount_0f7a4_1 : decode cJ6_bitCount_0f7a4 1 = .ok (.iload_n 0, 1) := by decide +kernel
theorem dJ6_bitCount_0f7a4_2 : decode cJ6_bitCount_0f7a4 2 = .ok (.iconst 1, 1) := by decide +kernel
theorem dJ6_bitCount_0f7a4_3 : decode cJ6_bitCount_0f7a4 3 = .ok (.iushr, 1) := by decide +kernel
theorem dJ6_bitCount_0f7a4_4 : decode cJ6_bitCount_0f7a4 4 = .ok (.ldc_w 265, 3) := by decide +kernel
theorem dJ6_bitCount_0f7a4_7 : decode cJ6_bitCount_0f7a4 7 = .ok (.iand, 1) := by decide +kernel
theorem dJ6_bitCount_0f7a4_8 : decode cJ6_bitCount_0f7a4 8 = .ok (.isub, 1) := by decide +kernel
theorem dJ6_bitCount_0f7a4_9 : decode cJ6_bitCount_0f7a4 9 = .ok (.istore_n 0, 1) := by decide +kernel
theorem dJ6_bitCount_0f7a4_10 : decode cJ6_bitCount_0f7a4 10 = .ok (.iload_n 0, 1) := by decide +kernel
theorem dJ6_bitCount_0f7a4_11 : decode cJ6_bitCount_0f7a4 11 = .ok (.ldc_w 266, 3) := by decide +kernel
theorem dJ6_bitCount_0f7a4_14 : decode cJ6_bitCount_0f7a4 14 = .ok (.iand, 1) := by decide +kernel
theorem dJ6_bitCount_0f7a4_15 : decode cJ6_bitCount_0f7a4 15 = .ok (.iload_n 0, 1) := by decide +kernel
theorem dJ6_bitCount_0f7a4_16 : decode cJ6_bitCount_0f7a4 16 = .ok (.iconst 2, 1) := by decide +kernel
theorem dJ6_bitCount_0f7a4_17 : decode cJ6_bitCount_0f7a4 17 = .ok (.iushr, 1) := by decide +kernel
theorem dJ6_bitCount_0f7a4_18 : decode cJ6_bitCount_0f7a4 18 = .ok (.ldc_w 266, 3) := by decide +kernel
theorem dJ6_bitCount_0f7a4_21 : decode cJ6_bitCount_0f7a4 21 = .ok (.iand, 1) := by decide +kernel
theorem dJ6_bitCount_0f7a4_22 : decode cJ6_bitCount_0f7a4 22 = .ok (.iadd, 1) := by decide +kernel
theorem dJ6_bitCount_0f7a4_23 : decode cJ6_bitCount_0f7a4 23 = .ok (.istore_n 0, 1) := by decide +kernel
theorem dJ6_bitCount_0f7a4_24 : decode cJ6_bitCount_0f7a4 24 = .ok (.iload_n 0, 1) := by decide +kernel
theorem dJ6_bitCount_0f7a4_25 : decode cJ6_bitCount_0f7a4 25 = .ok (.iload_n 0, 1) := by decide +kernel
theorem dJ6_bitCount_0f7a4_26 : decode cJ6_bitCount_0f7a4 26 = .ok (.iconst 4, 1) := by decide +kernel
theorem dJ6_bitCount_0f7a4_27 : decode cJ6_bitCount_0f7a4 27 = .ok (.iushr, 1) := by decide +kernel
theorem dJ6_bitCount_0f7a4_28 : decode cJ6_bitCount_0f7a4 28 = .ok (.iadd, 1) := by decide +kernel
theorem dJ6_bitCount_0f7a4_29 : decode cJ6_bitCount_0f7a4 29 = .ok (.ldc_w 267, 3) := by decide +kernel
theorem dJ6_bitCount_0f7a4_32 : decode cJ6_bitCount_0f7a4 32 = .ok (.iand, 1) := by decide +kernel
theorem dJ6_bitCount_0f7a4_33 : decode cJ6_bitCount_0f7a4 33 = .ok (.istore_n 0, 1) := by decide +kernel
theorem dJ6_bitCount_0f7a4_34 : decode cJ6_bitCount_0f7a4 34 = .ok (.iload_n 0, 1) := by decide +kernel
theorem dJ6_bitCount_0f7a4_35 : decode cJ6_bitCount_0f7a4 35 = .ok (.iload_n 0, 1) := by decide +kernel
theorem dJ6_bitCount_0f7a4_36 : decode cJ6_bitCount_0f7a4 36 = .ok (.bipush 8, 2) := by decide +kernel
theorem dJ6_bitCount_0f7a4_38 : decode cJ6_bitCount_0f7a4 38 = .ok (.iushr, 1) := by decide +kernel
theorem dJ6_bitCount_0f7a4_39 : decode cJ6_bitCount_0f7a4 39 = .ok (.iadd, 1) := by decide +kernel
theorem dJ6_bitCount_0f7a4_40 : decode cJ6_bitCount_0f7a4 40 = .ok (.istore_n 0, 1) := by decide +kernel
theorem dJ6_bitCount_0f7a4_41 : decode cJ6_bitCount_0f7a4 41 = .ok (.iload_n 0, 1) := by decide +kernel
theorem dJ6_bitCount_0f7a4_42 : decode cJ6_bitCount_0f7a4 42 = .ok (.iload_n 0, 1) := by decide +kernel
theorem dJ6_bitCount_0f7a4_43 : decode cJ6_bitCount_0f7a4 43 = .ok (.bipush 16, 2) := by decide +kernel
theorem dJ6_bitCount_0f7a4_45 : decode cJ6_bitCount_0f7a4 45 = .ok (.iushr, 1) := by decide +kernel
theorem dJ6_bitCount_0f7a4_46 : decode cJ6_bitCount_0f7a4 46 = .ok (.iadd, 1) := by decide +kernel
theorem dJ6_bitCount_0f7a4_47 : decode cJ6_bitCount_0f7a4 47 = .ok (.istore_n 0, 1) := by decide +kernel
theorem dJ6_bitCount_0f7a4_48 : decode cJ6_bitCount_0f7a4 48 = .ok (.iload_n 0, 1) := by decide +kernel
theorem dJ6_bitCount_0f7a4_49 : decode cJ6_bitCount_0f7a4 49 = .ok (.bipush 63, 2) := by decide +kernel
theorem dJ6_bitCount_0f7a4_51 : decode cJ6_bitCount_0f7a4 51 = .ok (.iand, 1) := by decide +kernel
theorem dJ6_bitCount_0f7a4_52 : decode cJ6_bitCount_0f7a4 52 = .ok (.ireturn, 1) := by decide +kernel
