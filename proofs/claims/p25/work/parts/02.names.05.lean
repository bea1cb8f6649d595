abbrev cX2_playDrawn : ByteArray := prog_4_method_6_code
def yX2_playDrawn : MethodName := ⟨RX2, "playDrawn", "(LClapBank$Theatre;II)V"⟩
def wsX2_playDrawn_r1 : List Cond := [Cond.fieldLink RX2 12 "ClapBank$Evening" "house" "LClapBank$Theatre;", Cond.fieldLink RX2 37 "ClapBank$Evening" "drawnFrom" "[I", Cond.constant RX2 106 (1103515245), Cond.methodLink RX2 75 yX2_begin, Cond.instanceMethod yX2_begin, Cond.selects RX2 yX2_begin yX2_begin, Cond.initialized RX2, Cond.code yX2_begin cX2_begin 2 none, Cond.fieldLink RX2 18 "ClapBank$Evening" "left" "[I", Cond.methodLink RX2 43 arraycopyName, Cond.native arraycopyName, Cond.static arraycopyName, Cond.initialized "java/lang/System", Cond.fieldLink RX2 28 "ClapBank$Evening" "saved" "[I", Cond.fieldLink RX2 22 "ClapBank$Evening" "owes" "[I", Cond.fieldLink RX2 25 "ClapBank$Evening" "got" "[I", Cond.fieldLink RX2 31 "ClapBank$Evening" "starved" "[I", Cond.fieldLink RX2 34 "ClapBank$Evening" "storms" "[I", Cond.fieldLink RX2 60 "ClapBank$Evening" "chest" "I", Cond.fieldLink RX2 61 "ClapBank$Evening" "encores" "I", Cond.fieldLink RX2 64 "ClapBank$Evening" "nights" "I", Cond.fieldLink RX2 67 "ClapBank$Evening" "claps" "I", Cond.fieldLink RX2 69 "ClapBank$Evening" "hushed" "I", Cond.fieldLink RX2 72 "ClapBank$Evening" "echo" "I"]
def wsX2_playDrawn_r2 : List Cond := [Cond.methodLink RX2 50 yJ7_fill_53178, Cond.static yJ7_fill_53178, Cond.initialized RJ7, Cond.code yJ7_fill_53178 cJ7_fill_53178 4 none, Cond.methodLink RX2 99 yX2_lives, Cond.instanceMethod yX2_lives, Cond.selects RX2 yX2_lives yX2_lives, Cond.code yX2_lives cX2_lives 2 (some .boolean), Cond.methodLink RX2 117 yX2_hasActor, Cond.instanceMethod yX2_hasActor, Cond.selects RX2 yX2_hasActor yX2_hasActor, Cond.code yX2_hasActor cX2_hasActor 2 (some .boolean), Cond.methodLink RX2 110 yX2_give, Cond.instanceMethod yX2_give, Cond.selects RX2 yX2_give yX2_give, Cond.code yX2_give cX2_give 3 none, Cond.methodLink RX2 114 yX2_passNight, Cond.instanceMethod yX2_passNight, Cond.selects RX2 yX2_passNight yX2_passNight, Cond.code yX2_passNight cX2_passNight 2 none, Cond.methodLink RX2 166 yX2_dine, Cond.instanceMethod yX2_dine, Cond.selects RX2 yX2_dine yX2_dine, Cond.code yX2_dine cX2_dine 3 none]
def wsX2_playDrawn_r3 : List Cond := [Cond.methodLink RX2 146 yX2_price, Cond.instanceMethod yX2_price, Cond.selects RX2 yX2_price yX2_price, Cond.code yX2_price cX2_price 2 (some .int), Cond.methodLink RX2 143 yX2_priceBehind, Cond.instanceMethod yX2_priceBehind, Cond.selects RX2 yX2_priceBehind yX2_priceBehind, Cond.code yX2_priceBehind cX2_priceBehind 3 (some .int), Cond.methodLink RX2 170 yX2_grown, Cond.instanceMethod yX2_grown, Cond.selects RX2 yX2_grown yX2_grown, Cond.code yX2_grown cX2_grown 4 (some .int), Cond.constantLong RX2 158 (100), Cond.constantLong RX2 160 (1000000000), Cond.methodLink RX2 162 Lib.MathLoose.min_long.x, Cond.static Lib.MathLoose.min_long.x, Cond.initialized "java/lang/Math", Cond.code Lib.MathLoose.min_long.x Lib.MathLoose.min_long.code 4 (some .long)]
def wsX2_playDrawn : List Cond := .code yX2_playDrawn cX2_playDrawn 9 none :: ((wsX2_playDrawn_r1 ++ (wsX2_playDrawn_r2 ++ wsX2_playDrawn_r3)) ++ wsX20 ++ wsX70)
set_option maxRecDepth 20000 in
theorem ggX2_playDrawn_X2_begin : GoodIn wsX2_playDrawn wsX2_begin := goodIn_r _ [8, 1, 9, 10, 11, 12, 13, 14, 15, 16, 17, 18, 19, 20, 21, 22, 23, 24, 25, 26, 27, 28, 67, 68, 69, 70, 71, 72, 73, 74, 75, 76, 77, 78, 79, 80, 81, 82, 83, 84, 85, 86, 87, 88, 89, 90, 91, 92] (by decide +kernel) (by decide +kernel)
set_option maxRecDepth 20000 in
theorem gX2_playDrawn_X2_begin : GoodIn wsX2_playDrawn (wsV RX2 75 RX2 yX2_begin wsX2_begin) := goodIn_app (goodIn_of _ (by decide +kernel)) ggX2_playDrawn_X2_begin
set_option maxRecDepth 20000 in
theorem ggX2_playDrawn_X2_lives : GoodIn wsX2_playDrawn wsX2_lives := goodIn_r _ [32, 17, 33, 34, 35, 7, 36, 1, 67, 68, 69, 70, 71, 72, 73, 74, 75, 76, 77, 78, 79, 80, 81, 82, 83, 84, 85, 86, 87, 88, 89, 90, 91, 92] (by decide +kernel) (by decide +kernel)
set_option maxRecDepth 20000 in
theorem gX2_playDrawn_X2_lives : GoodIn wsX2_playDrawn (wsV RX2 99 RX2 yX2_lives wsX2_lives) := goodIn_app (goodIn_of _ (by decide +kernel)) ggX2_playDrawn_X2_lives
set_option maxRecDepth 20000 in
theorem ggX2_playDrawn_X2_give : GoodIn wsX2_playDrawn wsX2_give := goodIn_r _ [40, 14, 19, 67, 68, 69, 70, 71, 72, 73, 74, 75, 76, 77, 78, 79, 80] (by decide +kernel) (by decide +kernel)
set_option maxRecDepth 20000 in
theorem gX2_playDrawn_X2_give : GoodIn wsX2_playDrawn (wsV RX2 110 RX2 yX2_give wsX2_give) := goodIn_app (goodIn_of _ (by decide +kernel)) ggX2_playDrawn_X2_give
set_option maxRecDepth 20000 in
theorem ggX2_playDrawn_X2_passNight : GoodIn wsX2_playDrawn wsX2_passNight := goodIn_r _ [44, 1, 15, 9, 10, 11, 12, 13, 23, 21, 29, 30, 31, 7, 32, 17, 33, 34, 35, 36, 45, 46, 47, 48, 14, 19, 49, 50, 51, 52, 53, 54, 55, 56, 20, 37, 38, 39, 40, 57, 58, 59, 60, 61, 62, 63, 64, 65, 66, 67, 68, 69, 70, 71, 72, 73, 74, 75, 76, 77, 78, 79, 80, 81, 82, 83, 84, 85, 86, 87, 88, 89, 90, 91, 92] (by decide +kernel) (by decide +kernel)
set_option maxRecDepth 20000 in
theorem gX2_playDrawn_X2_passNight : GoodIn wsX2_playDrawn (wsV RX2 114 RX2 yX2_passNight wsX2_passNight) := goodIn_app (goodIn_of _ (by decide +kernel)) ggX2_playDrawn_X2_passNight
theorem dX2_playDrawn_0 : decode cX2_playDrawn 0 = .ok (.aload_n 0, 1) := by decide +kernel
theorem dX2_playDrawn_1 : decode cX2_playDrawn 1 = .ok (.aload_n 1, 1) := by decide +kernel
theorem dX2_playDrawn_2 : decode cX2_playDrawn 2 = .ok (.invokevirtual 75, 3) := by decide +kernel
theorem dX2_playDrawn_5 : decode cX2_playDrawn 5 = .ok (.iload_n 2, 1) := by decide +kernel
theorem dX2_playDrawn_6 : decode cX2_playDrawn 6 = .ok (.istore 4, 2) := by decide +kernel
theorem dX2_playDrawn_8 : decode cX2_playDrawn 8 = .ok (.iconst 0, 1) := by decide +kernel
theorem dX2_playDrawn_9 : decode cX2_playDrawn 9 = .ok (.istore 5, 2) := by decide +kernel
theorem dX2_playDrawn_11 : decode cX2_playDrawn 11 = .ok (.iload 5, 2) := by decide +kernel
theorem dX2_playDrawn_13 : decode cX2_playDrawn 13 = .ok (.iload_n 3, 1) := by decide +kernel
theorem dX2_playDrawn_14 : decode cX2_playDrawn 14 = .ok (.if_icmp .ge 146, 3) := by decide +kernel
theorem dX2_playDrawn_17 : decode cX2_playDrawn 17 = .ok (.iconst 0, 1) := by decide +kernel
theorem dX2_playDrawn_18 : decode cX2_playDrawn 18 = .ok (.istore 6, 2) := by decide +kernel
theorem dX2_playDrawn_20 : decode cX2_playDrawn 20 = .ok (.iconst 0, 1) := by decide +kernel
theorem dX2_playDrawn_21 : decode cX2_playDrawn 21 = .ok (.istore 7, 2) := by decide +kernel
theorem dX2_playDrawn_23 : decode cX2_playDrawn 23 = .ok (.iload 7, 2) := by decide +kernel
theorem dX2_playDrawn_25 : decode cX2_playDrawn 25 = .ok (.aload_n 0, 1) := by decide +kernel
theorem dX2_playDrawn_26 : decode cX2_playDrawn 26 = .ok (.getfield 12, 3) := by decide +kernel
theorem dX2_playDrawn_29 : decode cX2_playDrawn 29 = .ok (.getfield 96, 3) := by decide +kernel
theorem dX2_playDrawn_32 : decode cX2_playDrawn 32 = .ok (.if_icmp .ge 30, 3) := by decide +kernel
theorem dX2_playDrawn_35 : decode cX2_playDrawn 35 = .ok (.aload_n 0, 1) := by decide +kernel
theorem dX2_playDrawn_36 : decode cX2_playDrawn 36 = .ok (.iload 7, 2) := by decide +kernel
theorem dX2_playDrawn_38 : decode cX2_playDrawn 38 = .ok (.invokevirtual 99, 3) := by decide +kernel
theorem dX2_playDrawn_41 : decode cX2_playDrawn 41 = .ok (.ifCond .eq 15, 3) := by decide +kernel
theorem dX2_playDrawn_44 : decode cX2_playDrawn 44 = .ok (.aload_n 0, 1) := by decide +kernel
theorem dX2_playDrawn_45 : decode cX2_playDrawn 45 = .ok (.getfield 37, 3) := by decide +kernel
theorem dX2_playDrawn_48 : decode cX2_playDrawn 48 = .ok (.iload 6, 2) := by decide +kernel
theorem dX2_playDrawn_50 : decode cX2_playDrawn 50 = .ok (.iload 7, 2) := by decide +kernel
theorem dX2_playDrawn_52 : decode cX2_playDrawn 52 = .ok (.iastore, 1) := by decide +kernel
theorem dX2_playDrawn_53 : decode cX2_playDrawn 53 = .ok (.iinc 6 1, 3) := by decide +kernel
theorem dX2_playDrawn_56 : decode cX2_playDrawn 56 = .ok (.iinc 7 1, 3) := by decide +kernel
theorem dX2_playDrawn_59 : decode cX2_playDrawn 59 = .ok (.goto (-36), 3) := by decide +kernel
theorem dX2_playDrawn_62 : decode cX2_playDrawn 62 = .ok (.iconst 0, 1) := by decide +kernel
theorem dX2_playDrawn_63 : decode cX2_playDrawn 63 = .ok (.istore 7, 2) := by decide +kernel
theorem dX2_playDrawn_65 : decode cX2_playDrawn 65 = .ok (.iload 7, 2) := by decide +kernel
theorem dX2_playDrawn_67 : decode cX2_playDrawn 67 = .ok (.aload_n 0, 1) := by decide +kernel
theorem dX2_playDrawn_68 : decode cX2_playDrawn 68 = .ok (.getfield 12, 3) := by decide +kernel
theorem dX2_playDrawn_71 : decode cX2_playDrawn 71 = .ok (.getfield 103, 3) := by decide +kernel
theorem dX2_playDrawn_74 : decode cX2_playDrawn 74 = .ok (.if_icmp .ge 76, 3) := by decide +kernel
theorem dX2_playDrawn_77 : decode cX2_playDrawn 77 = .ok (.iload 6, 2) := by decide +kernel
theorem dX2_playDrawn_79 : decode cX2_playDrawn 79 = .ok (.ifCond .le 71, 3) := by decide +kernel
theorem dX2_playDrawn_82 : decode cX2_playDrawn 82 = .ok (.iconst 0, 1) := by decide +kernel
theorem dX2_playDrawn_83 : decode cX2_playDrawn 83 = .ok (.istore 8, 2) := by decide +kernel
theorem dX2_playDrawn_85 : decode cX2_playDrawn 85 = .ok (.iload 8, 2) := by decide +kernel
theorem dX2_playDrawn_87 : decode cX2_playDrawn 87 = .ok (.aload_n 0, 1) := by decide +kernel
theorem dX2_playDrawn_88 : decode cX2_playDrawn 88 = .ok (.getfield 12, 3) := by decide +kernel
theorem dX2_playDrawn_91 : decode cX2_playDrawn 91 = .ok (.getfield 40, 3) := by decide +kernel
theorem dX2_playDrawn_94 : decode cX2_playDrawn 94 = .ok (.iload 7, 2) := by decide +kernel
theorem dX2_playDrawn_96 : decode cX2_playDrawn 96 = .ok (.iaload, 1) := by decide +kernel
theorem dX2_playDrawn_97 : decode cX2_playDrawn 97 = .ok (.if_icmp .ge 47, 3) := by decide +kernel
theorem dX2_playDrawn_100 : decode cX2_playDrawn 100 = .ok (.iload 4, 2) := by decide +kernel
theorem dX2_playDrawn_102 : decode cX2_playDrawn 102 = .ok (.ldc 106, 2) := by decide +kernel
theorem dX2_playDrawn_104 : decode cX2_playDrawn 104 = .ok (.imul, 1) := by decide +kernel
theorem dX2_playDrawn_105 : decode cX2_playDrawn 105 = .ok (.sipush 12345, 3) := by decide +kernel
theorem dX2_playDrawn_108 : decode cX2_playDrawn 108 = .ok (.iadd, 1) := by decide +kernel
theorem dX2_playDrawn_109 : decode cX2_playDrawn 109 = .ok (.istore 4, 2) := by decide +kernel
theorem dX2_playDrawn_111 : decode cX2_playDrawn 111 = .ok (.aload_n 0, 1) := by decide +kernel
theorem dX2_playDrawn_112 : decode cX2_playDrawn 112 = .ok (.aload_n 0, 1) := by decide +kernel
theorem dX2_playDrawn_113 : decode cX2_playDrawn 113 = .ok (.getfield 37, 3) := by decide +kernel
theorem dX2_playDrawn_116 : decode cX2_playDrawn 116 = .ok (.iload 4, 2) := by decide +kernel
theorem dX2_playDrawn_118 : decode cX2_playDrawn 118 = .ok (.bipush 16, 2) := by decide +kernel
theorem dX2_playDrawn_120 : decode cX2_playDrawn 120 = .ok (.iushr, 1) := by decide +kernel
theorem dX2_playDrawn_121 : decode cX2_playDrawn 121 = .ok (.iload 6, 2) := by decide +kernel
theorem dX2_playDrawn_123 : decode cX2_playDrawn 123 = .ok (.irem, 1) := by decide +kernel
theorem dX2_playDrawn_124 : decode cX2_playDrawn 124 = .ok (.iaload, 1) := by decide +kernel
theorem dX2_playDrawn_125 : decode cX2_playDrawn 125 = .ok (.aload_n 0, 1) := by decide +kernel
theorem dX2_playDrawn_126 : decode cX2_playDrawn 126 = .ok (.getfield 12, 3) := by decide +kernel
theorem dX2_playDrawn_129 : decode cX2_playDrawn 129 = .ok (.getfield 107, 3) := by decide +kernel
theorem dX2_playDrawn_132 : decode cX2_playDrawn 132 = .ok (.iload 7, 2) := by decide +kernel
theorem dX2_playDrawn_134 : decode cX2_playDrawn 134 = .ok (.iaload, 1) := by decide +kernel
theorem dX2_playDrawn_135 : decode cX2_playDrawn 135 = .ok (.invokevirtual 110, 3) := by decide +kernel
theorem dX2_playDrawn_138 : decode cX2_playDrawn 138 = .ok (.iinc 8 1, 3) := by decide +kernel
theorem dX2_playDrawn_141 : decode cX2_playDrawn 141 = .ok (.goto (-56), 3) := by decide +kernel
theorem dX2_playDrawn_144 : decode cX2_playDrawn 144 = .ok (.iinc 7 1, 3) := by decide +kernel
theorem dX2_playDrawn_147 : decode cX2_playDrawn 147 = .ok (.goto (-82), 3) := by decide +kernel
theorem dX2_playDrawn_150 : decode cX2_playDrawn 150 = .ok (.aload_n 0, 1) := by decide +kernel
theorem dX2_playDrawn_151 : decode cX2_playDrawn 151 = .ok (.invokevirtual 114, 3) := by decide +kernel
theorem dX2_playDrawn_154 : decode cX2_playDrawn 154 = .ok (.iinc 5 1, 3) := by decide +kernel
theorem dX2_playDrawn_157 : decode cX2_playDrawn 157 = .ok (.goto (-146), 3) := by decide +kernel
theorem dX2_playDrawn_160 : decode cX2_playDrawn 160 = .ok (.return_, 1) := by decide +kernel
