abbrev wsX40 : List Cond := u_ws RX4 TX4 9
theorem nmX4 : ∀ a, a < 9 → ∀ b, b < 9 → a ≠ b → (TX4 a).2.1 ≠ (TX4 b).2.1 := by decide +kernel
theorem tyX4_ok : ∀ k, k < 9 → parseFieldDescriptor (TX4 k).2.2.1 = some (tyX4 k) := by decide +kernel
abbrev cX4_listen : ByteArray := prog_6_method_2_code
def yX4_listen : MethodName := ⟨RX4, "listen", "(LClapBank$Theatre;LClapBank$Dark;)V"⟩
abbrev cX4_tally : ByteArray := prog_6_method_3_code
def yX4_tally : MethodName := ⟨RX4, "tally", "(II)J"⟩
abbrev cX4_fill : ByteArray := prog_6_method_4_code
def yX4_fill : MethodName := ⟨RX4, "fill", "([IIIII)V"⟩
abbrev cX4_spread : ByteArray := prog_6_method_5_code
def yX4_spread : MethodName := ⟨RX4, "spread", "([IIII)V"⟩
abbrev cX4_addUp : ByteArray := prog_6_method_6_code
def yX4_addUp : MethodName := ⟨RX4, "addUp", "([I)V"⟩
abbrev cX4_roomBehind : ByteArray := prog_6_method_7_code
def yX4_roomBehind : MethodName := ⟨RX4, "roomBehind", "(I)I"⟩
abbrev cX4_compareMinute : ByteArray := prog_6_method_8_code
def yX4_compareMinute : MethodName := ⟨RX4, "compareMinute", "(I)V"⟩
def wsX4_listen : List Cond := .code yX4_listen cX4_listen 5 none :: ([.fieldLink RX4 12 "ClapBank$Hearing" "house" "LClapBank$Theatre;", .fieldLink RX4 21 "ClapBank$Hearing" "dark" "LClapBank$Dark;", .fieldLink RX4 38 "ClapBank$Hearing" "sets" "I", .fieldLink RX4 32 "ClapBank$Hearing" "halvesOf" "[I", .fieldLink RX4 35 "ClapBank$Hearing" "onceOf" "[I"] ++ wsX40 ++ wsX70)
def wsX4_spread : List Cond := .code yX4_spread cX4_spread 8 none :: ([.fieldLink RX4 38 "ClapBank$Hearing" "sets" "I", .fieldLink RX4 35 "ClapBank$Hearing" "onceOf" "[I", .fieldLink RX4 32 "ClapBank$Hearing" "halvesOf" "[I"] ++ wsX40)
def wsX4_fill : List Cond := .code yX4_fill cX4_fill 8 none :: ([.fieldLink RX4 21 "ClapBank$Hearing" "dark" "LClapBank$Dark;", .methodLink RX4 69 yJ7_fill_53178, .static yJ7_fill_53178, .initialized RJ7, .code yJ7_fill_53178 cJ7_fill_53178 4 none, .methodLink RX4 77 yX4_spread, .instanceMethod yX4_spread, .selects RX4 yX4_spread yX4_spread, .initialized RX4, .code yX4_spread cX4_spread 8 none, .fieldLink RX4 38 "ClapBank$Hearing" "sets" "I", .fieldLink RX4 35 "ClapBank$Hearing" "onceOf" "[I", .fieldLink RX4 32 "ClapBank$Hearing" "halvesOf" "[I"] ++ wsX40 ++ wsX10)
def wsX4_addUp : List Cond := .code yX4_addUp cX4_addUp 3 none :: ([])
def wsX4_roomBehind : List Cond := .code yX4_roomBehind cX4_roomBehind 5 (some .int) :: ([.fieldLink RX4 12 "ClapBank$Hearing" "house" "LClapBank$Theatre;", .methodLink RX4 51 Lib.Math.min.name, .static Lib.Math.min.name, .initialized "java/lang/Math", .code Lib.Math.min.name Lib.Math.min.code 2 (some .int)] ++ wsX40 ++ wsX70)
def wsX4_tally_r1 : List Cond := [Cond.fieldLink RX4 25 "ClapBank$Hearing" "early" "[I", Cond.fieldLink RX4 21 "ClapBank$Hearing" "dark" "LClapBank$Dark;", Cond.methodLink RX4 51 Lib.Math.min.name, Cond.static Lib.Math.min.name, Cond.initialized "java/lang/Math", Cond.code Lib.Math.min.name Lib.Math.min.code 2 (some .int), Cond.fieldLink RX4 29 "ClapBank$Hearing" "late" "[I", Cond.methodLink RX4 57 yX4_fill, Cond.instanceMethod yX4_fill, Cond.selects RX4 yX4_fill yX4_fill, Cond.initialized RX4, Cond.code yX4_fill cX4_fill 8 none, Cond.methodLink RX4 69 yJ7_fill_53178, Cond.static yJ7_fill_53178, Cond.initialized RJ7, Cond.code yJ7_fill_53178 cJ7_fill_53178 4 none, Cond.methodLink RX4 77 yX4_spread, Cond.instanceMethod yX4_spread, Cond.selects RX4 yX4_spread yX4_spread, Cond.code yX4_spread cX4_spread 8 none, Cond.fieldLink RX4 38 "ClapBank$Hearing" "sets" "I", Cond.fieldLink RX4 35 "ClapBank$Hearing" "onceOf" "[I", Cond.fieldLink RX4 32 "ClapBank$Hearing" "halvesOf" "[I", Cond.methodLink RX4 61 yX4_addUp]
def wsX4_tally_r2 : List Cond := [Cond.static yX4_addUp, Cond.code yX4_addUp cX4_addUp 3 none, Cond.methodLink RX4 65 yX4_roomBehind, Cond.instanceMethod yX4_roomBehind, Cond.selects RX4 yX4_roomBehind yX4_roomBehind, Cond.code yX4_roomBehind cX4_roomBehind 5 (some .int), Cond.fieldLink RX4 12 "ClapBank$Hearing" "house" "LClapBank$Theatre;"]
def wsX4_tally : List Cond := .code yX4_tally cX4_tally 7 (some .long) :: ((wsX4_tally_r1 ++ wsX4_tally_r2) ++ wsX40 ++ wsX10 ++ wsX70)
def wsX4_compareMinute_r1 : List Cond := [Cond.fieldLink RX4 84 "ClapBank$Hearing" "any" "I", Cond.fieldLink RX4 87 "ClapBank$Hearing" "all" "I", Cond.fieldLink RX4 38 "ClapBank$Hearing" "sets" "I", Cond.fieldLink RX4 32 "ClapBank$Hearing" "halvesOf" "[I", Cond.fieldLink RX4 21 "ClapBank$Hearing" "dark" "LClapBank$Dark;", Cond.methodLink RX4 90 yX4_tally, Cond.instanceMethod yX4_tally, Cond.selects RX4 yX4_tally yX4_tally, Cond.initialized RX4, Cond.code yX4_tally cX4_tally 7 (some .long), Cond.fieldLink RX4 25 "ClapBank$Hearing" "early" "[I", Cond.methodLink RX4 51 Lib.Math.min.name, Cond.static Lib.Math.min.name, Cond.initialized "java/lang/Math", Cond.code Lib.Math.min.name Lib.Math.min.code 2 (some .int), Cond.fieldLink RX4 29 "ClapBank$Hearing" "late" "[I", Cond.methodLink RX4 57 yX4_fill, Cond.instanceMethod yX4_fill, Cond.selects RX4 yX4_fill yX4_fill, Cond.code yX4_fill cX4_fill 8 none, Cond.methodLink RX4 69 yJ7_fill_53178, Cond.static yJ7_fill_53178, Cond.initialized RJ7, Cond.code yJ7_fill_53178 cJ7_fill_53178 4 none]
def wsX4_compareMinute_r2 : List Cond := [Cond.methodLink RX4 77 yX4_spread, Cond.instanceMethod yX4_spread, Cond.selects RX4 yX4_spread yX4_spread, Cond.code yX4_spread cX4_spread 8 none, Cond.fieldLink RX4 35 "ClapBank$Hearing" "onceOf" "[I", Cond.methodLink RX4 61 yX4_addUp, Cond.static yX4_addUp, Cond.code yX4_addUp cX4_addUp 3 none, Cond.methodLink RX4 65 yX4_roomBehind, Cond.instanceMethod yX4_roomBehind, Cond.selects RX4 yX4_roomBehind yX4_roomBehind, Cond.code yX4_roomBehind cX4_roomBehind 5 (some .int), Cond.fieldLink RX4 12 "ClapBank$Hearing" "house" "LClapBank$Theatre;"]
def wsX4_compareMinute : List Cond := .code yX4_compareMinute cX4_compareMinute 3 none :: ((wsX4_compareMinute_r1 ++ wsX4_compareMinute_r2) ++ wsX40 ++ wsX10 ++ wsX70)
theorem dX4_listen_0 : decode cX4_listen 0 = .ok (.aload_n 0, 1) := by decide +kernel
theorem dX4_listen_1 : decode cX4_listen 1 = .ok (.aload_n 1, 1) := by decide +kernel
theorem dX4_listen_2 : decode cX4_listen 2 = .ok (.putfield 12, 3) := by decide +kernel
theorem dX4_listen_5 : decode cX4_listen 5 = .ok (.aload_n 0, 1) := by decide +kernel
theorem dX4_listen_6 : decode cX4_listen 6 = .ok (.aload_n 2, 1) := by decide +kernel
theorem dX4_listen_7 : decode cX4_listen 7 = .ok (.putfield 21, 3) := by decide +kernel
theorem dX4_listen_10 : decode cX4_listen 10 = .ok (.aload_n 0, 1) := by decide +kernel
theorem dX4_listen_11 : decode cX4_listen 11 = .ok (.iconst 1, 1) := by decide +kernel
theorem dX4_listen_12 : decode cX4_listen 12 = .ok (.putfield 38, 3) := by decide +kernel
theorem dX4_listen_15 : decode cX4_listen 15 = .ok (.aload_n 0, 1) := by decide +kernel
theorem dX4_listen_16 : decode cX4_listen 16 = .ok (.getfield 32, 3) := by decide +kernel
theorem dX4_listen_19 : decode cX4_listen 19 = .ok (.iconst 0, 1) := by decide +kernel
theorem dX4_listen_20 : decode cX4_listen 20 = .ok (.iconst 0, 1) := by decide +kernel
theorem dX4_listen_21 : decode cX4_listen 21 = .ok (.iastore, 1) := by decide +kernel
theorem dX4_listen_22 : decode cX4_listen 22 = .ok (.aload_n 0, 1) := by decide +kernel
theorem dX4_listen_23 : decode cX4_listen 23 = .ok (.getfield 35, 3) := by decide +kernel
theorem dX4_listen_26 : decode cX4_listen 26 = .ok (.iconst 0, 1) := by decide +kernel
theorem dX4_listen_27 : decode cX4_listen 27 = .ok (.iconst 0, 1) := by decide +kernel
theorem dX4_listen_28 : decode cX4_listen 28 = .ok (.iastore, 1) := by decide +kernel
theorem dX4_listen_29 : decode cX4_listen 29 = .ok (.iconst 0, 1) := by decide +kernel
theorem dX4_listen_30 : decode cX4_listen 30 = .ok (.istore_n 3, 1) := by decide +kernel
theorem dX4_listen_31 : decode cX4_listen 31 = .ok (.iload_n 3, 1) := by decide +kernel
theorem dX4_listen_32 : decode cX4_listen 32 = .ok (.aload_n 1, 1) := by decide +kernel
theorem dX4_listen_33 : decode cX4_listen 33 = .ok (.getfield 42, 3) := by decide +kernel
theorem dX4_listen_36 : decode cX4_listen 36 = .ok (.if_icmp .ge 88, 3) := by decide +kernel
theorem dX4_listen_39 : decode cX4_listen 39 = .ok (.iconst 0, 1) := by decide +kernel
theorem dX4_listen_40 : decode cX4_listen 40 = .ok (.istore 4, 2) := by decide +kernel
theorem dX4_listen_42 : decode cX4_listen 42 = .ok (.iload 4, 2) := by decide +kernel
theorem dX4_listen_44 : decode cX4_listen 44 = .ok (.aload_n 0, 1) := by decide +kernel
theorem dX4_listen_45 : decode cX4_listen 45 = .ok (.getfield 38, 3) := by decide +kernel
theorem dX4_listen_48 : decode cX4_listen 48 = .ok (.if_icmp .ge 60, 3) := by decide +kernel
theorem dX4_listen_51 : decode cX4_listen 51 = .ok (.aload_n 0, 1) := by decide +kernel
theorem dX4_listen_52 : decode cX4_listen 52 = .ok (.getfield 32, 3) := by decide +kernel
theorem dX4_listen_55 : decode cX4_listen 55 = .ok (.iload 4, 2) := by decide +kernel
theorem dX4_listen_57 : decode cX4_listen 57 = .ok (.aload_n 0, 1) := by decide +kernel
theorem dX4_listen_58 : decode cX4_listen 58 = .ok (.getfield 38, 3) := by decide +kernel
theorem dX4_listen_61 : decode cX4_listen 61 = .ok (.iadd, 1) := by decide +kernel
theorem dX4_listen_62 : decode cX4_listen 62 = .ok (.aload_n 0, 1) := by decide +kernel
theorem dX4_listen_63 : decode cX4_listen 63 = .ok (.getfield 32, 3) := by decide +kernel
theorem dX4_listen_66 : decode cX4_listen 66 = .ok (.iload 4, 2) := by decide +kernel
theorem dX4_listen_68 : decode cX4_listen 68 = .ok (.iaload, 1) := by decide +kernel
theorem dX4_listen_69 : decode cX4_listen 69 = .ok (.aload_n 1, 1) := by decide +kernel
theorem dX4_listen_70 : decode cX4_listen 70 = .ok (.getfield 45, 3) := by decide +kernel
theorem dX4_listen_73 : decode cX4_listen 73 = .ok (.iload_n 3, 1) := by decide +kernel
theorem dX4_listen_74 : decode cX4_listen 74 = .ok (.iaload, 1) := by decide +kernel
theorem dX4_listen_75 : decode cX4_listen 75 = .ok (.iadd, 1) := by decide +kernel
theorem dX4_listen_76 : decode cX4_listen 76 = .ok (.iastore, 1) := by decide +kernel
theorem dX4_listen_77 : decode cX4_listen 77 = .ok (.aload_n 0, 1) := by decide +kernel
theorem dX4_listen_78 : decode cX4_listen 78 = .ok (.getfield 35, 3) := by decide +kernel
theorem dX4_listen_81 : decode cX4_listen 81 = .ok (.iload 4, 2) := by decide +kernel
theorem dX4_listen_83 : decode cX4_listen 83 = .ok (.aload_n 0, 1) := by decide +kernel
theorem dX4_listen_84 : decode cX4_listen 84 = .ok (.getfield 38, 3) := by decide +kernel
theorem dX4_listen_87 : decode cX4_listen 87 = .ok (.iadd, 1) := by decide +kernel
theorem dX4_listen_88 : decode cX4_listen 88 = .ok (.aload_n 0, 1) := by decide +kernel
theorem dX4_listen_89 : decode cX4_listen 89 = .ok (.getfield 35, 3) := by decide +kernel
theorem dX4_listen_92 : decode cX4_listen 92 = .ok (.iload 4, 2) := by decide +kernel
theorem dX4_listen_94 : decode cX4_listen 94 = .ok (.iaload, 1) := by decide +kernel
theorem dX4_listen_95 : decode cX4_listen 95 = .ok (.iconst 1, 1) := by decide +kernel
theorem dX4_listen_96 : decode cX4_listen 96 = .ok (.iconst 2, 1) := by decide +kernel
theorem dX4_listen_97 : decode cX4_listen 97 = .ok (.iload_n 3, 1) := by decide +kernel
theorem dX4_listen_98 : decode cX4_listen 98 = .ok (.imul, 1) := by decide +kernel
theorem dX4_listen_99 : decode cX4_listen 99 = .ok (.ishl, 1) := by decide +kernel
theorem dX4_listen_100 : decode cX4_listen 100 = .ok (.iadd, 1) := by decide +kernel
theorem dX4_listen_101 : decode cX4_listen 101 = .ok (.iastore, 1) := by decide +kernel
theorem dX4_listen_102 : decode cX4_listen 102 = .ok (.iinc 4 1, 3) := by decide +kernel
theorem dX4_listen_105 : decode cX4_listen 105 = .ok (.goto (-63), 3) := by decide +kernel
theorem dX4_listen_108 : decode cX4_listen 108 = .ok (.aload_n 0, 1) := by decide +kernel
theorem dX4_listen_109 : decode cX4_listen 109 = .ok (.dup, 1) := by decide +kernel
theorem dX4_listen_110 : decode cX4_listen 110 = .ok (.getfield 38, 3) := by decide +kernel
theorem dX4_listen_113 : decode cX4_listen 113 = .ok (.iconst 2, 1) := by decide +kernel
theorem dX4_listen_114 : decode cX4_listen 114 = .ok (.imul, 1) := by decide +kernel
theorem dX4_listen_115 : decode cX4_listen 115 = .ok (.putfield 38, 3) := by decide +kernel
theorem dX4_listen_118 : decode cX4_listen 118 = .ok (.iinc 3 1, 3) := by decide +kernel
theorem dX4_listen_121 : decode cX4_listen 121 = .ok (.goto (-90), 3) := by decide +kernel
theorem dX4_listen_124 : decode cX4_listen 124 = .ok (.return_, 1) := by decide +kernel
set_option maxRecDepth 20000 in
theorem ggX4_tally_X4_fill : GoodIn wsX4_tally wsX4_fill := goodIn_r _ [12, 2, 13, 14, 15, 16, 17, 18, 19, 11, 20, 21, 22, 23, 32, 33, 34, 35, 36, 37, 38, 39, 40, 41, 42] (by decide +kernel) (by decide +kernel)
set_option maxRecDepth 20000 in
theorem gX4_tally_X4_fill : GoodIn wsX4_tally (wsV RX4 57 RX4 yX4_fill wsX4_fill) := goodIn_app (goodIn_of _ (by decide +kernel)) ggX4_tally_X4_fill
set_option maxRecDepth 20000 in
theorem ggX4_tally_X4_addUp : GoodIn wsX4_tally wsX4_addUp := goodIn_r _ [26] (by decide +kernel) (by decide +kernel)
set_option maxRecDepth 20000 in
theorem gX4_tally_X4_addUp : GoodIn wsX4_tally (va_wsS RX4 61 yX4_addUp wsX4_addUp) := goodIn_app (goodIn_of _ (by decide +kernel)) ggX4_tally_X4_addUp
set_option maxRecDepth 20000 in
theorem ggX4_tally_X4_roomBehind : GoodIn wsX4_tally wsX4_roomBehind := goodIn_r _ [30, 31, 3, 4, 5, 6, 32, 33, 34, 35, 36, 37, 38, 39, 40, 43, 44, 45, 46, 47, 48, 49, 50, 51, 52, 53, 54] (by decide +kernel) (by decide +kernel)
set_option maxRecDepth 20000 in
theorem gX4_tally_X4_roomBehind : GoodIn wsX4_tally (wsV RX4 65 RX4 yX4_roomBehind wsX4_roomBehind) := goodIn_app (goodIn_of _ (by decide +kernel)) ggX4_tally_X4_roomBehind
theorem dX4_tally_0 : decode cX4_tally 0 = .ok (.aload_n 0, 1) := by decide +kernel
theorem dX4_tally_1 : decode cX4_tally 1 = .ok (.aload_n 0, 1) := by decide +kernel
theorem dX4_tally_2 : decode cX4_tally 2 = .ok (.getfield 25, 3) := by decide +kernel
theorem dX4_tally_5 : decode cX4_tally 5 = .ok (.iconst 0, 1) := by decide +kernel
theorem dX4_tally_6 : decode cX4_tally 6 = .ok (.iconst 3, 1) := by decide +kernel
theorem dX4_tally_7 : decode cX4_tally 7 = .ok (.aload_n 0, 1) := by decide +kernel
theorem dX4_tally_8 : decode cX4_tally 8 = .ok (.getfield 21, 3) := by decide +kernel
theorem dX4_tally_11 : decode cX4_tally 11 = .ok (.getfield 48, 3) := by decide +kernel
theorem dX4_tally_14 : decode cX4_tally 14 = .ok (.invokestatic 51, 3) := by decide +kernel
theorem dX4_tally_17 : decode cX4_tally 17 = .ok (.iload_n 1, 1) := by decide +kernel
theorem dX4_tally_18 : decode cX4_tally 18 = .ok (.iload_n 2, 1) := by decide +kernel
theorem dX4_tally_19 : decode cX4_tally 19 = .ok (.invokevirtual 57, 3) := by decide +kernel
theorem dX4_tally_22 : decode cX4_tally 22 = .ok (.aload_n 0, 1) := by decide +kernel
theorem dX4_tally_23 : decode cX4_tally 23 = .ok (.aload_n 0, 1) := by decide +kernel
theorem dX4_tally_24 : decode cX4_tally 24 = .ok (.getfield 29, 3) := by decide +kernel
theorem dX4_tally_27 : decode cX4_tally 27 = .ok (.iconst 3, 1) := by decide +kernel
theorem dX4_tally_28 : decode cX4_tally 28 = .ok (.aload_n 0, 1) := by decide +kernel
theorem dX4_tally_29 : decode cX4_tally 29 = .ok (.getfield 21, 3) := by decide +kernel
theorem dX4_tally_32 : decode cX4_tally 32 = .ok (.getfield 48, 3) := by decide +kernel
theorem dX4_tally_35 : decode cX4_tally 35 = .ok (.iload_n 1, 1) := by decide +kernel
theorem dX4_tally_36 : decode cX4_tally 36 = .ok (.iload_n 2, 1) := by decide +kernel
theorem dX4_tally_37 : decode cX4_tally 37 = .ok (.invokevirtual 57, 3) := by decide +kernel
theorem dX4_tally_40 : decode cX4_tally 40 = .ok (.aload_n 0, 1) := by decide +kernel
theorem dX4_tally_41 : decode cX4_tally 41 = .ok (.getfield 29, 3) := by decide +kernel
theorem dX4_tally_44 : decode cX4_tally 44 = .ok (.invokestatic 61, 3) := by decide +kernel
theorem dX4_tally_47 : decode cX4_tally 47 = .ok (.lconst 0, 1) := by decide +kernel
theorem dX4_tally_48 : decode cX4_tally 48 = .ok (.lstore_n 3, 1) := by decide +kernel
theorem dX4_tally_49 : decode cX4_tally 49 = .ok (.iconst 0, 1) := by decide +kernel
theorem dX4_tally_50 : decode cX4_tally 50 = .ok (.istore 5, 2) := by decide +kernel
theorem dX4_tally_52 : decode cX4_tally 52 = .ok (.iload 5, 2) := by decide +kernel
theorem dX4_tally_54 : decode cX4_tally 54 = .ok (.sipush 1024, 3) := by decide +kernel
theorem dX4_tally_57 : decode cX4_tally 57 = .ok (.if_icmp .ge 57, 3) := by decide +kernel
theorem dX4_tally_60 : decode cX4_tally 60 = .ok (.aload_n 0, 1) := by decide +kernel
theorem dX4_tally_61 : decode cX4_tally 61 = .ok (.getfield 25, 3) := by decide +kernel
theorem dX4_tally_64 : decode cX4_tally 64 = .ok (.iload 5, 2) := by decide +kernel
theorem dX4_tally_66 : decode cX4_tally 66 = .ok (.iaload, 1) := by decide +kernel
theorem dX4_tally_67 : decode cX4_tally 67 = .ok (.ifCond .ne 7, 3) := by decide +kernel
theorem dX4_tally_70 : decode cX4_tally 70 = .ok (.iconst (-1), 1) := by decide +kernel
theorem dX4_tally_71 : decode cX4_tally 71 = .ok (.goto 9, 3) := by decide +kernel
theorem dX4_tally_74 : decode cX4_tally 74 = .ok (.aload_n 0, 1) := by decide +kernel
theorem dX4_tally_75 : decode cX4_tally 75 = .ok (.iload 5, 2) := by decide +kernel
theorem dX4_tally_77 : decode cX4_tally 77 = .ok (.invokevirtual 65, 3) := by decide +kernel
theorem dX4_tally_80 : decode cX4_tally 80 = .ok (.istore 6, 2) := by decide +kernel
theorem dX4_tally_82 : decode cX4_tally 82 = .ok (.iload 6, 2) := by decide +kernel
theorem dX4_tally_84 : decode cX4_tally 84 = .ok (.iconst (-1), 1) := by decide +kernel
theorem dX4_tally_85 : decode cX4_tally 85 = .ok (.if_icmp .eq 23, 3) := by decide +kernel
theorem dX4_tally_88 : decode cX4_tally 88 = .ok (.lload_n 3, 1) := by decide +kernel
theorem dX4_tally_89 : decode cX4_tally 89 = .ok (.aload_n 0, 1) := by decide +kernel
theorem dX4_tally_90 : decode cX4_tally 90 = .ok (.getfield 25, 3) := by decide +kernel
theorem dX4_tally_93 : decode cX4_tally 93 = .ok (.iload 5, 2) := by decide +kernel
theorem dX4_tally_95 : decode cX4_tally 95 = .ok (.iaload, 1) := by decide +kernel
theorem dX4_tally_96 : decode cX4_tally 96 = .ok (.i2l, 1) := by decide +kernel
theorem dX4_tally_97 : decode cX4_tally 97 = .ok (.aload_n 0, 1) := by decide +kernel
theorem dX4_tally_98 : decode cX4_tally 98 = .ok (.getfield 29, 3) := by decide +kernel
theorem dX4_tally_101 : decode cX4_tally 101 = .ok (.iload 6, 2) := by decide +kernel
theorem dX4_tally_103 : decode cX4_tally 103 = .ok (.iaload, 1) := by decide +kernel
theorem dX4_tally_104 : decode cX4_tally 104 = .ok (.i2l, 1) := by decide +kernel
theorem dX4_tally_105 : decode cX4_tally 105 = .ok (.lmul, 1) := by decide +kernel
theorem dX4_tally_106 : decode cX4_tally 106 = .ok (.ladd, 1) := by decide +kernel
theorem dX4_tally_107 : decode cX4_tally 107 = .ok (.lstore_n 3, 1) := by decide +kernel
theorem dX4_tally_108 : decode cX4_tally 108 = .ok (.iinc 5 1, 3) := by decide +kernel
theorem dX4_tally_111 : decode cX4_tally 111 = .ok (.goto (-59), 3) := by decide +kernel
theorem dX4_tally_114 : decode cX4_tally 114 = .ok (.lload_n 3, 1) := by decide +kernel
theorem dX4_tally_115 : decode cX4_tally 115 = .ok (.lreturn, 1) := by decide +kernel
set_option maxRecDepth 20000 in
theorem ggX4_fill_J7_fill_53178 : GoodIn wsX4_fill wsJ7_fill_53178 := goodIn_r _ [5] (by decide +kernel) (by decide +kernel)
set_option maxRecDepth 20000 in
theorem gX4_fill_J7_fill_53178 : GoodIn wsX4_fill (va_wsS RX4 69 yJ7_fill_53178 wsJ7_fill_53178) := goodIn_app (goodIn_of _ (by decide +kernel)) ggX4_fill_J7_fill_53178
set_option maxRecDepth 20000 in
theorem ggX4_fill_X4_spread : GoodIn wsX4_fill wsX4_spread := goodIn_r _ [10, 11, 12, 13, 14, 15, 16, 17, 18, 19, 20, 21, 22] (by decide +kernel) (by decide +kernel)
set_option maxRecDepth 20000 in
theorem gX4_fill_X4_spread : GoodIn wsX4_fill (wsV RX4 77 RX4 yX4_spread wsX4_spread) := goodIn_app (goodIn_of _ (by decide +kernel)) ggX4_fill_X4_spread
theorem dX4_fill_0 : decode cX4_fill 0 = .ok (.aload_n 1, 1) := by decide +kernel
theorem dX4_fill_1 : decode cX4_fill 1 = .ok (.iconst 0, 1) := by decide +kernel
theorem dX4_fill_2 : decode cX4_fill 2 = .ok (.invokestatic 69, 3) := by decide +kernel
theorem dX4_fill_5 : decode cX4_fill 5 = .ok (.aload_n 1, 1) := by decide +kernel
theorem dX4_fill_6 : decode cX4_fill 6 = .ok (.iconst 0, 1) := by decide +kernel
theorem dX4_fill_7 : decode cX4_fill 7 = .ok (.iconst 1, 1) := by decide +kernel
theorem dX4_fill_8 : decode cX4_fill 8 = .ok (.iastore, 1) := by decide +kernel
theorem dX4_fill_9 : decode cX4_fill 9 = .ok (.iload_n 2, 1) := by decide +kernel
theorem dX4_fill_10 : decode cX4_fill 10 = .ok (.istore 6, 2) := by decide +kernel
theorem dX4_fill_12 : decode cX4_fill 12 = .ok (.iload 6, 2) := by decide +kernel
theorem dX4_fill_14 : decode cX4_fill 14 = .ok (.iload_n 3, 1) := by decide +kernel
theorem dX4_fill_15 : decode cX4_fill 15 = .ok (.if_icmp .ge 62, 3) := by decide +kernel
theorem dX4_fill_18 : decode cX4_fill 18 = .ok (.sipush 1023, 3) := by decide +kernel
theorem dX4_fill_21 : decode cX4_fill 21 = .ok (.istore 7, 2) := by decide +kernel
theorem dX4_fill_23 : decode cX4_fill 23 = .ok (.iload 7, 2) := by decide +kernel
theorem dX4_fill_25 : decode cX4_fill 25 = .ok (.ifCond .lt 46, 3) := by decide +kernel
theorem dX4_fill_28 : decode cX4_fill 28 = .ok (.aload_n 1, 1) := by decide +kernel
theorem dX4_fill_29 : decode cX4_fill 29 = .ok (.iload 7, 2) := by decide +kernel
theorem dX4_fill_31 : decode cX4_fill 31 = .ok (.iaload, 1) := by decide +kernel
theorem dX4_fill_32 : decode cX4_fill 32 = .ok (.ifCond .eq 33, 3) := by decide +kernel
theorem dX4_fill_35 : decode cX4_fill 35 = .ok (.aload_n 0, 1) := by decide +kernel
theorem dX4_fill_36 : decode cX4_fill 36 = .ok (.aload_n 1, 1) := by decide +kernel
theorem dX4_fill_37 : decode cX4_fill 37 = .ok (.iload 7, 2) := by decide +kernel
theorem dX4_fill_39 : decode cX4_fill 39 = .ok (.aload_n 0, 1) := by decide +kernel
theorem dX4_fill_40 : decode cX4_fill 40 = .ok (.getfield 21, 3) := by decide +kernel
theorem dX4_fill_43 : decode cX4_fill 43 = .ok (.getfield 74, 3) := by decide +kernel
theorem dX4_fill_46 : decode cX4_fill 46 = .ok (.iload 6, 2) := by decide +kernel
theorem dX4_fill_48 : decode cX4_fill 48 = .ok (.iaload, 1) := by decide +kernel
theorem dX4_fill_49 : decode cX4_fill 49 = .ok (.iload 6, 2) := by decide +kernel
theorem dX4_fill_51 : decode cX4_fill 51 = .ok (.iload 4, 2) := by decide +kernel
theorem dX4_fill_53 : decode cX4_fill 53 = .ok (.if_icmp .ne 8, 3) := by decide +kernel
theorem dX4_fill_56 : decode cX4_fill 56 = .ok (.iload 5, 2) := by decide +kernel
theorem dX4_fill_58 : decode cX4_fill 58 = .ok (.goto 4, 3) := by decide +kernel
theorem dX4_fill_61 : decode cX4_fill 61 = .ok (.iconst (-1), 1) := by decide +kernel
theorem dX4_fill_62 : decode cX4_fill 62 = .ok (.invokevirtual 77, 3) := by decide +kernel
theorem dX4_fill_65 : decode cX4_fill 65 = .ok (.iinc 7 (-1), 3) := by decide +kernel
theorem dX4_fill_68 : decode cX4_fill 68 = .ok (.goto (-45), 3) := by decide +kernel
theorem dX4_fill_71 : decode cX4_fill 71 = .ok (.iinc 6 1, 3) := by decide +kernel
theorem dX4_fill_74 : decode cX4_fill 74 = .ok (.goto (-62), 3) := by decide +kernel
theorem dX4_fill_77 : decode cX4_fill 77 = .ok (.return_, 1) := by decide +kernel
theorem dX4_spread_0 : decode cX4_spread 0 = .ok (.aload_n 1, 1) := by decide +kernel
theorem dX4_spread_1 : decode cX4_spread 1 = .ok (.iload_n 2, 1) := by decide +kernel
theorem dX4_spread_2 : decode cX4_spread 2 = .ok (.iaload, 1) := by decide +kernel
theorem dX4_spread_3 : decode cX4_spread 3 = .ok (.istore 5, 2) := by decide +kernel
theorem dX4_spread_5 : decode cX4_spread 5 = .ok (.aload_n 1, 1) := by decide +kernel
theorem dX4_spread_6 : decode cX4_spread 6 = .ok (.iload_n 2, 1) := by decide +kernel
theorem dX4_spread_7 : decode cX4_spread 7 = .ok (.iconst 0, 1) := by decide +kernel
theorem dX4_spread_8 : decode cX4_spread 8 = .ok (.iastore, 1) := by decide +kernel
theorem dX4_spread_9 : decode cX4_spread 9 = .ok (.iconst 0, 1) := by decide +kernel
theorem dX4_spread_10 : decode cX4_spread 10 = .ok (.istore 6, 2) := by decide +kernel
theorem dX4_spread_12 : decode cX4_spread 12 = .ok (.iload 6, 2) := by decide +kernel
theorem dX4_spread_14 : decode cX4_spread 14 = .ok (.aload_n 0, 1) := by decide +kernel
theorem dX4_spread_15 : decode cX4_spread 15 = .ok (.getfield 38, 3) := by decide +kernel
theorem dX4_spread_18 : decode cX4_spread 18 = .ok (.if_icmp .ge 61, 3) := by decide +kernel
theorem dX4_spread_21 : decode cX4_spread 21 = .ok (.iload_n 2, 1) := by decide +kernel
theorem dX4_spread_22 : decode cX4_spread 22 = .ok (.aload_n 0, 1) := by decide +kernel
theorem dX4_spread_23 : decode cX4_spread 23 = .ok (.getfield 35, 3) := by decide +kernel
theorem dX4_spread_26 : decode cX4_spread 26 = .ok (.iload 6, 2) := by decide +kernel
theorem dX4_spread_28 : decode cX4_spread 28 = .ok (.iaload, 1) := by decide +kernel
theorem dX4_spread_29 : decode cX4_spread 29 = .ok (.iadd, 1) := by decide +kernel
theorem dX4_spread_30 : decode cX4_spread 30 = .ok (.istore 7, 2) := by decide +kernel
theorem dX4_spread_32 : decode cX4_spread 32 = .ok (.aload_n 0, 1) := by decide +kernel
theorem dX4_spread_33 : decode cX4_spread 33 = .ok (.getfield 32, 3) := by decide +kernel
theorem dX4_spread_36 : decode cX4_spread 36 = .ok (.iload 6, 2) := by decide +kernel
theorem dX4_spread_38 : decode cX4_spread 38 = .ok (.iaload, 1) := by decide +kernel
theorem dX4_spread_39 : decode cX4_spread 39 = .ok (.iload_n 3, 1) := by decide +kernel
theorem dX4_spread_40 : decode cX4_spread 40 = .ok (.if_icmp .ne 33, 3) := by decide +kernel
theorem dX4_spread_43 : decode cX4_spread 43 = .ok (.iload 4, 2) := by decide +kernel
theorem dX4_spread_45 : decode cX4_spread 45 = .ok (.iconst (-1), 1) := by decide +kernel
theorem dX4_spread_46 : decode cX4_spread 46 = .ok (.if_icmp .eq 10, 3) := by decide +kernel
theorem dX4_spread_49 : decode cX4_spread 49 = .ok (.iload 4, 2) := by decide +kernel
theorem dX4_spread_51 : decode cX4_spread 51 = .ok (.iload 6, 2) := by decide +kernel
theorem dX4_spread_53 : decode cX4_spread 53 = .ok (.if_icmp .ne 20, 3) := by decide +kernel
theorem dX4_spread_56 : decode cX4_spread 56 = .ok (.iload 7, 2) := by decide +kernel
theorem dX4_spread_58 : decode cX4_spread 58 = .ok (.sipush 1024, 3) := by decide +kernel
theorem dX4_spread_61 : decode cX4_spread 61 = .ok (.if_icmp .ge 12, 3) := by decide +kernel
theorem dX4_spread_64 : decode cX4_spread 64 = .ok (.aload_n 1, 1) := by decide +kernel
theorem dX4_spread_65 : decode cX4_spread 65 = .ok (.iload 7, 2) := by decide +kernel
theorem dX4_spread_67 : decode cX4_spread 67 = .ok (.dup2, 1) := by decide +kernel
theorem dX4_spread_68 : decode cX4_spread 68 = .ok (.iaload, 1) := by decide +kernel
theorem dX4_spread_69 : decode cX4_spread 69 = .ok (.iload 5, 2) := by decide +kernel
theorem dX4_spread_71 : decode cX4_spread 71 = .ok (.iadd, 1) := by decide +kernel
theorem dX4_spread_72 : decode cX4_spread 72 = .ok (.iastore, 1) := by decide +kernel
theorem dX4_spread_73 : decode cX4_spread 73 = .ok (.iinc 6 1, 3) := by decide +kernel
theorem dX4_spread_76 : decode cX4_spread 76 = .ok (.goto (-64), 3) := by decide +kernel
theorem dX4_spread_79 : decode cX4_spread 79 = .ok (.return_, 1) := by decide +kernel
theorem dX4_addUp_0 : decode cX4_addUp 0 = .ok (.iconst 0, 1) := by decide +kernel
theorem dX4_addUp_1 : decode cX4_addUp 1 = .ok (.istore_n 1, 1) := by decide +kernel
theorem dX4_addUp_2 : decode cX4_addUp 2 = .ok (.iload_n 1, 1) := by decide +kernel
theorem dX4_addUp_3 : decode cX4_addUp 3 = .ok (.iconst 5, 1) := by decide +kernel
theorem dX4_addUp_4 : decode cX4_addUp 4 = .ok (.if_icmp .ge 49, 3) := by decide +kernel
theorem dX4_addUp_7 : decode cX4_addUp 7 = .ok (.iconst 0, 1) := by decide +kernel
theorem dX4_addUp_8 : decode cX4_addUp 8 = .ok (.istore_n 2, 1) := by decide +kernel
theorem dX4_addUp_9 : decode cX4_addUp 9 = .ok (.iload_n 2, 1) := by decide +kernel
theorem dX4_addUp_10 : decode cX4_addUp 10 = .ok (.sipush 1024, 3) := by decide +kernel
theorem dX4_addUp_13 : decode cX4_addUp 13 = .ok (.if_icmp .ge 34, 3) := by decide +kernel
theorem dX4_addUp_16 : decode cX4_addUp 16 = .ok (.iload_n 2, 1) := by decide +kernel
theorem dX4_addUp_17 : decode cX4_addUp 17 = .ok (.iconst 2, 1) := by decide +kernel
theorem dX4_addUp_18 : decode cX4_addUp 18 = .ok (.iload_n 1, 1) := by decide +kernel
theorem dX4_addUp_19 : decode cX4_addUp 19 = .ok (.imul, 1) := by decide +kernel
theorem dX4_addUp_20 : decode cX4_addUp 20 = .ok (.ishr, 1) := by decide +kernel
theorem dX4_addUp_21 : decode cX4_addUp 21 = .ok (.iconst 3, 1) := by decide +kernel
theorem dX4_addUp_22 : decode cX4_addUp 22 = .ok (.iand, 1) := by decide +kernel
theorem dX4_addUp_23 : decode cX4_addUp 23 = .ok (.ifCond .eq 18, 3) := by decide +kernel
theorem dX4_addUp_26 : decode cX4_addUp 26 = .ok (.aload_n 0, 1) := by decide +kernel
theorem dX4_addUp_27 : decode cX4_addUp 27 = .ok (.iload_n 2, 1) := by decide +kernel
theorem dX4_addUp_28 : decode cX4_addUp 28 = .ok (.dup2, 1) := by decide +kernel
theorem dX4_addUp_29 : decode cX4_addUp 29 = .ok (.iaload, 1) := by decide +kernel
theorem dX4_addUp_30 : decode cX4_addUp 30 = .ok (.aload_n 0, 1) := by decide +kernel
theorem dX4_addUp_31 : decode cX4_addUp 31 = .ok (.iload_n 2, 1) := by decide +kernel
theorem dX4_addUp_32 : decode cX4_addUp 32 = .ok (.iconst 1, 1) := by decide +kernel
theorem dX4_addUp_33 : decode cX4_addUp 33 = .ok (.iconst 2, 1) := by decide +kernel
theorem dX4_addUp_34 : decode cX4_addUp 34 = .ok (.iload_n 1, 1) := by decide +kernel
theorem dX4_addUp_35 : decode cX4_addUp 35 = .ok (.imul, 1) := by decide +kernel
theorem dX4_addUp_36 : decode cX4_addUp 36 = .ok (.ishl, 1) := by decide +kernel
theorem dX4_addUp_37 : decode cX4_addUp 37 = .ok (.isub, 1) := by decide +kernel
theorem dX4_addUp_38 : decode cX4_addUp 38 = .ok (.iaload, 1) := by decide +kernel
theorem dX4_addUp_39 : decode cX4_addUp 39 = .ok (.iadd, 1) := by decide +kernel
theorem dX4_addUp_40 : decode cX4_addUp 40 = .ok (.iastore, 1) := by decide +kernel
theorem dX4_addUp_41 : decode cX4_addUp 41 = .ok (.iinc 2 1, 3) := by decide +kernel
theorem dX4_addUp_44 : decode cX4_addUp 44 = .ok (.goto (-35), 3) := by decide +kernel
theorem dX4_addUp_47 : decode cX4_addUp 47 = .ok (.iinc 1 1, 3) := by decide +kernel
theorem dX4_addUp_50 : decode cX4_addUp 50 = .ok (.goto (-48), 3) := by decide +kernel
theorem dX4_addUp_53 : decode cX4_addUp 53 = .ok (.return_, 1) := by decide +kernel
theorem dX4_roomBehind_0 : decode cX4_roomBehind 0 = .ok (.iconst 0, 1) := by decide +kernel
theorem dX4_roomBehind_1 : decode cX4_roomBehind 1 = .ok (.istore_n 2, 1) := by decide +kernel
theorem dX4_roomBehind_2 : decode cX4_roomBehind 2 = .ok (.iconst 0, 1) := by decide +kernel
theorem dX4_roomBehind_3 : decode cX4_roomBehind 3 = .ok (.istore_n 3, 1) := by decide +kernel
theorem dX4_roomBehind_4 : decode cX4_roomBehind 4 = .ok (.iload_n 3, 1) := by decide +kernel
theorem dX4_roomBehind_5 : decode cX4_roomBehind 5 = .ok (.aload_n 0, 1) := by decide +kernel
theorem dX4_roomBehind_6 : decode cX4_roomBehind 6 = .ok (.getfield 12, 3) := by decide +kernel
theorem dX4_roomBehind_9 : decode cX4_roomBehind 9 = .ok (.getfield 42, 3) := by decide +kernel
theorem dX4_roomBehind_12 : decode cX4_roomBehind 12 = .ok (.if_icmp .ge 48, 3) := by decide +kernel
theorem dX4_roomBehind_15 : decode cX4_roomBehind 15 = .ok (.aload_n 0, 1) := by decide +kernel
theorem dX4_roomBehind_16 : decode cX4_roomBehind 16 = .ok (.getfield 12, 3) := by decide +kernel
theorem dX4_roomBehind_19 : decode cX4_roomBehind 19 = .ok (.getfield 81, 3) := by decide +kernel
theorem dX4_roomBehind_22 : decode cX4_roomBehind 22 = .ok (.iload_n 3, 1) := by decide +kernel
theorem dX4_roomBehind_23 : decode cX4_roomBehind 23 = .ok (.iaload, 1) := by decide +kernel
theorem dX4_roomBehind_24 : decode cX4_roomBehind 24 = .ok (.iload_n 1, 1) := by decide +kernel
theorem dX4_roomBehind_25 : decode cX4_roomBehind 25 = .ok (.iconst 2, 1) := by decide +kernel
theorem dX4_roomBehind_26 : decode cX4_roomBehind 26 = .ok (.iload_n 3, 1) := by decide +kernel
theorem dX4_roomBehind_27 : decode cX4_roomBehind 27 = .ok (.imul, 1) := by decide +kernel
theorem dX4_roomBehind_28 : decode cX4_roomBehind 28 = .ok (.ishr, 1) := by decide +kernel
theorem dX4_roomBehind_29 : decode cX4_roomBehind 29 = .ok (.iconst 3, 1) := by decide +kernel
theorem dX4_roomBehind_30 : decode cX4_roomBehind 30 = .ok (.iand, 1) := by decide +kernel
theorem dX4_roomBehind_31 : decode cX4_roomBehind 31 = .ok (.isub, 1) := by decide +kernel
theorem dX4_roomBehind_32 : decode cX4_roomBehind 32 = .ok (.istore 4, 2) := by decide +kernel
theorem dX4_roomBehind_34 : decode cX4_roomBehind 34 = .ok (.iload 4, 2) := by decide +kernel
theorem dX4_roomBehind_36 : decode cX4_roomBehind 36 = .ok (.ifCond .ge 5, 3) := by decide +kernel
theorem dX4_roomBehind_39 : decode cX4_roomBehind 39 = .ok (.iconst (-1), 1) := by decide +kernel
theorem dX4_roomBehind_40 : decode cX4_roomBehind 40 = .ok (.ireturn, 1) := by decide +kernel
theorem dX4_roomBehind_41 : decode cX4_roomBehind 41 = .ok (.iload_n 2, 1) := by decide +kernel
theorem dX4_roomBehind_42 : decode cX4_roomBehind 42 = .ok (.iconst 3, 1) := by decide +kernel
theorem dX4_roomBehind_43 : decode cX4_roomBehind 43 = .ok (.iload 4, 2) := by decide +kernel
theorem dX4_roomBehind_45 : decode cX4_roomBehind 45 = .ok (.invokestatic 51, 3) := by decide +kernel
theorem dX4_roomBehind_48 : decode cX4_roomBehind 48 = .ok (.iconst 2, 1) := by decide +kernel
theorem dX4_roomBehind_49 : decode cX4_roomBehind 49 = .ok (.iload_n 3, 1) := by decide +kernel
theorem dX4_roomBehind_50 : decode cX4_roomBehind 50 = .ok (.imul, 1) := by decide +kernel
theorem dX4_roomBehind_51 : decode cX4_roomBehind 51 = .ok (.ishl, 1) := by decide +kernel
theorem dX4_roomBehind_52 : decode cX4_roomBehind 52 = .ok (.iadd, 1) := by decide +kernel
theorem dX4_roomBehind_53 : decode cX4_roomBehind 53 = .ok (.istore_n 2, 1) := by decide +kernel
theorem dX4_roomBehind_54 : decode cX4_roomBehind 54 = .ok (.iinc 3 1, 3) := by decide +kernel
theorem dX4_roomBehind_57 : decode cX4_roomBehind 57 = .ok (.goto (-53), 3) := by decide +kernel
theorem dX4_roomBehind_60 : decode cX4_roomBehind 60 = .ok (.iload_n 2, 1) := by decide +kernel
theorem dX4_roomBehind_61 : decode cX4_roomBehind 61 = .ok (.ireturn, 1) := by decide +kernel
set_option maxRecDepth 20000 in
theorem ggX4_compareMinute_X4_tally : GoodIn wsX4_compareMinute wsX4_tally := goodIn_r _ [10, 11, 5, 12, 13, 14, 15, 16, 17, 18, 19, 9, 20, 21, 22, 23, 24, 25, 26, 27, 28, 3, 29, 4, 30, 31, 32, 33, 34, 35, 36, 37, 38, 39, 40, 41, 42, 43, 44, 45, 46, 47, 48, 49, 50, 51, 52, 53, 54, 55, 56, 57, 58, 59, 60] (by decide +kernel) (by decide +kernel)
set_option maxRecDepth 20000 in
theorem gX4_compareMinute_X4_tally : GoodIn wsX4_compareMinute (wsV RX4 90 RX4 yX4_tally wsX4_tally) := goodIn_app (goodIn_of _ (by decide +kernel)) ggX4_compareMinute_X4_tally
theorem dX4_compareMinute_0 : decode cX4_compareMinute 0 = .ok (.aload_n 0, 1) := by decide +kernel
theorem dX4_compareMinute_1 : decode cX4_compareMinute 1 = .ok (.iconst 0, 1) := by decide +kernel
theorem dX4_compareMinute_2 : decode cX4_compareMinute 2 = .ok (.putfield 84, 3) := by decide +kernel
theorem dX4_compareMinute_5 : decode cX4_compareMinute 5 = .ok (.aload_n 0, 1) := by decide +kernel
theorem dX4_compareMinute_6 : decode cX4_compareMinute 6 = .ok (.iconst (-1), 1) := by decide +kernel
theorem dX4_compareMinute_7 : decode cX4_compareMinute 7 = .ok (.putfield 87, 3) := by decide +kernel
theorem dX4_compareMinute_10 : decode cX4_compareMinute 10 = .ok (.iconst 0, 1) := by decide +kernel
theorem dX4_compareMinute_11 : decode cX4_compareMinute 11 = .ok (.istore_n 2, 1) := by decide +kernel
theorem dX4_compareMinute_12 : decode cX4_compareMinute 12 = .ok (.iload_n 2, 1) := by decide +kernel
theorem dX4_compareMinute_13 : decode cX4_compareMinute 13 = .ok (.aload_n 0, 1) := by decide +kernel
theorem dX4_compareMinute_14 : decode cX4_compareMinute 14 = .ok (.getfield 38, 3) := by decide +kernel
theorem dX4_compareMinute_17 : decode cX4_compareMinute 17 = .ok (.if_icmp .ge 58, 3) := by decide +kernel
theorem dX4_compareMinute_20 : decode cX4_compareMinute 20 = .ok (.aload_n 0, 1) := by decide +kernel
theorem dX4_compareMinute_21 : decode cX4_compareMinute 21 = .ok (.getfield 32, 3) := by decide +kernel
theorem dX4_compareMinute_24 : decode cX4_compareMinute 24 = .ok (.iload_n 2, 1) := by decide +kernel
theorem dX4_compareMinute_25 : decode cX4_compareMinute 25 = .ok (.iaload, 1) := by decide +kernel
theorem dX4_compareMinute_26 : decode cX4_compareMinute 26 = .ok (.aload_n 0, 1) := by decide +kernel
theorem dX4_compareMinute_27 : decode cX4_compareMinute 27 = .ok (.getfield 21, 3) := by decide +kernel
theorem dX4_compareMinute_30 : decode cX4_compareMinute 30 = .ok (.getfield 74, 3) := by decide +kernel
theorem dX4_compareMinute_33 : decode cX4_compareMinute 33 = .ok (.iload_n 1, 1) := by decide +kernel
theorem dX4_compareMinute_34 : decode cX4_compareMinute 34 = .ok (.iaload, 1) := by decide +kernel
theorem dX4_compareMinute_35 : decode cX4_compareMinute 35 = .ok (.if_icmp .ne 34, 3) := by decide +kernel
theorem dX4_compareMinute_38 : decode cX4_compareMinute 38 = .ok (.aload_n 0, 1) := by decide +kernel
theorem dX4_compareMinute_39 : decode cX4_compareMinute 39 = .ok (.iload_n 1, 1) := by decide +kernel
theorem dX4_compareMinute_40 : decode cX4_compareMinute 40 = .ok (.iload_n 2, 1) := by decide +kernel
theorem dX4_compareMinute_41 : decode cX4_compareMinute 41 = .ok (.invokevirtual 90, 3) := by decide +kernel
theorem dX4_compareMinute_44 : decode cX4_compareMinute 44 = .ok (.lconst 0, 1) := by decide +kernel
theorem dX4_compareMinute_45 : decode cX4_compareMinute 45 = .ok (.lcmp, 1) := by decide +kernel
theorem dX4_compareMinute_46 : decode cX4_compareMinute 46 = .ok (.ifCond .le 23, 3) := by decide +kernel
theorem dX4_compareMinute_49 : decode cX4_compareMinute 49 = .ok (.aload_n 0, 1) := by decide +kernel
theorem dX4_compareMinute_50 : decode cX4_compareMinute 50 = .ok (.dup, 1) := by decide +kernel
theorem dX4_compareMinute_51 : decode cX4_compareMinute 51 = .ok (.getfield 84, 3) := by decide +kernel
theorem dX4_compareMinute_54 : decode cX4_compareMinute 54 = .ok (.iload_n 2, 1) := by decide +kernel
theorem dX4_compareMinute_55 : decode cX4_compareMinute 55 = .ok (.ior, 1) := by decide +kernel
theorem dX4_compareMinute_56 : decode cX4_compareMinute 56 = .ok (.putfield 84, 3) := by decide +kernel
theorem dX4_compareMinute_59 : decode cX4_compareMinute 59 = .ok (.aload_n 0, 1) := by decide +kernel
theorem dX4_compareMinute_60 : decode cX4_compareMinute 60 = .ok (.dup, 1) := by decide +kernel
theorem dX4_compareMinute_61 : decode cX4_compareMinute 61 = .ok (.getfield 87, 3) := by decide +kernel
theorem dX4_compareMinute_64 : decode cX4_compareMinute 64 = .ok (.iload_n 2, 1) := by decide +kernel
theorem dX4_compareMinute_65 : decode cX4_compareMinute 65 = .ok (.iand, 1) := by decide +kernel
theorem dX4_compareMinute_66 : decode cX4_compareMinute 66 = .ok (.putfield 87, 3) := by decide +kernel
theorem dX4_compareMinute_69 : decode cX4_compareMinute 69 = .ok (.iinc 2 1, 3) := by decide +kernel
theorem dX4_compareMinute_72 : decode cX4_compareMinute 72 = .ok (.goto (-60), 3) := by decide +kernel
theorem dX4_compareMinute_75 : decode cX4_compareMinute 75 = .ok (.return_, 1) := by decide +kernel
