abbrev wsX50 : List Cond := u_ws RX5 TX5 10
abbrev cX8_put : ByteArray := prog_10_method_7_code
def yX8_put : MethodName := ⟨RX8, "put", "(IILClapBank$Reader;)V"⟩
abbrev cX8_copyFrom : ByteArray := prog_10_method_8_code
def yX8_copyFrom : MethodName := ⟨RX8, "copyFrom", "(LClapBank$Told;)V"⟩
def wsX8_put_r1 : List Cond := [Cond.fieldLink RX8 22 "ClapBank$Told" "firstTheatre" "LClapBank$Theatre;", Cond.fieldLink RX8 26 "ClapBank$Told" "secondTheatre" "LClapBank$Theatre;", Cond.fieldLink RX8 52 "ClapBank$Told" "theatres" "I", Cond.methodLink RX8 70 Lib.Math.max.name, Cond.static Lib.Math.max.name, Cond.initialized "java/lang/Math", Cond.code Lib.Math.max.name Lib.Math.max.code 2 (some .int), Cond.fieldLink RX8 32 "ClapBank$Told" "firstBook" "LClapBank$Book;", Cond.fieldLink RX8 36 "ClapBank$Told" "secondBook" "LClapBank$Book;", Cond.fieldLink RX8 55 "ClapBank$Told" "books" "I", Cond.fieldLink RX8 42 "ClapBank$Told" "firstDark" "LClapBank$Dark;", Cond.fieldLink RX8 46 "ClapBank$Told" "secondDark" "LClapBank$Dark;", Cond.fieldLink RX8 58 "ClapBank$Told" "darks" "I", Cond.methodLink RX8 66 yX7_copyFrom, Cond.instanceMethod yX7_copyFrom, Cond.selects RX7 yX7_copyFrom yX7_copyFrom, Cond.initialized RX7, Cond.code yX7_copyFrom cX7_copyFrom 2 none, Cond.fieldLink RX7 30 "ClapBank$Theatre" "palms" "I", Cond.fieldLink RX7 34 "ClapBank$Theatre" "actors" "I", Cond.fieldLink RX7 37 "ClapBank$Theatre" "usurers" "I", Cond.fieldLink RX7 40 "ClapBank$Theatre" "rate" "I", Cond.fieldLink RX7 43 "ClapBank$Theatre" "chest" "I", Cond.fieldLink RX7 46 "ClapBank$Theatre" "borrowers" "I"]
def wsX8_put_r2 : List Cond := [Cond.fieldLink RX7 9 "ClapBank$Theatre" "claps" "[I", Cond.methodLink RX7 49 arraycopyName, Cond.native arraycopyName, Cond.static arraycopyName, Cond.initialized "java/lang/System", Cond.fieldLink RX7 15 "ClapBank$Theatre" "hands" "[I", Cond.fieldLink RX7 18 "ClapBank$Theatre" "hunger" "[I", Cond.fieldLink RX7 21 "ClapBank$Theatre" "saved" "[I", Cond.fieldLink RX7 24 "ClapBank$Theatre" "asks" "[I", Cond.fieldLink RX7 27 "ClapBank$Theatre" "floors" "[I", Cond.methodLink RX8 79 yX0_copyFrom, Cond.instanceMethod yX0_copyFrom, Cond.selects RX0 yX0_copyFrom yX0_copyFrom, Cond.initialized RX0, Cond.code yX0_copyFrom cX0_copyFrom 2 none, Cond.fieldLink RX0 15 "ClapBank$Book" "deeds" "I", Cond.fieldLink RX0 9 "ClapBank$Book" "parts" "[I", Cond.methodLink RX0 19 arraycopyName, Cond.methodLink RX8 85 yX1_copyFrom, Cond.instanceMethod yX1_copyFrom, Cond.selects RX1 yX1_copyFrom yX1_copyFrom, Cond.initialized RX1, Cond.code yX1_copyFrom cX1_copyFrom 2 none, Cond.fieldLink RX1 15 "ClapBank$Dark" "minutes" "I"]
def wsX8_put_r3 : List Cond := [Cond.fieldLink RX1 9 "ClapBank$Dark" "halves" "[I", Cond.methodLink RX1 19 arraycopyName]
def wsX8_put : List Cond := .code yX8_put cX8_put 4 none :: ((wsX8_put_r1 ++ (wsX8_put_r2 ++ wsX8_put_r3)) ++ wsX80 ++ wsX50 ++ wsX70 ++ wsX00 ++ wsX10)
def wsX8_copyFrom_r1 : List Cond := [Cond.fieldLink RX8 9 "ClapBank$Told" "tape" "[B", Cond.methodLink RX8 88 arraycopyName, Cond.native arraycopyName, Cond.static arraycopyName, Cond.initialized "java/lang/System", Cond.fieldLink RX8 49 "ClapBank$Told" "length" "I", Cond.fieldLink RX8 94 "ClapBank$Told" "fault" "I", Cond.fieldLink RX8 15 "ClapBank$Told" "place" "I", Cond.fieldLink RX8 52 "ClapBank$Told" "theatres" "I", Cond.fieldLink RX8 55 "ClapBank$Told" "books" "I", Cond.fieldLink RX8 58 "ClapBank$Told" "darks" "I", Cond.fieldLink RX8 22 "ClapBank$Told" "firstTheatre" "LClapBank$Theatre;", Cond.fieldLink RX8 26 "ClapBank$Told" "secondTheatre" "LClapBank$Theatre;", Cond.fieldLink RX8 32 "ClapBank$Told" "firstBook" "LClapBank$Book;", Cond.fieldLink RX8 36 "ClapBank$Told" "secondBook" "LClapBank$Book;", Cond.fieldLink RX8 42 "ClapBank$Told" "firstDark" "LClapBank$Dark;", Cond.fieldLink RX8 46 "ClapBank$Told" "secondDark" "LClapBank$Dark;", Cond.methodLink RX8 66 yX7_copyFrom, Cond.instanceMethod yX7_copyFrom, Cond.selects RX7 yX7_copyFrom yX7_copyFrom, Cond.initialized RX7, Cond.code yX7_copyFrom cX7_copyFrom 2 none, Cond.fieldLink RX7 30 "ClapBank$Theatre" "palms" "I", Cond.fieldLink RX7 34 "ClapBank$Theatre" "actors" "I"]
def wsX8_copyFrom_r2 : List Cond := [Cond.fieldLink RX7 37 "ClapBank$Theatre" "usurers" "I", Cond.fieldLink RX7 40 "ClapBank$Theatre" "rate" "I", Cond.fieldLink RX7 43 "ClapBank$Theatre" "chest" "I", Cond.fieldLink RX7 46 "ClapBank$Theatre" "borrowers" "I", Cond.fieldLink RX7 9 "ClapBank$Theatre" "claps" "[I", Cond.methodLink RX7 49 arraycopyName, Cond.fieldLink RX7 15 "ClapBank$Theatre" "hands" "[I", Cond.fieldLink RX7 18 "ClapBank$Theatre" "hunger" "[I", Cond.fieldLink RX7 21 "ClapBank$Theatre" "saved" "[I", Cond.fieldLink RX7 24 "ClapBank$Theatre" "asks" "[I", Cond.fieldLink RX7 27 "ClapBank$Theatre" "floors" "[I", Cond.methodLink RX8 79 yX0_copyFrom, Cond.instanceMethod yX0_copyFrom, Cond.selects RX0 yX0_copyFrom yX0_copyFrom, Cond.initialized RX0, Cond.code yX0_copyFrom cX0_copyFrom 2 none, Cond.fieldLink RX0 15 "ClapBank$Book" "deeds" "I", Cond.fieldLink RX0 9 "ClapBank$Book" "parts" "[I", Cond.methodLink RX0 19 arraycopyName, Cond.methodLink RX8 85 yX1_copyFrom, Cond.instanceMethod yX1_copyFrom, Cond.selects RX1 yX1_copyFrom yX1_copyFrom, Cond.initialized RX1, Cond.code yX1_copyFrom cX1_copyFrom 2 none]
def wsX8_copyFrom_r3 : List Cond := [Cond.fieldLink RX1 15 "ClapBank$Dark" "minutes" "I", Cond.fieldLink RX1 9 "ClapBank$Dark" "halves" "[I", Cond.methodLink RX1 19 arraycopyName]
def wsX8_copyFrom : List Cond := .code yX8_copyFrom cX8_copyFrom 2 none :: ((wsX8_copyFrom_r1 ++ (wsX8_copyFrom_r2 ++ wsX8_copyFrom_r3)) ++ wsX80 ++ wsX70 ++ wsX00 ++ wsX10)
set_option maxRecDepth 20000 in
theorem ggX8_put_X7_copyFrom : GoodIn wsX8_put wsX7_copyFrom := goodIn_r _ [18, 19, 20, 21, 22, 23, 24, 25, 26, 27, 28, 29, 30, 31, 32, 33, 34, 74, 75, 76, 77, 78, 79, 80, 81, 82, 83, 84, 85] (by decide +kernel) (by decide +kernel)
set_option maxRecDepth 20000 in
theorem gX8_put_X7_copyFrom : GoodIn wsX8_put (wsV RX8 66 RX7 yX7_copyFrom wsX7_copyFrom) := goodIn_app (goodIn_of _ (by decide +kernel)) ggX8_put_X7_copyFrom
set_option maxRecDepth 20000 in
theorem ggX8_put_X0_copyFrom : GoodIn wsX8_put wsX0_copyFrom := goodIn_r _ [39, 40, 41, 42, 27, 28, 29, 86, 87] (by decide +kernel) (by decide +kernel)
set_option maxRecDepth 20000 in
theorem gX8_put_X0_copyFrom : GoodIn wsX8_put (wsV RX8 79 RX0 yX0_copyFrom wsX0_copyFrom) := goodIn_app (goodIn_of _ (by decide +kernel)) ggX8_put_X0_copyFrom
set_option maxRecDepth 20000 in
theorem ggX8_put_X1_copyFrom : GoodIn wsX8_put wsX1_copyFrom := goodIn_r _ [47, 48, 49, 50, 27, 28, 29, 88, 89] (by decide +kernel) (by decide +kernel)
set_option maxRecDepth 20000 in
theorem gX8_put_X1_copyFrom : GoodIn wsX8_put (wsV RX8 85 RX1 yX1_copyFrom wsX1_copyFrom) := goodIn_app (goodIn_of _ (by decide +kernel)) ggX8_put_X1_copyFrom
theorem dX8_put_0 : decode cX8_put 0 = .ok (.iload_n 1, 1) := by decide +kernel
theorem dX8_put_1 : decode cX8_put 1 = .ok (.ifCond .ne 42, 3) := by decide +kernel
theorem dX8_put_4 : decode cX8_put 4 = .ok (.iload_n 2, 1) := by decide +kernel
theorem dX8_put_5 : decode cX8_put 5 = .ok (.ifCond .ne 10, 3) := by decide +kernel
theorem dX8_put_8 : decode cX8_put 8 = .ok (.aload_n 0, 1) := by decide +kernel
theorem dX8_put_9 : decode cX8_put 9 = .ok (.getfield 22, 3) := by decide +kernel
theorem dX8_put_12 : decode cX8_put 12 = .ok (.goto 7, 3) := by decide +kernel
theorem dX8_put_15 : decode cX8_put 15 = .ok (.aload_n 0, 1) := by decide +kernel
theorem dX8_put_16 : decode cX8_put 16 = .ok (.getfield 26, 3) := by decide +kernel
theorem dX8_put_19 : decode cX8_put 19 = .ok (.aload_n 3, 1) := by decide +kernel
theorem dX8_put_20 : decode cX8_put 20 = .ok (.getfield 61, 3) := by decide +kernel
theorem dX8_put_23 : decode cX8_put 23 = .ok (.invokevirtual 66, 3) := by decide +kernel
theorem dX8_put_26 : decode cX8_put 26 = .ok (.aload_n 0, 1) := by decide +kernel
theorem dX8_put_27 : decode cX8_put 27 = .ok (.aload_n 0, 1) := by decide +kernel
theorem dX8_put_28 : decode cX8_put 28 = .ok (.getfield 52, 3) := by decide +kernel
theorem dX8_put_31 : decode cX8_put 31 = .ok (.iload_n 2, 1) := by decide +kernel
theorem dX8_put_32 : decode cX8_put 32 = .ok (.iconst 1, 1) := by decide +kernel
theorem dX8_put_33 : decode cX8_put 33 = .ok (.iadd, 1) := by decide +kernel
theorem dX8_put_34 : decode cX8_put 34 = .ok (.invokestatic 70, 3) := by decide +kernel
theorem dX8_put_37 : decode cX8_put 37 = .ok (.putfield 52, 3) := by decide +kernel
theorem dX8_put_40 : decode cX8_put 40 = .ok (.goto 83, 3) := by decide +kernel
theorem dX8_put_43 : decode cX8_put 43 = .ok (.iload_n 1, 1) := by decide +kernel
theorem dX8_put_44 : decode cX8_put 44 = .ok (.iconst 1, 1) := by decide +kernel
theorem dX8_put_45 : decode cX8_put 45 = .ok (.if_icmp .ne 42, 3) := by decide +kernel
theorem dX8_put_48 : decode cX8_put 48 = .ok (.iload_n 2, 1) := by decide +kernel
theorem dX8_put_49 : decode cX8_put 49 = .ok (.ifCond .ne 10, 3) := by decide +kernel
theorem dX8_put_52 : decode cX8_put 52 = .ok (.aload_n 0, 1) := by decide +kernel
theorem dX8_put_53 : decode cX8_put 53 = .ok (.getfield 32, 3) := by decide +kernel
theorem dX8_put_56 : decode cX8_put 56 = .ok (.goto 7, 3) := by decide +kernel
theorem dX8_put_59 : decode cX8_put 59 = .ok (.aload_n 0, 1) := by decide +kernel
theorem dX8_put_60 : decode cX8_put 60 = .ok (.getfield 36, 3) := by decide +kernel
theorem dX8_put_63 : decode cX8_put 63 = .ok (.aload_n 3, 1) := by decide +kernel
theorem dX8_put_64 : decode cX8_put 64 = .ok (.getfield 76, 3) := by decide +kernel
theorem dX8_put_67 : decode cX8_put 67 = .ok (.invokevirtual 79, 3) := by decide +kernel
theorem dX8_put_70 : decode cX8_put 70 = .ok (.aload_n 0, 1) := by decide +kernel
theorem dX8_put_71 : decode cX8_put 71 = .ok (.aload_n 0, 1) := by decide +kernel
theorem dX8_put_72 : decode cX8_put 72 = .ok (.getfield 55, 3) := by decide +kernel
theorem dX8_put_75 : decode cX8_put 75 = .ok (.iload_n 2, 1) := by decide +kernel
theorem dX8_put_76 : decode cX8_put 76 = .ok (.iconst 1, 1) := by decide +kernel
theorem dX8_put_77 : decode cX8_put 77 = .ok (.iadd, 1) := by decide +kernel
theorem dX8_put_78 : decode cX8_put 78 = .ok (.invokestatic 70, 3) := by decide +kernel
theorem dX8_put_81 : decode cX8_put 81 = .ok (.putfield 55, 3) := by decide +kernel
theorem dX8_put_84 : decode cX8_put 84 = .ok (.goto 39, 3) := by decide +kernel
theorem dX8_put_87 : decode cX8_put 87 = .ok (.iload_n 2, 1) := by decide +kernel
theorem dX8_put_88 : decode cX8_put 88 = .ok (.ifCond .ne 10, 3) := by decide +kernel
theorem dX8_put_91 : decode cX8_put 91 = .ok (.aload_n 0, 1) := by decide +kernel
theorem dX8_put_92 : decode cX8_put 92 = .ok (.getfield 42, 3) := by decide +kernel
theorem dX8_put_95 : decode cX8_put 95 = .ok (.goto 7, 3) := by decide +kernel
theorem dX8_put_98 : decode cX8_put 98 = .ok (.aload_n 0, 1) := by decide +kernel
theorem dX8_put_99 : decode cX8_put 99 = .ok (.getfield 46, 3) := by decide +kernel
theorem dX8_put_102 : decode cX8_put 102 = .ok (.aload_n 3, 1) := by decide +kernel
theorem dX8_put_103 : decode cX8_put 103 = .ok (.getfield 82, 3) := by decide +kernel
theorem dX8_put_106 : decode cX8_put 106 = .ok (.invokevirtual 85, 3) := by decide +kernel
theorem dX8_put_109 : decode cX8_put 109 = .ok (.aload_n 0, 1) := by decide +kernel
theorem dX8_put_110 : decode cX8_put 110 = .ok (.aload_n 0, 1) := by decide +kernel
theorem dX8_put_111 : decode cX8_put 111 = .ok (.getfield 58, 3) := by decide +kernel
theorem dX8_put_114 : decode cX8_put 114 = .ok (.iload_n 2, 1) := by decide +kernel
theorem dX8_put_115 : decode cX8_put 115 = .ok (.iconst 1, 1) := by decide +kernel
theorem dX8_put_116 : decode cX8_put 116 = .ok (.iadd, 1) := by decide +kernel
theorem dX8_put_117 : decode cX8_put 117 = .ok (.invokestatic 70, 3) := by decide +kernel
theorem dX8_put_120 : decode cX8_put 120 = .ok (.putfield 58, 3) := by decide +kernel
theorem dX8_put_123 : decode cX8_put 123 = .ok (.return_, 1) := by decide +kernel
set_option maxRecDepth 20000 in
theorem ggX8_copyFrom_X7_copyFrom : GoodIn wsX8_copyFrom wsX7_copyFrom := goodIn_r _ [22, 23, 24, 25, 26, 27, 28, 29, 30, 3, 4, 5, 31, 32, 33, 34, 35, 65, 66, 67, 68, 69, 70, 71, 72, 73, 74, 75, 76] (by decide +kernel) (by decide +kernel)
set_option maxRecDepth 20000 in
theorem gX8_copyFrom_X7_copyFrom : GoodIn wsX8_copyFrom (wsV RX8 66 RX7 yX7_copyFrom wsX7_copyFrom) := goodIn_app (goodIn_of _ (by decide +kernel)) ggX8_copyFrom_X7_copyFrom
set_option maxRecDepth 20000 in
theorem ggX8_copyFrom_X0_copyFrom : GoodIn wsX8_copyFrom wsX0_copyFrom := goodIn_r _ [40, 41, 42, 43, 3, 4, 5, 77, 78] (by decide +kernel) (by decide +kernel)
set_option maxRecDepth 20000 in
theorem gX8_copyFrom_X0_copyFrom : GoodIn wsX8_copyFrom (wsV RX8 79 RX0 yX0_copyFrom wsX0_copyFrom) := goodIn_app (goodIn_of _ (by decide +kernel)) ggX8_copyFrom_X0_copyFrom
set_option maxRecDepth 20000 in
theorem ggX8_copyFrom_X1_copyFrom : GoodIn wsX8_copyFrom wsX1_copyFrom := goodIn_r _ [48, 49, 50, 51, 3, 4, 5, 79, 80] (by decide +kernel) (by decide +kernel)
set_option maxRecDepth 20000 in
theorem gX8_copyFrom_X1_copyFrom : GoodIn wsX8_copyFrom (wsV RX8 85 RX1 yX1_copyFrom wsX1_copyFrom) := goodIn_app (goodIn_of _ (by decide +kernel)) ggX8_copyFrom_X1_copyFrom
theorem dX8_copyFrom_0 : decode cX8_copyFrom 0 = .ok (.aload_n 1, 1) := by decide +kernel
theorem dX8_copyFrom_1 : decode cX8_copyFrom 1 = .ok (.getfield 9, 3) := by decide +kernel
theorem dX8_copyFrom_4 : decode cX8_copyFrom 4 = .ok (.iconst 0, 1) := by decide +kernel
theorem dX8_copyFrom_5 : decode cX8_copyFrom 5 = .ok (.aload_n 0, 1) := by decide +kernel
theorem dX8_copyFrom_6 : decode cX8_copyFrom 6 = .ok (.getfield 9, 3) := by decide +kernel
theorem dX8_copyFrom_9 : decode cX8_copyFrom 9 = .ok (.iconst 0, 1) := by decide +kernel
theorem dX8_copyFrom_10 : decode cX8_copyFrom 10 = .ok (.sipush 600, 3) := by decide +kernel
theorem dX8_copyFrom_13 : decode cX8_copyFrom 13 = .ok (.invokestatic 88, 3) := by decide +kernel
theorem dX8_copyFrom_16 : decode cX8_copyFrom 16 = .ok (.aload_n 0, 1) := by decide +kernel
theorem dX8_copyFrom_17 : decode cX8_copyFrom 17 = .ok (.aload_n 1, 1) := by decide +kernel
theorem dX8_copyFrom_18 : decode cX8_copyFrom 18 = .ok (.getfield 49, 3) := by decide +kernel
theorem dX8_copyFrom_21 : decode cX8_copyFrom 21 = .ok (.putfield 49, 3) := by decide +kernel
theorem dX8_copyFrom_24 : decode cX8_copyFrom 24 = .ok (.aload_n 0, 1) := by decide +kernel
theorem dX8_copyFrom_25 : decode cX8_copyFrom 25 = .ok (.aload_n 1, 1) := by decide +kernel
theorem dX8_copyFrom_26 : decode cX8_copyFrom 26 = .ok (.getfield 94, 3) := by decide +kernel
theorem dX8_copyFrom_29 : decode cX8_copyFrom 29 = .ok (.putfield 94, 3) := by decide +kernel
theorem dX8_copyFrom_32 : decode cX8_copyFrom 32 = .ok (.aload_n 0, 1) := by decide +kernel
theorem dX8_copyFrom_33 : decode cX8_copyFrom 33 = .ok (.aload_n 1, 1) := by decide +kernel
theorem dX8_copyFrom_34 : decode cX8_copyFrom 34 = .ok (.getfield 15, 3) := by decide +kernel
theorem dX8_copyFrom_37 : decode cX8_copyFrom 37 = .ok (.putfield 15, 3) := by decide +kernel
theorem dX8_copyFrom_40 : decode cX8_copyFrom 40 = .ok (.aload_n 0, 1) := by decide +kernel
theorem dX8_copyFrom_41 : decode cX8_copyFrom 41 = .ok (.aload_n 1, 1) := by decide +kernel
theorem dX8_copyFrom_42 : decode cX8_copyFrom 42 = .ok (.getfield 52, 3) := by decide +kernel
theorem dX8_copyFrom_45 : decode cX8_copyFrom 45 = .ok (.putfield 52, 3) := by decide +kernel
theorem dX8_copyFrom_48 : decode cX8_copyFrom 48 = .ok (.aload_n 0, 1) := by decide +kernel
theorem dX8_copyFrom_49 : decode cX8_copyFrom 49 = .ok (.aload_n 1, 1) := by decide +kernel
theorem dX8_copyFrom_50 : decode cX8_copyFrom 50 = .ok (.getfield 55, 3) := by decide +kernel
theorem dX8_copyFrom_53 : decode cX8_copyFrom 53 = .ok (.putfield 55, 3) := by decide +kernel
theorem dX8_copyFrom_56 : decode cX8_copyFrom 56 = .ok (.aload_n 0, 1) := by decide +kernel
theorem dX8_copyFrom_57 : decode cX8_copyFrom 57 = .ok (.aload_n 1, 1) := by decide +kernel
theorem dX8_copyFrom_58 : decode cX8_copyFrom 58 = .ok (.getfield 58, 3) := by decide +kernel
theorem dX8_copyFrom_61 : decode cX8_copyFrom 61 = .ok (.putfield 58, 3) := by decide +kernel
theorem dX8_copyFrom_64 : decode cX8_copyFrom 64 = .ok (.aload_n 0, 1) := by decide +kernel
theorem dX8_copyFrom_65 : decode cX8_copyFrom 65 = .ok (.getfield 22, 3) := by decide +kernel
theorem dX8_copyFrom_68 : decode cX8_copyFrom 68 = .ok (.aload_n 1, 1) := by decide +kernel
theorem dX8_copyFrom_69 : decode cX8_copyFrom 69 = .ok (.getfield 22, 3) := by decide +kernel
theorem dX8_copyFrom_72 : decode cX8_copyFrom 72 = .ok (.invokevirtual 66, 3) := by decide +kernel
theorem dX8_copyFrom_75 : decode cX8_copyFrom 75 = .ok (.aload_n 0, 1) := by decide +kernel
theorem dX8_copyFrom_76 : decode cX8_copyFrom 76 = .ok (.getfield 26, 3) := by decide +kernel
theorem dX8_copyFrom_79 : decode cX8_copyFrom 79 = .ok (.aload_n 1, 1) := by decide +kernel
theorem dX8_copyFrom_80 : decode cX8_copyFrom 80 = .ok (.getfield 26, 3) := by decide +kernel
theorem dX8_copyFrom_83 : decode cX8_copyFrom 83 = .ok (.invokevirtual 66, 3) := by decide +kernel
theorem dX8_copyFrom_86 : decode cX8_copyFrom 86 = .ok (.aload_n 0, 1) := by decide +kernel
theorem dX8_copyFrom_87 : decode cX8_copyFrom 87 = .ok (.getfield 32, 3) := by decide +kernel
theorem dX8_copyFrom_90 : decode cX8_copyFrom 90 = .ok (.aload_n 1, 1) := by decide +kernel
theorem dX8_copyFrom_91 : decode cX8_copyFrom 91 = .ok (.getfield 32, 3) := by decide +kernel
theorem dX8_copyFrom_94 : decode cX8_copyFrom 94 = .ok (.invokevirtual 79, 3) := by decide +kernel
theorem dX8_copyFrom_97 : decode cX8_copyFrom 97 = .ok (.aload_n 0, 1) := by decide +kernel
theorem dX8_copyFrom_98 : decode cX8_copyFrom 98 = .ok (.getfield 36, 3) := by decide +kernel
theorem dX8_copyFrom_101 : decode cX8_copyFrom 101 = .ok (.aload_n 1, 1) := by decide +kernel
theorem dX8_copyFrom_102 : decode cX8_copyFrom 102 = .ok (.getfield 36, 3) := by decide +kernel
theorem dX8_copyFrom_105 : decode cX8_copyFrom 105 = .ok (.invokevirtual 79, 3) := by decide +kernel
theorem dX8_copyFrom_108 : decode cX8_copyFrom 108 = .ok (.aload_n 0, 1) := by decide +kernel
theorem dX8_copyFrom_109 : decode cX8_copyFrom 109 = .ok (.getfield 42, 3) := by decide +kernel
theorem dX8_copyFrom_112 : decode cX8_copyFrom 112 = .ok (.aload_n 1, 1) := by decide +kernel
theorem dX8_copyFrom_113 : decode cX8_copyFrom 113 = .ok (.getfield 42, 3) := by decide +kernel
theorem dX8_copyFrom_116 : decode cX8_copyFrom 116 = .ok (.invokevirtual 85, 3) := by decide +kernel
theorem dX8_copyFrom_119 : decode cX8_copyFrom 119 = .ok (.aload_n 0, 1) := by decide +kernel
theorem dX8_copyFrom_120 : decode cX8_copyFrom 120 = .ok (.getfield 46, 3) := by decide +kernel
theorem dX8_copyFrom_123 : decode cX8_copyFrom 123 = .ok (.aload_n 1, 1) := by decide +kernel
theorem dX8_copyFrom_124 : decode cX8_copyFrom 124 = .ok (.getfield 46, 3) := by decide +kernel
theorem dX8_copyFrom_127 : decode cX8_copyFrom 127 = .ok (.invokevirtual 85, 3) := by decide +kernel
theorem dX8_copyFrom_130 : decode cX8_copyFrom 130 = .ok (.return_, 1) := by decide +kernel
