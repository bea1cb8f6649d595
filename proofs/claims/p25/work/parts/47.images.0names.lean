abbrev cX9_image : ByteArray := prog_1_method_25_code
def yX9_image : MethodName := ⟨RX9, "image", "(I)Z"⟩
abbrev cX9_again : ByteArray := prog_1_method_26_code
def yX9_again : MethodName := ⟨RX9, "again", "(I)Z"⟩
def wsX9_image_r1 : List Cond := [Cond.fieldLink RX9 16 "ClapBank" "images" "[LClapBank$Told;", Cond.classLink RX9 7 RX8, Cond.instantiable RX8 13, Cond.initialized RX8, Cond.fieldLink RX9 10 "ClapBank" "told" "LClapBank$Told;", Cond.instanceMethod yX8_init, Cond.code yX8_init cX8_init 1 none, Cond.methodLink RX8 3 objectInit, Cond.instanceMethod objectInit, Cond.code objectInit ⟨#[0xb1]⟩ 1 none, Cond.arrayClass .byte, Cond.fieldLink RX8 9 "ClapBank$Told" "tape" "[B", Cond.fieldLink RX8 15 "ClapBank$Told" "place" "I", Cond.classLink RX8 19 RX7, Cond.instantiable RX7 12, Cond.initialized RX7, Cond.fieldLink RX8 22 "ClapBank$Told" "firstTheatre" "LClapBank$Theatre;", Cond.fieldLink RX8 26 "ClapBank$Told" "secondTheatre" "LClapBank$Theatre;", Cond.classLink RX8 29 RX0, Cond.instantiable RX0 2, Cond.initialized RX0, Cond.fieldLink RX8 32 "ClapBank$Told" "firstBook" "LClapBank$Book;", Cond.fieldLink RX8 36 "ClapBank$Told" "secondBook" "LClapBank$Book;", Cond.classLink RX8 39 RX1]
def wsX9_image_r2 : List Cond := [Cond.instantiable RX1 2, Cond.initialized RX1, Cond.fieldLink RX8 42 "ClapBank$Told" "firstDark" "LClapBank$Dark;", Cond.fieldLink RX8 46 "ClapBank$Told" "secondDark" "LClapBank$Dark;", Cond.instanceMethod yX7_init, Cond.code yX7_init cX7_init 1 none, Cond.methodLink RX7 3 objectInit, Cond.arrayClass .int, Cond.fieldLink RX7 9 "ClapBank$Theatre" "claps" "[I", Cond.fieldLink RX7 15 "ClapBank$Theatre" "hands" "[I", Cond.fieldLink RX7 18 "ClapBank$Theatre" "hunger" "[I", Cond.fieldLink RX7 21 "ClapBank$Theatre" "saved" "[I", Cond.fieldLink RX7 24 "ClapBank$Theatre" "asks" "[I", Cond.fieldLink RX7 27 "ClapBank$Theatre" "floors" "[I", Cond.instanceMethod yX0_init, Cond.code yX0_init cX0_init 1 none, Cond.methodLink RX0 3 objectInit, Cond.fieldLink RX0 9 "ClapBank$Book" "parts" "[I", Cond.instanceMethod yX1_init, Cond.code yX1_init cX1_init 1 none, Cond.methodLink RX1 3 objectInit, Cond.fieldLink RX1 9 "ClapBank$Dark" "halves" "[I", Cond.methodLink RX9 246 yX8_copyFrom, Cond.instanceMethod yX8_copyFrom]
def wsX9_image_r3 : List Cond := [Cond.selects RX8 yX8_copyFrom yX8_copyFrom, Cond.code yX8_copyFrom cX8_copyFrom 2 none, Cond.methodLink RX8 88 arraycopyName, Cond.native arraycopyName, Cond.static arraycopyName, Cond.initialized "java/lang/System", Cond.fieldLink RX8 49 "ClapBank$Told" "length" "I", Cond.fieldLink RX8 94 "ClapBank$Told" "fault" "I", Cond.fieldLink RX8 52 "ClapBank$Told" "theatres" "I", Cond.fieldLink RX8 55 "ClapBank$Told" "books" "I", Cond.fieldLink RX8 58 "ClapBank$Told" "darks" "I", Cond.methodLink RX8 66 yX7_copyFrom, Cond.instanceMethod yX7_copyFrom, Cond.selects RX7 yX7_copyFrom yX7_copyFrom, Cond.code yX7_copyFrom cX7_copyFrom 2 none, Cond.fieldLink RX7 30 "ClapBank$Theatre" "palms" "I", Cond.fieldLink RX7 34 "ClapBank$Theatre" "actors" "I", Cond.fieldLink RX7 37 "ClapBank$Theatre" "usurers" "I", Cond.fieldLink RX7 40 "ClapBank$Theatre" "rate" "I", Cond.fieldLink RX7 43 "ClapBank$Theatre" "chest" "I", Cond.fieldLink RX7 46 "ClapBank$Theatre" "borrowers" "I", Cond.methodLink RX7 49 arraycopyName, Cond.methodLink RX8 79 yX0_copyFrom, Cond.instanceMethod yX0_copyFrom]
def wsX9_image_r4 : List Cond := [Cond.selects RX0 yX0_copyFrom yX0_copyFrom, Cond.code yX0_copyFrom cX0_copyFrom 2 none, Cond.fieldLink RX0 15 "ClapBank$Book" "deeds" "I", Cond.methodLink RX0 19 arraycopyName, Cond.methodLink RX8 85 yX1_copyFrom, Cond.instanceMethod yX1_copyFrom, Cond.selects RX1 yX1_copyFrom yX1_copyFrom, Cond.code yX1_copyFrom cX1_copyFrom 2 none, Cond.fieldLink RX1 15 "ClapBank$Dark" "minutes" "I", Cond.methodLink RX1 19 arraycopyName]
def wsX9_image : List Cond := .code yX9_image cX9_image 3 (some .boolean) :: ((wsX9_image_r1 ++ (wsX9_image_r2 ++ (wsX9_image_r3 ++ wsX9_image_r4))) ++ wsX90 ++ wsX80 ++ wsX70 ++ wsX00 ++ wsX10)
def wsX9_again_r1 : List Cond := [Cond.fieldLink RX9 16 "ClapBank" "images" "[LClapBank$Told;", Cond.fieldLink RX9 10 "ClapBank" "told" "LClapBank$Told;", Cond.methodLink RX9 246 yX8_copyFrom, Cond.instanceMethod yX8_copyFrom, Cond.selects RX8 yX8_copyFrom yX8_copyFrom, Cond.initialized RX8, Cond.code yX8_copyFrom cX8_copyFrom 2 none, Cond.fieldLink RX8 9 "ClapBank$Told" "tape" "[B", Cond.methodLink RX8 88 arraycopyName, Cond.native arraycopyName, Cond.static arraycopyName, Cond.initialized "java/lang/System", Cond.fieldLink RX8 49 "ClapBank$Told" "length" "I", Cond.fieldLink RX8 94 "ClapBank$Told" "fault" "I", Cond.fieldLink RX8 15 "ClapBank$Told" "place" "I", Cond.fieldLink RX8 52 "ClapBank$Told" "theatres" "I", Cond.fieldLink RX8 55 "ClapBank$Told" "books" "I", Cond.fieldLink RX8 58 "ClapBank$Told" "darks" "I", Cond.fieldLink RX8 22 "ClapBank$Told" "firstTheatre" "LClapBank$Theatre;", Cond.fieldLink RX8 26 "ClapBank$Told" "secondTheatre" "LClapBank$Theatre;", Cond.fieldLink RX8 32 "ClapBank$Told" "firstBook" "LClapBank$Book;", Cond.fieldLink RX8 36 "ClapBank$Told" "secondBook" "LClapBank$Book;", Cond.fieldLink RX8 42 "ClapBank$Told" "firstDark" "LClapBank$Dark;", Cond.fieldLink RX8 46 "ClapBank$Told" "secondDark" "LClapBank$Dark;"]
def wsX9_again_r2 : List Cond := [Cond.methodLink RX8 66 yX7_copyFrom, Cond.instanceMethod yX7_copyFrom, Cond.selects RX7 yX7_copyFrom yX7_copyFrom, Cond.initialized RX7, Cond.code yX7_copyFrom cX7_copyFrom 2 none, Cond.fieldLink RX7 30 "ClapBank$Theatre" "palms" "I", Cond.fieldLink RX7 34 "ClapBank$Theatre" "actors" "I", Cond.fieldLink RX7 37 "ClapBank$Theatre" "usurers" "I", Cond.fieldLink RX7 40 "ClapBank$Theatre" "rate" "I", Cond.fieldLink RX7 43 "ClapBank$Theatre" "chest" "I", Cond.fieldLink RX7 46 "ClapBank$Theatre" "borrowers" "I", Cond.fieldLink RX7 9 "ClapBank$Theatre" "claps" "[I", Cond.methodLink RX7 49 arraycopyName, Cond.fieldLink RX7 15 "ClapBank$Theatre" "hands" "[I", Cond.fieldLink RX7 18 "ClapBank$Theatre" "hunger" "[I", Cond.fieldLink RX7 21 "ClapBank$Theatre" "saved" "[I", Cond.fieldLink RX7 24 "ClapBank$Theatre" "asks" "[I", Cond.fieldLink RX7 27 "ClapBank$Theatre" "floors" "[I", Cond.methodLink RX8 79 yX0_copyFrom, Cond.instanceMethod yX0_copyFrom, Cond.selects RX0 yX0_copyFrom yX0_copyFrom, Cond.initialized RX0, Cond.code yX0_copyFrom cX0_copyFrom 2 none, Cond.fieldLink RX0 15 "ClapBank$Book" "deeds" "I"]
def wsX9_again_r3 : List Cond := [Cond.fieldLink RX0 9 "ClapBank$Book" "parts" "[I", Cond.methodLink RX0 19 arraycopyName, Cond.methodLink RX8 85 yX1_copyFrom, Cond.instanceMethod yX1_copyFrom, Cond.selects RX1 yX1_copyFrom yX1_copyFrom, Cond.initialized RX1, Cond.code yX1_copyFrom cX1_copyFrom 2 none, Cond.fieldLink RX1 15 "ClapBank$Dark" "minutes" "I", Cond.fieldLink RX1 9 "ClapBank$Dark" "halves" "[I", Cond.methodLink RX1 19 arraycopyName]
def wsX9_again : List Cond := .code yX9_again cX9_again 3 (some .boolean) :: ((wsX9_again_r1 ++ (wsX9_again_r2 ++ wsX9_again_r3)) ++ wsX90 ++ wsX80 ++ wsX70 ++ wsX00 ++ wsX10)
set_option maxRecDepth 20000 in
theorem ggX9_image_X8_init : GoodIn wsX9_image wsX8_init := goodIn_r _ [7, 8, 9, 10, 11, 12, 13, 14, 15, 16, 17, 18, 19, 20, 21, 22, 23, 24, 25, 26, 27, 28, 29, 30, 31, 32, 33, 34, 35, 36, 37, 38, 39, 40, 41, 42, 43, 44, 45, 46, 90, 91, 92, 93, 94, 95, 96, 97, 98, 99, 100, 101, 102, 103, 104, 105, 106, 107, 108, 109, 110, 111, 112, 113, 114, 115, 116, 117, 118] (by decide +kernel) (by decide +kernel)
set_option maxRecDepth 20000 in
theorem gX9_image_X8_init_n9 : GoodIn wsX9_image (wsX8_init) := ggX9_image_X8_init
set_option maxRecDepth 20000 in
theorem ggX9_image_X8_copyFrom : GoodIn wsX9_image wsX8_copyFrom := goodIn_r _ [50, 12, 51, 52, 53, 54, 55, 56, 13, 57, 58, 59, 17, 18, 22, 23, 27, 28, 60, 61, 62, 16, 63, 64, 65, 66, 67, 68, 69, 33, 70, 34, 35, 36, 37, 38, 71, 72, 73, 21, 74, 75, 42, 76, 77, 78, 79, 26, 80, 81, 46, 82, 90, 91, 92, 93, 94, 95, 96, 97, 98, 99, 100, 101, 102, 103, 104, 105, 106, 107, 108, 109, 110, 111, 112, 113, 114, 115, 116, 117, 118] (by decide +kernel) (by decide +kernel)
set_option maxRecDepth 20000 in
theorem gX9_image_X8_copyFrom : GoodIn wsX9_image (wsV RX9 246 RX8 yX8_copyFrom wsX8_copyFrom) := goodIn_app (goodIn_of _ (by decide +kernel)) ggX9_image_X8_copyFrom
theorem dX9_image_0 : decode cX9_image 0 = .ok (.iload_n 1, 1) := by decide +kernel
theorem dX9_image_1 : decode cX9_image 1 = .ok (.ifCond .lt 8, 3) := by decide +kernel
theorem dX9_image_4 : decode cX9_image 4 = .ok (.iload_n 1, 1) := by decide +kernel
theorem dX9_image_5 : decode cX9_image 5 = .ok (.iconst 3, 1) := by decide +kernel
theorem dX9_image_6 : decode cX9_image 6 = .ok (.if_icmp .lt 5, 3) := by decide +kernel
theorem dX9_image_9 : decode cX9_image 9 = .ok (.iconst 0, 1) := by decide +kernel
theorem dX9_image_10 : decode cX9_image 10 = .ok (.ireturn, 1) := by decide +kernel
theorem dX9_image_11 : decode cX9_image 11 = .ok (.aload_n 0, 1) := by decide +kernel
theorem dX9_image_12 : decode cX9_image 12 = .ok (.getfield 16, 3) := by decide +kernel
theorem dX9_image_15 : decode cX9_image 15 = .ok (.iload_n 1, 1) := by decide +kernel
theorem dX9_image_16 : decode cX9_image 16 = .ok (.aaload, 1) := by decide +kernel
theorem dX9_image_17 : decode cX9_image 17 = .ok (.astore_n 2, 1) := by decide +kernel
theorem dX9_image_18 : decode cX9_image 18 = .ok (.aload_n 2, 1) := by decide +kernel
theorem dX9_image_19 : decode cX9_image 19 = .ok (.ifnonnull 18, 3) := by decide +kernel
theorem dX9_image_22 : decode cX9_image 22 = .ok (.new 7, 3) := by decide +kernel
theorem dX9_image_25 : decode cX9_image 25 = .ok (.dup, 1) := by decide +kernel
theorem dX9_image_26 : decode cX9_image 26 = .ok (.invokespecial 9, 3) := by decide +kernel
theorem dX9_image_29 : decode cX9_image 29 = .ok (.astore_n 2, 1) := by decide +kernel
theorem dX9_image_30 : decode cX9_image 30 = .ok (.aload_n 0, 1) := by decide +kernel
theorem dX9_image_31 : decode cX9_image 31 = .ok (.getfield 16, 3) := by decide +kernel
theorem dX9_image_34 : decode cX9_image 34 = .ok (.iload_n 1, 1) := by decide +kernel
theorem dX9_image_35 : decode cX9_image 35 = .ok (.aload_n 2, 1) := by decide +kernel
theorem dX9_image_36 : decode cX9_image 36 = .ok (.aastore, 1) := by decide +kernel
theorem dX9_image_37 : decode cX9_image 37 = .ok (.aload_n 2, 1) := by decide +kernel
theorem dX9_image_38 : decode cX9_image 38 = .ok (.aload_n 0, 1) := by decide +kernel
theorem dX9_image_39 : decode cX9_image 39 = .ok (.getfield 10, 3) := by decide +kernel
theorem dX9_image_42 : decode cX9_image 42 = .ok (.invokevirtual 246, 3) := by decide +kernel
theorem dX9_image_45 : decode cX9_image 45 = .ok (.iconst 1, 1) := by decide +kernel
theorem dX9_image_46 : decode cX9_image 46 = .ok (.ireturn, 1) := by decide +kernel
set_option maxRecDepth 20000 in
theorem ggX9_again_X8_copyFrom : GoodIn wsX9_again wsX8_copyFrom := goodIn_r _ [7, 8, 9, 10, 11, 12, 13, 14, 15, 16, 17, 18, 19, 20, 21, 22, 23, 24, 25, 26, 27, 28, 29, 30, 31, 32, 33, 34, 35, 36, 37, 38, 39, 40, 41, 42, 43, 44, 45, 46, 47, 48, 49, 50, 51, 52, 53, 54, 55, 56, 57, 58, 66, 67, 68, 69, 70, 71, 72, 73, 74, 75, 76, 77, 78, 79, 80, 81, 82, 83, 84, 85, 86, 87, 88, 89, 90, 91, 92, 93, 94] (by decide +kernel) (by decide +kernel)
set_option maxRecDepth 20000 in
theorem gX9_again_X8_copyFrom : GoodIn wsX9_again (wsV RX9 246 RX8 yX8_copyFrom wsX8_copyFrom) := goodIn_app (goodIn_of _ (by decide +kernel)) ggX9_again_X8_copyFrom
theorem dX9_again_0 : decode cX9_again 0 = .ok (.iload_n 1, 1) := by decide +kernel
theorem dX9_again_1 : decode cX9_again 1 = .ok (.ifCond .lt 8, 3) := by decide +kernel
theorem dX9_again_4 : decode cX9_again 4 = .ok (.iload_n 1, 1) := by decide +kernel
theorem dX9_again_5 : decode cX9_again 5 = .ok (.iconst 3, 1) := by decide +kernel
theorem dX9_again_6 : decode cX9_again 6 = .ok (.if_icmp .lt 5, 3) := by decide +kernel
theorem dX9_again_9 : decode cX9_again 9 = .ok (.iconst 0, 1) := by decide +kernel
theorem dX9_again_10 : decode cX9_again 10 = .ok (.ireturn, 1) := by decide +kernel
theorem dX9_again_11 : decode cX9_again 11 = .ok (.aload_n 0, 1) := by decide +kernel
theorem dX9_again_12 : decode cX9_again 12 = .ok (.getfield 16, 3) := by decide +kernel
theorem dX9_again_15 : decode cX9_again 15 = .ok (.iload_n 1, 1) := by decide +kernel
theorem dX9_again_16 : decode cX9_again 16 = .ok (.aaload, 1) := by decide +kernel
theorem dX9_again_17 : decode cX9_again 17 = .ok (.astore_n 2, 1) := by decide +kernel
theorem dX9_again_18 : decode cX9_again 18 = .ok (.aload_n 2, 1) := by decide +kernel
theorem dX9_again_19 : decode cX9_again 19 = .ok (.ifnonnull 5, 3) := by decide +kernel
theorem dX9_again_22 : decode cX9_again 22 = .ok (.iconst 0, 1) := by decide +kernel
theorem dX9_again_23 : decode cX9_again 23 = .ok (.ireturn, 1) := by decide +kernel
theorem dX9_again_24 : decode cX9_again 24 = .ok (.aload_n 0, 1) := by decide +kernel
theorem dX9_again_25 : decode cX9_again 25 = .ok (.getfield 10, 3) := by decide +kernel
theorem dX9_again_28 : decode cX9_again 28 = .ok (.aload_n 2, 1) := by decide +kernel
theorem dX9_again_29 : decode cX9_again 29 = .ok (.invokevirtual 246, 3) := by decide +kernel
theorem dX9_again_32 : decode cX9_again 32 = .ok (.iconst 1, 1) := by decide +kernel
theorem dX9_again_33 : decode cX9_again 33 = .ok (.ireturn, 1) := by decide +kernel
