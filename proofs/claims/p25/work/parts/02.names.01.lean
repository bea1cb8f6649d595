theorem goodIn_r {big : List Cond} (ws : List Cond) (ps : List Nat) (hp : ws = ps.filterMap (fun i => big[i]?)) (h : ws.all goodWord = true) : GoodIn big ws := by
  intro w hw
  have h1 := List.all_eq_true.mp h w hw
  rw [hp] at hw
  obtain ⟨i, -, hi⟩ := List.mem_filterMap.mp hw
  have hm : w ∈ big := by first | exact List.mem_of_getElem? hi | exact List.getElem?_mem hi
  exact ⟨hm, good_of_word h1⟩
theorem goodIn_app {big a b : List Cond} (ha : GoodIn big a) (hb : GoodIn big b) : GoodIn big (a ++ b) := fun w h => (List.mem_append.mp h).elim (ha w) (hb w)
abbrev wsX00 : List Cond := u_ws RX0 TX0 2
theorem nmX0 : ∀ a, a < 2 → ∀ b, b < 2 → a ≠ b → (TX0 a).2.1 ≠ (TX0 b).2.1 := by decide +kernel
theorem tyX0_ok : ∀ k, k < 2 → parseFieldDescriptor (TX0 k).2.2.1 = some (tyX0 k) := by decide +kernel
abbrev cX0_copyFrom : ByteArray := prog_2_method_2_code
def yX0_copyFrom : MethodName := ⟨RX0, "copyFrom", "(LClapBank$Book;)V"⟩
abbrev cX0_addDeed : ByteArray := prog_2_method_3_code
def yX0_addDeed : MethodName := ⟨RX0, "addDeed", "(IIII)V"⟩
abbrev cX0_part : ByteArray := prog_2_method_4_code
def yX0_part : MethodName := ⟨RX0, "part", "(II)I"⟩
abbrev cX0_isOf : ByteArray := prog_2_method_5_code
def yX0_isOf : MethodName := ⟨RX0, "isOf", "(II)Z"⟩
abbrev wsX10 : List Cond := u_ws RX1 TX1 2
theorem nmX1 : ∀ a, a < 2 → ∀ b, b < 2 → a ≠ b → (TX1 a).2.1 ≠ (TX1 b).2.1 := by decide +kernel
theorem tyX1_ok : ∀ k, k < 2 → parseFieldDescriptor (TX1 k).2.2.1 = some (tyX1 k) := by decide +kernel
abbrev cX1_copyFrom : ByteArray := prog_3_method_2_code
def yX1_copyFrom : MethodName := ⟨RX1, "copyFrom", "(LClapBank$Dark;)V"⟩
abbrev cX1_addMinute : ByteArray := prog_3_method_3_code
def yX1_addMinute : MethodName := ⟨RX1, "addMinute", "(I)V"⟩
abbrev cX1_hasMinute : ByteArray := prog_3_method_4_code
def yX1_hasMinute : MethodName := ⟨RX1, "hasMinute", "(I)Z"⟩
abbrev wsX70 : List Cond := u_ws RX7 TX7 12
theorem nmX7 : ∀ a, a < 12 → ∀ b, b < 12 → a ≠ b → (TX7 a).2.1 ≠ (TX7 b).2.1 := by decide +kernel
theorem tyX7_ok : ∀ k, k < 12 → parseFieldDescriptor (TX7 k).2.2.1 = some (tyX7 k) := by decide +kernel
abbrev cX7_clear : ByteArray := prog_9_method_2_code
def yX7_clear : MethodName := ⟨RX7, "clear", "()V"⟩
abbrev cX7_copyFrom : ByteArray := prog_9_method_3_code
def yX7_copyFrom : MethodName := ⟨RX7, "copyFrom", "(LClapBank$Theatre;)V"⟩
abbrev cX7_addPalm : ByteArray := prog_9_method_4_code
def yX7_addPalm : MethodName := ⟨RX7, "addPalm", "(II)V"⟩
abbrev cX7_addActor : ByteArray := prog_9_method_5_code
def yX7_addActor : MethodName := ⟨RX7, "addActor", "(II)V"⟩
abbrev cX7_addUsurer : ByteArray := prog_9_method_6_code
def yX7_addUsurer : MethodName := ⟨RX7, "addUsurer", "(II)V"⟩
abbrev cX7_tell : ByteArray := prog_9_method_7_code
def yX7_tell : MethodName := ⟨RX7, "tell", "(I)I"⟩
abbrev cX7_tellWhole : ByteArray := prog_9_method_8_code
def yX7_tellWhole : MethodName := ⟨RX7, "tellWhole", "(I)I"⟩
abbrev wsX80 : List Cond := u_ws RX8 TX8 13
theorem nmX8 : ∀ a, a < 13 → ∀ b, b < 13 → a ≠ b → (TX8 a).2.1 ≠ (TX8 b).2.1 := by decide +kernel
theorem tyX8_ok : ∀ k, k < 13 → parseFieldDescriptor (TX8 k).2.2.1 = some (tyX8 k) := by decide +kernel
abbrev cX8_append : ByteArray := prog_10_method_2_code
def yX8_append : MethodName := ⟨RX8, "append", "(I)V"⟩
abbrev cX8_howMany : ByteArray := prog_10_method_3_code
def yX8_howMany : MethodName := ⟨RX8, "howMany", "(I)I"⟩
abbrev cX8_theatreAt : ByteArray := prog_10_method_4_code
def yX8_theatreAt : MethodName := ⟨RX8, "theatreAt", "(I)LClapBank$Theatre;"⟩
abbrev cX8_bookAt : ByteArray := prog_10_method_5_code
def yX8_bookAt : MethodName := ⟨RX8, "bookAt", "(I)LClapBank$Book;"⟩
abbrev cX8_darkAt : ByteArray := prog_10_method_6_code
def yX8_darkAt : MethodName := ⟨RX8, "darkAt", "(I)LClapBank$Dark;"⟩
def wsX0_copyFrom : List Cond := .code yX0_copyFrom cX0_copyFrom 2 none :: ([.fieldLink RX0 15 "ClapBank$Book" "deeds" "I", .fieldLink RX0 9 "ClapBank$Book" "parts" "[I", .methodLink RX0 19 arraycopyName, .native arraycopyName, .static arraycopyName, .initialized "java/lang/System"] ++ wsX00)
def wsX0_addDeed : List Cond := .code yX0_addDeed cX0_addDeed 6 none :: ([.fieldLink RX0 15 "ClapBank$Book" "deeds" "I", .fieldLink RX0 9 "ClapBank$Book" "parts" "[I"] ++ wsX00)
def wsX0_part : List Cond := .code yX0_part cX0_part 3 (some .int) :: ([.fieldLink RX0 9 "ClapBank$Book" "parts" "[I"] ++ wsX00)
def wsX0_isOf : List Cond := .code yX0_isOf cX0_isOf 5 (some .boolean) :: ([.methodLink RX0 25 yX0_part, .instanceMethod yX0_part, .selects RX0 yX0_part yX0_part, .initialized RX0, .code yX0_part cX0_part 3 (some .int), .fieldLink RX0 9 "ClapBank$Book" "parts" "[I"] ++ wsX00)
def wsX1_copyFrom : List Cond := .code yX1_copyFrom cX1_copyFrom 2 none :: ([.fieldLink RX1 15 "ClapBank$Dark" "minutes" "I", .fieldLink RX1 9 "ClapBank$Dark" "halves" "[I", .methodLink RX1 19 arraycopyName, .native arraycopyName, .static arraycopyName, .initialized "java/lang/System"] ++ wsX10)
def wsX1_addMinute : List Cond := .code yX1_addMinute cX1_addMinute 2 none :: ([.fieldLink RX1 15 "ClapBank$Dark" "minutes" "I", .fieldLink RX1 9 "ClapBank$Dark" "halves" "[I"] ++ wsX10)
def wsX1_hasMinute : List Cond := .code yX1_hasMinute cX1_hasMinute 2 (some .boolean) :: ([.fieldLink RX1 15 "ClapBank$Dark" "minutes" "I"] ++ wsX10)
def wsX7_clear : List Cond := .code yX7_clear cX7_clear 1 none :: ([.fieldLink RX7 30 "ClapBank$Theatre" "palms" "I", .fieldLink RX7 34 "ClapBank$Theatre" "actors" "I", .fieldLink RX7 37 "ClapBank$Theatre" "usurers" "I", .fieldLink RX7 40 "ClapBank$Theatre" "rate" "I", .fieldLink RX7 43 "ClapBank$Theatre" "chest" "I", .fieldLink RX7 46 "ClapBank$Theatre" "borrowers" "I"] ++ wsX70)
def wsX7_addPalm : List Cond := .code yX7_addPalm cX7_addPalm 3 none :: ([.fieldLink RX7 30 "ClapBank$Theatre" "palms" "I", .fieldLink RX7 9 "ClapBank$Theatre" "claps" "[I", .fieldLink RX7 15 "ClapBank$Theatre" "hands" "[I"] ++ wsX70)
def wsX7_addActor : List Cond := .code yX7_addActor cX7_addActor 3 none :: ([.fieldLink RX7 34 "ClapBank$Theatre" "actors" "I", .fieldLink RX7 18 "ClapBank$Theatre" "hunger" "[I", .fieldLink RX7 21 "ClapBank$Theatre" "saved" "[I"] ++ wsX70)
def wsX7_addUsurer : List Cond := .code yX7_addUsurer cX7_addUsurer 3 none :: ([.fieldLink RX7 37 "ClapBank$Theatre" "usurers" "I", .fieldLink RX7 24 "ClapBank$Theatre" "asks" "[I", .fieldLink RX7 27 "ClapBank$Theatre" "floors" "[I"] ++ wsX70)
def wsX7_copyFrom : List Cond := .code yX7_copyFrom cX7_copyFrom 2 none :: ([.fieldLink RX7 30 "ClapBank$Theatre" "palms" "I", .fieldLink RX7 34 "ClapBank$Theatre" "actors" "I", .fieldLink RX7 37 "ClapBank$Theatre" "usurers" "I", .fieldLink RX7 40 "ClapBank$Theatre" "rate" "I", .fieldLink RX7 43 "ClapBank$Theatre" "chest" "I", .fieldLink RX7 46 "ClapBank$Theatre" "borrowers" "I", .fieldLink RX7 9 "ClapBank$Theatre" "claps" "[I", .methodLink RX7 49 arraycopyName, .native arraycopyName, .static arraycopyName, .initialized "java/lang/System", .fieldLink RX7 15 "ClapBank$Theatre" "hands" "[I", .fieldLink RX7 18 "ClapBank$Theatre" "hunger" "[I", .fieldLink RX7 21 "ClapBank$Theatre" "saved" "[I", .fieldLink RX7 24 "ClapBank$Theatre" "asks" "[I", .fieldLink RX7 27 "ClapBank$Theatre" "floors" "[I"] ++ wsX70)
def wsX7_tellWhole : List Cond := .code yX7_tellWhole cX7_tellWhole 2 (some .int) :: ([.fieldLink RX7 30 "ClapBank$Theatre" "palms" "I", .fieldLink RX7 34 "ClapBank$Theatre" "actors" "I", .fieldLink RX7 40 "ClapBank$Theatre" "rate" "I", .fieldLink RX7 43 "ClapBank$Theatre" "chest" "I", .fieldLink RX7 37 "ClapBank$Theatre" "usurers" "I", .fieldLink RX7 46 "ClapBank$Theatre" "borrowers" "I"] ++ wsX70)
def wsX7_tell : List Cond := .code yX7_tell cX7_tell 3 (some .int) :: ([.fieldLink RX7 30 "ClapBank$Theatre" "palms" "I", .fieldLink RX7 9 "ClapBank$Theatre" "claps" "[I", .fieldLink RX7 15 "ClapBank$Theatre" "hands" "[I", .fieldLink RX7 34 "ClapBank$Theatre" "actors" "I", .fieldLink RX7 18 "ClapBank$Theatre" "hunger" "[I", .fieldLink RX7 21 "ClapBank$Theatre" "saved" "[I", .fieldLink RX7 37 "ClapBank$Theatre" "usurers" "I", .fieldLink RX7 24 "ClapBank$Theatre" "asks" "[I", .fieldLink RX7 27 "ClapBank$Theatre" "floors" "[I", .methodLink RX7 55 yX7_tellWhole, .instanceMethod yX7_tellWhole, .selects RX7 yX7_tellWhole yX7_tellWhole, .initialized RX7, .code yX7_tellWhole cX7_tellWhole 2 (some .int), .fieldLink RX7 40 "ClapBank$Theatre" "rate" "I", .fieldLink RX7 43 "ClapBank$Theatre" "chest" "I", .fieldLink RX7 46 "ClapBank$Theatre" "borrowers" "I"] ++ wsX70)
def wsX8_append : List Cond := .code yX8_append cX8_append 3 none :: ([.fieldLink RX8 49 "ClapBank$Told" "length" "I", .fieldLink RX8 9 "ClapBank$Told" "tape" "[B"] ++ wsX80)
def wsX8_howMany : List Cond := .code yX8_howMany cX8_howMany 2 (some .int) :: ([.fieldLink RX8 52 "ClapBank$Told" "theatres" "I", .fieldLink RX8 55 "ClapBank$Told" "books" "I", .fieldLink RX8 58 "ClapBank$Told" "darks" "I"] ++ wsX80)
def wsX8_theatreAt : List Cond := .code yX8_theatreAt cX8_theatreAt 2 (some (.object "ClapBank$Theatre")) :: ([.fieldLink RX8 52 "ClapBank$Told" "theatres" "I", .fieldLink RX8 22 "ClapBank$Told" "firstTheatre" "LClapBank$Theatre;", .fieldLink RX8 26 "ClapBank$Told" "secondTheatre" "LClapBank$Theatre;"] ++ wsX80)
def wsX8_bookAt : List Cond := .code yX8_bookAt cX8_bookAt 2 (some (.object "ClapBank$Book")) :: ([.fieldLink RX8 55 "ClapBank$Told" "books" "I", .fieldLink RX8 32 "ClapBank$Told" "firstBook" "LClapBank$Book;", .fieldLink RX8 36 "ClapBank$Told" "secondBook" "LClapBank$Book;"] ++ wsX80)
def wsX8_darkAt : List Cond := .code yX8_darkAt cX8_darkAt 2 (some (.object "ClapBank$Dark")) :: ([.fieldLink RX8 58 "ClapBank$Told" "darks" "I", .fieldLink RX8 42 "ClapBank$Told" "firstDark" "LClapBank$Dark;", .fieldLink RX8 46 "ClapBank$Told" "secondDark" "LClapBank$Dark;"] ++ wsX80)
theorem dX0_copyFrom_0 : decode cX0_copyFrom 0 = .ok (.aload_n 0, 1) := by decide +kernel
theorem dX0_copyFrom_1 : decode cX0_copyFrom 1 = .ok (.aload_n 1, 1) := by decide +kernel
theorem dX0_copyFrom_2 : decode cX0_copyFrom 2 = .ok (.getfield 15, 3) := by decide +kernel
theorem dX0_copyFrom_5 : decode cX0_copyFrom 5 = .ok (.putfield 15, 3) := by decide +kernel
theorem dX0_copyFrom_8 : decode cX0_copyFrom 8 = .ok (.aload_n 1, 1) := by decide +kernel
theorem dX0_copyFrom_9 : decode cX0_copyFrom 9 = .ok (.getfield 9, 3) := by decide +kernel
theorem dX0_copyFrom_12 : decode cX0_copyFrom 12 = .ok (.iconst 0, 1) := by decide +kernel
theorem dX0_copyFrom_13 : decode cX0_copyFrom 13 = .ok (.aload_n 0, 1) := by decide +kernel
theorem dX0_copyFrom_14 : decode cX0_copyFrom 14 = .ok (.getfield 9, 3) := by decide +kernel
theorem dX0_copyFrom_17 : decode cX0_copyFrom 17 = .ok (.iconst 0, 1) := by decide +kernel
theorem dX0_copyFrom_18 : decode cX0_copyFrom 18 = .ok (.bipush 120, 2) := by decide +kernel
theorem dX0_copyFrom_20 : decode cX0_copyFrom 20 = .ok (.invokestatic 19, 3) := by decide +kernel
theorem dX0_copyFrom_23 : decode cX0_copyFrom 23 = .ok (.return_, 1) := by decide +kernel
theorem dX0_addDeed_0 : decode cX0_addDeed 0 = .ok (.aload_n 0, 1) := by decide +kernel
theorem dX0_addDeed_1 : decode cX0_addDeed 1 = .ok (.getfield 15, 3) := by decide +kernel
theorem dX0_addDeed_4 : decode cX0_addDeed 4 = .ok (.bipush 30, 2) := by decide +kernel
theorem dX0_addDeed_6 : decode cX0_addDeed 6 = .ok (.if_icmp .ge 60, 3) := by decide +kernel
theorem dX0_addDeed_9 : decode cX0_addDeed 9 = .ok (.aload_n 0, 1) := by decide +kernel
theorem dX0_addDeed_10 : decode cX0_addDeed 10 = .ok (.getfield 15, 3) := by decide +kernel
theorem dX0_addDeed_13 : decode cX0_addDeed 13 = .ok (.iconst 4, 1) := by decide +kernel
theorem dX0_addDeed_14 : decode cX0_addDeed 14 = .ok (.imul, 1) := by decide +kernel
theorem dX0_addDeed_15 : decode cX0_addDeed 15 = .ok (.istore 5, 2) := by decide +kernel
theorem dX0_addDeed_17 : decode cX0_addDeed 17 = .ok (.aload_n 0, 1) := by decide +kernel
theorem dX0_addDeed_18 : decode cX0_addDeed 18 = .ok (.getfield 9, 3) := by decide +kernel
theorem dX0_addDeed_21 : decode cX0_addDeed 21 = .ok (.iload 5, 2) := by decide +kernel
theorem dX0_addDeed_23 : decode cX0_addDeed 23 = .ok (.iload_n 1, 1) := by decide +kernel
theorem dX0_addDeed_24 : decode cX0_addDeed 24 = .ok (.iastore, 1) := by decide +kernel
theorem dX0_addDeed_25 : decode cX0_addDeed 25 = .ok (.aload_n 0, 1) := by decide +kernel
theorem dX0_addDeed_26 : decode cX0_addDeed 26 = .ok (.getfield 9, 3) := by decide +kernel
theorem dX0_addDeed_29 : decode cX0_addDeed 29 = .ok (.iload 5, 2) := by decide +kernel
theorem dX0_addDeed_31 : decode cX0_addDeed 31 = .ok (.iconst 1, 1) := by decide +kernel
theorem dX0_addDeed_32 : decode cX0_addDeed 32 = .ok (.iadd, 1) := by decide +kernel
theorem dX0_addDeed_33 : decode cX0_addDeed 33 = .ok (.iload_n 2, 1) := by decide +kernel
theorem dX0_addDeed_34 : decode cX0_addDeed 34 = .ok (.iastore, 1) := by decide +kernel
theorem dX0_addDeed_35 : decode cX0_addDeed 35 = .ok (.aload_n 0, 1) := by decide +kernel
theorem dX0_addDeed_36 : decode cX0_addDeed 36 = .ok (.getfield 9, 3) := by decide +kernel
theorem dX0_addDeed_39 : decode cX0_addDeed 39 = .ok (.iload 5, 2) := by decide +kernel
theorem dX0_addDeed_41 : decode cX0_addDeed 41 = .ok (.iconst 2, 1) := by decide +kernel
theorem dX0_addDeed_42 : decode cX0_addDeed 42 = .ok (.iadd, 1) := by decide +kernel
theorem dX0_addDeed_43 : decode cX0_addDeed 43 = .ok (.iload_n 3, 1) := by decide +kernel
theorem dX0_addDeed_44 : decode cX0_addDeed 44 = .ok (.iastore, 1) := by decide +kernel
theorem dX0_addDeed_45 : decode cX0_addDeed 45 = .ok (.aload_n 0, 1) := by decide +kernel
theorem dX0_addDeed_46 : decode cX0_addDeed 46 = .ok (.getfield 9, 3) := by decide +kernel
theorem dX0_addDeed_49 : decode cX0_addDeed 49 = .ok (.iload 5, 2) := by decide +kernel
theorem dX0_addDeed_51 : decode cX0_addDeed 51 = .ok (.iconst 3, 1) := by decide +kernel
theorem dX0_addDeed_52 : decode cX0_addDeed 52 = .ok (.iadd, 1) := by decide +kernel
theorem dX0_addDeed_53 : decode cX0_addDeed 53 = .ok (.iload 4, 2) := by decide +kernel
theorem dX0_addDeed_55 : decode cX0_addDeed 55 = .ok (.iastore, 1) := by decide +kernel
theorem dX0_addDeed_56 : decode cX0_addDeed 56 = .ok (.aload_n 0, 1) := by decide +kernel
theorem dX0_addDeed_57 : decode cX0_addDeed 57 = .ok (.dup, 1) := by decide +kernel
theorem dX0_addDeed_58 : decode cX0_addDeed 58 = .ok (.getfield 15, 3) := by decide +kernel
theorem dX0_addDeed_61 : decode cX0_addDeed 61 = .ok (.iconst 1, 1) := by decide +kernel
theorem dX0_addDeed_62 : decode cX0_addDeed 62 = .ok (.iadd, 1) := by decide +kernel
theorem dX0_addDeed_63 : decode cX0_addDeed 63 = .ok (.putfield 15, 3) := by decide +kernel
theorem dX0_addDeed_66 : decode cX0_addDeed 66 = .ok (.return_, 1) := by decide +kernel
theorem dX0_part_0 : decode cX0_part 0 = .ok (.aload_n 0, 1) := by decide +kernel
theorem dX0_part_1 : decode cX0_part 1 = .ok (.getfield 9, 3) := by decide +kernel
theorem dX0_part_4 : decode cX0_part 4 = .ok (.iload_n 1, 1) := by decide +kernel
theorem dX0_part_5 : decode cX0_part 5 = .ok (.iconst 4, 1) := by decide +kernel
theorem dX0_part_6 : decode cX0_part 6 = .ok (.imul, 1) := by decide +kernel
theorem dX0_part_7 : decode cX0_part 7 = .ok (.iload_n 2, 1) := by decide +kernel
theorem dX0_part_8 : decode cX0_part 8 = .ok (.iadd, 1) := by decide +kernel
theorem dX0_part_9 : decode cX0_part 9 = .ok (.iaload, 1) := by decide +kernel
theorem dX0_part_10 : decode cX0_part 10 = .ok (.ireturn, 1) := by decide +kernel
set_option maxRecDepth 20000 in
theorem ggX0_isOf_X0_part : GoodIn wsX0_isOf wsX0_part := goodIn_r _ [5, 6, 7, 8] (by decide +kernel) (by decide +kernel)
set_option maxRecDepth 20000 in
theorem gX0_isOf_X0_part : GoodIn wsX0_isOf (wsV RX0 25 RX0 yX0_part wsX0_part) := goodIn_app (goodIn_of _ (by decide +kernel)) ggX0_isOf_X0_part
theorem dX0_isOf_0 : decode cX0_isOf 0 = .ok (.aload_n 0, 1) := by decide +kernel
theorem dX0_isOf_1 : decode cX0_isOf 1 = .ok (.iload_n 1, 1) := by decide +kernel
theorem dX0_isOf_2 : decode cX0_isOf 2 = .ok (.iconst 0, 1) := by decide +kernel
theorem dX0_isOf_3 : decode cX0_isOf 3 = .ok (.invokevirtual 25, 3) := by decide +kernel
theorem dX0_isOf_6 : decode cX0_isOf 6 = .ok (.istore_n 3, 1) := by decide +kernel
theorem dX0_isOf_7 : decode cX0_isOf 7 = .ok (.iload_n 3, 1) := by decide +kernel
theorem dX0_isOf_8 : decode cX0_isOf 8 = .ok (.iconst 1, 1) := by decide +kernel
theorem dX0_isOf_9 : decode cX0_isOf 9 = .ok (.if_icmp .eq 8, 3) := by decide +kernel
theorem dX0_isOf_12 : decode cX0_isOf 12 = .ok (.iload_n 3, 1) := by decide +kernel
theorem dX0_isOf_13 : decode cX0_isOf 13 = .ok (.iconst 2, 1) := by decide +kernel
theorem dX0_isOf_14 : decode cX0_isOf 14 = .ok (.if_icmp .ne 7, 3) := by decide +kernel
theorem dX0_isOf_17 : decode cX0_isOf 17 = .ok (.iconst 1, 1) := by decide +kernel
theorem dX0_isOf_18 : decode cX0_isOf 18 = .ok (.goto 4, 3) := by decide +kernel
theorem dX0_isOf_21 : decode cX0_isOf 21 = .ok (.iconst 0, 1) := by decide +kernel
theorem dX0_isOf_22 : decode cX0_isOf 22 = .ok (.istore 4, 2) := by decide +kernel
theorem dX0_isOf_24 : decode cX0_isOf 24 = .ok (.iload 4, 2) := by decide +kernel
theorem dX0_isOf_26 : decode cX0_isOf 26 = .ok (.ifCond .ne 7, 3) := by decide +kernel
theorem dX0_isOf_29 : decode cX0_isOf 29 = .ok (.iload_n 3, 1) := by decide +kernel
theorem dX0_isOf_30 : decode cX0_isOf 30 = .ok (.ifCond .ne 13, 3) := by decide +kernel
theorem dX0_isOf_33 : decode cX0_isOf 33 = .ok (.aload_n 0, 1) := by decide +kernel
theorem dX0_isOf_34 : decode cX0_isOf 34 = .ok (.iload_n 1, 1) := by decide +kernel
theorem dX0_isOf_35 : decode cX0_isOf 35 = .ok (.iconst 1, 1) := by decide +kernel
theorem dX0_isOf_36 : decode cX0_isOf 36 = .ok (.invokevirtual 25, 3) := by decide +kernel
theorem dX0_isOf_39 : decode cX0_isOf 39 = .ok (.iload_n 2, 1) := by decide +kernel
theorem dX0_isOf_40 : decode cX0_isOf 40 = .ok (.if_icmp .eq 18, 3) := by decide +kernel
theorem dX0_isOf_43 : decode cX0_isOf 43 = .ok (.iload 4, 2) := by decide +kernel
theorem dX0_isOf_45 : decode cX0_isOf 45 = .ok (.ifCond .eq 17, 3) := by decide +kernel
theorem dX0_isOf_48 : decode cX0_isOf 48 = .ok (.aload_n 0, 1) := by decide +kernel
theorem dX0_isOf_49 : decode cX0_isOf 49 = .ok (.iload_n 1, 1) := by decide +kernel
theorem dX0_isOf_50 : decode cX0_isOf 50 = .ok (.iconst 2, 1) := by decide +kernel
theorem dX0_isOf_51 : decode cX0_isOf 51 = .ok (.invokevirtual 25, 3) := by decide +kernel
theorem dX0_isOf_54 : decode cX0_isOf 54 = .ok (.iload_n 2, 1) := by decide +kernel
theorem dX0_isOf_55 : decode cX0_isOf 55 = .ok (.if_icmp .ne 7, 3) := by decide +kernel
theorem dX0_isOf_58 : decode cX0_isOf 58 = .ok (.iconst 1, 1) := by decide +kernel
theorem dX0_isOf_59 : decode cX0_isOf 59 = .ok (.goto 4, 3) := by decide +kernel
theorem dX0_isOf_62 : decode cX0_isOf 62 = .ok (.iconst 0, 1) := by decide +kernel
theorem dX0_isOf_63 : decode cX0_isOf 63 = .ok (.ireturn, 1) := by decide +kernel
theorem dX1_copyFrom_0 : decode cX1_copyFrom 0 = .ok (.aload_n 0, 1) := by decide +kernel
theorem dX1_copyFrom_1 : decode cX1_copyFrom 1 = .ok (.aload_n 1, 1) := by decide +kernel
theorem dX1_copyFrom_2 : decode cX1_copyFrom 2 = .ok (.getfield 15, 3) := by decide +kernel
theorem dX1_copyFrom_5 : decode cX1_copyFrom 5 = .ok (.putfield 15, 3) := by decide +kernel
theorem dX1_copyFrom_8 : decode cX1_copyFrom 8 = .ok (.aload_n 1, 1) := by decide +kernel
theorem dX1_copyFrom_9 : decode cX1_copyFrom 9 = .ok (.getfield 9, 3) := by decide +kernel
theorem dX1_copyFrom_12 : decode cX1_copyFrom 12 = .ok (.iconst 0, 1) := by decide +kernel
theorem dX1_copyFrom_13 : decode cX1_copyFrom 13 = .ok (.aload_n 0, 1) := by decide +kernel
theorem dX1_copyFrom_14 : decode cX1_copyFrom 14 = .ok (.getfield 9, 3) := by decide +kernel
theorem dX1_copyFrom_17 : decode cX1_copyFrom 17 = .ok (.iconst 0, 1) := by decide +kernel
theorem dX1_copyFrom_18 : decode cX1_copyFrom 18 = .ok (.bipush 6, 2) := by decide +kernel
theorem dX1_copyFrom_20 : decode cX1_copyFrom 20 = .ok (.invokestatic 19, 3) := by decide +kernel
theorem dX1_copyFrom_23 : decode cX1_copyFrom 23 = .ok (.return_, 1) := by decide +kernel
theorem dX1_addMinute_0 : decode cX1_addMinute 0 = .ok (.aload_n 0, 1) := by decide +kernel
theorem dX1_addMinute_1 : decode cX1_addMinute 1 = .ok (.getfield 15, 3) := by decide +kernel
theorem dX1_addMinute_4 : decode cX1_addMinute 4 = .ok (.bipush 6, 2) := by decide +kernel
theorem dX1_addMinute_6 : decode cX1_addMinute 6 = .ok (.if_icmp .ge 23, 3) := by decide +kernel
theorem dX1_addMinute_9 : decode cX1_addMinute 9 = .ok (.aload_n 0, 1) := by decide +kernel
theorem dX1_addMinute_10 : decode cX1_addMinute 10 = .ok (.getfield 9, 3) := by decide +kernel
theorem dX1_addMinute_13 : decode cX1_addMinute 13 = .ok (.aload_n 0, 1) := by decide +kernel
theorem dX1_addMinute_14 : decode cX1_addMinute 14 = .ok (.getfield 15, 3) := by decide +kernel
theorem dX1_addMinute_17 : decode cX1_addMinute 17 = .ok (.iload_n 1, 1) := by decide +kernel
theorem dX1_addMinute_18 : decode cX1_addMinute 18 = .ok (.iastore, 1) := by decide +kernel
theorem dX1_addMinute_19 : decode cX1_addMinute 19 = .ok (.aload_n 0, 1) := by decide +kernel
theorem dX1_addMinute_20 : decode cX1_addMinute 20 = .ok (.dup, 1) := by decide +kernel
theorem dX1_addMinute_21 : decode cX1_addMinute 21 = .ok (.getfield 15, 3) := by decide +kernel
theorem dX1_addMinute_24 : decode cX1_addMinute 24 = .ok (.iconst 1, 1) := by decide +kernel
theorem dX1_addMinute_25 : decode cX1_addMinute 25 = .ok (.iadd, 1) := by decide +kernel
theorem dX1_addMinute_26 : decode cX1_addMinute 26 = .ok (.putfield 15, 3) := by decide +kernel
theorem dX1_addMinute_29 : decode cX1_addMinute 29 = .ok (.return_, 1) := by decide +kernel
theorem dX1_hasMinute_0 : decode cX1_hasMinute 0 = .ok (.iload_n 1, 1) := by decide +kernel
theorem dX1_hasMinute_1 : decode cX1_hasMinute 1 = .ok (.ifCond .lt 15, 3) := by decide +kernel
theorem dX1_hasMinute_4 : decode cX1_hasMinute 4 = .ok (.iload_n 1, 1) := by decide +kernel
theorem dX1_hasMinute_5 : decode cX1_hasMinute 5 = .ok (.aload_n 0, 1) := by decide +kernel
theorem dX1_hasMinute_6 : decode cX1_hasMinute 6 = .ok (.getfield 15, 3) := by decide +kernel
theorem dX1_hasMinute_9 : decode cX1_hasMinute 9 = .ok (.if_icmp .ge 7, 3) := by decide +kernel
theorem dX1_hasMinute_12 : decode cX1_hasMinute 12 = .ok (.iconst 1, 1) := by decide +kernel
theorem dX1_hasMinute_13 : decode cX1_hasMinute 13 = .ok (.goto 4, 3) := by decide +kernel
theorem dX1_hasMinute_16 : decode cX1_hasMinute 16 = .ok (.iconst 0, 1) := by decide +kernel
theorem dX1_hasMinute_17 : decode cX1_hasMinute 17 = .ok (.ireturn, 1) := by decide +kernel
theorem dX7_clear_0 : decode cX7_clear 0 = .ok (.aload_n 0, 1) := by decide +kernel
theorem dX7_clear_1 : decode cX7_clear 1 = .ok (.iconst 0, 1) := by decide +kernel
theorem dX7_clear_2 : decode cX7_clear 2 = .ok (.putfield 30, 3) := by decide +kernel
theorem dX7_clear_5 : decode cX7_clear 5 = .ok (.aload_n 0, 1) := by decide +kernel
theorem dX7_clear_6 : decode cX7_clear 6 = .ok (.iconst 0, 1) := by decide +kernel
theorem dX7_clear_7 : decode cX7_clear 7 = .ok (.putfield 34, 3) := by decide +kernel
theorem dX7_clear_10 : decode cX7_clear 10 = .ok (.aload_n 0, 1) := by decide +kernel
theorem dX7_clear_11 : decode cX7_clear 11 = .ok (.iconst 0, 1) := by decide +kernel
theorem dX7_clear_12 : decode cX7_clear 12 = .ok (.putfield 37, 3) := by decide +kernel
theorem dX7_clear_15 : decode cX7_clear 15 = .ok (.aload_n 0, 1) := by decide +kernel
theorem dX7_clear_16 : decode cX7_clear 16 = .ok (.iconst 0, 1) := by decide +kernel
theorem dX7_clear_17 : decode cX7_clear 17 = .ok (.putfield 40, 3) := by decide +kernel
theorem dX7_clear_20 : decode cX7_clear 20 = .ok (.aload_n 0, 1) := by decide +kernel
theorem dX7_clear_21 : decode cX7_clear 21 = .ok (.sipush 999, 3) := by decide +kernel
theorem dX7_clear_24 : decode cX7_clear 24 = .ok (.putfield 43, 3) := by decide +kernel
theorem dX7_clear_27 : decode cX7_clear 27 = .ok (.aload_n 0, 1) := by decide +kernel
theorem dX7_clear_28 : decode cX7_clear 28 = .ok (.iconst 0, 1) := by decide +kernel
theorem dX7_clear_29 : decode cX7_clear 29 = .ok (.putfield 46, 3) := by decide +kernel
theorem dX7_clear_32 : decode cX7_clear 32 = .ok (.return_, 1) := by decide +kernel
theorem dX7_copyFrom_0 : decode cX7_copyFrom 0 = .ok (.aload_n 0, 1) := by decide +kernel
theorem dX7_copyFrom_1 : decode cX7_copyFrom 1 = .ok (.aload_n 1, 1) := by decide +kernel
theorem dX7_copyFrom_2 : decode cX7_copyFrom 2 = .ok (.getfield 30, 3) := by decide +kernel
theorem dX7_copyFrom_5 : decode cX7_copyFrom 5 = .ok (.putfield 30, 3) := by decide +kernel
theorem dX7_copyFrom_8 : decode cX7_copyFrom 8 = .ok (.aload_n 0, 1) := by decide +kernel
theorem dX7_copyFrom_9 : decode cX7_copyFrom 9 = .ok (.aload_n 1, 1) := by decide +kernel
theorem dX7_copyFrom_10 : decode cX7_copyFrom 10 = .ok (.getfield 34, 3) := by decide +kernel
theorem dX7_copyFrom_13 : decode cX7_copyFrom 13 = .ok (.putfield 34, 3) := by decide +kernel
theorem dX7_copyFrom_16 : decode cX7_copyFrom 16 = .ok (.aload_n 0, 1) := by decide +kernel
theorem dX7_copyFrom_17 : decode cX7_copyFrom 17 = .ok (.aload_n 1, 1) := by decide +kernel
theorem dX7_copyFrom_18 : decode cX7_copyFrom 18 = .ok (.getfield 37, 3) := by decide +kernel
theorem dX7_copyFrom_21 : decode cX7_copyFrom 21 = .ok (.putfield 37, 3) := by decide +kernel
theorem dX7_copyFrom_24 : decode cX7_copyFrom 24 = .ok (.aload_n 0, 1) := by decide +kernel
theorem dX7_copyFrom_25 : decode cX7_copyFrom 25 = .ok (.aload_n 1, 1) := by decide +kernel
theorem dX7_copyFrom_26 : decode cX7_copyFrom 26 = .ok (.getfield 40, 3) := by decide +kernel
theorem dX7_copyFrom_29 : decode cX7_copyFrom 29 = .ok (.putfield 40, 3) := by decide +kernel
theorem dX7_copyFrom_32 : decode cX7_copyFrom 32 = .ok (.aload_n 0, 1) := by decide +kernel
theorem dX7_copyFrom_33 : decode cX7_copyFrom 33 = .ok (.aload_n 1, 1) := by decide +kernel
theorem dX7_copyFrom_34 : decode cX7_copyFrom 34 = .ok (.getfield 43, 3) := by decide +kernel
theorem dX7_copyFrom_37 : decode cX7_copyFrom 37 = .ok (.putfield 43, 3) := by decide +kernel
theorem dX7_copyFrom_40 : decode cX7_copyFrom 40 = .ok (.aload_n 0, 1) := by decide +kernel
theorem dX7_copyFrom_41 : decode cX7_copyFrom 41 = .ok (.aload_n 1, 1) := by decide +kernel
theorem dX7_copyFrom_42 : decode cX7_copyFrom 42 = .ok (.getfield 46, 3) := by decide +kernel
theorem dX7_copyFrom_45 : decode cX7_copyFrom 45 = .ok (.putfield 46, 3) := by decide +kernel
theorem dX7_copyFrom_48 : decode cX7_copyFrom 48 = .ok (.aload_n 1, 1) := by decide +kernel
theorem dX7_copyFrom_49 : decode cX7_copyFrom 49 = .ok (.getfield 9, 3) := by decide +kernel
theorem dX7_copyFrom_52 : decode cX7_copyFrom 52 = .ok (.iconst 0, 1) := by decide +kernel
theorem dX7_copyFrom_53 : decode cX7_copyFrom 53 = .ok (.aload_n 0, 1) := by decide +kernel
theorem dX7_copyFrom_54 : decode cX7_copyFrom 54 = .ok (.getfield 9, 3) := by decide +kernel
theorem dX7_copyFrom_57 : decode cX7_copyFrom 57 = .ok (.iconst 0, 1) := by decide +kernel
theorem dX7_copyFrom_58 : decode cX7_copyFrom 58 = .ok (.iconst 5, 1) := by decide +kernel
theorem dX7_copyFrom_59 : decode cX7_copyFrom 59 = .ok (.invokestatic 49, 3) := by decide +kernel
theorem dX7_copyFrom_62 : decode cX7_copyFrom 62 = .ok (.aload_n 1, 1) := by decide +kernel
theorem dX7_copyFrom_63 : decode cX7_copyFrom 63 = .ok (.getfield 15, 3) := by decide +kernel
theorem dX7_copyFrom_66 : decode cX7_copyFrom 66 = .ok (.iconst 0, 1) := by decide +kernel
theorem dX7_copyFrom_67 : decode cX7_copyFrom 67 = .ok (.aload_n 0, 1) := by decide +kernel
theorem dX7_copyFrom_68 : decode cX7_copyFrom 68 = .ok (.getfield 15, 3) := by decide +kernel
theorem dX7_copyFrom_71 : decode cX7_copyFrom 71 = .ok (.iconst 0, 1) := by decide +kernel
theorem dX7_copyFrom_72 : decode cX7_copyFrom 72 = .ok (.iconst 5, 1) := by decide +kernel
theorem dX7_copyFrom_73 : decode cX7_copyFrom 73 = .ok (.invokestatic 49, 3) := by decide +kernel
theorem dX7_copyFrom_76 : decode cX7_copyFrom 76 = .ok (.aload_n 1, 1) := by decide +kernel
theorem dX7_copyFrom_77 : decode cX7_copyFrom 77 = .ok (.getfield 18, 3) := by decide +kernel
theorem dX7_copyFrom_80 : decode cX7_copyFrom 80 = .ok (.iconst 0, 1) := by decide +kernel
theorem dX7_copyFrom_81 : decode cX7_copyFrom 81 = .ok (.aload_n 0, 1) := by decide +kernel
theorem dX7_copyFrom_82 : decode cX7_copyFrom 82 = .ok (.getfield 18, 3) := by decide +kernel
theorem dX7_copyFrom_85 : decode cX7_copyFrom 85 = .ok (.iconst 0, 1) := by decide +kernel
theorem dX7_copyFrom_86 : decode cX7_copyFrom 86 = .ok (.bipush 6, 2) := by decide +kernel
theorem dX7_copyFrom_88 : decode cX7_copyFrom 88 = .ok (.invokestatic 49, 3) := by decide +kernel
theorem dX7_copyFrom_91 : decode cX7_copyFrom 91 = .ok (.aload_n 1, 1) := by decide +kernel
theorem dX7_copyFrom_92 : decode cX7_copyFrom 92 = .ok (.getfield 21, 3) := by decide +kernel
theorem dX7_copyFrom_95 : decode cX7_copyFrom 95 = .ok (.iconst 0, 1) := by decide +kernel
theorem dX7_copyFrom_96 : decode cX7_copyFrom 96 = .ok (.aload_n 0, 1) := by decide +kernel
theorem dX7_copyFrom_97 : decode cX7_copyFrom 97 = .ok (.getfield 21, 3) := by decide +kernel
theorem dX7_copyFrom_100 : decode cX7_copyFrom 100 = .ok (.iconst 0, 1) := by decide +kernel
theorem dX7_copyFrom_101 : decode cX7_copyFrom 101 = .ok (.bipush 6, 2) := by decide +kernel
theorem dX7_copyFrom_103 : decode cX7_copyFrom 103 = .ok (.invokestatic 49, 3) := by decide +kernel
theorem dX7_copyFrom_106 : decode cX7_copyFrom 106 = .ok (.aload_n 1, 1) := by decide +kernel
theorem dX7_copyFrom_107 : decode cX7_copyFrom 107 = .ok (.getfield 24, 3) := by decide +kernel
theorem dX7_copyFrom_110 : decode cX7_copyFrom 110 = .ok (.iconst 0, 1) := by decide +kernel
theorem dX7_copyFrom_111 : decode cX7_copyFrom 111 = .ok (.aload_n 0, 1) := by decide +kernel
theorem dX7_copyFrom_112 : decode cX7_copyFrom 112 = .ok (.getfield 24, 3) := by decide +kernel
theorem dX7_copyFrom_115 : decode cX7_copyFrom 115 = .ok (.iconst 0, 1) := by decide +kernel
theorem dX7_copyFrom_116 : decode cX7_copyFrom 116 = .ok (.iconst 4, 1) := by decide +kernel
theorem dX7_copyFrom_117 : decode cX7_copyFrom 117 = .ok (.invokestatic 49, 3) := by decide +kernel
theorem dX7_copyFrom_120 : decode cX7_copyFrom 120 = .ok (.aload_n 1, 1) := by decide +kernel
theorem dX7_copyFrom_121 : decode cX7_copyFrom 121 = .ok (.getfield 27, 3) := by decide +kernel
theorem dX7_copyFrom_124 : decode cX7_copyFrom 124 = .ok (.iconst 0, 1) := by decide +kernel
theorem dX7_copyFrom_125 : decode cX7_copyFrom 125 = .ok (.aload_n 0, 1) := by decide +kernel
theorem dX7_copyFrom_126 : decode cX7_copyFrom 126 = .ok (.getfield 27, 3) := by decide +kernel
theorem dX7_copyFrom_129 : decode cX7_copyFrom 129 = .ok (.iconst 0, 1) := by decide +kernel
theorem dX7_copyFrom_130 : decode cX7_copyFrom 130 = .ok (.iconst 4, 1) := by decide +kernel
theorem dX7_copyFrom_131 : decode cX7_copyFrom 131 = .ok (.invokestatic 49, 3) := by decide +kernel
theorem dX7_copyFrom_134 : decode cX7_copyFrom 134 = .ok (.return_, 1) := by decide +kernel
theorem dX7_addPalm_0 : decode cX7_addPalm 0 = .ok (.aload_n 0, 1) := by decide +kernel
theorem dX7_addPalm_1 : decode cX7_addPalm 1 = .ok (.getfield 30, 3) := by decide +kernel
theorem dX7_addPalm_4 : decode cX7_addPalm 4 = .ok (.iconst 5, 1) := by decide +kernel
theorem dX7_addPalm_5 : decode cX7_addPalm 5 = .ok (.if_icmp .ge 33, 3) := by decide +kernel
theorem dX7_addPalm_8 : decode cX7_addPalm 8 = .ok (.aload_n 0, 1) := by decide +kernel
theorem dX7_addPalm_9 : decode cX7_addPalm 9 = .ok (.getfield 9, 3) := by decide +kernel
theorem dX7_addPalm_12 : decode cX7_addPalm 12 = .ok (.aload_n 0, 1) := by decide +kernel
theorem dX7_addPalm_13 : decode cX7_addPalm 13 = .ok (.getfield 30, 3) := by decide +kernel
theorem dX7_addPalm_16 : decode cX7_addPalm 16 = .ok (.iload_n 1, 1) := by decide +kernel
theorem dX7_addPalm_17 : decode cX7_addPalm 17 = .ok (.iastore, 1) := by decide +kernel
theorem dX7_addPalm_18 : decode cX7_addPalm 18 = .ok (.aload_n 0, 1) := by decide +kernel
theorem dX7_addPalm_19 : decode cX7_addPalm 19 = .ok (.getfield 15, 3) := by decide +kernel
theorem dX7_addPalm_22 : decode cX7_addPalm 22 = .ok (.aload_n 0, 1) := by decide +kernel
theorem dX7_addPalm_23 : decode cX7_addPalm 23 = .ok (.getfield 30, 3) := by decide +kernel
theorem dX7_addPalm_26 : decode cX7_addPalm 26 = .ok (.iload_n 2, 1) := by decide +kernel
theorem dX7_addPalm_27 : decode cX7_addPalm 27 = .ok (.iastore, 1) := by decide +kernel
theorem dX7_addPalm_28 : decode cX7_addPalm 28 = .ok (.aload_n 0, 1) := by decide +kernel
theorem dX7_addPalm_29 : decode cX7_addPalm 29 = .ok (.dup, 1) := by decide +kernel
theorem dX7_addPalm_30 : decode cX7_addPalm 30 = .ok (.getfield 30, 3) := by decide +kernel
theorem dX7_addPalm_33 : decode cX7_addPalm 33 = .ok (.iconst 1, 1) := by decide +kernel
theorem dX7_addPalm_34 : decode cX7_addPalm 34 = .ok (.iadd, 1) := by decide +kernel
theorem dX7_addPalm_35 : decode cX7_addPalm 35 = .ok (.putfield 30, 3) := by decide +kernel
theorem dX7_addPalm_38 : decode cX7_addPalm 38 = .ok (.return_, 1) := by decide +kernel
theorem dX7_addActor_0 : decode cX7_addActor 0 = .ok (.aload_n 0, 1) := by decide +kernel
theorem dX7_addActor_1 : decode cX7_addActor 1 = .ok (.getfield 34, 3) := by decide +kernel
theorem dX7_addActor_4 : decode cX7_addActor 4 = .ok (.bipush 6, 2) := by decide +kernel
theorem dX7_addActor_6 : decode cX7_addActor 6 = .ok (.if_icmp .ge 33, 3) := by decide +kernel
theorem dX7_addActor_9 : decode cX7_addActor 9 = .ok (.aload_n 0, 1) := by decide +kernel
theorem dX7_addActor_10 : decode cX7_addActor 10 = .ok (.getfield 18, 3) := by decide +kernel
theorem dX7_addActor_13 : decode cX7_addActor 13 = .ok (.aload_n 0, 1) := by decide +kernel
theorem dX7_addActor_14 : decode cX7_addActor 14 = .ok (.getfield 34, 3) := by decide +kernel
theorem dX7_addActor_17 : decode cX7_addActor 17 = .ok (.iload_n 1, 1) := by decide +kernel
theorem dX7_addActor_18 : decode cX7_addActor 18 = .ok (.iastore, 1) := by decide +kernel
theorem dX7_addActor_19 : decode cX7_addActor 19 = .ok (.aload_n 0, 1) := by decide +kernel
theorem dX7_addActor_20 : decode cX7_addActor 20 = .ok (.getfield 21, 3) := by decide +kernel
theorem dX7_addActor_23 : decode cX7_addActor 23 = .ok (.aload_n 0, 1) := by decide +kernel
theorem dX7_addActor_24 : decode cX7_addActor 24 = .ok (.getfield 34, 3) := by decide +kernel
theorem dX7_addActor_27 : decode cX7_addActor 27 = .ok (.iload_n 2, 1) := by decide +kernel
theorem dX7_addActor_28 : decode cX7_addActor 28 = .ok (.iastore, 1) := by decide +kernel
theorem dX7_addActor_29 : decode cX7_addActor 29 = .ok (.aload_n 0, 1) := by decide +kernel
theorem dX7_addActor_30 : decode cX7_addActor 30 = .ok (.dup, 1) := by decide +kernel
theorem dX7_addActor_31 : decode cX7_addActor 31 = .ok (.getfield 34, 3) := by decide +kernel
theorem dX7_addActor_34 : decode cX7_addActor 34 = .ok (.iconst 1, 1) := by decide +kernel
theorem dX7_addActor_35 : decode cX7_addActor 35 = .ok (.iadd, 1) := by decide +kernel
theorem dX7_addActor_36 : decode cX7_addActor 36 = .ok (.putfield 34, 3) := by decide +kernel
theorem dX7_addActor_39 : decode cX7_addActor 39 = .ok (.return_, 1) := by decide +kernel
theorem dX7_addUsurer_0 : decode cX7_addUsurer 0 = .ok (.aload_n 0, 1) := by decide +kernel
theorem dX7_addUsurer_1 : decode cX7_addUsurer 1 = .ok (.getfield 37, 3) := by decide +kernel
theorem dX7_addUsurer_4 : decode cX7_addUsurer 4 = .ok (.iconst 4, 1) := by decide +kernel
theorem dX7_addUsurer_5 : decode cX7_addUsurer 5 = .ok (.if_icmp .ge 33, 3) := by decide +kernel
theorem dX7_addUsurer_8 : decode cX7_addUsurer 8 = .ok (.aload_n 0, 1) := by decide +kernel
theorem dX7_addUsurer_9 : decode cX7_addUsurer 9 = .ok (.getfield 24, 3) := by decide +kernel
theorem dX7_addUsurer_12 : decode cX7_addUsurer 12 = .ok (.aload_n 0, 1) := by decide +kernel
theorem dX7_addUsurer_13 : decode cX7_addUsurer 13 = .ok (.getfield 37, 3) := by decide +kernel
theorem dX7_addUsurer_16 : decode cX7_addUsurer 16 = .ok (.iload_n 1, 1) := by decide +kernel
theorem dX7_addUsurer_17 : decode cX7_addUsurer 17 = .ok (.iastore, 1) := by decide +kernel
theorem dX7_addUsurer_18 : decode cX7_addUsurer 18 = .ok (.aload_n 0, 1) := by decide +kernel
theorem dX7_addUsurer_19 : decode cX7_addUsurer 19 = .ok (.getfield 27, 3) := by decide +kernel
theorem dX7_addUsurer_22 : decode cX7_addUsurer 22 = .ok (.aload_n 0, 1) := by decide +kernel
theorem dX7_addUsurer_23 : decode cX7_addUsurer 23 = .ok (.getfield 37, 3) := by decide +kernel
theorem dX7_addUsurer_26 : decode cX7_addUsurer 26 = .ok (.iload_n 2, 1) := by decide +kernel
theorem dX7_addUsurer_27 : decode cX7_addUsurer 27 = .ok (.iastore, 1) := by decide +kernel
theorem dX7_addUsurer_28 : decode cX7_addUsurer 28 = .ok (.aload_n 0, 1) := by decide +kernel
theorem dX7_addUsurer_29 : decode cX7_addUsurer 29 = .ok (.dup, 1) := by decide +kernel
theorem dX7_addUsurer_30 : decode cX7_addUsurer 30 = .ok (.getfield 37, 3) := by decide +kernel
theorem dX7_addUsurer_33 : decode cX7_addUsurer 33 = .ok (.iconst 1, 1) := by decide +kernel
theorem dX7_addUsurer_34 : decode cX7_addUsurer 34 = .ok (.iadd, 1) := by decide +kernel
theorem dX7_addUsurer_35 : decode cX7_addUsurer 35 = .ok (.putfield 37, 3) := by decide +kernel
theorem dX7_addUsurer_38 : decode cX7_addUsurer 38 = .ok (.return_, 1) := by decide +kernel
set_option maxRecDepth 20000 in
theorem ggX7_tell_X7_tellWhole : GoodIn wsX7_tell wsX7_tellWhole := goodIn_r _ [14, 1, 4, 15, 16, 7, 17, 18, 19, 20, 21, 22, 23, 24, 25, 26, 27, 28, 29] (by decide +kernel) (by decide +kernel)
set_option maxRecDepth 20000 in
theorem gX7_tell_X7_tellWhole : GoodIn wsX7_tell (wsV RX7 55 RX7 yX7_tellWhole wsX7_tellWhole) := goodIn_app (goodIn_of _ (by decide +kernel)) ggX7_tell_X7_tellWhole
theorem dX7_tell_0 : decode cX7_tell 0 = .ok (.iload_n 1, 1) := by decide +kernel
theorem dX7_tell_1 : decode cX7_tell 1 = .ok (.ifCond .ge 5, 3) := by decide +kernel
theorem dX7_tell_4 : decode cX7_tell 4 = .ok (.iconst (-1), 1) := by decide +kernel
theorem dX7_tell_5 : decode cX7_tell 5 = .ok (.ireturn, 1) := by decide +kernel
theorem dX7_tell_6 : decode cX7_tell 6 = .ok (.iload_n 1, 1) := by decide +kernel
theorem dX7_tell_7 : decode cX7_tell 7 = .ok (.bipush 10, 2) := by decide +kernel
theorem dX7_tell_9 : decode cX7_tell 9 = .ok (.irem, 1) := by decide +kernel
theorem dX7_tell_10 : decode cX7_tell 10 = .ok (.istore_n 2, 1) := by decide +kernel
theorem dX7_tell_11 : decode cX7_tell 11 = .ok (.iload_n 1, 1) := by decide +kernel
theorem dX7_tell_12 : decode cX7_tell 12 = .ok (.bipush 10, 2) := by decide +kernel
theorem dX7_tell_14 : decode cX7_tell 14 = .ok (.idiv, 1) := by decide +kernel
theorem dX7_tell_15 : decode cX7_tell 15 = .ok (.tableswitch 161 0 6 #[41, 47, 66, 85, 104, 123, 142], 41) := by decide +kernel
theorem dX7_tell_56 : decode cX7_tell 56 = .ok (.aload_n 0, 1) := by decide +kernel
theorem dX7_tell_57 : decode cX7_tell 57 = .ok (.iload_n 2, 1) := by decide +kernel
theorem dX7_tell_58 : decode cX7_tell 58 = .ok (.invokevirtual 55, 3) := by decide +kernel
theorem dX7_tell_61 : decode cX7_tell 61 = .ok (.ireturn, 1) := by decide +kernel
theorem dX7_tell_62 : decode cX7_tell 62 = .ok (.iload_n 2, 1) := by decide +kernel
theorem dX7_tell_63 : decode cX7_tell 63 = .ok (.aload_n 0, 1) := by decide +kernel
theorem dX7_tell_64 : decode cX7_tell 64 = .ok (.getfield 30, 3) := by decide +kernel
theorem dX7_tell_67 : decode cX7_tell 67 = .ok (.if_icmp .ge 12, 3) := by decide +kernel
theorem dX7_tell_70 : decode cX7_tell 70 = .ok (.aload_n 0, 1) := by decide +kernel
theorem dX7_tell_71 : decode cX7_tell 71 = .ok (.getfield 9, 3) := by decide +kernel
theorem dX7_tell_74 : decode cX7_tell 74 = .ok (.iload_n 2, 1) := by decide +kernel
theorem dX7_tell_75 : decode cX7_tell 75 = .ok (.iaload, 1) := by decide +kernel
theorem dX7_tell_76 : decode cX7_tell 76 = .ok (.goto 4, 3) := by decide +kernel
theorem dX7_tell_79 : decode cX7_tell 79 = .ok (.iconst (-1), 1) := by decide +kernel
theorem dX7_tell_80 : decode cX7_tell 80 = .ok (.ireturn, 1) := by decide +kernel
theorem dX7_tell_81 : decode cX7_tell 81 = .ok (.iload_n 2, 1) := by decide +kernel
theorem dX7_tell_82 : decode cX7_tell 82 = .ok (.aload_n 0, 1) := by decide +kernel
theorem dX7_tell_83 : decode cX7_tell 83 = .ok (.getfield 30, 3) := by decide +kernel
theorem dX7_tell_86 : decode cX7_tell 86 = .ok (.if_icmp .ge 12, 3) := by decide +kernel
theorem dX7_tell_89 : decode cX7_tell 89 = .ok (.aload_n 0, 1) := by decide +kernel
theorem dX7_tell_90 : decode cX7_tell 90 = .ok (.getfield 15, 3) := by decide +kernel
theorem dX7_tell_93 : decode cX7_tell 93 = .ok (.iload_n 2, 1) := by decide +kernel
theorem dX7_tell_94 : decode cX7_tell 94 = .ok (.iaload, 1) := by decide +kernel
theorem dX7_tell_95 : decode cX7_tell 95 = .ok (.goto 4, 3) := by decide +kernel
theorem dX7_tell_98 : decode cX7_tell 98 = .ok (.iconst (-1), 1) := by decide +kernel
theorem dX7_tell_99 : decode cX7_tell 99 = .ok (.ireturn, 1) := by decide +kernel
theorem dX7_tell_100 : decode cX7_tell 100 = .ok (.iload_n 2, 1) := by decide +kernel
theorem dX7_tell_101 : decode cX7_tell 101 = .ok (.aload_n 0, 1) := by decide +kernel
theorem dX7_tell_102 : decode cX7_tell 102 = .ok (.getfield 34, 3) := by decide +kernel
theorem dX7_tell_105 : decode cX7_tell 105 = .ok (.if_icmp .ge 12, 3) := by decide +kernel
theorem dX7_tell_108 : decode cX7_tell 108 = .ok (.aload_n 0, 1) := by decide +kernel
theorem dX7_tell_109 : decode cX7_tell 109 = .ok (.getfield 18, 3) := by decide +kernel
theorem dX7_tell_112 : decode cX7_tell 112 = .ok (.iload_n 2, 1) := by decide +kernel
theorem dX7_tell_113 : decode cX7_tell 113 = .ok (.iaload, 1) := by decide +kernel
theorem dX7_tell_114 : decode cX7_tell 114 = .ok (.goto 4, 3) := by decide +kernel
theorem dX7_tell_117 : decode cX7_tell 117 = .ok (.iconst (-1), 1) := by decide +kernel
theorem dX7_tell_118 : decode cX7_tell 118 = .ok (.ireturn, 1) := by decide +kernel
theorem dX7_tell_119 : decode cX7_tell 119 = .ok (.iload_n 2, 1) := by decide +kernel
theorem dX7_tell_120 : decode cX7_tell 120 = .ok (.aload_n 0, 1) := by decide +kernel
theorem dX7_tell_121 : decode cX7_tell 121 = .ok (.getfield 34, 3) := by decide +kernel
theorem dX7_tell_124 : decode cX7_tell 124 = .ok (.if_icmp .ge 12, 3) := by decide +kernel
theorem dX7_tell_127 : decode cX7_tell 127 = .ok (.aload_n 0, 1) := by decide +kernel
theorem dX7_tell_128 : decode cX7_tell 128 = .ok (.getfield 21, 3) := by decide +kernel
theorem dX7_tell_131 : decode cX7_tell 131 = .ok (.iload_n 2, 1) := by decide +kernel
theorem dX7_tell_132 : decode cX7_tell 132 = .ok (.iaload, 1) := by decide +kernel
theorem dX7_tell_133 : decode cX7_tell 133 = .ok (.goto 4, 3) := by decide +kernel
theorem dX7_tell_136 : decode cX7_tell 136 = .ok (.iconst (-1), 1) := by decide +kernel
theorem dX7_tell_137 : decode cX7_tell 137 = .ok (.ireturn, 1) := by decide +kernel
theorem dX7_tell_138 : decode cX7_tell 138 = .ok (.iload_n 2, 1) := by decide +kernel
theorem dX7_tell_139 : decode cX7_tell 139 = .ok (.aload_n 0, 1) := by decide +kernel
theorem dX7_tell_140 : decode cX7_tell 140 = .ok (.getfield 37, 3) := by decide +kernel
theorem dX7_tell_143 : decode cX7_tell 143 = .ok (.if_icmp .ge 12, 3) := by decide +kernel
theorem dX7_tell_146 : decode cX7_tell 146 = .ok (.aload_n 0, 1) := by decide +kernel
theorem dX7_tell_147 : decode cX7_tell 147 = .ok (.getfield 24, 3) := by decide +kernel
theorem dX7_tell_150 : decode cX7_tell 150 = .ok (.iload_n 2, 1) := by decide +kernel
theorem dX7_tell_151 : decode cX7_tell 151 = .ok (.iaload, 1) := by decide +kernel
theorem dX7_tell_152 : decode cX7_tell 152 = .ok (.goto 4, 3) := by decide +kernel
theorem dX7_tell_155 : decode cX7_tell 155 = .ok (.iconst (-1), 1) := by decide +kernel
theorem dX7_tell_156 : decode cX7_tell 156 = .ok (.ireturn, 1) := by decide +kernel
theorem dX7_tell_157 : decode cX7_tell 157 = .ok (.iload_n 2, 1) := by decide +kernel
theorem dX7_tell_158 : decode cX7_tell 158 = .ok (.aload_n 0, 1) := by decide +kernel
theorem dX7_tell_159 : decode cX7_tell 159 = .ok (.getfield 37, 3) := by decide +kernel
theorem dX7_tell_162 : decode cX7_tell 162 = .ok (.if_icmp .ge 12, 3) := by decide +kernel
theorem dX7_tell_165 : decode cX7_tell 165 = .ok (.aload_n 0, 1) := by decide +kernel
theorem dX7_tell_166 : decode cX7_tell 166 = .ok (.getfield 27, 3) := by decide +kernel
theorem dX7_tell_169 : decode cX7_tell 169 = .ok (.iload_n 2, 1) := by decide +kernel
theorem dX7_tell_170 : decode cX7_tell 170 = .ok (.iaload, 1) := by decide +kernel
theorem dX7_tell_171 : decode cX7_tell 171 = .ok (.goto 4, 3) := by decide +kernel
theorem dX7_tell_174 : decode cX7_tell 174 = .ok (.iconst (-1), 1) := by decide +kernel
theorem dX7_tell_175 : decode cX7_tell 175 = .ok (.ireturn, 1) := by decide +kernel
theorem dX7_tell_176 : decode cX7_tell 176 = .ok (.iconst (-1), 1) := by decide +kernel
theorem dX7_tell_177 : decode cX7_tell 177 = .ok (.ireturn, 1) := by decide +kernel
theorem dX7_tellWhole_0 : decode cX7_tellWhole 0 = .ok (.iload_n 1, 1) := by decide +kernel
theorem dX7_tellWhole_1 : decode cX7_tellWhole 1 = .ok (.tableswitch 69 0 5 #[39, 44, 49, 54, 59, 64], 39) := by decide +kernel
theorem dX7_tellWhole_40 : decode cX7_tellWhole 40 = .ok (.aload_n 0, 1) := by decide +kernel
theorem dX7_tellWhole_41 : decode cX7_tellWhole 41 = .ok (.getfield 30, 3) := by decide +kernel
theorem dX7_tellWhole_44 : decode cX7_tellWhole 44 = .ok (.ireturn, 1) := by decide +kernel
theorem dX7_tellWhole_45 : decode cX7_tellWhole 45 = .ok (.aload_n 0, 1) := by decide +kernel
theorem dX7_tellWhole_46 : decode cX7_tellWhole 46 = .ok (.getfield 34, 3) := by decide +kernel
theorem dX7_tellWhole_49 : decode cX7_tellWhole 49 = .ok (.ireturn, 1) := by decide +kernel
theorem dX7_tellWhole_50 : decode cX7_tellWhole 50 = .ok (.aload_n 0, 1) := by decide +kernel
theorem dX7_tellWhole_51 : decode cX7_tellWhole 51 = .ok (.getfield 40, 3) := by decide +kernel
theorem dX7_tellWhole_54 : decode cX7_tellWhole 54 = .ok (.ireturn, 1) := by decide +kernel
theorem dX7_tellWhole_55 : decode cX7_tellWhole 55 = .ok (.aload_n 0, 1) := by decide +kernel
theorem dX7_tellWhole_56 : decode cX7_tellWhole 56 = .ok (.getfield 43, 3) := by decide +kernel
theorem dX7_tellWhole_59 : decode cX7_tellWhole 59 = .ok (.ireturn, 1) := by decide +kernel
theorem dX7_tellWhole_60 : decode cX7_tellWhole 60 = .ok (.aload_n 0, 1) := by decide +kernel
theorem dX7_tellWhole_61 : decode cX7_tellWhole 61 = .ok (.getfield 37, 3) := by decide +kernel
theorem dX7_tellWhole_64 : decode cX7_tellWhole 64 = .ok (.ireturn, 1) := by decide +kernel
theorem dX7_tellWhole_65 : decode cX7_tellWhole 65 = .ok (.aload_n 0, 1) := by decide +kernel
theorem dX7_tellWhole_66 : decode cX7_tellWhole 66 = .ok (.getfield 46, 3) := by decide +kernel
theorem dX7_tellWhole_69 : decode cX7_tellWhole 69 = .ok (.ireturn, 1) := by decide +kernel
theorem dX7_tellWhole_70 : decode cX7_tellWhole 70 = .ok (.iconst (-1), 1) := by decide +kernel
theorem dX7_tellWhole_71 : decode cX7_tellWhole 71 = .ok (.ireturn, 1) := by decide +kernel
theorem dX8_append_0 : decode cX8_append 0 = .ok (.bipush 24, 2) := by decide +kernel
theorem dX8_append_2 : decode cX8_append 2 = .ok (.istore_n 2, 1) := by decide +kernel
theorem dX8_append_3 : decode cX8_append 3 = .ok (.iload_n 2, 1) := by decide +kernel
theorem dX8_append_4 : decode cX8_append 4 = .ok (.ifCond .lt 42, 3) := by decide +kernel
theorem dX8_append_7 : decode cX8_append 7 = .ok (.aload_n 0, 1) := by decide +kernel
theorem dX8_append_8 : decode cX8_append 8 = .ok (.getfield 49, 3) := by decide +kernel
theorem dX8_append_11 : decode cX8_append 11 = .ok (.sipush 600, 3) := by decide +kernel
theorem dX8_append_14 : decode cX8_append 14 = .ok (.if_icmp .ge 32, 3) := by decide +kernel
theorem dX8_append_17 : decode cX8_append 17 = .ok (.aload_n 0, 1) := by decide +kernel
theorem dX8_append_18 : decode cX8_append 18 = .ok (.getfield 9, 3) := by decide +kernel
theorem dX8_append_21 : decode cX8_append 21 = .ok (.aload_n 0, 1) := by decide +kernel
theorem dX8_append_22 : decode cX8_append 22 = .ok (.getfield 49, 3) := by decide +kernel
theorem dX8_append_25 : decode cX8_append 25 = .ok (.iload_n 1, 1) := by decide +kernel
theorem dX8_append_26 : decode cX8_append 26 = .ok (.iload_n 2, 1) := by decide +kernel
theorem dX8_append_27 : decode cX8_append 27 = .ok (.iushr, 1) := by decide +kernel
theorem dX8_append_28 : decode cX8_append 28 = .ok (.i2b, 1) := by decide +kernel
theorem dX8_append_29 : decode cX8_append 29 = .ok (.bastore, 1) := by decide +kernel
theorem dX8_append_30 : decode cX8_append 30 = .ok (.aload_n 0, 1) := by decide +kernel
theorem dX8_append_31 : decode cX8_append 31 = .ok (.dup, 1) := by decide +kernel
theorem dX8_append_32 : decode cX8_append 32 = .ok (.getfield 49, 3) := by decide +kernel
theorem dX8_append_35 : decode cX8_append 35 = .ok (.iconst 1, 1) := by decide +kernel
theorem dX8_append_36 : decode cX8_append 36 = .ok (.iadd, 1) := by decide +kernel
theorem dX8_append_37 : decode cX8_append 37 = .ok (.putfield 49, 3) := by decide +kernel
theorem dX8_append_40 : decode cX8_append 40 = .ok (.iinc 2 (-8), 3) := by decide +kernel
theorem dX8_append_43 : decode cX8_append 43 = .ok (.goto (-40), 3) := by decide +kernel
theorem dX8_append_46 : decode cX8_append 46 = .ok (.return_, 1) := by decide +kernel
theorem dX8_howMany_0 : decode cX8_howMany 0 = .ok (.iload_n 1, 1) := by decide +kernel
theorem dX8_howMany_1 : decode cX8_howMany 1 = .ok (.tableswitch 42 0 2 #[27, 32, 37], 27) := by decide +kernel
theorem dX8_howMany_28 : decode cX8_howMany 28 = .ok (.aload_n 0, 1) := by decide +kernel
theorem dX8_howMany_29 : decode cX8_howMany 29 = .ok (.getfield 52, 3) := by decide +kernel
theorem dX8_howMany_32 : decode cX8_howMany 32 = .ok (.ireturn, 1) := by decide +kernel
theorem dX8_howMany_33 : decode cX8_howMany 33 = .ok (.aload_n 0, 1) := by decide +kernel
theorem dX8_howMany_34 : decode cX8_howMany 34 = .ok (.getfield 55, 3) := by decide +kernel
theorem dX8_howMany_37 : decode cX8_howMany 37 = .ok (.ireturn, 1) := by decide +kernel
theorem dX8_howMany_38 : decode cX8_howMany 38 = .ok (.aload_n 0, 1) := by decide +kernel
theorem dX8_howMany_39 : decode cX8_howMany 39 = .ok (.getfield 58, 3) := by decide +kernel
theorem dX8_howMany_42 : decode cX8_howMany 42 = .ok (.ireturn, 1) := by decide +kernel
theorem dX8_howMany_43 : decode cX8_howMany 43 = .ok (.bipush (-2), 2) := by decide +kernel
theorem dX8_howMany_45 : decode cX8_howMany 45 = .ok (.ireturn, 1) := by decide +kernel
theorem dX8_theatreAt_0 : decode cX8_theatreAt 0 = .ok (.iload_n 1, 1) := by decide +kernel
theorem dX8_theatreAt_1 : decode cX8_theatreAt 1 = .ok (.ifCond .lt 11, 3) := by decide +kernel
theorem dX8_theatreAt_4 : decode cX8_theatreAt 4 = .ok (.iload_n 1, 1) := by decide +kernel
theorem dX8_theatreAt_5 : decode cX8_theatreAt 5 = .ok (.aload_n 0, 1) := by decide +kernel
theorem dX8_theatreAt_6 : decode cX8_theatreAt 6 = .ok (.getfield 52, 3) := by decide +kernel
theorem dX8_theatreAt_9 : decode cX8_theatreAt 9 = .ok (.if_icmp .lt 5, 3) := by decide +kernel
theorem dX8_theatreAt_12 : decode cX8_theatreAt 12 = .ok (.aconst_null, 1) := by decide +kernel
theorem dX8_theatreAt_13 : decode cX8_theatreAt 13 = .ok (.areturn, 1) := by decide +kernel
theorem dX8_theatreAt_14 : decode cX8_theatreAt 14 = .ok (.iload_n 1, 1) := by decide +kernel
theorem dX8_theatreAt_15 : decode cX8_theatreAt 15 = .ok (.ifCond .ne 10, 3) := by decide +kernel
theorem dX8_theatreAt_18 : decode cX8_theatreAt 18 = .ok (.aload_n 0, 1) := by decide +kernel
theorem dX8_theatreAt_19 : decode cX8_theatreAt 19 = .ok (.getfield 22, 3) := by decide +kernel
theorem dX8_theatreAt_22 : decode cX8_theatreAt 22 = .ok (.goto 7, 3) := by decide +kernel
theorem dX8_theatreAt_25 : decode cX8_theatreAt 25 = .ok (.aload_n 0, 1) := by decide +kernel
theorem dX8_theatreAt_26 : decode cX8_theatreAt 26 = .ok (.getfield 26, 3) := by decide +kernel
theorem dX8_theatreAt_29 : decode cX8_theatreAt 29 = .ok (.areturn, 1) := by decide +kernel
theorem dX8_bookAt_0 : decode cX8_bookAt 0 = .ok (.iload_n 1, 1) := by decide +kernel
theorem dX8_bookAt_1 : decode cX8_bookAt 1 = .ok (.ifCond .lt 11, 3) := by decide +kernel
theorem dX8_bookAt_4 : decode cX8_bookAt 4 = .ok (.iload_n 1, 1) := by decide +kernel
theorem dX8_bookAt_5 : decode cX8_bookAt 5 = .ok (.aload_n 0, 1) := by decide +kernel
theorem dX8_bookAt_6 : decode cX8_bookAt 6 = .ok (.getfield 55, 3) := by decide +kernel
theorem dX8_bookAt_9 : decode cX8_bookAt 9 = .ok (.if_icmp .lt 5, 3) := by decide +kernel
theorem dX8_bookAt_12 : decode cX8_bookAt 12 = .ok (.aconst_null, 1) := by decide +kernel
theorem dX8_bookAt_13 : decode cX8_bookAt 13 = .ok (.areturn, 1) := by decide +kernel
theorem dX8_bookAt_14 : decode cX8_bookAt 14 = .ok (.iload_n 1, 1) := by decide +kernel
theorem dX8_bookAt_15 : decode cX8_bookAt 15 = .ok (.ifCond .ne 10, 3) := by decide +kernel
theorem dX8_bookAt_18 : decode cX8_bookAt 18 = .ok (.aload_n 0, 1) := by decide +kernel
theorem dX8_bookAt_19 : decode cX8_bookAt 19 = .ok (.getfield 32, 3) := by decide +kernel
theorem dX8_bookAt_22 : decode cX8_bookAt 22 = .ok (.goto 7, 3) := by decide +kernel
theorem dX8_bookAt_25 : decode cX8_bookAt 25 = .ok (.aload_n 0, 1) := by decide +kernel
theorem dX8_bookAt_26 : decode cX8_bookAt 26 = .ok (.getfield 36, 3) := by decide +kernel
theorem dX8_bookAt_29 : decode cX8_bookAt 29 = .ok (.areturn, 1) := by decide +kernel
theorem dX8_darkAt_0 : decode cX8_darkAt 0 = .ok (.iload_n 1, 1) := by decide +kernel
theorem dX8_darkAt_1 : decode cX8_darkAt 1 = .ok (.ifCond .lt 11, 3) := by decide +kernel
theorem dX8_darkAt_4 : decode cX8_darkAt 4 = .ok (.iload_n 1, 1) := by decide +kernel
theorem dX8_darkAt_5 : decode cX8_darkAt 5 = .ok (.aload_n 0, 1) := by decide +kernel
theorem dX8_darkAt_6 : decode cX8_darkAt 6 = .ok (.getfield 58, 3) := by decide +kernel
theorem dX8_darkAt_9 : decode cX8_darkAt 9 = .ok (.if_icmp .lt 5, 3) := by decide +kernel
theorem dX8_darkAt_12 : decode cX8_darkAt 12 = .ok (.aconst_null, 1) := by decide +kernel
theorem dX8_darkAt_13 : decode cX8_darkAt 13 = .ok (.areturn, 1) := by decide +kernel
theorem dX8_darkAt_14 : decode cX8_darkAt 14 = .ok (.iload_n 1, 1) := by decide +kernel
theorem dX8_darkAt_15 : decode cX8_darkAt 15 = .ok (.ifCond .ne 10, 3) := by decide +kernel
theorem dX8_darkAt_18 : decode cX8_darkAt 18 = .ok (.aload_n 0, 1) := by decide +kernel
theorem dX8_darkAt_19 : decode cX8_darkAt 19 = .ok (.getfield 42, 3) := by decide +kernel
theorem dX8_darkAt_22 : decode cX8_darkAt 22 = .ok (.goto 7, 3) := by decide +kernel
theorem dX8_darkAt_25 : decode cX8_darkAt 25 = .ok (.aload_n 0, 1) := by decide +kernel
theorem dX8_darkAt_26 : decode cX8_darkAt 26 = .ok (.getfield 46, 3) := by decide +kernel
theorem dX8_darkAt_29 : decode cX8_darkAt 29 = .ok (.areturn, 1) := by decide +kernel
