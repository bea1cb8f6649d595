abbrev wsX60 : List Cond := u_ws RX6 TX6 7
theorem nmX6 : ∀ a, a < 7 → ∀ b, b < 7 → a ≠ b → (TX6 a).2.1 ≠ (TX6 b).2.1 := by decide +kernel
theorem tyX6_ok : ∀ k, k < 7 → parseFieldDescriptor (TX6 k).2.2.1 = some (tyX6 k) := by decide +kernel
abbrev cX6_begin : ByteArray := prog_8_method_2_code
def yX6_begin : MethodName := ⟨RX6, "begin", "(LClapBank$Theatre;)V"⟩
abbrev cX6_allAsks : ByteArray := prog_8_method_6_code
def yX6_allAsks : MethodName := ⟨RX6, "allAsks", "()I"⟩
def wsX6_begin : List Cond := .code yX6_begin cX6_begin 2 none :: ([.fieldLink RX6 30 "ClapBank$Rounds" "usurers" "I", .fieldLink RX6 34 "ClapBank$Rounds" "borrowers" "I", .fieldLink RX6 9 "ClapBank$Rounds" "asks" "[I", .methodLink RX6 36 arraycopyName, .native arraycopyName, .static arraycopyName, .initialized "java/lang/System", .fieldLink RX6 15 "ClapBank$Rounds" "floors" "[I", .fieldLink RX6 18 "ClapBank$Rounds" "gains" "[I", .methodLink RX6 43 yJ7_fill_53178, .static yJ7_fill_53178, .initialized RJ7, .code yJ7_fill_53178 cJ7_fill_53178 4 none] ++ wsX70 ++ wsX60)
def wsX6_allAsks : List Cond := .code yX6_allAsks cX6_allAsks 3 (some .int) :: ([.fieldLink RX6 30 "ClapBank$Rounds" "usurers" "I", .fieldLink RX6 9 "ClapBank$Rounds" "asks" "[I"] ++ wsX60)
set_option maxRecDepth 20000 in
theorem ggX6_begin_J7_fill_53178 : GoodIn wsX6_begin wsJ7_fill_53178 := goodIn_r _ [13] (by decide +kernel) (by decide +kernel)
set_option maxRecDepth 20000 in
theorem gX6_begin_J7_fill_53178 : GoodIn wsX6_begin (va_wsS RX6 43 yJ7_fill_53178 wsJ7_fill_53178) := goodIn_app (goodIn_of _ (by decide +kernel)) ggX6_begin_J7_fill_53178
theorem dX6_begin_0 : decode cX6_begin 0 = .ok (.aload_n 0, 1) := by decide +kernel
theorem dX6_begin_1 : decode cX6_begin 1 = .ok (.aload_n 1, 1) := by decide +kernel
theorem dX6_begin_2 : decode cX6_begin 2 = .ok (.getfield 24, 3) := by decide +kernel
theorem dX6_begin_5 : decode cX6_begin 5 = .ok (.putfield 30, 3) := by decide +kernel
theorem dX6_begin_8 : decode cX6_begin 8 = .ok (.aload_n 0, 1) := by decide +kernel
theorem dX6_begin_9 : decode cX6_begin 9 = .ok (.aload_n 1, 1) := by decide +kernel
theorem dX6_begin_10 : decode cX6_begin 10 = .ok (.getfield 31, 3) := by decide +kernel
theorem dX6_begin_13 : decode cX6_begin 13 = .ok (.putfield 34, 3) := by decide +kernel
theorem dX6_begin_16 : decode cX6_begin 16 = .ok (.aload_n 1, 1) := by decide +kernel
theorem dX6_begin_17 : decode cX6_begin 17 = .ok (.getfield 35, 3) := by decide +kernel
theorem dX6_begin_20 : decode cX6_begin 20 = .ok (.iconst 0, 1) := by decide +kernel
theorem dX6_begin_21 : decode cX6_begin 21 = .ok (.aload_n 0, 1) := by decide +kernel
theorem dX6_begin_22 : decode cX6_begin 22 = .ok (.getfield 9, 3) := by decide +kernel
theorem dX6_begin_25 : decode cX6_begin 25 = .ok (.iconst 0, 1) := by decide +kernel
theorem dX6_begin_26 : decode cX6_begin 26 = .ok (.iconst 4, 1) := by decide +kernel
theorem dX6_begin_27 : decode cX6_begin 27 = .ok (.invokestatic 36, 3) := by decide +kernel
theorem dX6_begin_30 : decode cX6_begin 30 = .ok (.aload_n 1, 1) := by decide +kernel
theorem dX6_begin_31 : decode cX6_begin 31 = .ok (.getfield 42, 3) := by decide +kernel
theorem dX6_begin_34 : decode cX6_begin 34 = .ok (.iconst 0, 1) := by decide +kernel
theorem dX6_begin_35 : decode cX6_begin 35 = .ok (.aload_n 0, 1) := by decide +kernel
theorem dX6_begin_36 : decode cX6_begin 36 = .ok (.getfield 15, 3) := by decide +kernel
theorem dX6_begin_39 : decode cX6_begin 39 = .ok (.iconst 0, 1) := by decide +kernel
theorem dX6_begin_40 : decode cX6_begin 40 = .ok (.iconst 4, 1) := by decide +kernel
theorem dX6_begin_41 : decode cX6_begin 41 = .ok (.invokestatic 36, 3) := by decide +kernel
theorem dX6_begin_44 : decode cX6_begin 44 = .ok (.aload_n 0, 1) := by decide +kernel
theorem dX6_begin_45 : decode cX6_begin 45 = .ok (.getfield 18, 3) := by decide +kernel
theorem dX6_begin_48 : decode cX6_begin 48 = .ok (.iconst 0, 1) := by decide +kernel
theorem dX6_begin_49 : decode cX6_begin 49 = .ok (.invokestatic 43, 3) := by decide +kernel
theorem dX6_begin_52 : decode cX6_begin 52 = .ok (.return_, 1) := by decide +kernel
theorem dX6_allAsks_0 : decode cX6_allAsks 0 = .ok (.iconst 0, 1) := by decide +kernel
theorem dX6_allAsks_1 : decode cX6_allAsks 1 = .ok (.istore_n 1, 1) := by decide +kernel
theorem dX6_allAsks_2 : decode cX6_allAsks 2 = .ok (.iconst 0, 1) := by decide +kernel
theorem dX6_allAsks_3 : decode cX6_allAsks 3 = .ok (.istore_n 2, 1) := by decide +kernel
theorem dX6_allAsks_4 : decode cX6_allAsks 4 = .ok (.iload_n 2, 1) := by decide +kernel
theorem dX6_allAsks_5 : decode cX6_allAsks 5 = .ok (.aload_n 0, 1) := by decide +kernel
theorem dX6_allAsks_6 : decode cX6_allAsks 6 = .ok (.getfield 30, 3) := by decide +kernel
theorem dX6_allAsks_9 : decode cX6_allAsks 9 = .ok (.if_icmp .ge 21, 3) := by decide +kernel
theorem dX6_allAsks_12 : decode cX6_allAsks 12 = .ok (.iload_n 1, 1) := by decide +kernel
theorem dX6_allAsks_13 : decode cX6_allAsks 13 = .ok (.bipush 32, 2) := by decide +kernel
theorem dX6_allAsks_15 : decode cX6_allAsks 15 = .ok (.imul, 1) := by decide +kernel
theorem dX6_allAsks_16 : decode cX6_allAsks 16 = .ok (.aload_n 0, 1) := by decide +kernel
theorem dX6_allAsks_17 : decode cX6_allAsks 17 = .ok (.getfield 9, 3) := by decide +kernel
theorem dX6_allAsks_20 : decode cX6_allAsks 20 = .ok (.iload_n 2, 1) := by decide +kernel
theorem dX6_allAsks_21 : decode cX6_allAsks 21 = .ok (.iaload, 1) := by decide +kernel
theorem dX6_allAsks_22 : decode cX6_allAsks 22 = .ok (.iadd, 1) := by decide +kernel
theorem dX6_allAsks_23 : decode cX6_allAsks 23 = .ok (.istore_n 1, 1) := by decide +kernel
theorem dX6_allAsks_24 : decode cX6_allAsks 24 = .ok (.iinc 2 1, 3) := by decide +kernel
theorem dX6_allAsks_27 : decode cX6_allAsks 27 = .ok (.goto (-23), 3) := by decide +kernel
theorem dX6_allAsks_30 : decode cX6_allAsks 30 = .ok (.iload_n 1, 1) := by decide +kernel
theorem dX6_allAsks_31 : decode cX6_allAsks 31 = .ok (.ireturn, 1) := by decide +kernel
