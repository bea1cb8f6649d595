abbrev cX10_copyRow : ByteArray := prog_12_method_8_code
def yX10_copyRow : MethodName := ⟨RX10, "copyRow", "([IIII)V"⟩
abbrev cX10_copyAll : ByteArray := prog_12_method_9_code
def yX10_copyAll : MethodName := ⟨RX10, "copyAll", "(II)V"⟩
abbrev cX10_image : ByteArray := prog_12_method_105_code
def yX10_image : MethodName := ⟨RX10, "image", "(I)Z"⟩
abbrev cX10_again : ByteArray := prog_12_method_106_code
def yX10_again : MethodName := ⟨RX10, "again", "(I)Z"⟩
def wsX10_copyRow : List Cond := .code yX10_copyRow cX10_copyRow 5 none :: ([])
def wsX10_copyAll : List Cond := .code yX10_copyAll cX10_copyAll 4 none :: ([.fieldLink RX10 7 "ClapBankModel" "tape" "[B", .fieldLink RX10 13 "ClapBankModel" "size" "[I", .fieldLink RX10 17 "ClapBankModel" "fault" "[I", .fieldLink RX10 20 "ClapBankModel" "faultPlace" "[I", .fieldLink RX10 23 "ClapBankModel" "many" "[I", .fieldLink RX10 26 "ClapBankModel" "theatres" "[I", .fieldLink RX10 29 "ClapBankModel" "books" "[I", .fieldLink RX10 32 "ClapBankModel" "darks" "[I", .methodLink RX10 88 yX10_copyRow, .static yX10_copyRow, .initialized RX10, .code yX10_copyRow cX10_copyRow 5 none] ++ wsX100)
def wsX10_image : List Cond := .code yX10_image cX10_image 2 (some .boolean) :: ([.fieldLink RX10 80 "ClapBankModel" "code" "I", .fieldLink RX10 76 "ClapBankModel" "kept" "[Z", .methodLink RX10 92 yX10_in, .static yX10_in, .initialized RX10, .code yX10_in cX10_in 3 (some .boolean), .methodLink RX10 452 yX10_copyAll, .instanceMethod yX10_copyAll, .selects RX10 yX10_copyAll yX10_copyAll, .code yX10_copyAll cX10_copyAll 4 none, .fieldLink RX10 7 "ClapBankModel" "tape" "[B", .fieldLink RX10 13 "ClapBankModel" "size" "[I", .fieldLink RX10 17 "ClapBankModel" "fault" "[I", .fieldLink RX10 20 "ClapBankModel" "faultPlace" "[I", .fieldLink RX10 23 "ClapBankModel" "many" "[I", .fieldLink RX10 26 "ClapBankModel" "theatres" "[I", .fieldLink RX10 29 "ClapBankModel" "books" "[I", .fieldLink RX10 32 "ClapBankModel" "darks" "[I", .methodLink RX10 88 yX10_copyRow, .static yX10_copyRow, .code yX10_copyRow cX10_copyRow 5 none] ++ wsX100)
def wsX10_again : List Cond := .code yX10_again cX10_again 2 (some .boolean) :: ([.fieldLink RX10 80 "ClapBankModel" "code" "I", .fieldLink RX10 76 "ClapBankModel" "kept" "[Z", .methodLink RX10 92 yX10_in, .static yX10_in, .initialized RX10, .code yX10_in cX10_in 3 (some .boolean), .methodLink RX10 452 yX10_copyAll, .instanceMethod yX10_copyAll, .selects RX10 yX10_copyAll yX10_copyAll, .code yX10_copyAll cX10_copyAll 4 none, .fieldLink RX10 7 "ClapBankModel" "tape" "[B", .fieldLink RX10 13 "ClapBankModel" "size" "[I", .fieldLink RX10 17 "ClapBankModel" "fault" "[I", .fieldLink RX10 20 "ClapBankModel" "faultPlace" "[I", .fieldLink RX10 23 "ClapBankModel" "many" "[I", .fieldLink RX10 26 "ClapBankModel" "theatres" "[I", .fieldLink RX10 29 "ClapBankModel" "books" "[I", .fieldLink RX10 32 "ClapBankModel" "darks" "[I", .methodLink RX10 88 yX10_copyRow, .static yX10_copyRow, .code yX10_copyRow cX10_copyRow 5 none] ++ wsX100)
theorem dX10_copyRow_0 : decode cX10_copyRow 0 = .ok (.iconst 0, 1) := by decide +kernel
theorem dX10_copyRow_1 : decode cX10_copyRow 1 = .ok (.istore 4, 2) := by decide +kernel
theorem dX10_copyRow_3 : decode cX10_copyRow 3 = .ok (.iload 4, 2) := by decide +kernel
theorem dX10_copyRow_5 : decode cX10_copyRow 5 = .ok (.iload_n 1, 1) := by decide +kernel
theorem dX10_copyRow_6 : decode cX10_copyRow 6 = .ok (.if_icmp .ge 25, 3) := by decide +kernel
theorem dX10_copyRow_9 : decode cX10_copyRow 9 = .ok (.aload_n 0, 1) := by decide +kernel
theorem dX10_copyRow_10 : decode cX10_copyRow 10 = .ok (.iload_n 1, 1) := by decide +kernel
theorem dX10_copyRow_11 : decode cX10_copyRow 11 = .ok (.iload_n 3, 1) := by decide +kernel
theorem dX10_copyRow_12 : decode cX10_copyRow 12 = .ok (.imul, 1) := by decide +kernel
theorem dX10_copyRow_13 : decode cX10_copyRow 13 = .ok (.iload 4, 2) := by decide +kernel
theorem dX10_copyRow_15 : decode cX10_copyRow 15 = .ok (.iadd, 1) := by decide +kernel
theorem dX10_copyRow_16 : decode cX10_copyRow 16 = .ok (.aload_n 0, 1) := by decide +kernel
theorem dX10_copyRow_17 : decode cX10_copyRow 17 = .ok (.iload_n 1, 1) := by decide +kernel
theorem dX10_copyRow_18 : decode cX10_copyRow 18 = .ok (.iload_n 2, 1) := by decide +kernel
theorem dX10_copyRow_19 : decode cX10_copyRow 19 = .ok (.imul, 1) := by decide +kernel
theorem dX10_copyRow_20 : decode cX10_copyRow 20 = .ok (.iload 4, 2) := by decide +kernel
theorem dX10_copyRow_22 : decode cX10_copyRow 22 = .ok (.iadd, 1) := by decide +kernel
theorem dX10_copyRow_23 : decode cX10_copyRow 23 = .ok (.iaload, 1) := by decide +kernel
theorem dX10_copyRow_24 : decode cX10_copyRow 24 = .ok (.iastore, 1) := by decide +kernel
theorem dX10_copyRow_25 : decode cX10_copyRow 25 = .ok (.iinc 4 1, 3) := by decide +kernel
theorem dX10_copyRow_28 : decode cX10_copyRow 28 = .ok (.goto (-25), 3) := by decide +kernel
theorem dX10_copyRow_31 : decode cX10_copyRow 31 = .ok (.return_, 1) := by decide +kernel
set_option maxRecDepth 20000 in
theorem ggX10_copyAll_X10_copyRow : GoodIn wsX10_copyAll wsX10_copyRow := goodIn_r _ [12] (by decide +kernel) (by decide +kernel)
set_option maxRecDepth 20000 in
theorem gX10_copyAll_X10_copyRow : GoodIn wsX10_copyAll (va_wsS RX10 88 yX10_copyRow wsX10_copyRow) := goodIn_app (goodIn_of _ (by decide +kernel)) ggX10_copyAll_X10_copyRow
theorem dX10_copyAll_0 : decode cX10_copyAll 0 = .ok (.iconst 0, 1) := by decide +kernel
theorem dX10_copyAll_1 : decode cX10_copyAll 1 = .ok (.istore_n 3, 1) := by decide +kernel
theorem dX10_copyAll_2 : decode cX10_copyAll 2 = .ok (.iload_n 3, 1) := by decide +kernel
theorem dX10_copyAll_3 : decode cX10_copyAll 3 = .ok (.sipush 600, 3) := by decide +kernel
theorem dX10_copyAll_6 : decode cX10_copyAll 6 = .ok (.if_icmp .ge 33, 3) := by decide +kernel
theorem dX10_copyAll_9 : decode cX10_copyAll 9 = .ok (.aload_n 0, 1) := by decide +kernel
theorem dX10_copyAll_10 : decode cX10_copyAll 10 = .ok (.getfield 7, 3) := by decide +kernel
theorem dX10_copyAll_13 : decode cX10_copyAll 13 = .ok (.sipush 600, 3) := by decide +kernel
theorem dX10_copyAll_16 : decode cX10_copyAll 16 = .ok (.iload_n 2, 1) := by decide +kernel
theorem dX10_copyAll_17 : decode cX10_copyAll 17 = .ok (.imul, 1) := by decide +kernel
theorem dX10_copyAll_18 : decode cX10_copyAll 18 = .ok (.iload_n 3, 1) := by decide +kernel
theorem dX10_copyAll_19 : decode cX10_copyAll 19 = .ok (.iadd, 1) := by decide +kernel
theorem dX10_copyAll_20 : decode cX10_copyAll 20 = .ok (.aload_n 0, 1) := by decide +kernel
theorem dX10_copyAll_21 : decode cX10_copyAll 21 = .ok (.getfield 7, 3) := by decide +kernel
theorem dX10_copyAll_24 : decode cX10_copyAll 24 = .ok (.sipush 600, 3) := by decide +kernel
theorem dX10_copyAll_27 : decode cX10_copyAll 27 = .ok (.iload_n 1, 1) := by decide +kernel
theorem dX10_copyAll_28 : decode cX10_copyAll 28 = .ok (.imul, 1) := by decide +kernel
theorem dX10_copyAll_29 : decode cX10_copyAll 29 = .ok (.iload_n 3, 1) := by decide +kernel
theorem dX10_copyAll_30 : decode cX10_copyAll 30 = .ok (.iadd, 1) := by decide +kernel
theorem dX10_copyAll_31 : decode cX10_copyAll 31 = .ok (.baload, 1) := by decide +kernel
theorem dX10_copyAll_32 : decode cX10_copyAll 32 = .ok (.bastore, 1) := by decide +kernel
theorem dX10_copyAll_33 : decode cX10_copyAll 33 = .ok (.iinc 3 1, 3) := by decide +kernel
theorem dX10_copyAll_36 : decode cX10_copyAll 36 = .ok (.goto (-34), 3) := by decide +kernel
theorem dX10_copyAll_39 : decode cX10_copyAll 39 = .ok (.aload_n 0, 1) := by decide +kernel
theorem dX10_copyAll_40 : decode cX10_copyAll 40 = .ok (.getfield 13, 3) := by decide +kernel
theorem dX10_copyAll_43 : decode cX10_copyAll 43 = .ok (.iconst 1, 1) := by decide +kernel
theorem dX10_copyAll_44 : decode cX10_copyAll 44 = .ok (.iload_n 1, 1) := by decide +kernel
theorem dX10_copyAll_45 : decode cX10_copyAll 45 = .ok (.iload_n 2, 1) := by decide +kernel
theorem dX10_copyAll_46 : decode cX10_copyAll 46 = .ok (.invokestatic 88, 3) := by decide +kernel
theorem dX10_copyAll_49 : decode cX10_copyAll 49 = .ok (.aload_n 0, 1) := by decide +kernel
theorem dX10_copyAll_50 : decode cX10_copyAll 50 = .ok (.getfield 17, 3) := by decide +kernel
theorem dX10_copyAll_53 : decode cX10_copyAll 53 = .ok (.iconst 1, 1) := by decide +kernel
theorem dX10_copyAll_54 : decode cX10_copyAll 54 = .ok (.iload_n 1, 1) := by decide +kernel
theorem dX10_copyAll_55 : decode cX10_copyAll 55 = .ok (.iload_n 2, 1) := by decide +kernel
theorem dX10_copyAll_56 : decode cX10_copyAll 56 = .ok (.invokestatic 88, 3) := by decide +kernel
theorem dX10_copyAll_59 : decode cX10_copyAll 59 = .ok (.aload_n 0, 1) := by decide +kernel
theorem dX10_copyAll_60 : decode cX10_copyAll 60 = .ok (.getfield 20, 3) := by decide +kernel
theorem dX10_copyAll_63 : decode cX10_copyAll 63 = .ok (.iconst 1, 1) := by decide +kernel
theorem dX10_copyAll_64 : decode cX10_copyAll 64 = .ok (.iload_n 1, 1) := by decide +kernel
theorem dX10_copyAll_65 : decode cX10_copyAll 65 = .ok (.iload_n 2, 1) := by decide +kernel
theorem dX10_copyAll_66 : decode cX10_copyAll 66 = .ok (.invokestatic 88, 3) := by decide +kernel
theorem dX10_copyAll_69 : decode cX10_copyAll 69 = .ok (.aload_n 0, 1) := by decide +kernel
theorem dX10_copyAll_70 : decode cX10_copyAll 70 = .ok (.getfield 23, 3) := by decide +kernel
theorem dX10_copyAll_73 : decode cX10_copyAll 73 = .ok (.iconst 3, 1) := by decide +kernel
theorem dX10_copyAll_74 : decode cX10_copyAll 74 = .ok (.iload_n 1, 1) := by decide +kernel
theorem dX10_copyAll_75 : decode cX10_copyAll 75 = .ok (.iload_n 2, 1) := by decide +kernel
theorem dX10_copyAll_76 : decode cX10_copyAll 76 = .ok (.invokestatic 88, 3) := by decide +kernel
theorem dX10_copyAll_79 : decode cX10_copyAll 79 = .ok (.aload_n 0, 1) := by decide +kernel
theorem dX10_copyAll_80 : decode cX10_copyAll 80 = .ok (.getfield 26, 3) := by decide +kernel
theorem dX10_copyAll_83 : decode cX10_copyAll 83 = .ok (.bipush 72, 2) := by decide +kernel
theorem dX10_copyAll_85 : decode cX10_copyAll 85 = .ok (.iload_n 1, 1) := by decide +kernel
theorem dX10_copyAll_86 : decode cX10_copyAll 86 = .ok (.iload_n 2, 1) := by decide +kernel
theorem dX10_copyAll_87 : decode cX10_copyAll 87 = .ok (.invokestatic 88, 3) := by decide +kernel
theorem dX10_copyAll_90 : decode cX10_copyAll 90 = .ok (.aload_n 0, 1) := by decide +kernel
theorem dX10_copyAll_91 : decode cX10_copyAll 91 = .ok (.getfield 29, 3) := by decide +kernel
theorem dX10_copyAll_94 : decode cX10_copyAll 94 = .ok (.sipush 242, 3) := by decide +kernel
theorem dX10_copyAll_97 : decode cX10_copyAll 97 = .ok (.iload_n 1, 1) := by decide +kernel
theorem dX10_copyAll_98 : decode cX10_copyAll 98 = .ok (.iload_n 2, 1) := by decide +kernel
theorem dX10_copyAll_99 : decode cX10_copyAll 99 = .ok (.invokestatic 88, 3) := by decide +kernel
theorem dX10_copyAll_102 : decode cX10_copyAll 102 = .ok (.aload_n 0, 1) := by decide +kernel
theorem dX10_copyAll_103 : decode cX10_copyAll 103 = .ok (.getfield 32, 3) := by decide +kernel
theorem dX10_copyAll_106 : decode cX10_copyAll 106 = .ok (.bipush 14, 2) := by decide +kernel
theorem dX10_copyAll_108 : decode cX10_copyAll 108 = .ok (.iload_n 1, 1) := by decide +kernel
theorem dX10_copyAll_109 : decode cX10_copyAll 109 = .ok (.iload_n 2, 1) := by decide +kernel
theorem dX10_copyAll_110 : decode cX10_copyAll 110 = .ok (.invokestatic 88, 3) := by decide +kernel
theorem dX10_copyAll_113 : decode cX10_copyAll 113 = .ok (.return_, 1) := by decide +kernel
set_option maxRecDepth 20000 in
theorem ggX10_image_X10_in : GoodIn wsX10_image wsX10_in := goodIn_r _ [6] (by decide +kernel) (by decide +kernel)
set_option maxRecDepth 20000 in
theorem gX10_image_X10_in : GoodIn wsX10_image (va_wsS RX10 92 yX10_in wsX10_in) := goodIn_app (goodIn_of _ (by decide +kernel)) ggX10_image_X10_in
set_option maxRecDepth 20000 in
theorem ggX10_image_X10_copyAll : GoodIn wsX10_image wsX10_copyAll := goodIn_r _ [10, 11, 12, 13, 14, 15, 16, 17, 18, 19, 20, 5, 21, 22, 23, 24, 25, 26, 27, 28, 29, 30, 31, 32, 33, 34, 35, 36, 37, 38, 39, 40, 41, 42, 43, 44, 45, 46, 47, 48, 49, 50, 51, 52, 53, 54, 55, 56, 57, 58, 59, 60, 61, 62, 63, 64, 65, 66, 67, 68, 69, 70, 71] (by decide +kernel) (by decide +kernel)
set_option maxRecDepth 20000 in
theorem gX10_image_X10_copyAll : GoodIn wsX10_image (wsV RX10 452 RX10 yX10_copyAll wsX10_copyAll) := goodIn_app (goodIn_of _ (by decide +kernel)) ggX10_image_X10_copyAll
theorem dX10_image_0 : decode cX10_image 0 = .ok (.aload_n 0, 1) := by decide +kernel
theorem dX10_image_1 : decode cX10_image 1 = .ok (.iconst 0, 1) := by decide +kernel
theorem dX10_image_2 : decode cX10_image 2 = .ok (.putfield 80, 3) := by decide +kernel
theorem dX10_image_5 : decode cX10_image 5 = .ok (.iload_n 1, 1) := by decide +kernel
theorem dX10_image_6 : decode cX10_image 6 = .ok (.iconst 0, 1) := by decide +kernel
theorem dX10_image_7 : decode cX10_image 7 = .ok (.iconst 2, 1) := by decide +kernel
theorem dX10_image_8 : decode cX10_image 8 = .ok (.invokestatic 92, 3) := by decide +kernel
theorem dX10_image_11 : decode cX10_image 11 = .ok (.ifCond .ne 5, 3) := by decide +kernel
theorem dX10_image_14 : decode cX10_image 14 = .ok (.iconst 0, 1) := by decide +kernel
theorem dX10_image_15 : decode cX10_image 15 = .ok (.ireturn, 1) := by decide +kernel
theorem dX10_image_16 : decode cX10_image 16 = .ok (.aload_n 0, 1) := by decide +kernel
theorem dX10_image_17 : decode cX10_image 17 = .ok (.iconst 0, 1) := by decide +kernel
theorem dX10_image_18 : decode cX10_image 18 = .ok (.iload_n 1, 1) := by decide +kernel
theorem dX10_image_19 : decode cX10_image 19 = .ok (.iconst 1, 1) := by decide +kernel
theorem dX10_image_20 : decode cX10_image 20 = .ok (.iadd, 1) := by decide +kernel
theorem dX10_image_21 : decode cX10_image 21 = .ok (.invokevirtual 452, 3) := by decide +kernel
theorem dX10_image_24 : decode cX10_image 24 = .ok (.aload_n 0, 1) := by decide +kernel
theorem dX10_image_25 : decode cX10_image 25 = .ok (.getfield 76, 3) := by decide +kernel
theorem dX10_image_28 : decode cX10_image 28 = .ok (.iload_n 1, 1) := by decide +kernel
theorem dX10_image_29 : decode cX10_image 29 = .ok (.iconst 1, 1) := by decide +kernel
theorem dX10_image_30 : decode cX10_image 30 = .ok (.bastore, 1) := by decide +kernel
theorem dX10_image_31 : decode cX10_image 31 = .ok (.iconst 1, 1) := by decide +kernel
theorem dX10_image_32 : decode cX10_image 32 = .ok (.ireturn, 1) := by decide +kernel
set_option maxRecDepth 20000 in
theorem ggX10_again_X10_in : GoodIn wsX10_again wsX10_in := goodIn_r _ [6] (by decide +kernel) (by decide +kernel)
set_option maxRecDepth 20000 in
theorem gX10_again_X10_in : GoodIn wsX10_again (va_wsS RX10 92 yX10_in wsX10_in) := goodIn_app (goodIn_of _ (by decide +kernel)) ggX10_again_X10_in
set_option maxRecDepth 20000 in
theorem ggX10_again_X10_copyAll : GoodIn wsX10_again wsX10_copyAll := goodIn_r _ [10, 11, 12, 13, 14, 15, 16, 17, 18, 19, 20, 5, 21, 22, 23, 24, 25, 26, 27, 28, 29, 30, 31, 32, 33, 34, 35, 36, 37, 38, 39, 40, 41, 42, 43, 44, 45, 46, 47, 48, 49, 50, 51, 52, 53, 54, 55, 56, 57, 58, 59, 60, 61, 62, 63, 64, 65, 66, 67, 68, 69, 70, 71] (by decide +kernel) (by decide +kernel)
set_option maxRecDepth 20000 in
theorem gX10_again_X10_copyAll : GoodIn wsX10_again (wsV RX10 452 RX10 yX10_copyAll wsX10_copyAll) := goodIn_app (goodIn_of _ (by decide +kernel)) ggX10_again_X10_copyAll
theorem dX10_again_0 : decode cX10_again 0 = .ok (.aload_n 0, 1) := by decide +kernel
theorem dX10_again_1 : decode cX10_again 1 = .ok (.iconst 0, 1) := by decide +kernel
theorem dX10_again_2 : decode cX10_again 2 = .ok (.putfield 80, 3) := by decide +kernel
theorem dX10_again_5 : decode cX10_again 5 = .ok (.iload_n 1, 1) := by decide +kernel
theorem dX10_again_6 : decode cX10_again 6 = .ok (.iconst 0, 1) := by decide +kernel
theorem dX10_again_7 : decode cX10_again 7 = .ok (.iconst 2, 1) := by decide +kernel
theorem dX10_again_8 : decode cX10_again 8 = .ok (.invokestatic 92, 3) := by decide +kernel
theorem dX10_again_11 : decode cX10_again 11 = .ok (.ifCond .eq 12, 3) := by decide +kernel
theorem dX10_again_14 : decode cX10_again 14 = .ok (.aload_n 0, 1) := by decide +kernel
theorem dX10_again_15 : decode cX10_again 15 = .ok (.getfield 76, 3) := by decide +kernel
theorem dX10_again_18 : decode cX10_again 18 = .ok (.iload_n 1, 1) := by decide +kernel
theorem dX10_again_19 : decode cX10_again 19 = .ok (.baload, 1) := by decide +kernel
theorem dX10_again_20 : decode cX10_again 20 = .ok (.ifCond .ne 5, 3) := by decide +kernel
theorem dX10_again_23 : decode cX10_again 23 = .ok (.iconst 0, 1) := by decide +kernel
theorem dX10_again_24 : decode cX10_again 24 = .ok (.ireturn, 1) := by decide +kernel
theorem dX10_again_25 : decode cX10_again 25 = .ok (.aload_n 0, 1) := by decide +kernel
theorem dX10_again_26 : decode cX10_again 26 = .ok (.iload_n 1, 1) := by decide +kernel
theorem dX10_again_27 : decode cX10_again 27 = .ok (.iconst 1, 1) := by decide +kernel
theorem dX10_again_28 : decode cX10_again 28 = .ok (.iadd, 1) := by decide +kernel
theorem dX10_again_29 : decode cX10_again 29 = .ok (.iconst 0, 1) := by decide +kernel
theorem dX10_again_30 : decode cX10_again 30 = .ok (.invokevirtual 452, 3) := by decide +kernel
theorem dX10_again_33 : decode cX10_again 33 = .ok (.iconst 1, 1) := by decide +kernel
theorem dX10_again_34 : decode cX10_again 34 = .ok (.ireturn, 1) := by decide +kernel
