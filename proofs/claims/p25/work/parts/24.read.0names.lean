abbrev cX10_see : ByteArray := prog_12_method_14_code
def yX10_see : MethodName := ⟨RX10, "see", "()I"⟩
abbrev cX10_token : ByteArray := prog_12_method_15_code
def yX10_token : MethodName := ⟨RX10, "token", "()V"⟩
abbrev cX10_fails : ByteArray := prog_12_method_16_code
def yX10_fails : MethodName := ⟨RX10, "fails", "()Z"⟩
abbrev cX10_later : ByteArray := prog_12_method_17_code
def yX10_later : MethodName := ⟨RX10, "later", "(II)V"⟩
abbrev cX10_takeBut : ByteArray := prog_12_method_18_code
def yX10_takeBut : MethodName := ⟨RX10, "takeBut", "(IIII)Z"⟩
abbrev cX10_take : ByteArray := prog_12_method_19_code
def yX10_take : MethodName := ⟨RX10, "take", "(III)Z"⟩
abbrev cX10_full : ByteArray := prog_12_method_20_code
def yX10_full : MethodName := ⟨RX10, "full", "(III)V"⟩
abbrev cX10_keep : ByteArray := prog_12_method_21_code
def yX10_keep : MethodName := ⟨RX10, "keep", "(IIII)V"⟩
abbrev cX10_theatreLine : ByteArray := prog_12_method_22_code
def yX10_theatreLine : MethodName := ⟨RX10, "theatreLine", "(JI)Z"⟩
abbrev cX10_deedBy : ByteArray := prog_12_method_23_code
def yX10_deedBy : MethodName := ⟨RX10, "deedBy", "(J)I"⟩
abbrev cX10_deedNumbers : ByteArray := prog_12_method_24_code
def yX10_deedNumbers : MethodName := ⟨RX10, "deedNumbers", "(I)Z"⟩
abbrev cX10_bookLine : ByteArray := prog_12_method_25_code
def yX10_bookLine : MethodName := ⟨RX10, "bookLine", "(JI)Z"⟩
abbrev cX10_darkLine : ByteArray := prog_12_method_26_code
def yX10_darkLine : MethodName := ⟨RX10, "darkLine", "(JI)Z"⟩
abbrev cX10_lines : ByteArray := prog_12_method_27_code
def yX10_lines : MethodName := ⟨RX10, "lines", "(I)Z"⟩
abbrev cX10_readText : ByteArray := prog_12_method_28_code
def yX10_readText : MethodName := ⟨RX10, "readText", "(I)Z"⟩
abbrev cX10_store : ByteArray := prog_12_method_29_code
def yX10_store : MethodName := ⟨RX10, "store", "([III)V"⟩
abbrev cX10_text : ByteArray := prog_12_method_30_code
def yX10_text : MethodName := ⟨RX10, "text", "(II)I"⟩
def wsX10_see : List Cond := .code yX10_see cX10_see 1 (some .int) :: ([.fieldLink RX10 100 "ClapBankModel" "reached" "I", .fieldLink RX10 103 "ClapBankModel" "length" "I", .fieldLink RX10 7 "ClapBankModel" "tape" "[B"] ++ wsX100)
def wsX10_token : List Cond := .code yX10_token cX10_token 3 none :: ([.fieldLink RX10 100 "ClapBankModel" "reached" "I", .fieldLink RX10 110 "ClapBankModel" "begins" "I", .fieldLink RX10 113 "ClapBankModel" "word" "J", .fieldLink RX10 117 "ClapBankModel" "sort" "I", .fieldLink RX10 120 "ClapBankModel" "value" "I", .methodLink RX10 106 yX10_see, .instanceMethod yX10_see, .selects RX10 yX10_see yX10_see, .initialized RX10, .code yX10_see cX10_see 1 (some .int), .fieldLink RX10 103 "ClapBankModel" "length" "I", .fieldLink RX10 7 "ClapBankModel" "tape" "[B", .methodLink RX10 92 yX10_in, .static yX10_in, .code yX10_in cX10_in 3 (some .boolean)] ++ wsX100)
def wsX10_fails : List Cond := .code yX10_fails cX10_fails 1 (some .boolean) :: ([.fieldLink RX10 110 "ClapBankModel" "begins" "I", .fieldLink RX10 123 "ClapBankModel" "wrongAt" "I"] ++ wsX100)
def wsX10_later : List Cond := .code yX10_later cX10_later 3 none :: ([.fieldLink RX10 126 "ClapBankModel" "laterFault" "I", .fieldLink RX10 129 "ClapBankModel" "laterPlace" "I"] ++ wsX100)
def wsX10_takeBut_r1 : List Cond := [Cond.fieldLink RX10 117 "ClapBankModel" "sort" "I", Cond.fieldLink RX10 38 "ClapBankModel" "read" "[I", Cond.fieldLink RX10 120 "ClapBankModel" "value" "I", Cond.fieldLink RX10 110 "ClapBankModel" "begins" "I", Cond.methodLink RX10 132 yX10_fails, Cond.instanceMethod yX10_fails, Cond.selects RX10 yX10_fails yX10_fails, Cond.initialized RX10, Cond.code yX10_fails cX10_fails 1 (some .boolean), Cond.fieldLink RX10 123 "ClapBankModel" "wrongAt" "I", Cond.methodLink RX10 92 yX10_in, Cond.static yX10_in, Cond.code yX10_in cX10_in 3 (some .boolean), Cond.methodLink RX10 136 yX10_later, Cond.instanceMethod yX10_later, Cond.selects RX10 yX10_later yX10_later, Cond.code yX10_later cX10_later 3 none, Cond.fieldLink RX10 126 "ClapBankModel" "laterFault" "I", Cond.fieldLink RX10 129 "ClapBankModel" "laterPlace" "I", Cond.methodLink RX10 140 yX10_token, Cond.instanceMethod yX10_token, Cond.selects RX10 yX10_token yX10_token, Cond.code yX10_token cX10_token 3 none, Cond.fieldLink RX10 100 "ClapBankModel" "reached" "I"]
def wsX10_takeBut_r2 : List Cond := [Cond.fieldLink RX10 113 "ClapBankModel" "word" "J", Cond.methodLink RX10 106 yX10_see, Cond.instanceMethod yX10_see, Cond.selects RX10 yX10_see yX10_see, Cond.code yX10_see cX10_see 1 (some .int), Cond.fieldLink RX10 103 "ClapBankModel" "length" "I", Cond.fieldLink RX10 7 "ClapBankModel" "tape" "[B"]
def wsX10_takeBut : List Cond := .code yX10_takeBut cX10_takeBut 5 (some .boolean) :: ((wsX10_takeBut_r1 ++ wsX10_takeBut_r2) ++ wsX100)
def wsX10_take_r1 : List Cond := [Cond.methodLink RX10 143 yX10_takeBut, Cond.instanceMethod yX10_takeBut, Cond.selects RX10 yX10_takeBut yX10_takeBut, Cond.initialized RX10, Cond.code yX10_takeBut cX10_takeBut 5 (some .boolean), Cond.fieldLink RX10 117 "ClapBankModel" "sort" "I", Cond.fieldLink RX10 38 "ClapBankModel" "read" "[I", Cond.fieldLink RX10 120 "ClapBankModel" "value" "I", Cond.fieldLink RX10 110 "ClapBankModel" "begins" "I", Cond.methodLink RX10 132 yX10_fails, Cond.instanceMethod yX10_fails, Cond.selects RX10 yX10_fails yX10_fails, Cond.code yX10_fails cX10_fails 1 (some .boolean), Cond.fieldLink RX10 123 "ClapBankModel" "wrongAt" "I", Cond.methodLink RX10 92 yX10_in, Cond.static yX10_in, Cond.code yX10_in cX10_in 3 (some .boolean), Cond.methodLink RX10 136 yX10_later, Cond.instanceMethod yX10_later, Cond.selects RX10 yX10_later yX10_later, Cond.code yX10_later cX10_later 3 none, Cond.fieldLink RX10 126 "ClapBankModel" "laterFault" "I", Cond.fieldLink RX10 129 "ClapBankModel" "laterPlace" "I", Cond.methodLink RX10 140 yX10_token]
def wsX10_take_r2 : List Cond := [Cond.instanceMethod yX10_token, Cond.selects RX10 yX10_token yX10_token, Cond.code yX10_token cX10_token 3 none, Cond.fieldLink RX10 100 "ClapBankModel" "reached" "I", Cond.fieldLink RX10 113 "ClapBankModel" "word" "J", Cond.methodLink RX10 106 yX10_see, Cond.instanceMethod yX10_see, Cond.selects RX10 yX10_see yX10_see, Cond.code yX10_see cX10_see 1 (some .int), Cond.fieldLink RX10 103 "ClapBankModel" "length" "I", Cond.fieldLink RX10 7 "ClapBankModel" "tape" "[B"]
def wsX10_take : List Cond := .code yX10_take cX10_take 4 (some .boolean) :: ((wsX10_take_r1 ++ wsX10_take_r2) ++ wsX100)
def wsX10_full : List Cond := .code yX10_full cX10_full 4 none :: ([.fieldLink RX10 35 "ClapBankModel" "told" "[I", .methodLink RX10 136 yX10_later, .instanceMethod yX10_later, .selects RX10 yX10_later yX10_later, .initialized RX10, .code yX10_later cX10_later 3 none, .fieldLink RX10 126 "ClapBankModel" "laterFault" "I", .fieldLink RX10 129 "ClapBankModel" "laterPlace" "I"] ++ wsX100)
def wsX10_keep : List Cond := .code yX10_keep cX10_keep 7 none :: ([.fieldLink RX10 35 "ClapBankModel" "told" "[I", .fieldLink RX10 38 "ClapBankModel" "read" "[I"] ++ wsX100)
def wsX10_theatreLine_r1 : List Cond := [Cond.constantLong RX10 147 (1918989413), Cond.constantLong RX10 149 (426953241460), Cond.constantLong RX10 151 (108230800994167), Cond.constantLong RX10 153 (1885432941), Cond.constantLong RX10 155 (418280402802), Cond.constantLong RX10 157 (129138752120178), Cond.fieldLink RX10 35 "ClapBankModel" "told" "[I", Cond.fieldLink RX10 38 "ClapBankModel" "read" "[I", Cond.methodLink RX10 132 yX10_fails, Cond.instanceMethod yX10_fails, Cond.selects RX10 yX10_fails yX10_fails, Cond.initialized RX10, Cond.code yX10_fails cX10_fails 1 (some .boolean), Cond.fieldLink RX10 110 "ClapBankModel" "begins" "I", Cond.fieldLink RX10 123 "ClapBankModel" "wrongAt" "I", Cond.methodLink RX10 159 yX10_full, Cond.instanceMethod yX10_full, Cond.selects RX10 yX10_full yX10_full, Cond.code yX10_full cX10_full 4 none, Cond.methodLink RX10 136 yX10_later, Cond.instanceMethod yX10_later, Cond.selects RX10 yX10_later yX10_later, Cond.code yX10_later cX10_later 3 none, Cond.fieldLink RX10 126 "ClapBankModel" "laterFault" "I"]
def wsX10_theatreLine_r2 : List Cond := [Cond.fieldLink RX10 129 "ClapBankModel" "laterPlace" "I", Cond.methodLink RX10 140 yX10_token, Cond.instanceMethod yX10_token, Cond.selects RX10 yX10_token yX10_token, Cond.code yX10_token cX10_token 3 none, Cond.fieldLink RX10 100 "ClapBankModel" "reached" "I", Cond.fieldLink RX10 113 "ClapBankModel" "word" "J", Cond.fieldLink RX10 117 "ClapBankModel" "sort" "I", Cond.fieldLink RX10 120 "ClapBankModel" "value" "I", Cond.methodLink RX10 106 yX10_see, Cond.instanceMethod yX10_see, Cond.selects RX10 yX10_see yX10_see, Cond.code yX10_see cX10_see 1 (some .int), Cond.fieldLink RX10 103 "ClapBankModel" "length" "I", Cond.fieldLink RX10 7 "ClapBankModel" "tape" "[B", Cond.methodLink RX10 92 yX10_in, Cond.static yX10_in, Cond.code yX10_in cX10_in 3 (some .boolean), Cond.methodLink RX10 163 yX10_take, Cond.instanceMethod yX10_take, Cond.selects RX10 yX10_take yX10_take, Cond.code yX10_take cX10_take 4 (some .boolean), Cond.methodLink RX10 143 yX10_takeBut, Cond.instanceMethod yX10_takeBut]
def wsX10_theatreLine_r3 : List Cond := [Cond.selects RX10 yX10_takeBut yX10_takeBut, Cond.code yX10_takeBut cX10_takeBut 5 (some .boolean), Cond.methodLink RX10 166 yX10_keep, Cond.instanceMethod yX10_keep, Cond.selects RX10 yX10_keep yX10_keep, Cond.code yX10_keep cX10_keep 7 none, Cond.methodLink RX10 170 yX10_lesser, Cond.static yX10_lesser, Cond.code yX10_lesser cX10_lesser 2 (some .int)]
def wsX10_theatreLine : List Cond := .code yX10_theatreLine cX10_theatreLine 5 (some .boolean) :: ((wsX10_theatreLine_r1 ++ (wsX10_theatreLine_r2 ++ wsX10_theatreLine_r3)) ++ wsX100)
def wsX10_deedBy : List Cond := .code yX10_deedBy cX10_deedBy 2 (some .int) :: ([.constantLong RX10 174 (1668047216), .constantLong RX10 176 (1818586724), .constantLong RX10 178 (491328135545), .constantLong RX10 180 (1752527720), .constantLong RX10 182 (495874699885), .constantLong RX10 184 (111524789056101), .constantLong RX10 186 (474214787188)])
def wsX10_deedNumbers_r1 : List Cond := [Cond.fieldLink RX10 38 "ClapBankModel" "read" "[I", Cond.methodLink RX10 163 yX10_take, Cond.instanceMethod yX10_take, Cond.selects RX10 yX10_take yX10_take, Cond.initialized RX10, Cond.code yX10_take cX10_take 4 (some .boolean), Cond.methodLink RX10 143 yX10_takeBut, Cond.instanceMethod yX10_takeBut, Cond.selects RX10 yX10_takeBut yX10_takeBut, Cond.code yX10_takeBut cX10_takeBut 5 (some .boolean), Cond.fieldLink RX10 117 "ClapBankModel" "sort" "I", Cond.fieldLink RX10 120 "ClapBankModel" "value" "I", Cond.fieldLink RX10 110 "ClapBankModel" "begins" "I", Cond.methodLink RX10 132 yX10_fails, Cond.instanceMethod yX10_fails, Cond.selects RX10 yX10_fails yX10_fails, Cond.code yX10_fails cX10_fails 1 (some .boolean), Cond.fieldLink RX10 123 "ClapBankModel" "wrongAt" "I", Cond.methodLink RX10 92 yX10_in, Cond.static yX10_in, Cond.code yX10_in cX10_in 3 (some .boolean), Cond.methodLink RX10 136 yX10_later, Cond.instanceMethod yX10_later, Cond.selects RX10 yX10_later yX10_later]
def wsX10_deedNumbers_r2 : List Cond := [Cond.code yX10_later cX10_later 3 none, Cond.fieldLink RX10 126 "ClapBankModel" "laterFault" "I", Cond.fieldLink RX10 129 "ClapBankModel" "laterPlace" "I", Cond.methodLink RX10 140 yX10_token, Cond.instanceMethod yX10_token, Cond.selects RX10 yX10_token yX10_token, Cond.code yX10_token cX10_token 3 none, Cond.fieldLink RX10 100 "ClapBankModel" "reached" "I", Cond.fieldLink RX10 113 "ClapBankModel" "word" "J", Cond.methodLink RX10 106 yX10_see, Cond.instanceMethod yX10_see, Cond.selects RX10 yX10_see yX10_see, Cond.code yX10_see cX10_see 1 (some .int), Cond.fieldLink RX10 103 "ClapBankModel" "length" "I", Cond.fieldLink RX10 7 "ClapBankModel" "tape" "[B"]
def wsX10_deedNumbers : List Cond := .code yX10_deedNumbers cX10_deedNumbers 2 (some .boolean) :: ((wsX10_deedNumbers_r1 ++ wsX10_deedNumbers_r2) ++ wsX100)
def wsX10_bookLine_r1 : List Cond := [Cond.fieldLink RX10 38 "ClapBankModel" "read" "[I", Cond.methodLink RX10 188 yX10_deedBy, Cond.static yX10_deedBy, Cond.initialized RX10, Cond.code yX10_deedBy cX10_deedBy 2 (some .int), Cond.constantLong RX10 174 (1668047216), Cond.constantLong RX10 176 (1818586724), Cond.constantLong RX10 178 (491328135545), Cond.constantLong RX10 180 (1752527720), Cond.constantLong RX10 182 (495874699885), Cond.constantLong RX10 184 (111524789056101), Cond.constantLong RX10 186 (474214787188), Cond.methodLink RX10 132 yX10_fails, Cond.instanceMethod yX10_fails, Cond.selects RX10 yX10_fails yX10_fails, Cond.code yX10_fails cX10_fails 1 (some .boolean), Cond.fieldLink RX10 110 "ClapBankModel" "begins" "I", Cond.fieldLink RX10 123 "ClapBankModel" "wrongAt" "I", Cond.methodLink RX10 159 yX10_full, Cond.instanceMethod yX10_full, Cond.selects RX10 yX10_full yX10_full, Cond.code yX10_full cX10_full 4 none, Cond.fieldLink RX10 35 "ClapBankModel" "told" "[I", Cond.methodLink RX10 136 yX10_later]
def wsX10_bookLine_r2 : List Cond := [Cond.instanceMethod yX10_later, Cond.selects RX10 yX10_later yX10_later, Cond.code yX10_later cX10_later 3 none, Cond.fieldLink RX10 126 "ClapBankModel" "laterFault" "I", Cond.fieldLink RX10 129 "ClapBankModel" "laterPlace" "I", Cond.methodLink RX10 140 yX10_token, Cond.instanceMethod yX10_token, Cond.selects RX10 yX10_token yX10_token, Cond.code yX10_token cX10_token 3 none, Cond.fieldLink RX10 100 "ClapBankModel" "reached" "I", Cond.fieldLink RX10 113 "ClapBankModel" "word" "J", Cond.fieldLink RX10 117 "ClapBankModel" "sort" "I", Cond.fieldLink RX10 120 "ClapBankModel" "value" "I", Cond.methodLink RX10 106 yX10_see, Cond.instanceMethod yX10_see, Cond.selects RX10 yX10_see yX10_see, Cond.code yX10_see cX10_see 1 (some .int), Cond.fieldLink RX10 103 "ClapBankModel" "length" "I", Cond.fieldLink RX10 7 "ClapBankModel" "tape" "[B", Cond.methodLink RX10 92 yX10_in, Cond.static yX10_in, Cond.code yX10_in cX10_in 3 (some .boolean), Cond.methodLink RX10 192 yX10_deedNumbers, Cond.instanceMethod yX10_deedNumbers]
def wsX10_bookLine_r3 : List Cond := [Cond.selects RX10 yX10_deedNumbers yX10_deedNumbers, Cond.code yX10_deedNumbers cX10_deedNumbers 2 (some .boolean), Cond.methodLink RX10 163 yX10_take, Cond.instanceMethod yX10_take, Cond.selects RX10 yX10_take yX10_take, Cond.code yX10_take cX10_take 4 (some .boolean), Cond.methodLink RX10 143 yX10_takeBut, Cond.instanceMethod yX10_takeBut, Cond.selects RX10 yX10_takeBut yX10_takeBut, Cond.code yX10_takeBut cX10_takeBut 5 (some .boolean), Cond.methodLink RX10 166 yX10_keep, Cond.instanceMethod yX10_keep, Cond.selects RX10 yX10_keep yX10_keep, Cond.code yX10_keep cX10_keep 7 none]
def wsX10_bookLine : List Cond := .code yX10_bookLine cX10_bookLine 5 (some .boolean) :: ((wsX10_bookLine_r1 ++ (wsX10_bookLine_r2 ++ wsX10_bookLine_r3)) ++ wsX100)
def wsX10_darkLine_r1 : List Cond := [Cond.constantLong RX10 196 (448377483876), Cond.methodLink RX10 132 yX10_fails, Cond.instanceMethod yX10_fails, Cond.selects RX10 yX10_fails yX10_fails, Cond.initialized RX10, Cond.code yX10_fails cX10_fails 1 (some .boolean), Cond.fieldLink RX10 110 "ClapBankModel" "begins" "I", Cond.fieldLink RX10 123 "ClapBankModel" "wrongAt" "I", Cond.methodLink RX10 159 yX10_full, Cond.instanceMethod yX10_full, Cond.selects RX10 yX10_full yX10_full, Cond.code yX10_full cX10_full 4 none, Cond.fieldLink RX10 35 "ClapBankModel" "told" "[I", Cond.methodLink RX10 136 yX10_later, Cond.instanceMethod yX10_later, Cond.selects RX10 yX10_later yX10_later, Cond.code yX10_later cX10_later 3 none, Cond.fieldLink RX10 126 "ClapBankModel" "laterFault" "I", Cond.fieldLink RX10 129 "ClapBankModel" "laterPlace" "I", Cond.methodLink RX10 140 yX10_token, Cond.instanceMethod yX10_token, Cond.selects RX10 yX10_token yX10_token, Cond.code yX10_token cX10_token 3 none, Cond.fieldLink RX10 100 "ClapBankModel" "reached" "I"]
def wsX10_darkLine_r2 : List Cond := [Cond.fieldLink RX10 113 "ClapBankModel" "word" "J", Cond.fieldLink RX10 117 "ClapBankModel" "sort" "I", Cond.fieldLink RX10 120 "ClapBankModel" "value" "I", Cond.methodLink RX10 106 yX10_see, Cond.instanceMethod yX10_see, Cond.selects RX10 yX10_see yX10_see, Cond.code yX10_see cX10_see 1 (some .int), Cond.fieldLink RX10 103 "ClapBankModel" "length" "I", Cond.fieldLink RX10 7 "ClapBankModel" "tape" "[B", Cond.methodLink RX10 92 yX10_in, Cond.static yX10_in, Cond.code yX10_in cX10_in 3 (some .boolean), Cond.methodLink RX10 163 yX10_take, Cond.instanceMethod yX10_take, Cond.selects RX10 yX10_take yX10_take, Cond.code yX10_take cX10_take 4 (some .boolean), Cond.methodLink RX10 143 yX10_takeBut, Cond.instanceMethod yX10_takeBut, Cond.selects RX10 yX10_takeBut yX10_takeBut, Cond.code yX10_takeBut cX10_takeBut 5 (some .boolean), Cond.fieldLink RX10 38 "ClapBankModel" "read" "[I", Cond.methodLink RX10 166 yX10_keep, Cond.instanceMethod yX10_keep, Cond.selects RX10 yX10_keep yX10_keep]
def wsX10_darkLine_r3 : List Cond := [Cond.code yX10_keep cX10_keep 7 none]
def wsX10_darkLine : List Cond := .code yX10_darkLine cX10_darkLine 4 (some .boolean) :: ((wsX10_darkLine_r1 ++ (wsX10_darkLine_r2 ++ wsX10_darkLine_r3)) ++ wsX100)
def wsX10_lines_r1 : List Cond := [Cond.fieldLink RX10 117 "ClapBankModel" "sort" "I", Cond.fieldLink RX10 110 "ClapBankModel" "begins" "I", Cond.fieldLink RX10 113 "ClapBankModel" "word" "J", Cond.methodLink RX10 198 yX10_theatreLine, Cond.instanceMethod yX10_theatreLine, Cond.selects RX10 yX10_theatreLine yX10_theatreLine, Cond.initialized RX10, Cond.code yX10_theatreLine cX10_theatreLine 5 (some .boolean), Cond.constantLong RX10 147 (1918989413), Cond.constantLong RX10 149 (426953241460), Cond.constantLong RX10 151 (108230800994167), Cond.constantLong RX10 153 (1885432941), Cond.constantLong RX10 155 (418280402802), Cond.constantLong RX10 157 (129138752120178), Cond.fieldLink RX10 35 "ClapBankModel" "told" "[I", Cond.fieldLink RX10 38 "ClapBankModel" "read" "[I", Cond.methodLink RX10 132 yX10_fails, Cond.instanceMethod yX10_fails, Cond.selects RX10 yX10_fails yX10_fails, Cond.code yX10_fails cX10_fails 1 (some .boolean), Cond.fieldLink RX10 123 "ClapBankModel" "wrongAt" "I", Cond.methodLink RX10 159 yX10_full, Cond.instanceMethod yX10_full, Cond.selects RX10 yX10_full yX10_full]
def wsX10_lines_r2 : List Cond := [Cond.code yX10_full cX10_full 4 none, Cond.methodLink RX10 136 yX10_later, Cond.instanceMethod yX10_later, Cond.selects RX10 yX10_later yX10_later, Cond.code yX10_later cX10_later 3 none, Cond.fieldLink RX10 126 "ClapBankModel" "laterFault" "I", Cond.fieldLink RX10 129 "ClapBankModel" "laterPlace" "I", Cond.methodLink RX10 140 yX10_token, Cond.instanceMethod yX10_token, Cond.selects RX10 yX10_token yX10_token, Cond.code yX10_token cX10_token 3 none, Cond.fieldLink RX10 100 "ClapBankModel" "reached" "I", Cond.fieldLink RX10 120 "ClapBankModel" "value" "I", Cond.methodLink RX10 106 yX10_see, Cond.instanceMethod yX10_see, Cond.selects RX10 yX10_see yX10_see, Cond.code yX10_see cX10_see 1 (some .int), Cond.fieldLink RX10 103 "ClapBankModel" "length" "I", Cond.fieldLink RX10 7 "ClapBankModel" "tape" "[B", Cond.methodLink RX10 92 yX10_in, Cond.static yX10_in, Cond.code yX10_in cX10_in 3 (some .boolean), Cond.methodLink RX10 163 yX10_take, Cond.instanceMethod yX10_take]
def wsX10_lines_r3 : List Cond := [Cond.selects RX10 yX10_take yX10_take, Cond.code yX10_take cX10_take 4 (some .boolean), Cond.methodLink RX10 143 yX10_takeBut, Cond.instanceMethod yX10_takeBut, Cond.selects RX10 yX10_takeBut yX10_takeBut, Cond.code yX10_takeBut cX10_takeBut 5 (some .boolean), Cond.methodLink RX10 166 yX10_keep, Cond.instanceMethod yX10_keep, Cond.selects RX10 yX10_keep yX10_keep, Cond.code yX10_keep cX10_keep 7 none, Cond.methodLink RX10 170 yX10_lesser, Cond.static yX10_lesser, Cond.code yX10_lesser cX10_lesser 2 (some .int), Cond.methodLink RX10 202 yX10_bookLine, Cond.instanceMethod yX10_bookLine, Cond.selects RX10 yX10_bookLine yX10_bookLine, Cond.code yX10_bookLine cX10_bookLine 5 (some .boolean), Cond.methodLink RX10 188 yX10_deedBy, Cond.static yX10_deedBy, Cond.code yX10_deedBy cX10_deedBy 2 (some .int), Cond.constantLong RX10 174 (1668047216), Cond.constantLong RX10 176 (1818586724), Cond.constantLong RX10 178 (491328135545), Cond.constantLong RX10 180 (1752527720)]
def wsX10_lines_r4 : List Cond := [Cond.constantLong RX10 182 (495874699885), Cond.constantLong RX10 184 (111524789056101), Cond.constantLong RX10 186 (474214787188), Cond.methodLink RX10 192 yX10_deedNumbers, Cond.instanceMethod yX10_deedNumbers, Cond.selects RX10 yX10_deedNumbers yX10_deedNumbers, Cond.code yX10_deedNumbers cX10_deedNumbers 2 (some .boolean), Cond.methodLink RX10 205 yX10_darkLine, Cond.instanceMethod yX10_darkLine, Cond.selects RX10 yX10_darkLine yX10_darkLine, Cond.code yX10_darkLine cX10_darkLine 4 (some .boolean), Cond.constantLong RX10 196 (448377483876)]
def wsX10_lines : List Cond := .code yX10_lines cX10_lines 6 (some .boolean) :: ((wsX10_lines_r1 ++ (wsX10_lines_r2 ++ (wsX10_lines_r3 ++ wsX10_lines_r4))) ++ wsX100)
def wsX10_readText_r1 : List Cond := [Cond.fieldLink RX10 35 "ClapBankModel" "told" "[I", Cond.fieldLink RX10 100 "ClapBankModel" "reached" "I", Cond.fieldLink RX10 126 "ClapBankModel" "laterFault" "I", Cond.fieldLink RX10 17 "ClapBankModel" "fault" "[I", Cond.fieldLink RX10 20 "ClapBankModel" "faultPlace" "[I", Cond.fieldLink RX10 123 "ClapBankModel" "wrongAt" "I", Cond.fieldLink RX10 129 "ClapBankModel" "laterPlace" "I", Cond.methodLink RX10 140 yX10_token, Cond.instanceMethod yX10_token, Cond.selects RX10 yX10_token yX10_token, Cond.initialized RX10, Cond.code yX10_token cX10_token 3 none, Cond.fieldLink RX10 110 "ClapBankModel" "begins" "I", Cond.fieldLink RX10 113 "ClapBankModel" "word" "J", Cond.fieldLink RX10 117 "ClapBankModel" "sort" "I", Cond.fieldLink RX10 120 "ClapBankModel" "value" "I", Cond.methodLink RX10 106 yX10_see, Cond.instanceMethod yX10_see, Cond.selects RX10 yX10_see yX10_see, Cond.code yX10_see cX10_see 1 (some .int), Cond.fieldLink RX10 103 "ClapBankModel" "length" "I", Cond.fieldLink RX10 7 "ClapBankModel" "tape" "[B", Cond.methodLink RX10 92 yX10_in, Cond.static yX10_in]
def wsX10_readText_r2 : List Cond := [Cond.code yX10_in cX10_in 3 (some .boolean), Cond.methodLink RX10 208 yX10_lines, Cond.instanceMethod yX10_lines, Cond.selects RX10 yX10_lines yX10_lines, Cond.code yX10_lines cX10_lines 6 (some .boolean), Cond.methodLink RX10 198 yX10_theatreLine, Cond.instanceMethod yX10_theatreLine, Cond.selects RX10 yX10_theatreLine yX10_theatreLine, Cond.code yX10_theatreLine cX10_theatreLine 5 (some .boolean), Cond.constantLong RX10 147 (1918989413), Cond.constantLong RX10 149 (426953241460), Cond.constantLong RX10 151 (108230800994167), Cond.constantLong RX10 153 (1885432941), Cond.constantLong RX10 155 (418280402802), Cond.constantLong RX10 157 (129138752120178), Cond.fieldLink RX10 38 "ClapBankModel" "read" "[I", Cond.methodLink RX10 132 yX10_fails, Cond.instanceMethod yX10_fails, Cond.selects RX10 yX10_fails yX10_fails, Cond.code yX10_fails cX10_fails 1 (some .boolean), Cond.methodLink RX10 159 yX10_full, Cond.instanceMethod yX10_full, Cond.selects RX10 yX10_full yX10_full, Cond.code yX10_full cX10_full 4 none]
def wsX10_readText_r3 : List Cond := [Cond.methodLink RX10 136 yX10_later, Cond.instanceMethod yX10_later, Cond.selects RX10 yX10_later yX10_later, Cond.code yX10_later cX10_later 3 none, Cond.methodLink RX10 163 yX10_take, Cond.instanceMethod yX10_take, Cond.selects RX10 yX10_take yX10_take, Cond.code yX10_take cX10_take 4 (some .boolean), Cond.methodLink RX10 143 yX10_takeBut, Cond.instanceMethod yX10_takeBut, Cond.selects RX10 yX10_takeBut yX10_takeBut, Cond.code yX10_takeBut cX10_takeBut 5 (some .boolean), Cond.methodLink RX10 166 yX10_keep, Cond.instanceMethod yX10_keep, Cond.selects RX10 yX10_keep yX10_keep, Cond.code yX10_keep cX10_keep 7 none, Cond.methodLink RX10 170 yX10_lesser, Cond.static yX10_lesser, Cond.code yX10_lesser cX10_lesser 2 (some .int), Cond.methodLink RX10 202 yX10_bookLine, Cond.instanceMethod yX10_bookLine, Cond.selects RX10 yX10_bookLine yX10_bookLine, Cond.code yX10_bookLine cX10_bookLine 5 (some .boolean), Cond.methodLink RX10 188 yX10_deedBy]
def wsX10_readText_r4 : List Cond := [Cond.static yX10_deedBy, Cond.code yX10_deedBy cX10_deedBy 2 (some .int), Cond.constantLong RX10 174 (1668047216), Cond.constantLong RX10 176 (1818586724), Cond.constantLong RX10 178 (491328135545), Cond.constantLong RX10 180 (1752527720), Cond.constantLong RX10 182 (495874699885), Cond.constantLong RX10 184 (111524789056101), Cond.constantLong RX10 186 (474214787188), Cond.methodLink RX10 192 yX10_deedNumbers, Cond.instanceMethod yX10_deedNumbers, Cond.selects RX10 yX10_deedNumbers yX10_deedNumbers, Cond.code yX10_deedNumbers cX10_deedNumbers 2 (some .boolean), Cond.methodLink RX10 205 yX10_darkLine, Cond.instanceMethod yX10_darkLine, Cond.selects RX10 yX10_darkLine yX10_darkLine, Cond.code yX10_darkLine cX10_darkLine 4 (some .boolean), Cond.constantLong RX10 196 (448377483876)]
def wsX10_readText : List Cond := .code yX10_readText cX10_readText 3 (some .boolean) :: ((wsX10_readText_r1 ++ (wsX10_readText_r2 ++ (wsX10_readText_r3 ++ wsX10_readText_r4))) ++ wsX100)
def wsX10_store : List Cond := .code yX10_store cX10_store 5 none :: ([.fieldLink RX10 35 "ClapBankModel" "told" "[I"] ++ wsX100)
def wsX10_text_r1 : List Cond := [Cond.fieldLink RX10 80 "ClapBankModel" "code" "I", Cond.fieldLink RX10 13 "ClapBankModel" "size" "[I", Cond.fieldLink RX10 103 "ClapBankModel" "length" "I", Cond.fieldLink RX10 17 "ClapBankModel" "fault" "[I", Cond.fieldLink RX10 20 "ClapBankModel" "faultPlace" "[I", Cond.fieldLink RX10 23 "ClapBankModel" "many" "[I", Cond.fieldLink RX10 26 "ClapBankModel" "theatres" "[I", Cond.fieldLink RX10 29 "ClapBankModel" "books" "[I", Cond.fieldLink RX10 32 "ClapBankModel" "darks" "[I", Cond.methodLink RX10 92 yX10_in, Cond.static yX10_in, Cond.initialized RX10, Cond.code yX10_in cX10_in 3 (some .boolean), Cond.methodLink RX10 211 yX10_is, Cond.instanceMethod yX10_is, Cond.selects RX10 yX10_is yX10_is, Cond.code yX10_is cX10_is 3 (some .boolean), Cond.methodLink RX10 214 yX10_readText, Cond.instanceMethod yX10_readText, Cond.selects RX10 yX10_readText yX10_readText, Cond.code yX10_readText cX10_readText 3 (some .boolean), Cond.fieldLink RX10 35 "ClapBankModel" "told" "[I", Cond.fieldLink RX10 100 "ClapBankModel" "reached" "I", Cond.fieldLink RX10 126 "ClapBankModel" "laterFault" "I"]
def wsX10_text_r2 : List Cond := [Cond.fieldLink RX10 123 "ClapBankModel" "wrongAt" "I", Cond.fieldLink RX10 129 "ClapBankModel" "laterPlace" "I", Cond.methodLink RX10 140 yX10_token, Cond.instanceMethod yX10_token, Cond.selects RX10 yX10_token yX10_token, Cond.code yX10_token cX10_token 3 none, Cond.fieldLink RX10 110 "ClapBankModel" "begins" "I", Cond.fieldLink RX10 113 "ClapBankModel" "word" "J", Cond.fieldLink RX10 117 "ClapBankModel" "sort" "I", Cond.fieldLink RX10 120 "ClapBankModel" "value" "I", Cond.methodLink RX10 106 yX10_see, Cond.instanceMethod yX10_see, Cond.selects RX10 yX10_see yX10_see, Cond.code yX10_see cX10_see 1 (some .int), Cond.fieldLink RX10 7 "ClapBankModel" "tape" "[B", Cond.methodLink RX10 208 yX10_lines, Cond.instanceMethod yX10_lines, Cond.selects RX10 yX10_lines yX10_lines, Cond.code yX10_lines cX10_lines 6 (some .boolean), Cond.methodLink RX10 198 yX10_theatreLine, Cond.instanceMethod yX10_theatreLine, Cond.selects RX10 yX10_theatreLine yX10_theatreLine, Cond.code yX10_theatreLine cX10_theatreLine 5 (some .boolean), Cond.constantLong RX10 147 (1918989413)]
def wsX10_text_r3 : List Cond := [Cond.constantLong RX10 149 (426953241460), Cond.constantLong RX10 151 (108230800994167), Cond.constantLong RX10 153 (1885432941), Cond.constantLong RX10 155 (418280402802), Cond.constantLong RX10 157 (129138752120178), Cond.fieldLink RX10 38 "ClapBankModel" "read" "[I", Cond.methodLink RX10 132 yX10_fails, Cond.instanceMethod yX10_fails, Cond.selects RX10 yX10_fails yX10_fails, Cond.code yX10_fails cX10_fails 1 (some .boolean), Cond.methodLink RX10 159 yX10_full, Cond.instanceMethod yX10_full, Cond.selects RX10 yX10_full yX10_full, Cond.code yX10_full cX10_full 4 none, Cond.methodLink RX10 136 yX10_later, Cond.instanceMethod yX10_later, Cond.selects RX10 yX10_later yX10_later, Cond.code yX10_later cX10_later 3 none, Cond.methodLink RX10 163 yX10_take, Cond.instanceMethod yX10_take, Cond.selects RX10 yX10_take yX10_take, Cond.code yX10_take cX10_take 4 (some .boolean), Cond.methodLink RX10 143 yX10_takeBut, Cond.instanceMethod yX10_takeBut]
def wsX10_text_r4 : List Cond := [Cond.selects RX10 yX10_takeBut yX10_takeBut, Cond.code yX10_takeBut cX10_takeBut 5 (some .boolean), Cond.methodLink RX10 166 yX10_keep, Cond.instanceMethod yX10_keep, Cond.selects RX10 yX10_keep yX10_keep, Cond.code yX10_keep cX10_keep 7 none, Cond.methodLink RX10 170 yX10_lesser, Cond.static yX10_lesser, Cond.code yX10_lesser cX10_lesser 2 (some .int), Cond.methodLink RX10 202 yX10_bookLine, Cond.instanceMethod yX10_bookLine, Cond.selects RX10 yX10_bookLine yX10_bookLine, Cond.code yX10_bookLine cX10_bookLine 5 (some .boolean), Cond.methodLink RX10 188 yX10_deedBy, Cond.static yX10_deedBy, Cond.code yX10_deedBy cX10_deedBy 2 (some .int), Cond.constantLong RX10 174 (1668047216), Cond.constantLong RX10 176 (1818586724), Cond.constantLong RX10 178 (491328135545), Cond.constantLong RX10 180 (1752527720), Cond.constantLong RX10 182 (495874699885), Cond.constantLong RX10 184 (111524789056101), Cond.constantLong RX10 186 (474214787188), Cond.methodLink RX10 192 yX10_deedNumbers]
def wsX10_text_r5 : List Cond := [Cond.instanceMethod yX10_deedNumbers, Cond.selects RX10 yX10_deedNumbers yX10_deedNumbers, Cond.code yX10_deedNumbers cX10_deedNumbers 2 (some .boolean), Cond.methodLink RX10 205 yX10_darkLine, Cond.instanceMethod yX10_darkLine, Cond.selects RX10 yX10_darkLine yX10_darkLine, Cond.code yX10_darkLine cX10_darkLine 4 (some .boolean), Cond.constantLong RX10 196 (448377483876), Cond.methodLink RX10 217 yX10_store, Cond.instanceMethod yX10_store, Cond.selects RX10 yX10_store yX10_store, Cond.code yX10_store cX10_store 5 none]
def wsX10_text : List Cond := .code yX10_text cX10_text 4 (some .int) :: ((wsX10_text_r1 ++ (wsX10_text_r2 ++ (wsX10_text_r3 ++ (wsX10_text_r4 ++ wsX10_text_r5)))) ++ wsX100)
theorem dX10_see_0 : decode cX10_see 0 = .ok (.aload_n 0, 1) := by decide +kernel
theorem dX10_see_1 : decode cX10_see 1 = .ok (.getfield 100, 3) := by decide +kernel
theorem dX10_see_4 : decode cX10_see 4 = .ok (.aload_n 0, 1) := by decide +kernel
theorem dX10_see_5 : decode cX10_see 5 = .ok (.getfield 103, 3) := by decide +kernel
theorem dX10_see_8 : decode cX10_see 8 = .ok (.if_icmp .ge 19, 3) := by decide +kernel
theorem dX10_see_11 : decode cX10_see 11 = .ok (.aload_n 0, 1) := by decide +kernel
theorem dX10_see_12 : decode cX10_see 12 = .ok (.getfield 7, 3) := by decide +kernel
theorem dX10_see_15 : decode cX10_see 15 = .ok (.aload_n 0, 1) := by decide +kernel
theorem dX10_see_16 : decode cX10_see 16 = .ok (.getfield 100, 3) := by decide +kernel
theorem dX10_see_19 : decode cX10_see 19 = .ok (.baload, 1) := by decide +kernel
theorem dX10_see_20 : decode cX10_see 20 = .ok (.sipush 255, 3) := by decide +kernel
theorem dX10_see_23 : decode cX10_see 23 = .ok (.iand, 1) := by decide +kernel
theorem dX10_see_24 : decode cX10_see 24 = .ok (.goto 4, 3) := by decide +kernel
theorem dX10_see_27 : decode cX10_see 27 = .ok (.iconst (-1), 1) := by decide +kernel
theorem dX10_see_28 : decode cX10_see 28 = .ok (.ireturn, 1) := by decide +kernel
set_option maxRecDepth 20000 in
theorem ggX10_token_X10_see : GoodIn wsX10_token wsX10_see := goodIn_r _ [10, 1, 11, 12, 16, 17, 18, 19, 20, 21, 22, 23, 24, 25, 26, 27, 28, 29, 30, 31, 32, 33, 34, 35, 36, 37, 38, 39, 40, 41, 42, 43, 44, 45, 46, 47, 48, 49, 50, 51, 52, 53, 54, 55, 56, 57, 58, 59, 60, 61, 62, 63, 64, 65] (by decide +kernel) (by decide +kernel)
set_option maxRecDepth 20000 in
theorem gX10_token_X10_see : GoodIn wsX10_token (wsV RX10 106 RX10 yX10_see wsX10_see) := goodIn_app (goodIn_of _ (by decide +kernel)) ggX10_token_X10_see
set_option maxRecDepth 20000 in
theorem ggX10_token_X10_in : GoodIn wsX10_token wsX10_in := goodIn_r _ [15] (by decide +kernel) (by decide +kernel)
set_option maxRecDepth 20000 in
theorem gX10_token_X10_in : GoodIn wsX10_token (va_wsS RX10 92 yX10_in wsX10_in) := goodIn_app (goodIn_of _ (by decide +kernel)) ggX10_token_X10_in
theorem dX10_token_0 : decode cX10_token 0 = .ok (.aload_n 0, 1) := by decide +kernel
theorem dX10_token_1 : decode cX10_token 1 = .ok (.invokevirtual 106, 3) := by decide +kernel
theorem dX10_token_4 : decode cX10_token 4 = .ok (.bipush 10, 2) := by decide +kernel
theorem dX10_token_6 : decode cX10_token 6 = .ok (.if_icmp .eq 12, 3) := by decide +kernel
theorem dX10_token_9 : decode cX10_token 9 = .ok (.aload_n 0, 1) := by decide +kernel
theorem dX10_token_10 : decode cX10_token 10 = .ok (.invokevirtual 106, 3) := by decide +kernel
theorem dX10_token_13 : decode cX10_token 13 = .ok (.bipush 32, 2) := by decide +kernel
theorem dX10_token_15 : decode cX10_token 15 = .ok (.if_icmp .ne 16, 3) := by decide +kernel
theorem dX10_token_18 : decode cX10_token 18 = .ok (.aload_n 0, 1) := by decide +kernel
theorem dX10_token_19 : decode cX10_token 19 = .ok (.dup, 1) := by decide +kernel
theorem dX10_token_20 : decode cX10_token 20 = .ok (.getfield 100, 3) := by decide +kernel
theorem dX10_token_23 : decode cX10_token 23 = .ok (.iconst 1, 1) := by decide +kernel
theorem dX10_token_24 : decode cX10_token 24 = .ok (.iadd, 1) := by decide +kernel
theorem dX10_token_25 : decode cX10_token 25 = .ok (.putfield 100, 3) := by decide +kernel
theorem dX10_token_28 : decode cX10_token 28 = .ok (.goto (-28), 3) := by decide +kernel
theorem dX10_token_31 : decode cX10_token 31 = .ok (.aload_n 0, 1) := by decide +kernel
theorem dX10_token_32 : decode cX10_token 32 = .ok (.aload_n 0, 1) := by decide +kernel
theorem dX10_token_33 : decode cX10_token 33 = .ok (.getfield 100, 3) := by decide +kernel
theorem dX10_token_36 : decode cX10_token 36 = .ok (.putfield 110, 3) := by decide +kernel
theorem dX10_token_39 : decode cX10_token 39 = .ok (.aload_n 0, 1) := by decide +kernel
theorem dX10_token_40 : decode cX10_token 40 = .ok (.invokevirtual 106, 3) := by decide +kernel
theorem dX10_token_43 : decode cX10_token 43 = .ok (.istore_n 1, 1) := by decide +kernel
theorem dX10_token_44 : decode cX10_token 44 = .ok (.aload_n 0, 1) := by decide +kernel
theorem dX10_token_45 : decode cX10_token 45 = .ok (.lconst 0, 1) := by decide +kernel
theorem dX10_token_46 : decode cX10_token 46 = .ok (.putfield 113, 3) := by decide +kernel
theorem dX10_token_49 : decode cX10_token 49 = .ok (.iconst 0, 1) := by decide +kernel
theorem dX10_token_50 : decode cX10_token 50 = .ok (.istore_n 2, 1) := by decide +kernel
theorem dX10_token_51 : decode cX10_token 51 = .ok (.iload_n 1, 1) := by decide +kernel
theorem dX10_token_52 : decode cX10_token 52 = .ok (.ifCond .ge 11, 3) := by decide +kernel
theorem dX10_token_55 : decode cX10_token 55 = .ok (.aload_n 0, 1) := by decide +kernel
theorem dX10_token_56 : decode cX10_token 56 = .ok (.iconst 0, 1) := by decide +kernel
theorem dX10_token_57 : decode cX10_token 57 = .ok (.putfield 117, 3) := by decide +kernel
theorem dX10_token_60 : decode cX10_token 60 = .ok (.goto 206, 3) := by decide +kernel
theorem dX10_token_63 : decode cX10_token 63 = .ok (.iload_n 1, 1) := by decide +kernel
theorem dX10_token_64 : decode cX10_token 64 = .ok (.bipush 97, 2) := by decide +kernel
theorem dX10_token_66 : decode cX10_token 66 = .ok (.bipush 122, 2) := by decide +kernel
theorem dX10_token_68 : decode cX10_token 68 = .ok (.invokestatic 92, 3) := by decide +kernel
theorem dX10_token_71 : decode cX10_token 71 = .ok (.ifCond .eq 76, 3) := by decide +kernel
theorem dX10_token_74 : decode cX10_token 74 = .ok (.aload_n 0, 1) := by decide +kernel
theorem dX10_token_75 : decode cX10_token 75 = .ok (.invokevirtual 106, 3) := by decide +kernel
theorem dX10_token_78 : decode cX10_token 78 = .ok (.bipush 97, 2) := by decide +kernel
theorem dX10_token_80 : decode cX10_token 80 = .ok (.bipush 122, 2) := by decide +kernel
theorem dX10_token_82 : decode cX10_token 82 = .ok (.invokestatic 92, 3) := by decide +kernel
theorem dX10_token_85 : decode cX10_token 85 = .ok (.ifCond .eq 36, 3) := by decide +kernel
theorem dX10_token_88 : decode cX10_token 88 = .ok (.aload_n 0, 1) := by decide +kernel
theorem dX10_token_89 : decode cX10_token 89 = .ok (.aload_n 0, 1) := by decide +kernel
theorem dX10_token_90 : decode cX10_token 90 = .ok (.getfield 113, 3) := by decide +kernel
theorem dX10_token_93 : decode cX10_token 93 = .ok (.bipush 8, 2) := by decide +kernel
theorem dX10_token_95 : decode cX10_token 95 = .ok (.lshl, 1) := by decide +kernel
theorem dX10_token_96 : decode cX10_token 96 = .ok (.aload_n 0, 1) := by decide +kernel
theorem dX10_token_97 : decode cX10_token 97 = .ok (.invokevirtual 106, 3) := by decide +kernel
theorem dX10_token_100 : decode cX10_token 100 = .ok (.i2l, 1) := by decide +kernel
theorem dX10_token_101 : decode cX10_token 101 = .ok (.lor, 1) := by decide +kernel
theorem dX10_token_102 : decode cX10_token 102 = .ok (.putfield 113, 3) := by decide +kernel
theorem dX10_token_105 : decode cX10_token 105 = .ok (.aload_n 0, 1) := by decide +kernel
theorem dX10_token_106 : decode cX10_token 106 = .ok (.dup, 1) := by decide +kernel
theorem dX10_token_107 : decode cX10_token 107 = .ok (.getfield 100, 3) := by decide +kernel
theorem dX10_token_110 : decode cX10_token 110 = .ok (.iconst 1, 1) := by decide +kernel
theorem dX10_token_111 : decode cX10_token 111 = .ok (.iadd, 1) := by decide +kernel
theorem dX10_token_112 : decode cX10_token 112 = .ok (.putfield 100, 3) := by decide +kernel
theorem dX10_token_115 : decode cX10_token 115 = .ok (.iinc 2 1, 3) := by decide +kernel
theorem dX10_token_118 : decode cX10_token 118 = .ok (.goto (-44), 3) := by decide +kernel
theorem dX10_token_121 : decode cX10_token 121 = .ok (.aload_n 0, 1) := by decide +kernel
theorem dX10_token_122 : decode cX10_token 122 = .ok (.iload_n 2, 1) := by decide +kernel
theorem dX10_token_123 : decode cX10_token 123 = .ok (.bipush 8, 2) := by decide +kernel
theorem dX10_token_125 : decode cX10_token 125 = .ok (.if_icmp .le 7, 3) := by decide +kernel
theorem dX10_token_128 : decode cX10_token 128 = .ok (.lconst 0, 1) := by decide +kernel
theorem dX10_token_129 : decode cX10_token 129 = .ok (.goto 7, 3) := by decide +kernel
theorem dX10_token_132 : decode cX10_token 132 = .ok (.aload_n 0, 1) := by decide +kernel
theorem dX10_token_133 : decode cX10_token 133 = .ok (.getfield 113, 3) := by decide +kernel
theorem dX10_token_136 : decode cX10_token 136 = .ok (.putfield 113, 3) := by decide +kernel
theorem dX10_token_139 : decode cX10_token 139 = .ok (.aload_n 0, 1) := by decide +kernel
theorem dX10_token_140 : decode cX10_token 140 = .ok (.iconst 2, 1) := by decide +kernel
theorem dX10_token_141 : decode cX10_token 141 = .ok (.putfield 117, 3) := by decide +kernel
theorem dX10_token_144 : decode cX10_token 144 = .ok (.goto 122, 3) := by decide +kernel
theorem dX10_token_147 : decode cX10_token 147 = .ok (.iload_n 1, 1) := by decide +kernel
theorem dX10_token_148 : decode cX10_token 148 = .ok (.bipush 48, 2) := by decide +kernel
theorem dX10_token_150 : decode cX10_token 150 = .ok (.bipush 57, 2) := by decide +kernel
theorem dX10_token_152 : decode cX10_token 152 = .ok (.invokestatic 92, 3) := by decide +kernel
theorem dX10_token_155 : decode cX10_token 155 = .ok (.ifCond .eq 86, 3) := by decide +kernel
theorem dX10_token_158 : decode cX10_token 158 = .ok (.aload_n 0, 1) := by decide +kernel
theorem dX10_token_159 : decode cX10_token 159 = .ok (.iconst 0, 1) := by decide +kernel
theorem dX10_token_160 : decode cX10_token 160 = .ok (.putfield 120, 3) := by decide +kernel
theorem dX10_token_163 : decode cX10_token 163 = .ok (.aload_n 0, 1) := by decide +kernel
theorem dX10_token_164 : decode cX10_token 164 = .ok (.invokevirtual 106, 3) := by decide +kernel
theorem dX10_token_167 : decode cX10_token 167 = .ok (.bipush 48, 2) := by decide +kernel
theorem dX10_token_169 : decode cX10_token 169 = .ok (.bipush 57, 2) := by decide +kernel
theorem dX10_token_171 : decode cX10_token 171 = .ok (.invokestatic 92, 3) := by decide +kernel
theorem dX10_token_174 : decode cX10_token 174 = .ok (.ifCond .eq 50, 3) := by decide +kernel
theorem dX10_token_177 : decode cX10_token 177 = .ok (.aload_n 0, 1) := by decide +kernel
theorem dX10_token_178 : decode cX10_token 178 = .ok (.iload_n 2, 1) := by decide +kernel
theorem dX10_token_179 : decode cX10_token 179 = .ok (.iconst 3, 1) := by decide +kernel
theorem dX10_token_180 : decode cX10_token 180 = .ok (.if_icmp .ge 21, 3) := by decide +kernel
theorem dX10_token_183 : decode cX10_token 183 = .ok (.bipush 10, 2) := by decide +kernel
theorem dX10_token_185 : decode cX10_token 185 = .ok (.aload_n 0, 1) := by decide +kernel
theorem dX10_token_186 : decode cX10_token 186 = .ok (.getfield 120, 3) := by decide +kernel
theorem dX10_token_189 : decode cX10_token 189 = .ok (.imul, 1) := by decide +kernel
theorem dX10_token_190 : decode cX10_token 190 = .ok (.aload_n 0, 1) := by decide +kernel
theorem dX10_token_191 : decode cX10_token 191 = .ok (.invokevirtual 106, 3) := by decide +kernel
theorem dX10_token_194 : decode cX10_token 194 = .ok (.iadd, 1) := by decide +kernel
theorem dX10_token_195 : decode cX10_token 195 = .ok (.bipush 48, 2) := by decide +kernel
theorem dX10_token_197 : decode cX10_token 197 = .ok (.isub, 1) := by decide +kernel
theorem dX10_token_198 : decode cX10_token 198 = .ok (.goto 7, 3) := by decide +kernel
theorem dX10_token_201 : decode cX10_token 201 = .ok (.aload_n 0, 1) := by decide +kernel
theorem dX10_token_202 : decode cX10_token 202 = .ok (.getfield 120, 3) := by decide +kernel
theorem dX10_token_205 : decode cX10_token 205 = .ok (.putfield 120, 3) := by decide +kernel
theorem dX10_token_208 : decode cX10_token 208 = .ok (.aload_n 0, 1) := by decide +kernel
theorem dX10_token_209 : decode cX10_token 209 = .ok (.dup, 1) := by decide +kernel
theorem dX10_token_210 : decode cX10_token 210 = .ok (.getfield 100, 3) := by decide +kernel
theorem dX10_token_213 : decode cX10_token 213 = .ok (.iconst 1, 1) := by decide +kernel
theorem dX10_token_214 : decode cX10_token 214 = .ok (.iadd, 1) := by decide +kernel
theorem dX10_token_215 : decode cX10_token 215 = .ok (.putfield 100, 3) := by decide +kernel
theorem dX10_token_218 : decode cX10_token 218 = .ok (.iinc 2 1, 3) := by decide +kernel
theorem dX10_token_221 : decode cX10_token 221 = .ok (.goto (-58), 3) := by decide +kernel
theorem dX10_token_224 : decode cX10_token 224 = .ok (.aload_n 0, 1) := by decide +kernel
theorem dX10_token_225 : decode cX10_token 225 = .ok (.iload_n 2, 1) := by decide +kernel
theorem dX10_token_226 : decode cX10_token 226 = .ok (.iconst 3, 1) := by decide +kernel
theorem dX10_token_227 : decode cX10_token 227 = .ok (.if_icmp .le 7, 3) := by decide +kernel
theorem dX10_token_230 : decode cX10_token 230 = .ok (.iconst 1, 1) := by decide +kernel
theorem dX10_token_231 : decode cX10_token 231 = .ok (.goto 4, 3) := by decide +kernel
theorem dX10_token_234 : decode cX10_token 234 = .ok (.iconst 3, 1) := by decide +kernel
theorem dX10_token_235 : decode cX10_token 235 = .ok (.putfield 117, 3) := by decide +kernel
theorem dX10_token_238 : decode cX10_token 238 = .ok (.goto 28, 3) := by decide +kernel
theorem dX10_token_241 : decode cX10_token 241 = .ok (.aload_n 0, 1) := by decide +kernel
theorem dX10_token_242 : decode cX10_token 242 = .ok (.dup, 1) := by decide +kernel
theorem dX10_token_243 : decode cX10_token 243 = .ok (.getfield 100, 3) := by decide +kernel
theorem dX10_token_246 : decode cX10_token 246 = .ok (.iconst 1, 1) := by decide +kernel
theorem dX10_token_247 : decode cX10_token 247 = .ok (.iadd, 1) := by decide +kernel
theorem dX10_token_248 : decode cX10_token 248 = .ok (.putfield 100, 3) := by decide +kernel
theorem dX10_token_251 : decode cX10_token 251 = .ok (.aload_n 0, 1) := by decide +kernel
theorem dX10_token_252 : decode cX10_token 252 = .ok (.iload_n 1, 1) := by decide +kernel
theorem dX10_token_253 : decode cX10_token 253 = .ok (.bipush 59, 2) := by decide +kernel
theorem dX10_token_255 : decode cX10_token 255 = .ok (.if_icmp .ne 7, 3) := by decide +kernel
theorem dX10_token_258 : decode cX10_token 258 = .ok (.iconst 4, 1) := by decide +kernel
theorem dX10_token_259 : decode cX10_token 259 = .ok (.goto 4, 3) := by decide +kernel
theorem dX10_token_262 : decode cX10_token 262 = .ok (.iconst 1, 1) := by decide +kernel
theorem dX10_token_263 : decode cX10_token 263 = .ok (.putfield 117, 3) := by decide +kernel
theorem dX10_token_266 : decode cX10_token 266 = .ok (.return_, 1) := by decide +kernel
theorem dX10_fails_0 : decode cX10_fails 0 = .ok (.aload_n 0, 1) := by decide +kernel
theorem dX10_fails_1 : decode cX10_fails 1 = .ok (.aload_n 0, 1) := by decide +kernel
theorem dX10_fails_2 : decode cX10_fails 2 = .ok (.getfield 110, 3) := by decide +kernel
theorem dX10_fails_5 : decode cX10_fails 5 = .ok (.putfield 123, 3) := by decide +kernel
theorem dX10_fails_8 : decode cX10_fails 8 = .ok (.iconst 0, 1) := by decide +kernel
theorem dX10_fails_9 : decode cX10_fails 9 = .ok (.ireturn, 1) := by decide +kernel
theorem dX10_later_0 : decode cX10_later 0 = .ok (.aload_n 0, 1) := by decide +kernel
theorem dX10_later_1 : decode cX10_later 1 = .ok (.getfield 126, 3) := by decide +kernel
theorem dX10_later_4 : decode cX10_later 4 = .ok (.ifCond .eq 27, 3) := by decide +kernel
theorem dX10_later_7 : decode cX10_later 7 = .ok (.iload_n 2, 1) := by decide +kernel
theorem dX10_later_8 : decode cX10_later 8 = .ok (.aload_n 0, 1) := by decide +kernel
theorem dX10_later_9 : decode cX10_later 9 = .ok (.getfield 129, 3) := by decide +kernel
theorem dX10_later_12 : decode cX10_later 12 = .ok (.if_icmp .lt 19, 3) := by decide +kernel
theorem dX10_later_15 : decode cX10_later 15 = .ok (.iload_n 2, 1) := by decide +kernel
theorem dX10_later_16 : decode cX10_later 16 = .ok (.aload_n 0, 1) := by decide +kernel
theorem dX10_later_17 : decode cX10_later 17 = .ok (.getfield 129, 3) := by decide +kernel
theorem dX10_later_20 : decode cX10_later 20 = .ok (.if_icmp .ne 21, 3) := by decide +kernel
theorem dX10_later_23 : decode cX10_later 23 = .ok (.iload_n 1, 1) := by decide +kernel
theorem dX10_later_24 : decode cX10_later 24 = .ok (.aload_n 0, 1) := by decide +kernel
theorem dX10_later_25 : decode cX10_later 25 = .ok (.getfield 126, 3) := by decide +kernel
theorem dX10_later_28 : decode cX10_later 28 = .ok (.if_icmp .ge 13, 3) := by decide +kernel
theorem dX10_later_31 : decode cX10_later 31 = .ok (.aload_n 0, 1) := by decide +kernel
theorem dX10_later_32 : decode cX10_later 32 = .ok (.iload_n 1, 1) := by decide +kernel
theorem dX10_later_33 : decode cX10_later 33 = .ok (.putfield 126, 3) := by decide +kernel
theorem dX10_later_36 : decode cX10_later 36 = .ok (.aload_n 0, 1) := by decide +kernel
theorem dX10_later_37 : decode cX10_later 37 = .ok (.iload_n 2, 1) := by decide +kernel
theorem dX10_later_38 : decode cX10_later 38 = .ok (.putfield 129, 3) := by decide +kernel
theorem dX10_later_41 : decode cX10_later 41 = .ok (.return_, 1) := by decide +kernel
set_option maxRecDepth 20000 in
theorem ggX10_takeBut_X10_fails : GoodIn wsX10_takeBut wsX10_fails := goodIn_r _ [9, 4, 10, 32, 33, 34, 35, 36, 37, 38, 39, 40, 41, 42, 43, 44, 45, 46, 47, 48, 49, 50, 51, 52, 53, 54, 55, 56, 57, 58, 59, 60, 61, 62, 63, 64, 65, 66, 67, 68, 69, 70, 71, 72, 73, 74, 75, 76, 77, 78, 79, 80, 81] (by decide +kernel) (by decide +kernel)
set_option maxRecDepth 20000 in
theorem gX10_takeBut_X10_fails : GoodIn wsX10_takeBut (wsV RX10 132 RX10 yX10_fails wsX10_fails) := goodIn_app (goodIn_of _ (by decide +kernel)) ggX10_takeBut_X10_fails
set_option maxRecDepth 20000 in
theorem ggX10_takeBut_X10_in : GoodIn wsX10_takeBut wsX10_in := goodIn_r _ [13] (by decide +kernel) (by decide +kernel)
set_option maxRecDepth 20000 in
theorem gX10_takeBut_X10_in : GoodIn wsX10_takeBut (va_wsS RX10 92 yX10_in wsX10_in) := goodIn_app (goodIn_of _ (by decide +kernel)) ggX10_takeBut_X10_in
set_option maxRecDepth 20000 in
theorem ggX10_takeBut_X10_later : GoodIn wsX10_takeBut wsX10_later := goodIn_r _ [17, 18, 19, 32, 33, 34, 35, 36, 37, 38, 39, 40, 41, 42, 43, 44, 45, 46, 47, 48, 49, 50, 51, 52, 53, 54, 55, 56, 57, 58, 59, 60, 61, 62, 63, 64, 65, 66, 67, 68, 69, 70, 71, 72, 73, 74, 75, 76, 77, 78, 79, 80, 81] (by decide +kernel) (by decide +kernel)
set_option maxRecDepth 20000 in
theorem gX10_takeBut_X10_later : GoodIn wsX10_takeBut (wsV RX10 136 RX10 yX10_later wsX10_later) := goodIn_app (goodIn_of _ (by decide +kernel)) ggX10_takeBut_X10_later
set_option maxRecDepth 20000 in
theorem ggX10_takeBut_X10_token : GoodIn wsX10_takeBut wsX10_token := goodIn_r _ [23, 24, 4, 25, 1, 3, 26, 27, 28, 8, 29, 30, 31, 11, 12, 13, 32, 33, 34, 35, 36, 37, 38, 39, 40, 41, 42, 43, 44, 45, 46, 47, 48, 49, 50, 51, 52, 53, 54, 55, 56, 57, 58, 59, 60, 61, 62, 63, 64, 65, 66, 67, 68, 69, 70, 71, 72, 73, 74, 75, 76, 77, 78, 79, 80, 81] (by decide +kernel) (by decide +kernel)
set_option maxRecDepth 20000 in
theorem gX10_takeBut_X10_token : GoodIn wsX10_takeBut (wsV RX10 140 RX10 yX10_token wsX10_token) := goodIn_app (goodIn_of _ (by decide +kernel)) ggX10_takeBut_X10_token
theorem dX10_takeBut_0 : decode cX10_takeBut 0 = .ok (.aload_n 0, 1) := by decide +kernel
theorem dX10_takeBut_1 : decode cX10_takeBut 1 = .ok (.getfield 117, 3) := by decide +kernel
theorem dX10_takeBut_4 : decode cX10_takeBut 4 = .ok (.iconst 3, 1) := by decide +kernel
theorem dX10_takeBut_5 : decode cX10_takeBut 5 = .ok (.if_icmp .eq 8, 3) := by decide +kernel
theorem dX10_takeBut_8 : decode cX10_takeBut 8 = .ok (.aload_n 0, 1) := by decide +kernel
theorem dX10_takeBut_9 : decode cX10_takeBut 9 = .ok (.invokevirtual 132, 3) := by decide +kernel
theorem dX10_takeBut_12 : decode cX10_takeBut 12 = .ok (.ireturn, 1) := by decide +kernel
theorem dX10_takeBut_13 : decode cX10_takeBut 13 = .ok (.aload_n 0, 1) := by decide +kernel
theorem dX10_takeBut_14 : decode cX10_takeBut 14 = .ok (.getfield 38, 3) := by decide +kernel
theorem dX10_takeBut_17 : decode cX10_takeBut 17 = .ok (.iload_n 1, 1) := by decide +kernel
theorem dX10_takeBut_18 : decode cX10_takeBut 18 = .ok (.aload_n 0, 1) := by decide +kernel
theorem dX10_takeBut_19 : decode cX10_takeBut 19 = .ok (.getfield 120, 3) := by decide +kernel
theorem dX10_takeBut_22 : decode cX10_takeBut 22 = .ok (.iastore, 1) := by decide +kernel
theorem dX10_takeBut_23 : decode cX10_takeBut 23 = .ok (.aload_n 0, 1) := by decide +kernel
theorem dX10_takeBut_24 : decode cX10_takeBut 24 = .ok (.getfield 120, 3) := by decide +kernel
theorem dX10_takeBut_27 : decode cX10_takeBut 27 = .ok (.iload_n 2, 1) := by decide +kernel
theorem dX10_takeBut_28 : decode cX10_takeBut 28 = .ok (.iload_n 3, 1) := by decide +kernel
theorem dX10_takeBut_29 : decode cX10_takeBut 29 = .ok (.invokestatic 92, 3) := by decide +kernel
theorem dX10_takeBut_32 : decode cX10_takeBut 32 = .ok (.ifCond .eq 12, 3) := by decide +kernel
theorem dX10_takeBut_35 : decode cX10_takeBut 35 = .ok (.aload_n 0, 1) := by decide +kernel
theorem dX10_takeBut_36 : decode cX10_takeBut 36 = .ok (.getfield 120, 3) := by decide +kernel
theorem dX10_takeBut_39 : decode cX10_takeBut 39 = .ok (.iload 4, 2) := by decide +kernel
theorem dX10_takeBut_41 : decode cX10_takeBut 41 = .ok (.if_icmp .ne 12, 3) := by decide +kernel
theorem dX10_takeBut_44 : decode cX10_takeBut 44 = .ok (.aload_n 0, 1) := by decide +kernel
theorem dX10_takeBut_45 : decode cX10_takeBut 45 = .ok (.iconst 2, 1) := by decide +kernel
theorem dX10_takeBut_46 : decode cX10_takeBut 46 = .ok (.aload_n 0, 1) := by decide +kernel
theorem dX10_takeBut_47 : decode cX10_takeBut 47 = .ok (.getfield 110, 3) := by decide +kernel
theorem dX10_takeBut_50 : decode cX10_takeBut 50 = .ok (.invokevirtual 136, 3) := by decide +kernel
theorem dX10_takeBut_53 : decode cX10_takeBut 53 = .ok (.aload_n 0, 1) := by decide +kernel
theorem dX10_takeBut_54 : decode cX10_takeBut 54 = .ok (.invokevirtual 140, 3) := by decide +kernel
theorem dX10_takeBut_57 : decode cX10_takeBut 57 = .ok (.iconst 1, 1) := by decide +kernel
theorem dX10_takeBut_58 : decode cX10_takeBut 58 = .ok (.ireturn, 1) := by decide +kernel
set_option maxRecDepth 20000 in
theorem ggX10_take_X10_takeBut : GoodIn wsX10_take wsX10_takeBut := goodIn_r _ [5, 6, 7, 8, 9, 10, 11, 12, 4, 13, 14, 15, 16, 17, 18, 19, 20, 21, 22, 23, 24, 25, 26, 27, 28, 29, 30, 31, 32, 33, 34, 35, 36, 37, 38, 39, 40, 41, 42, 43, 44, 45, 46, 47, 48, 49, 50, 51, 52, 53, 54, 55, 56, 57, 58, 59, 60, 61, 62, 63, 64, 65, 66, 67, 68, 69, 70, 71, 72, 73, 74, 75, 76, 77, 78, 79, 80, 81, 82, 83, 84, 85] (by decide +kernel) (by decide +kernel)
set_option maxRecDepth 20000 in
theorem gX10_take_X10_takeBut : GoodIn wsX10_take (wsV RX10 143 RX10 yX10_takeBut wsX10_takeBut) := goodIn_app (goodIn_of _ (by decide +kernel)) ggX10_take_X10_takeBut
theorem dX10_take_0 : decode cX10_take 0 = .ok (.aload_n 0, 1) := by decide +kernel
theorem dX10_take_1 : decode cX10_take 1 = .ok (.iload_n 1, 1) := by decide +kernel
theorem dX10_take_2 : decode cX10_take 2 = .ok (.iload_n 2, 1) := by decide +kernel
theorem dX10_take_3 : decode cX10_take 3 = .ok (.iload_n 3, 1) := by decide +kernel
theorem dX10_take_4 : decode cX10_take 4 = .ok (.iconst (-1), 1) := by decide +kernel
theorem dX10_take_5 : decode cX10_take 5 = .ok (.invokevirtual 143, 3) := by decide +kernel
theorem dX10_take_8 : decode cX10_take 8 = .ok (.ireturn, 1) := by decide +kernel
set_option maxRecDepth 20000 in
theorem ggX10_full_X10_later : GoodIn wsX10_full wsX10_later := goodIn_r _ [6, 7, 8, 9, 10, 11, 12, 13, 14, 15, 16, 17, 18, 19, 20, 21, 22, 23, 24, 25, 26, 27, 28, 29, 30, 31, 32, 33, 34, 35, 36, 37, 38, 39, 40, 41, 42, 43, 44, 45, 46, 47, 48, 49, 50, 51, 52, 53, 54, 55, 56, 57, 58] (by decide +kernel) (by decide +kernel)
set_option maxRecDepth 20000 in
theorem gX10_full_X10_later : GoodIn wsX10_full (wsV RX10 136 RX10 yX10_later wsX10_later) := goodIn_app (goodIn_of _ (by decide +kernel)) ggX10_full_X10_later
theorem dX10_full_0 : decode cX10_full 0 = .ok (.aload_n 0, 1) := by decide +kernel
theorem dX10_full_1 : decode cX10_full 1 = .ok (.getfield 35, 3) := by decide +kernel
theorem dX10_full_4 : decode cX10_full 4 = .ok (.iload_n 1, 1) := by decide +kernel
theorem dX10_full_5 : decode cX10_full 5 = .ok (.iaload, 1) := by decide +kernel
theorem dX10_full_6 : decode cX10_full 6 = .ok (.iload_n 2, 1) := by decide +kernel
theorem dX10_full_7 : decode cX10_full 7 = .ok (.if_icmp .ne 9, 3) := by decide +kernel
theorem dX10_full_10 : decode cX10_full 10 = .ok (.aload_n 0, 1) := by decide +kernel
theorem dX10_full_11 : decode cX10_full 11 = .ok (.iconst 3, 1) := by decide +kernel
theorem dX10_full_12 : decode cX10_full 12 = .ok (.iload_n 3, 1) := by decide +kernel
theorem dX10_full_13 : decode cX10_full 13 = .ok (.invokevirtual 136, 3) := by decide +kernel
theorem dX10_full_16 : decode cX10_full 16 = .ok (.return_, 1) := by decide +kernel
theorem dX10_keep_0 : decode cX10_keep 0 = .ok (.aload_n 0, 1) := by decide +kernel
theorem dX10_keep_1 : decode cX10_keep 1 = .ok (.getfield 35, 3) := by decide +kernel
theorem dX10_keep_4 : decode cX10_keep 4 = .ok (.iload_n 1, 1) := by decide +kernel
theorem dX10_keep_5 : decode cX10_keep 5 = .ok (.iaload, 1) := by decide +kernel
theorem dX10_keep_6 : decode cX10_keep 6 = .ok (.istore 5, 2) := by decide +kernel
theorem dX10_keep_8 : decode cX10_keep 8 = .ok (.iload 5, 2) := by decide +kernel
theorem dX10_keep_10 : decode cX10_keep 10 = .ok (.iload 4, 2) := by decide +kernel
theorem dX10_keep_12 : decode cX10_keep 12 = .ok (.if_icmp .ne 4, 3) := by decide +kernel
theorem dX10_keep_15 : decode cX10_keep 15 = .ok (.return_, 1) := by decide +kernel
theorem dX10_keep_16 : decode cX10_keep 16 = .ok (.iconst 0, 1) := by decide +kernel
theorem dX10_keep_17 : decode cX10_keep 17 = .ok (.istore 6, 2) := by decide +kernel
theorem dX10_keep_19 : decode cX10_keep 19 = .ok (.iload 6, 2) := by decide +kernel
theorem dX10_keep_21 : decode cX10_keep 21 = .ok (.iload_n 3, 1) := by decide +kernel
theorem dX10_keep_22 : decode cX10_keep 22 = .ok (.if_icmp .ge 30, 3) := by decide +kernel
theorem dX10_keep_25 : decode cX10_keep 25 = .ok (.aload_n 0, 1) := by decide +kernel
theorem dX10_keep_26 : decode cX10_keep 26 = .ok (.getfield 35, 3) := by decide +kernel
theorem dX10_keep_29 : decode cX10_keep 29 = .ok (.iload_n 2, 1) := by decide +kernel
theorem dX10_keep_30 : decode cX10_keep 30 = .ok (.iload_n 3, 1) := by decide +kernel
theorem dX10_keep_31 : decode cX10_keep 31 = .ok (.iload 5, 2) := by decide +kernel
theorem dX10_keep_33 : decode cX10_keep 33 = .ok (.imul, 1) := by decide +kernel
theorem dX10_keep_34 : decode cX10_keep 34 = .ok (.iadd, 1) := by decide +kernel
theorem dX10_keep_35 : decode cX10_keep 35 = .ok (.iload 6, 2) := by decide +kernel
theorem dX10_keep_37 : decode cX10_keep 37 = .ok (.iadd, 1) := by decide +kernel
theorem dX10_keep_38 : decode cX10_keep 38 = .ok (.aload_n 0, 1) := by decide +kernel
theorem dX10_keep_39 : decode cX10_keep 39 = .ok (.getfield 38, 3) := by decide +kernel
theorem dX10_keep_42 : decode cX10_keep 42 = .ok (.iload 6, 2) := by decide +kernel
theorem dX10_keep_44 : decode cX10_keep 44 = .ok (.iaload, 1) := by decide +kernel
theorem dX10_keep_45 : decode cX10_keep 45 = .ok (.iastore, 1) := by decide +kernel
theorem dX10_keep_46 : decode cX10_keep 46 = .ok (.iinc 6 1, 3) := by decide +kernel
theorem dX10_keep_49 : decode cX10_keep 49 = .ok (.goto (-30), 3) := by decide +kernel
theorem dX10_keep_52 : decode cX10_keep 52 = .ok (.aload_n 0, 1) := by decide +kernel
theorem dX10_keep_53 : decode cX10_keep 53 = .ok (.getfield 35, 3) := by decide +kernel
theorem dX10_keep_56 : decode cX10_keep 56 = .ok (.iload_n 1, 1) := by decide +kernel
theorem dX10_keep_57 : decode cX10_keep 57 = .ok (.dup2, 1) := by decide +kernel
theorem dX10_keep_58 : decode cX10_keep 58 = .ok (.iaload, 1) := by decide +kernel
theorem dX10_keep_59 : decode cX10_keep 59 = .ok (.iconst 1, 1) := by decide +kernel
theorem dX10_keep_60 : decode cX10_keep 60 = .ok (.iadd, 1) := by decide +kernel
theorem dX10_keep_61 : decode cX10_keep 61 = .ok (.iastore, 1) := by decide +kernel
theorem dX10_keep_62 : decode cX10_keep 62 = .ok (.return_, 1) := by decide +kernel
set_option maxRecDepth 20000 in
theorem ggX10_theatreLine_X10_fails : GoodIn wsX10_theatreLine wsX10_fails := goodIn_r _ [13, 14, 15, 58, 59, 60, 61, 62, 63, 64, 65, 66, 67, 68, 69, 70, 71, 72, 73, 74, 75, 76, 77, 78, 79, 80, 81, 82, 83, 84, 85, 86, 87, 88, 89, 90, 91, 92, 93, 94, 95, 96, 97, 98, 99, 100, 101, 102, 103, 104, 105, 106, 107] (by decide +kernel) (by decide +kernel)
set_option maxRecDepth 20000 in
theorem gX10_theatreLine_X10_fails : GoodIn wsX10_theatreLine (wsV RX10 132 RX10 yX10_fails wsX10_fails) := goodIn_app (goodIn_of _ (by decide +kernel)) ggX10_theatreLine_X10_fails
set_option maxRecDepth 20000 in
theorem ggX10_theatreLine_X10_full : GoodIn wsX10_theatreLine wsX10_full := goodIn_r _ [19, 7, 20, 21, 22, 12, 23, 24, 25, 58, 59, 60, 61, 62, 63, 64, 65, 66, 67, 68, 69, 70, 71, 72, 73, 74, 75, 76, 77, 78, 79, 80, 81, 82, 83, 84, 85, 86, 87, 88, 89, 90, 91, 92, 93, 94, 95, 96, 97, 98, 99, 100, 101, 102, 103, 104, 105, 106, 107] (by decide +kernel) (by decide +kernel)
set_option maxRecDepth 20000 in
theorem gX10_theatreLine_X10_full : GoodIn wsX10_theatreLine (wsV RX10 159 RX10 yX10_full wsX10_full) := goodIn_app (goodIn_of _ (by decide +kernel)) ggX10_theatreLine_X10_full
set_option maxRecDepth 20000 in
theorem ggX10_theatreLine_X10_token : GoodIn wsX10_theatreLine wsX10_token := goodIn_r _ [29, 30, 14, 31, 32, 33, 34, 35, 36, 12, 37, 38, 39, 40, 41, 42, 58, 59, 60, 61, 62, 63, 64, 65, 66, 67, 68, 69, 70, 71, 72, 73, 74, 75, 76, 77, 78, 79, 80, 81, 82, 83, 84, 85, 86, 87, 88, 89, 90, 91, 92, 93, 94, 95, 96, 97, 98, 99, 100, 101, 102, 103, 104, 105, 106, 107] (by decide +kernel) (by decide +kernel)
set_option maxRecDepth 20000 in
theorem gX10_theatreLine_X10_token : GoodIn wsX10_theatreLine (wsV RX10 140 RX10 yX10_token wsX10_token) := goodIn_app (goodIn_of _ (by decide +kernel)) ggX10_theatreLine_X10_token
set_option maxRecDepth 20000 in
theorem ggX10_theatreLine_X10_take : GoodIn wsX10_theatreLine wsX10_take := goodIn_r _ [46, 47, 48, 49, 12, 50, 32, 8, 33, 14, 9, 10, 11, 13, 15, 40, 41, 42, 20, 21, 22, 23, 24, 25, 26, 27, 28, 29, 30, 31, 34, 35, 36, 37, 38, 39, 58, 59, 60, 61, 62, 63, 64, 65, 66, 67, 68, 69, 70, 71, 72, 73, 74, 75, 76, 77, 78, 79, 80, 81, 82, 83, 84, 85, 86, 87, 88, 89, 90, 91, 92, 93, 94, 95, 96, 97, 98, 99, 100, 101, 102, 103, 104, 105, 106, 107] (by decide +kernel) (by decide +kernel)
set_option maxRecDepth 20000 in
theorem gX10_theatreLine_X10_take : GoodIn wsX10_theatreLine (wsV RX10 163 RX10 yX10_take wsX10_take) := goodIn_app (goodIn_of _ (by decide +kernel)) ggX10_theatreLine_X10_take
set_option maxRecDepth 20000 in
theorem ggX10_theatreLine_X10_keep : GoodIn wsX10_theatreLine wsX10_keep := goodIn_r _ [54, 7, 8, 58, 59, 60, 61, 62, 63, 64, 65, 66, 67, 68, 69, 70, 71, 72, 73, 74, 75, 76, 77, 78, 79, 80, 81, 82, 83, 84, 85, 86, 87, 88, 89, 90, 91, 92, 93, 94, 95, 96, 97, 98, 99, 100, 101, 102, 103, 104, 105, 106, 107] (by decide +kernel) (by decide +kernel)
set_option maxRecDepth 20000 in
theorem gX10_theatreLine_X10_keep : GoodIn wsX10_theatreLine (wsV RX10 166 RX10 yX10_keep wsX10_keep) := goodIn_app (goodIn_of _ (by decide +kernel)) ggX10_theatreLine_X10_keep
set_option maxRecDepth 20000 in
theorem ggX10_theatreLine_X10_lesser : GoodIn wsX10_theatreLine wsX10_lesser := goodIn_r _ [57] (by decide +kernel) (by decide +kernel)
set_option maxRecDepth 20000 in
theorem gX10_theatreLine_X10_lesser : GoodIn wsX10_theatreLine (va_wsS RX10 170 yX10_lesser wsX10_lesser) := goodIn_app (goodIn_of _ (by decide +kernel)) ggX10_theatreLine_X10_lesser
theorem dX10_theatreLine_0 : decode cX10_theatreLine 0 = .ok (.lload_n 1, 1) := by decide +kernel
theorem dX10_theatreLine_1 : decode cX10_theatreLine 1 = .ok (.ldc2_w 147, 3) := by decide +kernel
theorem dX10_theatreLine_4 : decode cX10_theatreLine 4 = .ok (.lcmp, 1) := by decide +kernel
theorem dX10_theatreLine_5 : decode cX10_theatreLine 5 = .ok (.ifCond .ne 7, 3) := by decide +kernel
theorem dX10_theatreLine_8 : decode cX10_theatreLine 8 = .ok (.iconst 2, 1) := by decide +kernel
theorem dX10_theatreLine_9 : decode cX10_theatreLine 9 = .ok (.goto 28, 3) := by decide +kernel
theorem dX10_theatreLine_12 : decode cX10_theatreLine 12 = .ok (.lload_n 1, 1) := by decide +kernel
theorem dX10_theatreLine_13 : decode cX10_theatreLine 13 = .ok (.ldc2_w 149, 3) := by decide +kernel
theorem dX10_theatreLine_16 : decode cX10_theatreLine 16 = .ok (.lcmp, 1) := by decide +kernel
theorem dX10_theatreLine_17 : decode cX10_theatreLine 17 = .ok (.ifCond .ne 7, 3) := by decide +kernel
theorem dX10_theatreLine_20 : decode cX10_theatreLine 20 = .ok (.iconst 3, 1) := by decide +kernel
theorem dX10_theatreLine_21 : decode cX10_theatreLine 21 = .ok (.goto 16, 3) := by decide +kernel
theorem dX10_theatreLine_24 : decode cX10_theatreLine 24 = .ok (.lload_n 1, 1) := by decide +kernel
theorem dX10_theatreLine_25 : decode cX10_theatreLine 25 = .ok (.ldc2_w 151, 3) := by decide +kernel
theorem dX10_theatreLine_28 : decode cX10_theatreLine 28 = .ok (.lcmp, 1) := by decide +kernel
theorem dX10_theatreLine_29 : decode cX10_theatreLine 29 = .ok (.ifCond .ne 7, 3) := by decide +kernel
theorem dX10_theatreLine_32 : decode cX10_theatreLine 32 = .ok (.iconst 5, 1) := by decide +kernel
theorem dX10_theatreLine_33 : decode cX10_theatreLine 33 = .ok (.goto 4, 3) := by decide +kernel
theorem dX10_theatreLine_36 : decode cX10_theatreLine 36 = .ok (.iconst (-1), 1) := by decide +kernel
theorem dX10_theatreLine_37 : decode cX10_theatreLine 37 = .ok (.istore 4, 2) := by decide +kernel
theorem dX10_theatreLine_39 : decode cX10_theatreLine 39 = .ok (.iload 4, 2) := by decide +kernel
theorem dX10_theatreLine_41 : decode cX10_theatreLine 41 = .ok (.iconst (-1), 1) := by decide +kernel
theorem dX10_theatreLine_42 : decode cX10_theatreLine 42 = .ok (.if_icmp .ne 32, 3) := by decide +kernel
theorem dX10_theatreLine_45 : decode cX10_theatreLine 45 = .ok (.lload_n 1, 1) := by decide +kernel
theorem dX10_theatreLine_46 : decode cX10_theatreLine 46 = .ok (.ldc2_w 153, 3) := by decide +kernel
theorem dX10_theatreLine_49 : decode cX10_theatreLine 49 = .ok (.lcmp, 1) := by decide +kernel
theorem dX10_theatreLine_50 : decode cX10_theatreLine 50 = .ok (.ifCond .eq 24, 3) := by decide +kernel
theorem dX10_theatreLine_53 : decode cX10_theatreLine 53 = .ok (.lload_n 1, 1) := by decide +kernel
theorem dX10_theatreLine_54 : decode cX10_theatreLine 54 = .ok (.ldc2_w 155, 3) := by decide +kernel
theorem dX10_theatreLine_57 : decode cX10_theatreLine 57 = .ok (.lcmp, 1) := by decide +kernel
theorem dX10_theatreLine_58 : decode cX10_theatreLine 58 = .ok (.ifCond .eq 16, 3) := by decide +kernel
theorem dX10_theatreLine_61 : decode cX10_theatreLine 61 = .ok (.lload_n 1, 1) := by decide +kernel
theorem dX10_theatreLine_62 : decode cX10_theatreLine 62 = .ok (.ldc2_w 157, 3) := by decide +kernel
theorem dX10_theatreLine_65 : decode cX10_theatreLine 65 = .ok (.lcmp, 1) := by decide +kernel
theorem dX10_theatreLine_66 : decode cX10_theatreLine 66 = .ok (.ifCond .eq 8, 3) := by decide +kernel
theorem dX10_theatreLine_69 : decode cX10_theatreLine 69 = .ok (.aload_n 0, 1) := by decide +kernel
theorem dX10_theatreLine_70 : decode cX10_theatreLine 70 = .ok (.invokevirtual 132, 3) := by decide +kernel
theorem dX10_theatreLine_73 : decode cX10_theatreLine 73 = .ok (.ireturn, 1) := by decide +kernel
theorem dX10_theatreLine_74 : decode cX10_theatreLine 74 = .ok (.iload 4, 2) := by decide +kernel
theorem dX10_theatreLine_76 : decode cX10_theatreLine 76 = .ok (.iconst (-1), 1) := by decide +kernel
theorem dX10_theatreLine_77 : decode cX10_theatreLine 77 = .ok (.if_icmp .ne 59, 3) := by decide +kernel
theorem dX10_theatreLine_80 : decode cX10_theatreLine 80 = .ok (.aload_n 0, 1) := by decide +kernel
theorem dX10_theatreLine_81 : decode cX10_theatreLine 81 = .ok (.lload_n 1, 1) := by decide +kernel
theorem dX10_theatreLine_82 : decode cX10_theatreLine 82 = .ok (.ldc2_w 153, 3) := by decide +kernel
theorem dX10_theatreLine_85 : decode cX10_theatreLine 85 = .ok (.lcmp, 1) := by decide +kernel
theorem dX10_theatreLine_86 : decode cX10_theatreLine 86 = .ok (.ifCond .ne 7, 3) := by decide +kernel
theorem dX10_theatreLine_89 : decode cX10_theatreLine 89 = .ok (.iconst 0, 1) := by decide +kernel
theorem dX10_theatreLine_90 : decode cX10_theatreLine 90 = .ok (.goto 16, 3) := by decide +kernel
theorem dX10_theatreLine_93 : decode cX10_theatreLine 93 = .ok (.lload_n 1, 1) := by decide +kernel
theorem dX10_theatreLine_94 : decode cX10_theatreLine 94 = .ok (.ldc2_w 155, 3) := by decide +kernel
theorem dX10_theatreLine_97 : decode cX10_theatreLine 97 = .ok (.lcmp, 1) := by decide +kernel
theorem dX10_theatreLine_98 : decode cX10_theatreLine 98 = .ok (.ifCond .ne 7, 3) := by decide +kernel
theorem dX10_theatreLine_101 : decode cX10_theatreLine 101 = .ok (.iconst 1, 1) := by decide +kernel
theorem dX10_theatreLine_102 : decode cX10_theatreLine 102 = .ok (.goto 4, 3) := by decide +kernel
theorem dX10_theatreLine_105 : decode cX10_theatreLine 105 = .ok (.iconst 4, 1) := by decide +kernel
theorem dX10_theatreLine_106 : decode cX10_theatreLine 106 = .ok (.lload_n 1, 1) := by decide +kernel
theorem dX10_theatreLine_107 : decode cX10_theatreLine 107 = .ok (.ldc2_w 153, 3) := by decide +kernel
theorem dX10_theatreLine_110 : decode cX10_theatreLine 110 = .ok (.lcmp, 1) := by decide +kernel
theorem dX10_theatreLine_111 : decode cX10_theatreLine 111 = .ok (.ifCond .ne 7, 3) := by decide +kernel
theorem dX10_theatreLine_114 : decode cX10_theatreLine 114 = .ok (.iconst 5, 1) := by decide +kernel
theorem dX10_theatreLine_115 : decode cX10_theatreLine 115 = .ok (.goto 17, 3) := by decide +kernel
theorem dX10_theatreLine_118 : decode cX10_theatreLine 118 = .ok (.lload_n 1, 1) := by decide +kernel
theorem dX10_theatreLine_119 : decode cX10_theatreLine 119 = .ok (.ldc2_w 155, 3) := by decide +kernel
theorem dX10_theatreLine_122 : decode cX10_theatreLine 122 = .ok (.lcmp, 1) := by decide +kernel
theorem dX10_theatreLine_123 : decode cX10_theatreLine 123 = .ok (.ifCond .ne 8, 3) := by decide +kernel
theorem dX10_theatreLine_126 : decode cX10_theatreLine 126 = .ok (.bipush 6, 2) := by decide +kernel
theorem dX10_theatreLine_128 : decode cX10_theatreLine 128 = .ok (.goto 4, 3) := by decide +kernel
theorem dX10_theatreLine_131 : decode cX10_theatreLine 131 = .ok (.iconst 4, 1) := by decide +kernel
theorem dX10_theatreLine_132 : decode cX10_theatreLine 132 = .ok (.iload_n 3, 1) := by decide +kernel
theorem dX10_theatreLine_133 : decode cX10_theatreLine 133 = .ok (.invokevirtual 159, 3) := by decide +kernel
theorem dX10_theatreLine_136 : decode cX10_theatreLine 136 = .ok (.aload_n 0, 1) := by decide +kernel
theorem dX10_theatreLine_137 : decode cX10_theatreLine 137 = .ok (.invokevirtual 140, 3) := by decide +kernel
theorem dX10_theatreLine_140 : decode cX10_theatreLine 140 = .ok (.iload 4, 2) := by decide +kernel
theorem dX10_theatreLine_142 : decode cX10_theatreLine 142 = .ok (.iconst (-1), 1) := by decide +kernel
theorem dX10_theatreLine_143 : decode cX10_theatreLine 143 = .ok (.if_icmp .eq 54, 3) := by decide +kernel
theorem dX10_theatreLine_146 : decode cX10_theatreLine 146 = .ok (.aload_n 0, 1) := by decide +kernel
theorem dX10_theatreLine_147 : decode cX10_theatreLine 147 = .ok (.iconst 0, 1) := by decide +kernel
theorem dX10_theatreLine_148 : decode cX10_theatreLine 148 = .ok (.iconst 0, 1) := by decide +kernel
theorem dX10_theatreLine_149 : decode cX10_theatreLine 149 = .ok (.iload 4, 2) := by decide +kernel
theorem dX10_theatreLine_151 : decode cX10_theatreLine 151 = .ok (.iconst 2, 1) := by decide +kernel
theorem dX10_theatreLine_152 : decode cX10_theatreLine 152 = .ok (.if_icmp .ne 8, 3) := by decide +kernel
theorem dX10_theatreLine_155 : decode cX10_theatreLine 155 = .ok (.bipush 50, 2) := by decide +kernel
theorem dX10_theatreLine_157 : decode cX10_theatreLine 157 = .ok (.goto 17, 3) := by decide +kernel
theorem dX10_theatreLine_160 : decode cX10_theatreLine 160 = .ok (.iload 4, 2) := by decide +kernel
theorem dX10_theatreLine_162 : decode cX10_theatreLine 162 = .ok (.iconst 3, 1) := by decide +kernel
theorem dX10_theatreLine_163 : decode cX10_theatreLine 163 = .ok (.if_icmp .ne 9, 3) := by decide +kernel
theorem dX10_theatreLine_166 : decode cX10_theatreLine 166 = .ok (.sipush 999, 3) := by decide +kernel
theorem dX10_theatreLine_169 : decode cX10_theatreLine 169 = .ok (.goto 5, 3) := by decide +kernel
theorem dX10_theatreLine_172 : decode cX10_theatreLine 172 = .ok (.bipush 20, 2) := by decide +kernel
theorem dX10_theatreLine_174 : decode cX10_theatreLine 174 = .ok (.invokevirtual 163, 3) := by decide +kernel
theorem dX10_theatreLine_177 : decode cX10_theatreLine 177 = .ok (.ifCond .ne 5, 3) := by decide +kernel
theorem dX10_theatreLine_180 : decode cX10_theatreLine 180 = .ok (.iconst 0, 1) := by decide +kernel
theorem dX10_theatreLine_181 : decode cX10_theatreLine 181 = .ok (.ireturn, 1) := by decide +kernel
theorem dX10_theatreLine_182 : decode cX10_theatreLine 182 = .ok (.aload_n 0, 1) := by decide +kernel
theorem dX10_theatreLine_183 : decode cX10_theatreLine 183 = .ok (.getfield 35, 3) := by decide +kernel
theorem dX10_theatreLine_186 : decode cX10_theatreLine 186 = .ok (.iload 4, 2) := by decide +kernel
theorem dX10_theatreLine_188 : decode cX10_theatreLine 188 = .ok (.aload_n 0, 1) := by decide +kernel
theorem dX10_theatreLine_189 : decode cX10_theatreLine 189 = .ok (.getfield 38, 3) := by decide +kernel
theorem dX10_theatreLine_192 : decode cX10_theatreLine 192 = .ok (.iconst 0, 1) := by decide +kernel
theorem dX10_theatreLine_193 : decode cX10_theatreLine 193 = .ok (.iaload, 1) := by decide +kernel
theorem dX10_theatreLine_194 : decode cX10_theatreLine 194 = .ok (.iastore, 1) := by decide +kernel
theorem dX10_theatreLine_195 : decode cX10_theatreLine 195 = .ok (.iconst 1, 1) := by decide +kernel
theorem dX10_theatreLine_196 : decode cX10_theatreLine 196 = .ok (.ireturn, 1) := by decide +kernel
theorem dX10_theatreLine_197 : decode cX10_theatreLine 197 = .ok (.lload_n 1, 1) := by decide +kernel
theorem dX10_theatreLine_198 : decode cX10_theatreLine 198 = .ok (.ldc2_w 153, 3) := by decide +kernel
theorem dX10_theatreLine_201 : decode cX10_theatreLine 201 = .ok (.lcmp, 1) := by decide +kernel
theorem dX10_theatreLine_202 : decode cX10_theatreLine 202 = .ok (.ifCond .ne 38, 3) := by decide +kernel
theorem dX10_theatreLine_205 : decode cX10_theatreLine 205 = .ok (.aload_n 0, 1) := by decide +kernel
theorem dX10_theatreLine_206 : decode cX10_theatreLine 206 = .ok (.iconst 0, 1) := by decide +kernel
theorem dX10_theatreLine_207 : decode cX10_theatreLine 207 = .ok (.iconst 0, 1) := by decide +kernel
theorem dX10_theatreLine_208 : decode cX10_theatreLine 208 = .ok (.bipush 99, 2) := by decide +kernel
theorem dX10_theatreLine_210 : decode cX10_theatreLine 210 = .ok (.invokevirtual 163, 3) := by decide +kernel
theorem dX10_theatreLine_213 : decode cX10_theatreLine 213 = .ok (.ifCond .eq 13, 3) := by decide +kernel
theorem dX10_theatreLine_216 : decode cX10_theatreLine 216 = .ok (.aload_n 0, 1) := by decide +kernel
theorem dX10_theatreLine_217 : decode cX10_theatreLine 217 = .ok (.iconst 1, 1) := by decide +kernel
theorem dX10_theatreLine_218 : decode cX10_theatreLine 218 = .ok (.iconst 1, 1) := by decide +kernel
theorem dX10_theatreLine_219 : decode cX10_theatreLine 219 = .ok (.iconst 2, 1) := by decide +kernel
theorem dX10_theatreLine_220 : decode cX10_theatreLine 220 = .ok (.invokevirtual 163, 3) := by decide +kernel
theorem dX10_theatreLine_223 : decode cX10_theatreLine 223 = .ok (.ifCond .ne 5, 3) := by decide +kernel
theorem dX10_theatreLine_226 : decode cX10_theatreLine 226 = .ok (.iconst 0, 1) := by decide +kernel
theorem dX10_theatreLine_227 : decode cX10_theatreLine 227 = .ok (.ireturn, 1) := by decide +kernel
theorem dX10_theatreLine_228 : decode cX10_theatreLine 228 = .ok (.aload_n 0, 1) := by decide +kernel
theorem dX10_theatreLine_229 : decode cX10_theatreLine 229 = .ok (.iconst 0, 1) := by decide +kernel
theorem dX10_theatreLine_230 : decode cX10_theatreLine 230 = .ok (.bipush 6, 2) := by decide +kernel
theorem dX10_theatreLine_232 : decode cX10_theatreLine 232 = .ok (.iconst 2, 1) := by decide +kernel
theorem dX10_theatreLine_233 : decode cX10_theatreLine 233 = .ok (.iconst 5, 1) := by decide +kernel
theorem dX10_theatreLine_234 : decode cX10_theatreLine 234 = .ok (.invokevirtual 166, 3) := by decide +kernel
theorem dX10_theatreLine_237 : decode cX10_theatreLine 237 = .ok (.goto 91, 3) := by decide +kernel
theorem dX10_theatreLine_240 : decode cX10_theatreLine 240 = .ok (.lload_n 1, 1) := by decide +kernel
theorem dX10_theatreLine_241 : decode cX10_theatreLine 241 = .ok (.ldc2_w 155, 3) := by decide +kernel
theorem dX10_theatreLine_244 : decode cX10_theatreLine 244 = .ok (.lcmp, 1) := by decide +kernel
theorem dX10_theatreLine_245 : decode cX10_theatreLine 245 = .ok (.ifCond .ne 41, 3) := by decide +kernel
theorem dX10_theatreLine_248 : decode cX10_theatreLine 248 = .ok (.aload_n 0, 1) := by decide +kernel
theorem dX10_theatreLine_249 : decode cX10_theatreLine 249 = .ok (.iconst 0, 1) := by decide +kernel
theorem dX10_theatreLine_250 : decode cX10_theatreLine 250 = .ok (.iconst 0, 1) := by decide +kernel
theorem dX10_theatreLine_251 : decode cX10_theatreLine 251 = .ok (.bipush 40, 2) := by decide +kernel
theorem dX10_theatreLine_253 : decode cX10_theatreLine 253 = .ok (.invokevirtual 163, 3) := by decide +kernel
theorem dX10_theatreLine_256 : decode cX10_theatreLine 256 = .ok (.ifCond .eq 15, 3) := by decide +kernel
theorem dX10_theatreLine_259 : decode cX10_theatreLine 259 = .ok (.aload_n 0, 1) := by decide +kernel
theorem dX10_theatreLine_260 : decode cX10_theatreLine 260 = .ok (.iconst 1, 1) := by decide +kernel
theorem dX10_theatreLine_261 : decode cX10_theatreLine 261 = .ok (.iconst 0, 1) := by decide +kernel
theorem dX10_theatreLine_262 : decode cX10_theatreLine 262 = .ok (.sipush 400, 3) := by decide +kernel
theorem dX10_theatreLine_265 : decode cX10_theatreLine 265 = .ok (.invokevirtual 163, 3) := by decide +kernel
theorem dX10_theatreLine_268 : decode cX10_theatreLine 268 = .ok (.ifCond .ne 5, 3) := by decide +kernel
theorem dX10_theatreLine_271 : decode cX10_theatreLine 271 = .ok (.iconst 0, 1) := by decide +kernel
theorem dX10_theatreLine_272 : decode cX10_theatreLine 272 = .ok (.ireturn, 1) := by decide +kernel
theorem dX10_theatreLine_273 : decode cX10_theatreLine 273 = .ok (.aload_n 0, 1) := by decide +kernel
theorem dX10_theatreLine_274 : decode cX10_theatreLine 274 = .ok (.iconst 1, 1) := by decide +kernel
theorem dX10_theatreLine_275 : decode cX10_theatreLine 275 = .ok (.bipush 16, 2) := by decide +kernel
theorem dX10_theatreLine_277 : decode cX10_theatreLine 277 = .ok (.iconst 2, 1) := by decide +kernel
theorem dX10_theatreLine_278 : decode cX10_theatreLine 278 = .ok (.bipush 6, 2) := by decide +kernel
theorem dX10_theatreLine_280 : decode cX10_theatreLine 280 = .ok (.invokevirtual 166, 3) := by decide +kernel
theorem dX10_theatreLine_283 : decode cX10_theatreLine 283 = .ok (.goto 45, 3) := by decide +kernel
theorem dX10_theatreLine_286 : decode cX10_theatreLine 286 = .ok (.aload_n 0, 1) := by decide +kernel
theorem dX10_theatreLine_287 : decode cX10_theatreLine 287 = .ok (.iconst 0, 1) := by decide +kernel
theorem dX10_theatreLine_288 : decode cX10_theatreLine 288 = .ok (.iconst 0, 1) := by decide +kernel
theorem dX10_theatreLine_289 : decode cX10_theatreLine 289 = .ok (.bipush 30, 2) := by decide +kernel
theorem dX10_theatreLine_291 : decode cX10_theatreLine 291 = .ok (.invokevirtual 163, 3) := by decide +kernel
theorem dX10_theatreLine_294 : decode cX10_theatreLine 294 = .ok (.ifCond .eq 23, 3) := by decide +kernel
theorem dX10_theatreLine_297 : decode cX10_theatreLine 297 = .ok (.aload_n 0, 1) := by decide +kernel
theorem dX10_theatreLine_298 : decode cX10_theatreLine 298 = .ok (.iconst 1, 1) := by decide +kernel
theorem dX10_theatreLine_299 : decode cX10_theatreLine 299 = .ok (.iconst 0, 1) := by decide +kernel
theorem dX10_theatreLine_300 : decode cX10_theatreLine 300 = .ok (.bipush 30, 2) := by decide +kernel
theorem dX10_theatreLine_302 : decode cX10_theatreLine 302 = .ok (.aload_n 0, 1) := by decide +kernel
theorem dX10_theatreLine_303 : decode cX10_theatreLine 303 = .ok (.getfield 38, 3) := by decide +kernel
theorem dX10_theatreLine_306 : decode cX10_theatreLine 306 = .ok (.iconst 0, 1) := by decide +kernel
theorem dX10_theatreLine_307 : decode cX10_theatreLine 307 = .ok (.iaload, 1) := by decide +kernel
theorem dX10_theatreLine_308 : decode cX10_theatreLine 308 = .ok (.invokestatic 170, 3) := by decide +kernel
theorem dX10_theatreLine_311 : decode cX10_theatreLine 311 = .ok (.invokevirtual 163, 3) := by decide +kernel
theorem dX10_theatreLine_314 : decode cX10_theatreLine 314 = .ok (.ifCond .ne 5, 3) := by decide +kernel
theorem dX10_theatreLine_317 : decode cX10_theatreLine 317 = .ok (.iconst 0, 1) := by decide +kernel
theorem dX10_theatreLine_318 : decode cX10_theatreLine 318 = .ok (.ireturn, 1) := by decide +kernel
theorem dX10_theatreLine_319 : decode cX10_theatreLine 319 = .ok (.aload_n 0, 1) := by decide +kernel
theorem dX10_theatreLine_320 : decode cX10_theatreLine 320 = .ok (.iconst 4, 1) := by decide +kernel
theorem dX10_theatreLine_321 : decode cX10_theatreLine 321 = .ok (.bipush 28, 2) := by decide +kernel
theorem dX10_theatreLine_323 : decode cX10_theatreLine 323 = .ok (.iconst 2, 1) := by decide +kernel
theorem dX10_theatreLine_324 : decode cX10_theatreLine 324 = .ok (.iconst 4, 1) := by decide +kernel
theorem dX10_theatreLine_325 : decode cX10_theatreLine 325 = .ok (.invokevirtual 166, 3) := by decide +kernel
theorem dX10_theatreLine_328 : decode cX10_theatreLine 328 = .ok (.iconst 1, 1) := by decide +kernel
theorem dX10_theatreLine_329 : decode cX10_theatreLine 329 = .ok (.ireturn, 1) := by decide +kernel
theorem dX10_deedBy_0 : decode cX10_deedBy 0 = .ok (.lload_n 0, 1) := by decide +kernel
theorem dX10_deedBy_1 : decode cX10_deedBy 1 = .ok (.ldc2_w 174, 3) := by decide +kernel
theorem dX10_deedBy_4 : decode cX10_deedBy 4 = .ok (.lcmp, 1) := by decide +kernel
theorem dX10_deedBy_5 : decode cX10_deedBy 5 = .ok (.ifCond .ne 7, 3) := by decide +kernel
theorem dX10_deedBy_8 : decode cX10_deedBy 8 = .ok (.iconst 0, 1) := by decide +kernel
theorem dX10_deedBy_9 : decode cX10_deedBy 9 = .ok (.goto 77, 3) := by decide +kernel
theorem dX10_deedBy_12 : decode cX10_deedBy 12 = .ok (.lload_n 0, 1) := by decide +kernel
theorem dX10_deedBy_13 : decode cX10_deedBy 13 = .ok (.ldc2_w 176, 3) := by decide +kernel
theorem dX10_deedBy_16 : decode cX10_deedBy 16 = .ok (.lcmp, 1) := by decide +kernel
theorem dX10_deedBy_17 : decode cX10_deedBy 17 = .ok (.ifCond .ne 7, 3) := by decide +kernel
theorem dX10_deedBy_20 : decode cX10_deedBy 20 = .ok (.iconst 1, 1) := by decide +kernel
theorem dX10_deedBy_21 : decode cX10_deedBy 21 = .ok (.goto 65, 3) := by decide +kernel
theorem dX10_deedBy_24 : decode cX10_deedBy 24 = .ok (.lload_n 0, 1) := by decide +kernel
theorem dX10_deedBy_25 : decode cX10_deedBy 25 = .ok (.ldc2_w 178, 3) := by decide +kernel
theorem dX10_deedBy_28 : decode cX10_deedBy 28 = .ok (.lcmp, 1) := by decide +kernel
theorem dX10_deedBy_29 : decode cX10_deedBy 29 = .ok (.ifCond .ne 7, 3) := by decide +kernel
theorem dX10_deedBy_32 : decode cX10_deedBy 32 = .ok (.iconst 2, 1) := by decide +kernel
theorem dX10_deedBy_33 : decode cX10_deedBy 33 = .ok (.goto 53, 3) := by decide +kernel
theorem dX10_deedBy_36 : decode cX10_deedBy 36 = .ok (.lload_n 0, 1) := by decide +kernel
theorem dX10_deedBy_37 : decode cX10_deedBy 37 = .ok (.ldc2_w 180, 3) := by decide +kernel
theorem dX10_deedBy_40 : decode cX10_deedBy 40 = .ok (.lcmp, 1) := by decide +kernel
theorem dX10_deedBy_41 : decode cX10_deedBy 41 = .ok (.ifCond .ne 7, 3) := by decide +kernel
theorem dX10_deedBy_44 : decode cX10_deedBy 44 = .ok (.iconst 3, 1) := by decide +kernel
theorem dX10_deedBy_45 : decode cX10_deedBy 45 = .ok (.goto 41, 3) := by decide +kernel
theorem dX10_deedBy_48 : decode cX10_deedBy 48 = .ok (.lload_n 0, 1) := by decide +kernel
theorem dX10_deedBy_49 : decode cX10_deedBy 49 = .ok (.ldc2_w 182, 3) := by decide +kernel
theorem dX10_deedBy_52 : decode cX10_deedBy 52 = .ok (.lcmp, 1) := by decide +kernel
theorem dX10_deedBy_53 : decode cX10_deedBy 53 = .ok (.ifCond .ne 7, 3) := by decide +kernel
theorem dX10_deedBy_56 : decode cX10_deedBy 56 = .ok (.iconst 4, 1) := by decide +kernel
theorem dX10_deedBy_57 : decode cX10_deedBy 57 = .ok (.goto 29, 3) := by decide +kernel
theorem dX10_deedBy_60 : decode cX10_deedBy 60 = .ok (.lload_n 0, 1) := by decide +kernel
theorem dX10_deedBy_61 : decode cX10_deedBy 61 = .ok (.ldc2_w 184, 3) := by decide +kernel
theorem dX10_deedBy_64 : decode cX10_deedBy 64 = .ok (.lcmp, 1) := by decide +kernel
theorem dX10_deedBy_65 : decode cX10_deedBy 65 = .ok (.ifCond .ne 7, 3) := by decide +kernel
theorem dX10_deedBy_68 : decode cX10_deedBy 68 = .ok (.iconst 5, 1) := by decide +kernel
theorem dX10_deedBy_69 : decode cX10_deedBy 69 = .ok (.goto 17, 3) := by decide +kernel
theorem dX10_deedBy_72 : decode cX10_deedBy 72 = .ok (.lload_n 0, 1) := by decide +kernel
theorem dX10_deedBy_73 : decode cX10_deedBy 73 = .ok (.ldc2_w 186, 3) := by decide +kernel
theorem dX10_deedBy_76 : decode cX10_deedBy 76 = .ok (.lcmp, 1) := by decide +kernel
theorem dX10_deedBy_77 : decode cX10_deedBy 77 = .ok (.ifCond .ne 8, 3) := by decide +kernel
theorem dX10_deedBy_80 : decode cX10_deedBy 80 = .ok (.bipush 6, 2) := by decide +kernel
theorem dX10_deedBy_82 : decode cX10_deedBy 82 = .ok (.goto 4, 3) := by decide +kernel
theorem dX10_deedBy_85 : decode cX10_deedBy 85 = .ok (.iconst (-1), 1) := by decide +kernel
theorem dX10_deedBy_86 : decode cX10_deedBy 86 = .ok (.ireturn, 1) := by decide +kernel
set_option maxRecDepth 20000 in
theorem ggX10_deedNumbers_X10_take : GoodIn wsX10_deedNumbers wsX10_take := goodIn_r _ [6, 7, 8, 9, 5, 10, 11, 1, 12, 13, 14, 15, 16, 17, 18, 19, 20, 21, 22, 23, 24, 25, 26, 27, 28, 29, 30, 31, 32, 33, 34, 35, 36, 37, 38, 39, 40, 41, 42, 43, 44, 45, 46, 47, 48, 49, 50, 51, 52, 53, 54, 55, 56, 57, 58, 59, 60, 61, 62, 63, 64, 65, 66, 67, 68, 69, 70, 71, 72, 73, 74, 75, 76, 77, 78, 79, 80, 81, 82, 83, 84, 85, 86, 87, 88, 89] (by decide +kernel) (by decide +kernel)
set_option maxRecDepth 20000 in
theorem gX10_deedNumbers_X10_take : GoodIn wsX10_deedNumbers (wsV RX10 163 RX10 yX10_take wsX10_take) := goodIn_app (goodIn_of _ (by decide +kernel)) ggX10_deedNumbers_X10_take
set_option maxRecDepth 20000 in
theorem ggX10_deedNumbers_X10_takeBut : GoodIn wsX10_deedNumbers wsX10_takeBut := goodIn_r _ [10, 11, 1, 12, 13, 14, 15, 16, 5, 17, 18, 19, 20, 21, 22, 23, 24, 25, 26, 27, 28, 29, 30, 31, 32, 33, 34, 35, 36, 37, 38, 39, 40, 41, 42, 43, 44, 45, 46, 47, 48, 49, 50, 51, 52, 53, 54, 55, 56, 57, 58, 59, 60, 61, 62, 63, 64, 65, 66, 67, 68, 69, 70, 71, 72, 73, 74, 75, 76, 77, 78, 79, 80, 81, 82, 83, 84, 85, 86, 87, 88, 89] (by decide +kernel) (by decide +kernel)
set_option maxRecDepth 20000 in
theorem gX10_deedNumbers_X10_takeBut : GoodIn wsX10_deedNumbers (wsV RX10 143 RX10 yX10_takeBut wsX10_takeBut) := goodIn_app (goodIn_of _ (by decide +kernel)) ggX10_deedNumbers_X10_takeBut
theorem dX10_deedNumbers_0 : decode cX10_deedNumbers 0 = .ok (.iload_n 1, 1) := by decide +kernel
theorem dX10_deedNumbers_1 : decode cX10_deedNumbers 1 = .ok (.tableswitch 179 0 4 #[35, 72, 72, 115, 152], 35) := by decide +kernel
theorem dX10_deedNumbers_36 : decode cX10_deedNumbers 36 = .ok (.aload_n 0, 1) := by decide +kernel
theorem dX10_deedNumbers_37 : decode cX10_deedNumbers 37 = .ok (.iconst 1, 1) := by decide +kernel
theorem dX10_deedNumbers_38 : decode cX10_deedNumbers 38 = .ok (.iconst 0, 1) := by decide +kernel
theorem dX10_deedNumbers_39 : decode cX10_deedNumbers 39 = .ok (.iconst 4, 1) := by decide +kernel
theorem dX10_deedNumbers_40 : decode cX10_deedNumbers 40 = .ok (.invokevirtual 163, 3) := by decide +kernel
theorem dX10_deedNumbers_43 : decode cX10_deedNumbers 43 = .ok (.ifCond .eq 28, 3) := by decide +kernel
theorem dX10_deedNumbers_46 : decode cX10_deedNumbers 46 = .ok (.aload_n 0, 1) := by decide +kernel
theorem dX10_deedNumbers_47 : decode cX10_deedNumbers 47 = .ok (.iconst 2, 1) := by decide +kernel
theorem dX10_deedNumbers_48 : decode cX10_deedNumbers 48 = .ok (.iconst 0, 1) := by decide +kernel
theorem dX10_deedNumbers_49 : decode cX10_deedNumbers 49 = .ok (.iconst 5, 1) := by decide +kernel
theorem dX10_deedNumbers_50 : decode cX10_deedNumbers 50 = .ok (.invokevirtual 163, 3) := by decide +kernel
theorem dX10_deedNumbers_53 : decode cX10_deedNumbers 53 = .ok (.ifCond .eq 18, 3) := by decide +kernel
theorem dX10_deedNumbers_56 : decode cX10_deedNumbers 56 = .ok (.aload_n 0, 1) := by decide +kernel
theorem dX10_deedNumbers_57 : decode cX10_deedNumbers 57 = .ok (.iconst 3, 1) := by decide +kernel
theorem dX10_deedNumbers_58 : decode cX10_deedNumbers 58 = .ok (.iconst 1, 1) := by decide +kernel
theorem dX10_deedNumbers_59 : decode cX10_deedNumbers 59 = .ok (.bipush 99, 2) := by decide +kernel
theorem dX10_deedNumbers_61 : decode cX10_deedNumbers 61 = .ok (.invokevirtual 163, 3) := by decide +kernel
theorem dX10_deedNumbers_64 : decode cX10_deedNumbers 64 = .ok (.ifCond .eq 7, 3) := by decide +kernel
theorem dX10_deedNumbers_67 : decode cX10_deedNumbers 67 = .ok (.iconst 1, 1) := by decide +kernel
theorem dX10_deedNumbers_68 : decode cX10_deedNumbers 68 = .ok (.goto 4, 3) := by decide +kernel
theorem dX10_deedNumbers_71 : decode cX10_deedNumbers 71 = .ok (.iconst 0, 1) := by decide +kernel
theorem dX10_deedNumbers_72 : decode cX10_deedNumbers 72 = .ok (.ireturn, 1) := by decide +kernel
theorem dX10_deedNumbers_73 : decode cX10_deedNumbers 73 = .ok (.aload_n 0, 1) := by decide +kernel
theorem dX10_deedNumbers_74 : decode cX10_deedNumbers 74 = .ok (.iconst 1, 1) := by decide +kernel
theorem dX10_deedNumbers_75 : decode cX10_deedNumbers 75 = .ok (.iconst 0, 1) := by decide +kernel
theorem dX10_deedNumbers_76 : decode cX10_deedNumbers 76 = .ok (.iconst 4, 1) := by decide +kernel
theorem dX10_deedNumbers_77 : decode cX10_deedNumbers 77 = .ok (.invokevirtual 163, 3) := by decide +kernel
theorem dX10_deedNumbers_80 : decode cX10_deedNumbers 80 = .ok (.ifCond .eq 34, 3) := by decide +kernel
theorem dX10_deedNumbers_83 : decode cX10_deedNumbers 83 = .ok (.aload_n 0, 1) := by decide +kernel
theorem dX10_deedNumbers_84 : decode cX10_deedNumbers 84 = .ok (.iconst 2, 1) := by decide +kernel
theorem dX10_deedNumbers_85 : decode cX10_deedNumbers 85 = .ok (.iconst 0, 1) := by decide +kernel
theorem dX10_deedNumbers_86 : decode cX10_deedNumbers 86 = .ok (.iconst 4, 1) := by decide +kernel
theorem dX10_deedNumbers_87 : decode cX10_deedNumbers 87 = .ok (.aload_n 0, 1) := by decide +kernel
theorem dX10_deedNumbers_88 : decode cX10_deedNumbers 88 = .ok (.getfield 38, 3) := by decide +kernel
theorem dX10_deedNumbers_91 : decode cX10_deedNumbers 91 = .ok (.iconst 1, 1) := by decide +kernel
theorem dX10_deedNumbers_92 : decode cX10_deedNumbers 92 = .ok (.iaload, 1) := by decide +kernel
theorem dX10_deedNumbers_93 : decode cX10_deedNumbers 93 = .ok (.invokevirtual 143, 3) := by decide +kernel
theorem dX10_deedNumbers_96 : decode cX10_deedNumbers 96 = .ok (.ifCond .eq 18, 3) := by decide +kernel
theorem dX10_deedNumbers_99 : decode cX10_deedNumbers 99 = .ok (.aload_n 0, 1) := by decide +kernel
theorem dX10_deedNumbers_100 : decode cX10_deedNumbers 100 = .ok (.iconst 3, 1) := by decide +kernel
theorem dX10_deedNumbers_101 : decode cX10_deedNumbers 101 = .ok (.iconst 1, 1) := by decide +kernel
theorem dX10_deedNumbers_102 : decode cX10_deedNumbers 102 = .ok (.bipush 99, 2) := by decide +kernel
theorem dX10_deedNumbers_104 : decode cX10_deedNumbers 104 = .ok (.invokevirtual 163, 3) := by decide +kernel
theorem dX10_deedNumbers_107 : decode cX10_deedNumbers 107 = .ok (.ifCond .eq 7, 3) := by decide +kernel
theorem dX10_deedNumbers_110 : decode cX10_deedNumbers 110 = .ok (.iconst 1, 1) := by decide +kernel
theorem dX10_deedNumbers_111 : decode cX10_deedNumbers 111 = .ok (.goto 4, 3) := by decide +kernel
theorem dX10_deedNumbers_114 : decode cX10_deedNumbers 114 = .ok (.iconst 0, 1) := by decide +kernel
theorem dX10_deedNumbers_115 : decode cX10_deedNumbers 115 = .ok (.ireturn, 1) := by decide +kernel
theorem dX10_deedNumbers_116 : decode cX10_deedNumbers 116 = .ok (.aload_n 0, 1) := by decide +kernel
theorem dX10_deedNumbers_117 : decode cX10_deedNumbers 117 = .ok (.iconst 1, 1) := by decide +kernel
theorem dX10_deedNumbers_118 : decode cX10_deedNumbers 118 = .ok (.iconst 0, 1) := by decide +kernel
theorem dX10_deedNumbers_119 : decode cX10_deedNumbers 119 = .ok (.iconst 5, 1) := by decide +kernel
theorem dX10_deedNumbers_120 : decode cX10_deedNumbers 120 = .ok (.invokevirtual 163, 3) := by decide +kernel
theorem dX10_deedNumbers_123 : decode cX10_deedNumbers 123 = .ok (.ifCond .eq 28, 3) := by decide +kernel
theorem dX10_deedNumbers_126 : decode cX10_deedNumbers 126 = .ok (.aload_n 0, 1) := by decide +kernel
theorem dX10_deedNumbers_127 : decode cX10_deedNumbers 127 = .ok (.iconst 2, 1) := by decide +kernel
theorem dX10_deedNumbers_128 : decode cX10_deedNumbers 128 = .ok (.iconst 0, 1) := by decide +kernel
theorem dX10_deedNumbers_129 : decode cX10_deedNumbers 129 = .ok (.iconst 4, 1) := by decide +kernel
theorem dX10_deedNumbers_130 : decode cX10_deedNumbers 130 = .ok (.invokevirtual 163, 3) := by decide +kernel
theorem dX10_deedNumbers_133 : decode cX10_deedNumbers 133 = .ok (.ifCond .eq 18, 3) := by decide +kernel
theorem dX10_deedNumbers_136 : decode cX10_deedNumbers 136 = .ok (.aload_n 0, 1) := by decide +kernel
theorem dX10_deedNumbers_137 : decode cX10_deedNumbers 137 = .ok (.iconst 3, 1) := by decide +kernel
theorem dX10_deedNumbers_138 : decode cX10_deedNumbers 138 = .ok (.iconst 1, 1) := by decide +kernel
theorem dX10_deedNumbers_139 : decode cX10_deedNumbers 139 = .ok (.bipush 99, 2) := by decide +kernel
theorem dX10_deedNumbers_141 : decode cX10_deedNumbers 141 = .ok (.invokevirtual 163, 3) := by decide +kernel
theorem dX10_deedNumbers_144 : decode cX10_deedNumbers 144 = .ok (.ifCond .eq 7, 3) := by decide +kernel
theorem dX10_deedNumbers_147 : decode cX10_deedNumbers 147 = .ok (.iconst 1, 1) := by decide +kernel
theorem dX10_deedNumbers_148 : decode cX10_deedNumbers 148 = .ok (.goto 4, 3) := by decide +kernel
theorem dX10_deedNumbers_151 : decode cX10_deedNumbers 151 = .ok (.iconst 0, 1) := by decide +kernel
theorem dX10_deedNumbers_152 : decode cX10_deedNumbers 152 = .ok (.ireturn, 1) := by decide +kernel
theorem dX10_deedNumbers_153 : decode cX10_deedNumbers 153 = .ok (.aload_n 0, 1) := by decide +kernel
theorem dX10_deedNumbers_154 : decode cX10_deedNumbers 154 = .ok (.iconst 1, 1) := by decide +kernel
theorem dX10_deedNumbers_155 : decode cX10_deedNumbers 155 = .ok (.iconst 0, 1) := by decide +kernel
theorem dX10_deedNumbers_156 : decode cX10_deedNumbers 156 = .ok (.iconst 5, 1) := by decide +kernel
theorem dX10_deedNumbers_157 : decode cX10_deedNumbers 157 = .ok (.invokevirtual 163, 3) := by decide +kernel
theorem dX10_deedNumbers_160 : decode cX10_deedNumbers 160 = .ok (.ifCond .eq 18, 3) := by decide +kernel
theorem dX10_deedNumbers_163 : decode cX10_deedNumbers 163 = .ok (.aload_n 0, 1) := by decide +kernel
theorem dX10_deedNumbers_164 : decode cX10_deedNumbers 164 = .ok (.iconst 2, 1) := by decide +kernel
theorem dX10_deedNumbers_165 : decode cX10_deedNumbers 165 = .ok (.iconst 1, 1) := by decide +kernel
theorem dX10_deedNumbers_166 : decode cX10_deedNumbers 166 = .ok (.bipush 99, 2) := by decide +kernel
theorem dX10_deedNumbers_168 : decode cX10_deedNumbers 168 = .ok (.invokevirtual 163, 3) := by decide +kernel
theorem dX10_deedNumbers_171 : decode cX10_deedNumbers 171 = .ok (.ifCond .eq 7, 3) := by decide +kernel
theorem dX10_deedNumbers_174 : decode cX10_deedNumbers 174 = .ok (.iconst 1, 1) := by decide +kernel
theorem dX10_deedNumbers_175 : decode cX10_deedNumbers 175 = .ok (.goto 4, 3) := by decide +kernel
theorem dX10_deedNumbers_178 : decode cX10_deedNumbers 178 = .ok (.iconst 0, 1) := by decide +kernel
theorem dX10_deedNumbers_179 : decode cX10_deedNumbers 179 = .ok (.ireturn, 1) := by decide +kernel
theorem dX10_deedNumbers_180 : decode cX10_deedNumbers 180 = .ok (.iconst 1, 1) := by decide +kernel
theorem dX10_deedNumbers_181 : decode cX10_deedNumbers 181 = .ok (.ireturn, 1) := by decide +kernel
set_option maxRecDepth 20000 in
theorem ggX10_bookLine_X10_deedBy : GoodIn wsX10_bookLine wsX10_deedBy := goodIn_r _ [5, 6, 7, 8, 9, 10, 11, 12] (by decide +kernel) (by decide +kernel)
set_option maxRecDepth 20000 in
theorem gX10_bookLine_X10_deedBy : GoodIn wsX10_bookLine (va_wsS RX10 188 yX10_deedBy wsX10_deedBy) := goodIn_app (goodIn_of _ (by decide +kernel)) ggX10_bookLine_X10_deedBy
set_option maxRecDepth 20000 in
theorem ggX10_bookLine_X10_fails : GoodIn wsX10_bookLine wsX10_fails := goodIn_r _ [16, 17, 18, 63, 64, 65, 66, 67, 68, 69, 70, 71, 72, 73, 74, 75, 76, 77, 78, 79, 80, 81, 82, 83, 84, 85, 86, 87, 88, 89, 90, 91, 92, 93, 94, 95, 96, 97, 98, 99, 100, 101, 102, 103, 104, 105, 106, 107, 108, 109, 110, 111, 112] (by decide +kernel) (by decide +kernel)
set_option maxRecDepth 20000 in
theorem gX10_bookLine_X10_fails : GoodIn wsX10_bookLine (wsV RX10 132 RX10 yX10_fails wsX10_fails) := goodIn_app (goodIn_of _ (by decide +kernel)) ggX10_bookLine_X10_fails
set_option maxRecDepth 20000 in
theorem ggX10_bookLine_X10_full : GoodIn wsX10_bookLine wsX10_full := goodIn_r _ [22, 23, 24, 25, 26, 4, 27, 28, 29, 63, 64, 65, 66, 67, 68, 69, 70, 71, 72, 73, 74, 75, 76, 77, 78, 79, 80, 81, 82, 83, 84, 85, 86, 87, 88, 89, 90, 91, 92, 93, 94, 95, 96, 97, 98, 99, 100, 101, 102, 103, 104, 105, 106, 107, 108, 109, 110, 111, 112] (by decide +kernel) (by decide +kernel)
set_option maxRecDepth 20000 in
theorem gX10_bookLine_X10_full : GoodIn wsX10_bookLine (wsV RX10 159 RX10 yX10_full wsX10_full) := goodIn_app (goodIn_of _ (by decide +kernel)) ggX10_bookLine_X10_full
set_option maxRecDepth 20000 in
theorem ggX10_bookLine_X10_token : GoodIn wsX10_bookLine wsX10_token := goodIn_r _ [33, 34, 17, 35, 36, 37, 38, 39, 40, 4, 41, 42, 43, 44, 45, 46, 63, 64, 65, 66, 67, 68, 69, 70, 71, 72, 73, 74, 75, 76, 77, 78, 79, 80, 81, 82, 83, 84, 85, 86, 87, 88, 89, 90, 91, 92, 93, 94, 95, 96, 97, 98, 99, 100, 101, 102, 103, 104, 105, 106, 107, 108, 109, 110, 111, 112] (by decide +kernel) (by decide +kernel)
set_option maxRecDepth 20000 in
theorem gX10_bookLine_X10_token : GoodIn wsX10_bookLine (wsV RX10 140 RX10 yX10_token wsX10_token) := goodIn_app (goodIn_of _ (by decide +kernel)) ggX10_bookLine_X10_token
set_option maxRecDepth 20000 in
theorem ggX10_bookLine_X10_deedNumbers : GoodIn wsX10_bookLine wsX10_deedNumbers := goodIn_r _ [50, 1, 51, 52, 53, 4, 54, 55, 56, 57, 58, 36, 37, 17, 13, 14, 15, 16, 18, 44, 45, 46, 24, 25, 26, 27, 28, 29, 30, 31, 32, 33, 34, 35, 38, 39, 40, 41, 42, 43, 63, 64, 65, 66, 67, 68, 69, 70, 71, 72, 73, 74, 75, 76, 77, 78, 79, 80, 81, 82, 83, 84, 85, 86, 87, 88, 89, 90, 91, 92, 93, 94, 95, 96, 97, 98, 99, 100, 101, 102, 103, 104, 105, 106, 107, 108, 109, 110, 111, 112] (by decide +kernel) (by decide +kernel)
set_option maxRecDepth 20000 in
theorem gX10_bookLine_X10_deedNumbers : GoodIn wsX10_bookLine (wsV RX10 192 RX10 yX10_deedNumbers wsX10_deedNumbers) := goodIn_app (goodIn_of _ (by decide +kernel)) ggX10_bookLine_X10_deedNumbers
set_option maxRecDepth 20000 in
theorem ggX10_bookLine_X10_keep : GoodIn wsX10_bookLine wsX10_keep := goodIn_r _ [62, 23, 1, 63, 64, 65, 66, 67, 68, 69, 70, 71, 72, 73, 74, 75, 76, 77, 78, 79, 80, 81, 82, 83, 84, 85, 86, 87, 88, 89, 90, 91, 92, 93, 94, 95, 96, 97, 98, 99, 100, 101, 102, 103, 104, 105, 106, 107, 108, 109, 110, 111, 112] (by decide +kernel) (by decide +kernel)
set_option maxRecDepth 20000 in
theorem gX10_bookLine_X10_keep : GoodIn wsX10_bookLine (wsV RX10 166 RX10 yX10_keep wsX10_keep) := goodIn_app (goodIn_of _ (by decide +kernel)) ggX10_bookLine_X10_keep
theorem dX10_bookLine_0 : decode cX10_bookLine 0 = .ok (.lload_n 1, 1) := by decide +kernel
theorem dX10_bookLine_1 : decode cX10_bookLine 1 = .ok (.invokestatic 188, 3) := by decide +kernel
theorem dX10_bookLine_4 : decode cX10_bookLine 4 = .ok (.istore 4, 2) := by decide +kernel
theorem dX10_bookLine_6 : decode cX10_bookLine 6 = .ok (.iload 4, 2) := by decide +kernel
theorem dX10_bookLine_8 : decode cX10_bookLine 8 = .ok (.iconst (-1), 1) := by decide +kernel
theorem dX10_bookLine_9 : decode cX10_bookLine 9 = .ok (.if_icmp .ne 8, 3) := by decide +kernel
theorem dX10_bookLine_12 : decode cX10_bookLine 12 = .ok (.aload_n 0, 1) := by decide +kernel
theorem dX10_bookLine_13 : decode cX10_bookLine 13 = .ok (.invokevirtual 132, 3) := by decide +kernel
theorem dX10_bookLine_16 : decode cX10_bookLine 16 = .ok (.ireturn, 1) := by decide +kernel
theorem dX10_bookLine_17 : decode cX10_bookLine 17 = .ok (.aload_n 0, 1) := by decide +kernel
theorem dX10_bookLine_18 : decode cX10_bookLine 18 = .ok (.iconst 0, 1) := by decide +kernel
theorem dX10_bookLine_19 : decode cX10_bookLine 19 = .ok (.bipush 30, 2) := by decide +kernel
theorem dX10_bookLine_21 : decode cX10_bookLine 21 = .ok (.iload_n 3, 1) := by decide +kernel
theorem dX10_bookLine_22 : decode cX10_bookLine 22 = .ok (.invokevirtual 159, 3) := by decide +kernel
theorem dX10_bookLine_25 : decode cX10_bookLine 25 = .ok (.aload_n 0, 1) := by decide +kernel
theorem dX10_bookLine_26 : decode cX10_bookLine 26 = .ok (.invokevirtual 140, 3) := by decide +kernel
theorem dX10_bookLine_29 : decode cX10_bookLine 29 = .ok (.aload_n 0, 1) := by decide +kernel
theorem dX10_bookLine_30 : decode cX10_bookLine 30 = .ok (.getfield 38, 3) := by decide +kernel
theorem dX10_bookLine_33 : decode cX10_bookLine 33 = .ok (.iconst 0, 1) := by decide +kernel
theorem dX10_bookLine_34 : decode cX10_bookLine 34 = .ok (.iload 4, 2) := by decide +kernel
theorem dX10_bookLine_36 : decode cX10_bookLine 36 = .ok (.iastore, 1) := by decide +kernel
theorem dX10_bookLine_37 : decode cX10_bookLine 37 = .ok (.aload_n 0, 1) := by decide +kernel
theorem dX10_bookLine_38 : decode cX10_bookLine 38 = .ok (.getfield 38, 3) := by decide +kernel
theorem dX10_bookLine_41 : decode cX10_bookLine 41 = .ok (.iconst 1, 1) := by decide +kernel
theorem dX10_bookLine_42 : decode cX10_bookLine 42 = .ok (.iconst (-1), 1) := by decide +kernel
theorem dX10_bookLine_43 : decode cX10_bookLine 43 = .ok (.iastore, 1) := by decide +kernel
theorem dX10_bookLine_44 : decode cX10_bookLine 44 = .ok (.aload_n 0, 1) := by decide +kernel
theorem dX10_bookLine_45 : decode cX10_bookLine 45 = .ok (.getfield 38, 3) := by decide +kernel
theorem dX10_bookLine_48 : decode cX10_bookLine 48 = .ok (.iconst 2, 1) := by decide +kernel
theorem dX10_bookLine_49 : decode cX10_bookLine 49 = .ok (.iconst (-1), 1) := by decide +kernel
theorem dX10_bookLine_50 : decode cX10_bookLine 50 = .ok (.iastore, 1) := by decide +kernel
theorem dX10_bookLine_51 : decode cX10_bookLine 51 = .ok (.aload_n 0, 1) := by decide +kernel
theorem dX10_bookLine_52 : decode cX10_bookLine 52 = .ok (.getfield 38, 3) := by decide +kernel
theorem dX10_bookLine_55 : decode cX10_bookLine 55 = .ok (.iconst 3, 1) := by decide +kernel
theorem dX10_bookLine_56 : decode cX10_bookLine 56 = .ok (.iconst (-1), 1) := by decide +kernel
theorem dX10_bookLine_57 : decode cX10_bookLine 57 = .ok (.iastore, 1) := by decide +kernel
theorem dX10_bookLine_58 : decode cX10_bookLine 58 = .ok (.aload_n 0, 1) := by decide +kernel
theorem dX10_bookLine_59 : decode cX10_bookLine 59 = .ok (.iload 4, 2) := by decide +kernel
theorem dX10_bookLine_61 : decode cX10_bookLine 61 = .ok (.invokevirtual 192, 3) := by decide +kernel
theorem dX10_bookLine_64 : decode cX10_bookLine 64 = .ok (.ifCond .ne 5, 3) := by decide +kernel
theorem dX10_bookLine_67 : decode cX10_bookLine 67 = .ok (.iconst 0, 1) := by decide +kernel
theorem dX10_bookLine_68 : decode cX10_bookLine 68 = .ok (.ireturn, 1) := by decide +kernel
theorem dX10_bookLine_69 : decode cX10_bookLine 69 = .ok (.aload_n 0, 1) := by decide +kernel
theorem dX10_bookLine_70 : decode cX10_bookLine 70 = .ok (.iconst 0, 1) := by decide +kernel
theorem dX10_bookLine_71 : decode cX10_bookLine 71 = .ok (.iconst 1, 1) := by decide +kernel
theorem dX10_bookLine_72 : decode cX10_bookLine 72 = .ok (.iconst 4, 1) := by decide +kernel
theorem dX10_bookLine_73 : decode cX10_bookLine 73 = .ok (.bipush 30, 2) := by decide +kernel
theorem dX10_bookLine_75 : decode cX10_bookLine 75 = .ok (.invokevirtual 166, 3) := by decide +kernel
theorem dX10_bookLine_78 : decode cX10_bookLine 78 = .ok (.iconst 1, 1) := by decide +kernel
theorem dX10_bookLine_79 : decode cX10_bookLine 79 = .ok (.ireturn, 1) := by decide +kernel
set_option maxRecDepth 20000 in
theorem ggX10_darkLine_X10_fails : GoodIn wsX10_darkLine wsX10_fails := goodIn_r _ [6, 7, 8, 50, 51, 52, 53, 54, 55, 56, 57, 58, 59, 60, 61, 62, 63, 64, 65, 66, 67, 68, 69, 70, 71, 72, 73, 74, 75, 76, 77, 78, 79, 80, 81, 82, 83, 84, 85, 86, 87, 88, 89, 90, 91, 92, 93, 94, 95, 96, 97, 98, 99] (by decide +kernel) (by decide +kernel)
set_option maxRecDepth 20000 in
theorem gX10_darkLine_X10_fails : GoodIn wsX10_darkLine (wsV RX10 132 RX10 yX10_fails wsX10_fails) := goodIn_app (goodIn_of _ (by decide +kernel)) ggX10_darkLine_X10_fails
set_option maxRecDepth 20000 in
theorem ggX10_darkLine_X10_full : GoodIn wsX10_darkLine wsX10_full := goodIn_r _ [12, 13, 14, 15, 16, 5, 17, 18, 19, 50, 51, 52, 53, 54, 55, 56, 57, 58, 59, 60, 61, 62, 63, 64, 65, 66, 67, 68, 69, 70, 71, 72, 73, 74, 75, 76, 77, 78, 79, 80, 81, 82, 83, 84, 85, 86, 87, 88, 89, 90, 91, 92, 93, 94, 95, 96, 97, 98, 99] (by decide +kernel) (by decide +kernel)
set_option maxRecDepth 20000 in
theorem gX10_darkLine_X10_full : GoodIn wsX10_darkLine (wsV RX10 159 RX10 yX10_full wsX10_full) := goodIn_app (goodIn_of _ (by decide +kernel)) ggX10_darkLine_X10_full
set_option maxRecDepth 20000 in
theorem ggX10_darkLine_X10_token : GoodIn wsX10_darkLine wsX10_token := goodIn_r _ [23, 24, 7, 25, 26, 27, 28, 29, 30, 5, 31, 32, 33, 34, 35, 36, 50, 51, 52, 53, 54, 55, 56, 57, 58, 59, 60, 61, 62, 63, 64, 65, 66, 67, 68, 69, 70, 71, 72, 73, 74, 75, 76, 77, 78, 79, 80, 81, 82, 83, 84, 85, 86, 87, 88, 89, 90, 91, 92, 93, 94, 95, 96, 97, 98, 99] (by decide +kernel) (by decide +kernel)
set_option maxRecDepth 20000 in
theorem gX10_darkLine_X10_token : GoodIn wsX10_darkLine (wsV RX10 140 RX10 yX10_token wsX10_token) := goodIn_app (goodIn_of _ (by decide +kernel)) ggX10_darkLine_X10_token
set_option maxRecDepth 20000 in
theorem ggX10_darkLine_X10_take : GoodIn wsX10_darkLine wsX10_take := goodIn_r _ [40, 41, 42, 43, 5, 44, 26, 45, 27, 7, 2, 3, 4, 6, 8, 34, 35, 36, 14, 15, 16, 17, 18, 19, 20, 21, 22, 23, 24, 25, 28, 29, 30, 31, 32, 33, 50, 51, 52, 53, 54, 55, 56, 57, 58, 59, 60, 61, 62, 63, 64, 65, 66, 67, 68, 69, 70, 71, 72, 73, 74, 75, 76, 77, 78, 79, 80, 81, 82, 83, 84, 85, 86, 87, 88, 89, 90, 91, 92, 93, 94, 95, 96, 97, 98, 99] (by decide +kernel) (by decide +kernel)
set_option maxRecDepth 20000 in
theorem gX10_darkLine_X10_take : GoodIn wsX10_darkLine (wsV RX10 163 RX10 yX10_take wsX10_take) := goodIn_app (goodIn_of _ (by decide +kernel)) ggX10_darkLine_X10_take
set_option maxRecDepth 20000 in
theorem ggX10_darkLine_X10_keep : GoodIn wsX10_darkLine wsX10_keep := goodIn_r _ [49, 13, 45, 50, 51, 52, 53, 54, 55, 56, 57, 58, 59, 60, 61, 62, 63, 64, 65, 66, 67, 68, 69, 70, 71, 72, 73, 74, 75, 76, 77, 78, 79, 80, 81, 82, 83, 84, 85, 86, 87, 88, 89, 90, 91, 92, 93, 94, 95, 96, 97, 98, 99] (by decide +kernel) (by decide +kernel)
set_option maxRecDepth 20000 in
theorem gX10_darkLine_X10_keep : GoodIn wsX10_darkLine (wsV RX10 166 RX10 yX10_keep wsX10_keep) := goodIn_app (goodIn_of _ (by decide +kernel)) ggX10_darkLine_X10_keep
theorem dX10_darkLine_0 : decode cX10_darkLine 0 = .ok (.lload_n 1, 1) := by decide +kernel
theorem dX10_darkLine_1 : decode cX10_darkLine 1 = .ok (.ldc2_w 196, 3) := by decide +kernel
theorem dX10_darkLine_4 : decode cX10_darkLine 4 = .ok (.lcmp, 1) := by decide +kernel
theorem dX10_darkLine_5 : decode cX10_darkLine 5 = .ok (.ifCond .eq 8, 3) := by decide +kernel
theorem dX10_darkLine_8 : decode cX10_darkLine 8 = .ok (.aload_n 0, 1) := by decide +kernel
theorem dX10_darkLine_9 : decode cX10_darkLine 9 = .ok (.invokevirtual 132, 3) := by decide +kernel
theorem dX10_darkLine_12 : decode cX10_darkLine 12 = .ok (.ireturn, 1) := by decide +kernel
theorem dX10_darkLine_13 : decode cX10_darkLine 13 = .ok (.aload_n 0, 1) := by decide +kernel
theorem dX10_darkLine_14 : decode cX10_darkLine 14 = .ok (.iconst 0, 1) := by decide +kernel
theorem dX10_darkLine_15 : decode cX10_darkLine 15 = .ok (.bipush 6, 2) := by decide +kernel
theorem dX10_darkLine_17 : decode cX10_darkLine 17 = .ok (.iload_n 3, 1) := by decide +kernel
theorem dX10_darkLine_18 : decode cX10_darkLine 18 = .ok (.invokevirtual 159, 3) := by decide +kernel
theorem dX10_darkLine_21 : decode cX10_darkLine 21 = .ok (.aload_n 0, 1) := by decide +kernel
theorem dX10_darkLine_22 : decode cX10_darkLine 22 = .ok (.invokevirtual 140, 3) := by decide +kernel
theorem dX10_darkLine_25 : decode cX10_darkLine 25 = .ok (.aload_n 0, 1) := by decide +kernel
theorem dX10_darkLine_26 : decode cX10_darkLine 26 = .ok (.iconst 0, 1) := by decide +kernel
theorem dX10_darkLine_27 : decode cX10_darkLine 27 = .ok (.iconst 0, 1) := by decide +kernel
theorem dX10_darkLine_28 : decode cX10_darkLine 28 = .ok (.bipush 10, 2) := by decide +kernel
theorem dX10_darkLine_30 : decode cX10_darkLine 30 = .ok (.invokevirtual 163, 3) := by decide +kernel
theorem dX10_darkLine_33 : decode cX10_darkLine 33 = .ok (.ifCond .ne 5, 3) := by decide +kernel
theorem dX10_darkLine_36 : decode cX10_darkLine 36 = .ok (.iconst 0, 1) := by decide +kernel
theorem dX10_darkLine_37 : decode cX10_darkLine 37 = .ok (.ireturn, 1) := by decide +kernel
theorem dX10_darkLine_38 : decode cX10_darkLine 38 = .ok (.aload_n 0, 1) := by decide +kernel
theorem dX10_darkLine_39 : decode cX10_darkLine 39 = .ok (.iconst 0, 1) := by decide +kernel
theorem dX10_darkLine_40 : decode cX10_darkLine 40 = .ok (.iconst 1, 1) := by decide +kernel
theorem dX10_darkLine_41 : decode cX10_darkLine 41 = .ok (.iconst 1, 1) := by decide +kernel
theorem dX10_darkLine_42 : decode cX10_darkLine 42 = .ok (.bipush 6, 2) := by decide +kernel
theorem dX10_darkLine_44 : decode cX10_darkLine 44 = .ok (.invokevirtual 166, 3) := by decide +kernel
theorem dX10_darkLine_47 : decode cX10_darkLine 47 = .ok (.iconst 1, 1) := by decide +kernel
theorem dX10_darkLine_48 : decode cX10_darkLine 48 = .ok (.ireturn, 1) := by decide +kernel
set_option maxRecDepth 20000 in
theorem ggX10_lines_X10_theatreLine : GoodIn wsX10_lines wsX10_theatreLine := goodIn_r _ [8, 9, 10, 11, 12, 13, 14, 15, 16, 17, 18, 19, 7, 20, 2, 21, 22, 23, 24, 25, 26, 27, 28, 29, 30, 31, 32, 33, 34, 35, 36, 3, 1, 37, 38, 39, 40, 41, 42, 43, 44, 45, 46, 47, 48, 49, 50, 51, 52, 53, 54, 55, 56, 57, 58, 59, 60, 61, 85, 86, 87, 88, 89, 90, 91, 92, 93, 94, 95, 96, 97, 98, 99, 100, 101, 102, 103, 104, 105, 106, 107, 108, 109, 110, 111, 112, 113, 114, 115, 116, 117, 118, 119, 120, 121, 122, 123, 124, 125, 126, 127, 128, 129, 130, 131, 132, 133, 134] (by decide +kernel) (by decide +kernel)
set_option maxRecDepth 20000 in
theorem gX10_lines_X10_theatreLine : GoodIn wsX10_lines (wsV RX10 198 RX10 yX10_theatreLine wsX10_theatreLine) := goodIn_app (goodIn_of _ (by decide +kernel)) ggX10_lines_X10_theatreLine
set_option maxRecDepth 20000 in
theorem ggX10_lines_X10_bookLine : GoodIn wsX10_lines wsX10_bookLine := goodIn_r _ [65, 16, 66, 67, 7, 68, 69, 70, 71, 72, 73, 74, 75, 17, 18, 19, 20, 2, 21, 22, 23, 24, 25, 15, 26, 27, 28, 29, 30, 31, 32, 33, 34, 35, 36, 3, 1, 37, 38, 39, 40, 41, 42, 43, 44, 45, 46, 76, 77, 78, 79, 47, 48, 49, 50, 51, 52, 53, 54, 55, 56, 57, 58, 85, 86, 87, 88, 89, 90, 91, 92, 93, 94, 95, 96, 97, 98, 99, 100, 101, 102, 103, 104, 105, 106, 107, 108, 109, 110, 111, 112, 113, 114, 115, 116, 117, 118, 119, 120, 121, 122, 123, 124, 125, 126, 127, 128, 129, 130, 131, 132, 133, 134] (by decide +kernel) (by decide +kernel)
set_option maxRecDepth 20000 in
theorem gX10_lines_X10_bookLine : GoodIn wsX10_lines (wsV RX10 202 RX10 yX10_bookLine wsX10_bookLine) := goodIn_app (goodIn_of _ (by decide +kernel)) ggX10_lines_X10_bookLine
set_option maxRecDepth 20000 in
theorem ggX10_lines_X10_darkLine : GoodIn wsX10_lines wsX10_darkLine := goodIn_r _ [83, 84, 17, 18, 19, 7, 20, 2, 21, 22, 23, 24, 25, 15, 26, 27, 28, 29, 30, 31, 32, 33, 34, 35, 36, 3, 1, 37, 38, 39, 40, 41, 42, 43, 44, 45, 46, 47, 48, 49, 50, 51, 52, 53, 54, 16, 55, 56, 57, 58, 85, 86, 87, 88, 89, 90, 91, 92, 93, 94, 95, 96, 97, 98, 99, 100, 101, 102, 103, 104, 105, 106, 107, 108, 109, 110, 111, 112, 113, 114, 115, 116, 117, 118, 119, 120, 121, 122, 123, 124, 125, 126, 127, 128, 129, 130, 131, 132, 133, 134] (by decide +kernel) (by decide +kernel)
set_option maxRecDepth 20000 in
theorem gX10_lines_X10_darkLine : GoodIn wsX10_lines (wsV RX10 205 RX10 yX10_darkLine wsX10_darkLine) := goodIn_app (goodIn_of _ (by decide +kernel)) ggX10_lines_X10_darkLine
set_option maxRecDepth 20000 in
theorem ggX10_lines_X10_fails : GoodIn wsX10_lines wsX10_fails := goodIn_r _ [20, 2, 21, 85, 86, 87, 88, 89, 90, 91, 92, 93, 94, 95, 96, 97, 98, 99, 100, 101, 102, 103, 104, 105, 106, 107, 108, 109, 110, 111, 112, 113, 114, 115, 116, 117, 118, 119, 120, 121, 122, 123, 124, 125, 126, 127, 128, 129, 130, 131, 132, 133, 134] (by decide +kernel) (by decide +kernel)
set_option maxRecDepth 20000 in
theorem gX10_lines_X10_fails : GoodIn wsX10_lines (wsV RX10 132 RX10 yX10_fails wsX10_fails) := goodIn_app (goodIn_of _ (by decide +kernel)) ggX10_lines_X10_fails
set_option maxRecDepth 20000 in
theorem ggX10_lines_X10_token : GoodIn wsX10_lines wsX10_token := goodIn_r _ [35, 36, 2, 3, 1, 37, 38, 39, 40, 7, 41, 42, 43, 44, 45, 46, 85, 86, 87, 88, 89, 90, 91, 92, 93, 94, 95, 96, 97, 98, 99, 100, 101, 102, 103, 104, 105, 106, 107, 108, 109, 110, 111, 112, 113, 114, 115, 116, 117, 118, 119, 120, 121, 122, 123, 124, 125, 126, 127, 128, 129, 130, 131, 132, 133, 134] (by decide +kernel) (by decide +kernel)
set_option maxRecDepth 20000 in
theorem gX10_lines_X10_token : GoodIn wsX10_lines (wsV RX10 140 RX10 yX10_token wsX10_token) := goodIn_app (goodIn_of _ (by decide +kernel)) ggX10_lines_X10_token
theorem dX10_lines_0 : decode cX10_lines 0 = .ok (.iconst 1, 1) := by decide +kernel
theorem dX10_lines_1 : decode cX10_lines 1 = .ok (.istore_n 2, 1) := by decide +kernel
theorem dX10_lines_2 : decode cX10_lines 2 = .ok (.iload_n 2, 1) := by decide +kernel
theorem dX10_lines_3 : decode cX10_lines 3 = .ok (.ifCond .eq 98, 3) := by decide +kernel
theorem dX10_lines_6 : decode cX10_lines 6 = .ok (.aload_n 0, 1) := by decide +kernel
theorem dX10_lines_7 : decode cX10_lines 7 = .ok (.getfield 117, 3) := by decide +kernel
theorem dX10_lines_10 : decode cX10_lines 10 = .ok (.ifCond .eq 91, 3) := by decide +kernel
theorem dX10_lines_13 : decode cX10_lines 13 = .ok (.aload_n 0, 1) := by decide +kernel
theorem dX10_lines_14 : decode cX10_lines 14 = .ok (.getfield 110, 3) := by decide +kernel
theorem dX10_lines_17 : decode cX10_lines 17 = .ok (.istore_n 3, 1) := by decide +kernel
theorem dX10_lines_18 : decode cX10_lines 18 = .ok (.aload_n 0, 1) := by decide +kernel
theorem dX10_lines_19 : decode cX10_lines 19 = .ok (.getfield 117, 3) := by decide +kernel
theorem dX10_lines_22 : decode cX10_lines 22 = .ok (.iconst 2, 1) := by decide +kernel
theorem dX10_lines_23 : decode cX10_lines 23 = .ok (.if_icmp .ne 10, 3) := by decide +kernel
theorem dX10_lines_26 : decode cX10_lines 26 = .ok (.aload_n 0, 1) := by decide +kernel
theorem dX10_lines_27 : decode cX10_lines 27 = .ok (.getfield 113, 3) := by decide +kernel
theorem dX10_lines_30 : decode cX10_lines 30 = .ok (.goto 4, 3) := by decide +kernel
theorem dX10_lines_33 : decode cX10_lines 33 = .ok (.lconst 0, 1) := by decide +kernel
theorem dX10_lines_34 : decode cX10_lines 34 = .ok (.lstore 4, 2) := by decide +kernel
theorem dX10_lines_36 : decode cX10_lines 36 = .ok (.iload_n 1, 1) := by decide +kernel
theorem dX10_lines_37 : decode cX10_lines 37 = .ok (.ifCond .ne 13, 3) := by decide +kernel
theorem dX10_lines_40 : decode cX10_lines 40 = .ok (.aload_n 0, 1) := by decide +kernel
theorem dX10_lines_41 : decode cX10_lines 41 = .ok (.lload 4, 2) := by decide +kernel
theorem dX10_lines_43 : decode cX10_lines 43 = .ok (.iload_n 3, 1) := by decide +kernel
theorem dX10_lines_44 : decode cX10_lines 44 = .ok (.invokevirtual 198, 3) := by decide +kernel
theorem dX10_lines_47 : decode cX10_lines 47 = .ok (.goto 25, 3) := by decide +kernel
theorem dX10_lines_50 : decode cX10_lines 50 = .ok (.iload_n 1, 1) := by decide +kernel
theorem dX10_lines_51 : decode cX10_lines 51 = .ok (.iconst 1, 1) := by decide +kernel
theorem dX10_lines_52 : decode cX10_lines 52 = .ok (.if_icmp .ne 13, 3) := by decide +kernel
theorem dX10_lines_55 : decode cX10_lines 55 = .ok (.aload_n 0, 1) := by decide +kernel
theorem dX10_lines_56 : decode cX10_lines 56 = .ok (.lload 4, 2) := by decide +kernel
theorem dX10_lines_58 : decode cX10_lines 58 = .ok (.iload_n 3, 1) := by decide +kernel
theorem dX10_lines_59 : decode cX10_lines 59 = .ok (.invokevirtual 202, 3) := by decide +kernel
theorem dX10_lines_62 : decode cX10_lines 62 = .ok (.goto 10, 3) := by decide +kernel
theorem dX10_lines_65 : decode cX10_lines 65 = .ok (.aload_n 0, 1) := by decide +kernel
theorem dX10_lines_66 : decode cX10_lines 66 = .ok (.lload 4, 2) := by decide +kernel
theorem dX10_lines_68 : decode cX10_lines 68 = .ok (.iload_n 3, 1) := by decide +kernel
theorem dX10_lines_69 : decode cX10_lines 69 = .ok (.invokevirtual 205, 3) := by decide +kernel
theorem dX10_lines_72 : decode cX10_lines 72 = .ok (.istore_n 2, 1) := by decide +kernel
theorem dX10_lines_73 : decode cX10_lines 73 = .ok (.iload_n 2, 1) := by decide +kernel
theorem dX10_lines_74 : decode cX10_lines 74 = .ok (.ifCond .eq 16, 3) := by decide +kernel
theorem dX10_lines_77 : decode cX10_lines 77 = .ok (.aload_n 0, 1) := by decide +kernel
theorem dX10_lines_78 : decode cX10_lines 78 = .ok (.getfield 117, 3) := by decide +kernel
theorem dX10_lines_81 : decode cX10_lines 81 = .ok (.iconst 4, 1) := by decide +kernel
theorem dX10_lines_82 : decode cX10_lines 82 = .ok (.if_icmp .eq 8, 3) := by decide +kernel
theorem dX10_lines_85 : decode cX10_lines 85 = .ok (.aload_n 0, 1) := by decide +kernel
theorem dX10_lines_86 : decode cX10_lines 86 = .ok (.invokevirtual 132, 3) := by decide +kernel
theorem dX10_lines_89 : decode cX10_lines 89 = .ok (.istore_n 2, 1) := by decide +kernel
theorem dX10_lines_90 : decode cX10_lines 90 = .ok (.iload_n 2, 1) := by decide +kernel
theorem dX10_lines_91 : decode cX10_lines 91 = .ok (.ifCond .eq 7, 3) := by decide +kernel
theorem dX10_lines_94 : decode cX10_lines 94 = .ok (.aload_n 0, 1) := by decide +kernel
theorem dX10_lines_95 : decode cX10_lines 95 = .ok (.invokevirtual 140, 3) := by decide +kernel
theorem dX10_lines_98 : decode cX10_lines 98 = .ok (.goto (-96), 3) := by decide +kernel
theorem dX10_lines_101 : decode cX10_lines 101 = .ok (.iload_n 2, 1) := by decide +kernel
theorem dX10_lines_102 : decode cX10_lines 102 = .ok (.ireturn, 1) := by decide +kernel
set_option maxRecDepth 20000 in
theorem ggX10_readText_X10_token : GoodIn wsX10_readText wsX10_token := goodIn_r _ [12, 2, 13, 14, 15, 16, 17, 18, 19, 11, 20, 21, 22, 23, 24, 25, 91, 92, 93, 94, 95, 96, 97, 98, 99, 100, 101, 102, 103, 104, 105, 106, 107, 108, 109, 110, 111, 112, 113, 114, 115, 116, 117, 118, 119, 120, 121, 122, 123, 124, 125, 126, 127, 128, 129, 130, 131, 132, 133, 134, 135, 136, 137, 138, 139, 140] (by decide +kernel) (by decide +kernel)
set_option maxRecDepth 20000 in
theorem gX10_readText_X10_token : GoodIn wsX10_readText (wsV RX10 140 RX10 yX10_token wsX10_token) := goodIn_app (goodIn_of _ (by decide +kernel)) ggX10_readText_X10_token
set_option maxRecDepth 20000 in
theorem ggX10_readText_X10_lines : GoodIn wsX10_readText wsX10_lines := goodIn_r _ [29, 15, 13, 14, 30, 31, 32, 11, 33, 34, 35, 36, 37, 38, 39, 1, 40, 41, 42, 43, 44, 6, 45, 46, 47, 48, 49, 50, 51, 52, 3, 7, 8, 9, 10, 12, 2, 16, 17, 18, 19, 20, 21, 22, 23, 24, 25, 53, 54, 55, 56, 57, 58, 59, 60, 61, 62, 63, 64, 65, 66, 67, 68, 69, 70, 71, 72, 73, 74, 75, 76, 77, 78, 79, 80, 81, 82, 83, 84, 85, 86, 87, 88, 89, 90, 91, 92, 93, 94, 95, 96, 97, 98, 99, 100, 101, 102, 103, 104, 105, 106, 107, 108, 109, 110, 111, 112, 113, 114, 115, 116, 117, 118, 119, 120, 121, 122, 123, 124, 125, 126, 127, 128, 129, 130, 131, 132, 133, 134, 135, 136, 137, 138, 139, 140] (by decide +kernel) (by decide +kernel)
set_option maxRecDepth 20000 in
theorem gX10_readText_X10_lines : GoodIn wsX10_readText (wsV RX10 208 RX10 yX10_lines wsX10_lines) := goodIn_app (goodIn_of _ (by decide +kernel)) ggX10_readText_X10_lines
theorem dX10_readText_0 : decode cX10_readText 0 = .ok (.iconst 0, 1) := by decide +kernel
theorem dX10_readText_1 : decode cX10_readText 1 = .ok (.istore_n 2, 1) := by decide +kernel
theorem dX10_readText_2 : decode cX10_readText 2 = .ok (.iload_n 2, 1) := by decide +kernel
theorem dX10_readText_3 : decode cX10_readText 3 = .ok (.bipush 121, 2) := by decide +kernel
theorem dX10_readText_5 : decode cX10_readText 5 = .ok (.if_icmp .ge 16, 3) := by decide +kernel
theorem dX10_readText_8 : decode cX10_readText 8 = .ok (.aload_n 0, 1) := by decide +kernel
theorem dX10_readText_9 : decode cX10_readText 9 = .ok (.getfield 35, 3) := by decide +kernel
theorem dX10_readText_12 : decode cX10_readText 12 = .ok (.iload_n 2, 1) := by decide +kernel
theorem dX10_readText_13 : decode cX10_readText 13 = .ok (.iconst 0, 1) := by decide +kernel
theorem dX10_readText_14 : decode cX10_readText 14 = .ok (.iastore, 1) := by decide +kernel
theorem dX10_readText_15 : decode cX10_readText 15 = .ok (.iinc 2 1, 3) := by decide +kernel
theorem dX10_readText_18 : decode cX10_readText 18 = .ok (.goto (-16), 3) := by decide +kernel
theorem dX10_readText_21 : decode cX10_readText 21 = .ok (.aload_n 0, 1) := by decide +kernel
theorem dX10_readText_22 : decode cX10_readText 22 = .ok (.getfield 35, 3) := by decide +kernel
theorem dX10_readText_25 : decode cX10_readText 25 = .ok (.iconst 3, 1) := by decide +kernel
theorem dX10_readText_26 : decode cX10_readText 26 = .ok (.iload_n 1, 1) := by decide +kernel
theorem dX10_readText_27 : decode cX10_readText 27 = .ok (.ifCond .ne 9, 3) := by decide +kernel
theorem dX10_readText_30 : decode cX10_readText 30 = .ok (.sipush 999, 3) := by decide +kernel
theorem dX10_readText_33 : decode cX10_readText 33 = .ok (.goto 4, 3) := by decide +kernel
theorem dX10_readText_36 : decode cX10_readText 36 = .ok (.iconst 0, 1) := by decide +kernel
theorem dX10_readText_37 : decode cX10_readText 37 = .ok (.iastore, 1) := by decide +kernel
theorem dX10_readText_38 : decode cX10_readText 38 = .ok (.aload_n 0, 1) := by decide +kernel
theorem dX10_readText_39 : decode cX10_readText 39 = .ok (.iconst 0, 1) := by decide +kernel
theorem dX10_readText_40 : decode cX10_readText 40 = .ok (.putfield 100, 3) := by decide +kernel
theorem dX10_readText_43 : decode cX10_readText 43 = .ok (.aload_n 0, 1) := by decide +kernel
theorem dX10_readText_44 : decode cX10_readText 44 = .ok (.iconst 0, 1) := by decide +kernel
theorem dX10_readText_45 : decode cX10_readText 45 = .ok (.putfield 126, 3) := by decide +kernel
theorem dX10_readText_48 : decode cX10_readText 48 = .ok (.aload_n 0, 1) := by decide +kernel
theorem dX10_readText_49 : decode cX10_readText 49 = .ok (.invokevirtual 140, 3) := by decide +kernel
theorem dX10_readText_52 : decode cX10_readText 52 = .ok (.aload_n 0, 1) := by decide +kernel
theorem dX10_readText_53 : decode cX10_readText 53 = .ok (.iload_n 1, 1) := by decide +kernel
theorem dX10_readText_54 : decode cX10_readText 54 = .ok (.invokevirtual 208, 3) := by decide +kernel
theorem dX10_readText_57 : decode cX10_readText 57 = .ok (.istore_n 2, 1) := by decide +kernel
theorem dX10_readText_58 : decode cX10_readText 58 = .ok (.aload_n 0, 1) := by decide +kernel
theorem dX10_readText_59 : decode cX10_readText 59 = .ok (.getfield 17, 3) := by decide +kernel
theorem dX10_readText_62 : decode cX10_readText 62 = .ok (.iconst 0, 1) := by decide +kernel
theorem dX10_readText_63 : decode cX10_readText 63 = .ok (.iload_n 2, 1) := by decide +kernel
theorem dX10_readText_64 : decode cX10_readText 64 = .ok (.ifCond .eq 10, 3) := by decide +kernel
theorem dX10_readText_67 : decode cX10_readText 67 = .ok (.aload_n 0, 1) := by decide +kernel
theorem dX10_readText_68 : decode cX10_readText 68 = .ok (.getfield 126, 3) := by decide +kernel
theorem dX10_readText_71 : decode cX10_readText 71 = .ok (.goto 4, 3) := by decide +kernel
theorem dX10_readText_74 : decode cX10_readText 74 = .ok (.iconst 1, 1) := by decide +kernel
theorem dX10_readText_75 : decode cX10_readText 75 = .ok (.iastore, 1) := by decide +kernel
theorem dX10_readText_76 : decode cX10_readText 76 = .ok (.aload_n 0, 1) := by decide +kernel
theorem dX10_readText_77 : decode cX10_readText 77 = .ok (.getfield 20, 3) := by decide +kernel
theorem dX10_readText_80 : decode cX10_readText 80 = .ok (.iconst 0, 1) := by decide +kernel
theorem dX10_readText_81 : decode cX10_readText 81 = .ok (.iload_n 2, 1) := by decide +kernel
theorem dX10_readText_82 : decode cX10_readText 82 = .ok (.ifCond .ne 10, 3) := by decide +kernel
theorem dX10_readText_85 : decode cX10_readText 85 = .ok (.aload_n 0, 1) := by decide +kernel
theorem dX10_readText_86 : decode cX10_readText 86 = .ok (.getfield 123, 3) := by decide +kernel
theorem dX10_readText_89 : decode cX10_readText 89 = .ok (.goto 18, 3) := by decide +kernel
theorem dX10_readText_92 : decode cX10_readText 92 = .ok (.aload_n 0, 1) := by decide +kernel
theorem dX10_readText_93 : decode cX10_readText 93 = .ok (.getfield 126, 3) := by decide +kernel
theorem dX10_readText_96 : decode cX10_readText 96 = .ok (.ifCond .le 10, 3) := by decide +kernel
theorem dX10_readText_99 : decode cX10_readText 99 = .ok (.aload_n 0, 1) := by decide +kernel
theorem dX10_readText_100 : decode cX10_readText 100 = .ok (.getfield 129, 3) := by decide +kernel
theorem dX10_readText_103 : decode cX10_readText 103 = .ok (.goto 4, 3) := by decide +kernel
theorem dX10_readText_106 : decode cX10_readText 106 = .ok (.iconst (-1), 1) := by decide +kernel
theorem dX10_readText_107 : decode cX10_readText 107 = .ok (.iastore, 1) := by decide +kernel
theorem dX10_readText_108 : decode cX10_readText 108 = .ok (.aload_n 0, 1) := by decide +kernel
theorem dX10_readText_109 : decode cX10_readText 109 = .ok (.getfield 17, 3) := by decide +kernel
theorem dX10_readText_112 : decode cX10_readText 112 = .ok (.iconst 0, 1) := by decide +kernel
theorem dX10_readText_113 : decode cX10_readText 113 = .ok (.iaload, 1) := by decide +kernel
theorem dX10_readText_114 : decode cX10_readText 114 = .ok (.ifCond .ne 7, 3) := by decide +kernel
theorem dX10_readText_117 : decode cX10_readText 117 = .ok (.iconst 1, 1) := by decide +kernel
theorem dX10_readText_118 : decode cX10_readText 118 = .ok (.goto 4, 3) := by decide +kernel
theorem dX10_readText_121 : decode cX10_readText 121 = .ok (.iconst 0, 1) := by decide +kernel
theorem dX10_readText_122 : decode cX10_readText 122 = .ok (.ireturn, 1) := by decide +kernel
theorem dX10_store_0 : decode cX10_store 0 = .ok (.iconst 0, 1) := by decide +kernel
theorem dX10_store_1 : decode cX10_store 1 = .ok (.istore 4, 2) := by decide +kernel
theorem dX10_store_3 : decode cX10_store 3 = .ok (.iload 4, 2) := by decide +kernel
theorem dX10_store_5 : decode cX10_store 5 = .ok (.iload_n 2, 1) := by decide +kernel
theorem dX10_store_6 : decode cX10_store 6 = .ok (.if_icmp .ge 24, 3) := by decide +kernel
theorem dX10_store_9 : decode cX10_store 9 = .ok (.aload_n 1, 1) := by decide +kernel
theorem dX10_store_10 : decode cX10_store 10 = .ok (.iload_n 2, 1) := by decide +kernel
theorem dX10_store_11 : decode cX10_store 11 = .ok (.iload_n 3, 1) := by decide +kernel
theorem dX10_store_12 : decode cX10_store 12 = .ok (.imul, 1) := by decide +kernel
theorem dX10_store_13 : decode cX10_store 13 = .ok (.iload 4, 2) := by decide +kernel
theorem dX10_store_15 : decode cX10_store 15 = .ok (.iadd, 1) := by decide +kernel
theorem dX10_store_16 : decode cX10_store 16 = .ok (.aload_n 0, 1) := by decide +kernel
theorem dX10_store_17 : decode cX10_store 17 = .ok (.getfield 35, 3) := by decide +kernel
theorem dX10_store_20 : decode cX10_store 20 = .ok (.iload 4, 2) := by decide +kernel
theorem dX10_store_22 : decode cX10_store 22 = .ok (.iaload, 1) := by decide +kernel
theorem dX10_store_23 : decode cX10_store 23 = .ok (.iastore, 1) := by decide +kernel
theorem dX10_store_24 : decode cX10_store 24 = .ok (.iinc 4 1, 3) := by decide +kernel
theorem dX10_store_27 : decode cX10_store 27 = .ok (.goto (-24), 3) := by decide +kernel
theorem dX10_store_30 : decode cX10_store 30 = .ok (.return_, 1) := by decide +kernel
set_option maxRecDepth 20000 in
theorem ggX10_text_X10_in : GoodIn wsX10_text wsX10_in := goodIn_r _ [13] (by decide +kernel) (by decide +kernel)
set_option maxRecDepth 20000 in
theorem gX10_text_X10_in : GoodIn wsX10_text (va_wsS RX10 92 yX10_in wsX10_in) := goodIn_app (goodIn_of _ (by decide +kernel)) ggX10_text_X10_in
set_option maxRecDepth 20000 in
theorem ggX10_text_X10_is : GoodIn wsX10_text wsX10_is := goodIn_r _ [17, 6, 10, 11, 12, 13, 109, 110, 111, 112, 113, 114, 115, 116, 117, 118, 119, 120, 121, 122, 123, 124, 125, 126, 127, 128, 129, 130, 131, 132, 133, 134, 135, 136, 137, 138, 139, 140, 141, 142, 143, 144, 145, 146, 147, 148, 149, 150, 151, 152, 153, 154, 155, 156, 157, 158] (by decide +kernel) (by decide +kernel)
set_option maxRecDepth 20000 in
theorem gX10_text_X10_is : GoodIn wsX10_text (wsV RX10 211 RX10 yX10_is wsX10_is) := goodIn_app (goodIn_of _ (by decide +kernel)) ggX10_text_X10_is
set_option maxRecDepth 20000 in
theorem ggX10_text_X10_readText : GoodIn wsX10_text wsX10_readText := goodIn_r _ [21, 22, 23, 24, 4, 5, 25, 26, 27, 28, 29, 12, 30, 31, 32, 33, 34, 35, 36, 37, 38, 3, 39, 10, 11, 13, 40, 41, 42, 43, 44, 45, 46, 47, 48, 49, 50, 51, 52, 53, 54, 55, 56, 57, 58, 59, 60, 61, 62, 63, 64, 65, 66, 67, 68, 69, 70, 71, 72, 73, 74, 75, 76, 77, 78, 79, 80, 81, 82, 83, 84, 85, 86, 87, 88, 89, 90, 91, 92, 93, 94, 95, 96, 97, 98, 99, 100, 101, 102, 103, 104, 109, 110, 111, 112, 113, 114, 115, 116, 117, 118, 119, 120, 121, 122, 123, 124, 125, 126, 127, 128, 129, 130, 131, 132, 133, 134, 135, 136, 137, 138, 139, 140, 141, 142, 143, 144, 145, 146, 147, 148, 149, 150, 151, 152, 153, 154, 155, 156, 157, 158] (by decide +kernel) (by decide +kernel)
set_option maxRecDepth 20000 in
theorem gX10_text_X10_readText : GoodIn wsX10_text (wsV RX10 214 RX10 yX10_readText wsX10_readText) := goodIn_app (goodIn_of _ (by decide +kernel)) ggX10_text_X10_readText
set_option maxRecDepth 20000 in
theorem ggX10_text_X10_store : GoodIn wsX10_text wsX10_store := goodIn_r _ [108, 22, 109, 110, 111, 112, 113, 114, 115, 116, 117, 118, 119, 120, 121, 122, 123, 124, 125, 126, 127, 128, 129, 130, 131, 132, 133, 134, 135, 136, 137, 138, 139, 140, 141, 142, 143, 144, 145, 146, 147, 148, 149, 150, 151, 152, 153, 154, 155, 156, 157, 158] (by decide +kernel) (by decide +kernel)
set_option maxRecDepth 20000 in
theorem gX10_text_X10_store : GoodIn wsX10_text (wsV RX10 217 RX10 yX10_store wsX10_store) := goodIn_app (goodIn_of _ (by decide +kernel)) ggX10_text_X10_store
theorem dX10_text_0 : decode cX10_text 0 = .ok (.aload_n 0, 1) := by decide +kernel
theorem dX10_text_1 : decode cX10_text 1 = .ok (.iconst 0, 1) := by decide +kernel
theorem dX10_text_2 : decode cX10_text 2 = .ok (.putfield 80, 3) := by decide +kernel
theorem dX10_text_5 : decode cX10_text 5 = .ok (.aload_n 0, 1) := by decide +kernel
theorem dX10_text_6 : decode cX10_text 6 = .ok (.aload_n 0, 1) := by decide +kernel
theorem dX10_text_7 : decode cX10_text 7 = .ok (.getfield 13, 3) := by decide +kernel
theorem dX10_text_10 : decode cX10_text 10 = .ok (.iconst 0, 1) := by decide +kernel
theorem dX10_text_11 : decode cX10_text 11 = .ok (.iaload, 1) := by decide +kernel
theorem dX10_text_12 : decode cX10_text 12 = .ok (.putfield 103, 3) := by decide +kernel
theorem dX10_text_15 : decode cX10_text 15 = .ok (.aload_n 0, 1) := by decide +kernel
theorem dX10_text_16 : decode cX10_text 16 = .ok (.getfield 13, 3) := by decide +kernel
theorem dX10_text_19 : decode cX10_text 19 = .ok (.iconst 0, 1) := by decide +kernel
theorem dX10_text_20 : decode cX10_text 20 = .ok (.iconst 0, 1) := by decide +kernel
theorem dX10_text_21 : decode cX10_text 21 = .ok (.iastore, 1) := by decide +kernel
theorem dX10_text_22 : decode cX10_text 22 = .ok (.aload_n 0, 1) := by decide +kernel
theorem dX10_text_23 : decode cX10_text 23 = .ok (.getfield 17, 3) := by decide +kernel
theorem dX10_text_26 : decode cX10_text 26 = .ok (.iconst 0, 1) := by decide +kernel
theorem dX10_text_27 : decode cX10_text 27 = .ok (.iconst 0, 1) := by decide +kernel
theorem dX10_text_28 : decode cX10_text 28 = .ok (.iastore, 1) := by decide +kernel
theorem dX10_text_29 : decode cX10_text 29 = .ok (.aload_n 0, 1) := by decide +kernel
theorem dX10_text_30 : decode cX10_text 30 = .ok (.getfield 20, 3) := by decide +kernel
theorem dX10_text_33 : decode cX10_text 33 = .ok (.iconst 0, 1) := by decide +kernel
theorem dX10_text_34 : decode cX10_text 34 = .ok (.iconst (-1), 1) := by decide +kernel
theorem dX10_text_35 : decode cX10_text 35 = .ok (.iastore, 1) := by decide +kernel
theorem dX10_text_36 : decode cX10_text 36 = .ok (.iload_n 1, 1) := by decide +kernel
theorem dX10_text_37 : decode cX10_text 37 = .ok (.iconst 0, 1) := by decide +kernel
theorem dX10_text_38 : decode cX10_text 38 = .ok (.iconst 2, 1) := by decide +kernel
theorem dX10_text_39 : decode cX10_text 39 = .ok (.invokestatic 92, 3) := by decide +kernel
theorem dX10_text_42 : decode cX10_text 42 = .ok (.ifCond .eq 30, 3) := by decide +kernel
theorem dX10_text_45 : decode cX10_text 45 = .ok (.iload_n 2, 1) := by decide +kernel
theorem dX10_text_46 : decode cX10_text 46 = .ok (.iconst (-1), 1) := by decide +kernel
theorem dX10_text_47 : decode cX10_text 47 = .ok (.if_icmp .ne 16, 3) := by decide +kernel
theorem dX10_text_50 : decode cX10_text 50 = .ok (.aload_n 0, 1) := by decide +kernel
theorem dX10_text_51 : decode cX10_text 51 = .ok (.getfield 23, 3) := by decide +kernel
theorem dX10_text_54 : decode cX10_text 54 = .ok (.iload_n 1, 1) := by decide +kernel
theorem dX10_text_55 : decode cX10_text 55 = .ok (.iaload, 1) := by decide +kernel
theorem dX10_text_56 : decode cX10_text 56 = .ok (.iconst 2, 1) := by decide +kernel
theorem dX10_text_57 : decode cX10_text 57 = .ok (.if_icmp .ne 18, 3) := by decide +kernel
theorem dX10_text_60 : decode cX10_text 60 = .ok (.goto 12, 3) := by decide +kernel
theorem dX10_text_63 : decode cX10_text 63 = .ok (.aload_n 0, 1) := by decide +kernel
theorem dX10_text_64 : decode cX10_text 64 = .ok (.iload_n 1, 1) := by decide +kernel
theorem dX10_text_65 : decode cX10_text 65 = .ok (.iload_n 2, 1) := by decide +kernel
theorem dX10_text_66 : decode cX10_text 66 = .ok (.invokevirtual 211, 3) := by decide +kernel
theorem dX10_text_69 : decode cX10_text 69 = .ok (.ifCond .ne 6, 3) := by decide +kernel
theorem dX10_text_72 : decode cX10_text 72 = .ok (.bipush (-2), 2) := by decide +kernel
theorem dX10_text_74 : decode cX10_text 74 = .ok (.ireturn, 1) := by decide +kernel
theorem dX10_text_75 : decode cX10_text 75 = .ok (.aload_n 0, 1) := by decide +kernel
theorem dX10_text_76 : decode cX10_text 76 = .ok (.iload_n 1, 1) := by decide +kernel
theorem dX10_text_77 : decode cX10_text 77 = .ok (.invokevirtual 214, 3) := by decide +kernel
theorem dX10_text_80 : decode cX10_text 80 = .ok (.ifCond .ne 5, 3) := by decide +kernel
theorem dX10_text_83 : decode cX10_text 83 = .ok (.iconst (-1), 1) := by decide +kernel
theorem dX10_text_84 : decode cX10_text 84 = .ok (.ireturn, 1) := by decide +kernel
theorem dX10_text_85 : decode cX10_text 85 = .ok (.iload_n 2, 1) := by decide +kernel
theorem dX10_text_86 : decode cX10_text 86 = .ok (.iconst (-1), 1) := by decide +kernel
theorem dX10_text_87 : decode cX10_text 87 = .ok (.if_icmp .ne 12, 3) := by decide +kernel
theorem dX10_text_90 : decode cX10_text 90 = .ok (.aload_n 0, 1) := by decide +kernel
theorem dX10_text_91 : decode cX10_text 91 = .ok (.getfield 23, 3) := by decide +kernel
theorem dX10_text_94 : decode cX10_text 94 = .ok (.iload_n 1, 1) := by decide +kernel
theorem dX10_text_95 : decode cX10_text 95 = .ok (.iaload, 1) := by decide +kernel
theorem dX10_text_96 : decode cX10_text 96 = .ok (.goto 4, 3) := by decide +kernel
theorem dX10_text_99 : decode cX10_text 99 = .ok (.iload_n 2, 1) := by decide +kernel
theorem dX10_text_100 : decode cX10_text 100 = .ok (.istore_n 3, 1) := by decide +kernel
theorem dX10_text_101 : decode cX10_text 101 = .ok (.aload_n 0, 1) := by decide +kernel
theorem dX10_text_102 : decode cX10_text 102 = .ok (.getfield 23, 3) := by decide +kernel
theorem dX10_text_105 : decode cX10_text 105 = .ok (.iload_n 1, 1) := by decide +kernel
theorem dX10_text_106 : decode cX10_text 106 = .ok (.dup2, 1) := by decide +kernel
theorem dX10_text_107 : decode cX10_text 107 = .ok (.iaload, 1) := by decide +kernel
theorem dX10_text_108 : decode cX10_text 108 = .ok (.iload_n 2, 1) := by decide +kernel
theorem dX10_text_109 : decode cX10_text 109 = .ok (.iconst (-1), 1) := by decide +kernel
theorem dX10_text_110 : decode cX10_text 110 = .ok (.if_icmp .ne 7, 3) := by decide +kernel
theorem dX10_text_113 : decode cX10_text 113 = .ok (.iconst 1, 1) := by decide +kernel
theorem dX10_text_114 : decode cX10_text 114 = .ok (.goto 4, 3) := by decide +kernel
theorem dX10_text_117 : decode cX10_text 117 = .ok (.iconst 0, 1) := by decide +kernel
theorem dX10_text_118 : decode cX10_text 118 = .ok (.iadd, 1) := by decide +kernel
theorem dX10_text_119 : decode cX10_text 119 = .ok (.iastore, 1) := by decide +kernel
theorem dX10_text_120 : decode cX10_text 120 = .ok (.iload_n 1, 1) := by decide +kernel
theorem dX10_text_121 : decode cX10_text 121 = .ok (.ifCond .ne 17, 3) := by decide +kernel
theorem dX10_text_124 : decode cX10_text 124 = .ok (.aload_n 0, 1) := by decide +kernel
theorem dX10_text_125 : decode cX10_text 125 = .ok (.aload_n 0, 1) := by decide +kernel
theorem dX10_text_126 : decode cX10_text 126 = .ok (.getfield 26, 3) := by decide +kernel
theorem dX10_text_129 : decode cX10_text 129 = .ok (.bipush 36, 2) := by decide +kernel
theorem dX10_text_131 : decode cX10_text 131 = .ok (.iload_n 3, 1) := by decide +kernel
theorem dX10_text_132 : decode cX10_text 132 = .ok (.invokevirtual 217, 3) := by decide +kernel
theorem dX10_text_135 : decode cX10_text 135 = .ok (.goto 33, 3) := by decide +kernel
theorem dX10_text_138 : decode cX10_text 138 = .ok (.iload_n 1, 1) := by decide +kernel
theorem dX10_text_139 : decode cX10_text 139 = .ok (.iconst 1, 1) := by decide +kernel
theorem dX10_text_140 : decode cX10_text 140 = .ok (.if_icmp .ne 17, 3) := by decide +kernel
theorem dX10_text_143 : decode cX10_text 143 = .ok (.aload_n 0, 1) := by decide +kernel
theorem dX10_text_144 : decode cX10_text 144 = .ok (.aload_n 0, 1) := by decide +kernel
theorem dX10_text_145 : decode cX10_text 145 = .ok (.getfield 29, 3) := by decide +kernel
theorem dX10_text_148 : decode cX10_text 148 = .ok (.bipush 121, 2) := by decide +kernel
theorem dX10_text_150 : decode cX10_text 150 = .ok (.iload_n 3, 1) := by decide +kernel
theorem dX10_text_151 : decode cX10_text 151 = .ok (.invokevirtual 217, 3) := by decide +kernel
theorem dX10_text_154 : decode cX10_text 154 = .ok (.goto 14, 3) := by decide +kernel
theorem dX10_text_157 : decode cX10_text 157 = .ok (.aload_n 0, 1) := by decide +kernel
theorem dX10_text_158 : decode cX10_text 158 = .ok (.aload_n 0, 1) := by decide +kernel
theorem dX10_text_159 : decode cX10_text 159 = .ok (.getfield 32, 3) := by decide +kernel
theorem dX10_text_162 : decode cX10_text 162 = .ok (.bipush 7, 2) := by decide +kernel
theorem dX10_text_164 : decode cX10_text 164 = .ok (.iload_n 3, 1) := by decide +kernel
theorem dX10_text_165 : decode cX10_text 165 = .ok (.invokevirtual 217, 3) := by decide +kernel
theorem dX10_text_168 : decode cX10_text 168 = .ok (.iload_n 3, 1) := by decide +kernel
theorem dX10_text_169 : decode cX10_text 169 = .ok (.ireturn, 1) := by decide +kernel
