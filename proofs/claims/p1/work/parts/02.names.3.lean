abbrev wsX100 : List Cond := u_ws RX10 TX10 50
theorem nmX10 : ∀ a, a < 50 → ∀ b, b < 50 → a ≠ b → (TX10 a).2.1 ≠ (TX10 b).2.1 := by decide +kernel
theorem tyX10_ok : ∀ k, k < 50 → parseFieldDescriptor (TX10 k).2.2.1 = some (tyX10 k) := by decide +kernel
abbrev cX10_init : ByteArray := prog_12_method_1_code
def yX10_init : MethodName := ⟨RX10, "<init>", "()V"⟩
def wsX10_init_r1 : List Cond := [Cond.methodLink RX10 1 objectInit, Cond.instanceMethod objectInit, Cond.code objectInit ⟨#[0xb1]⟩ 1 none, Cond.arrayClass .byte, Cond.fieldLink RX10 7 "ClapBankModel" "tape" "[B", Cond.arrayClass .int, Cond.fieldLink RX10 13 "ClapBankModel" "size" "[I", Cond.fieldLink RX10 17 "ClapBankModel" "fault" "[I", Cond.fieldLink RX10 20 "ClapBankModel" "faultPlace" "[I", Cond.fieldLink RX10 23 "ClapBankModel" "many" "[I", Cond.fieldLink RX10 26 "ClapBankModel" "theatres" "[I", Cond.fieldLink RX10 29 "ClapBankModel" "books" "[I", Cond.fieldLink RX10 32 "ClapBankModel" "darks" "[I", Cond.fieldLink RX10 35 "ClapBankModel" "told" "[I", Cond.fieldLink RX10 38 "ClapBankModel" "read" "[I", Cond.fieldLink RX10 41 "ClapBankModel" "left" "[I", Cond.fieldLink RX10 44 "ClapBankModel" "owes" "[I", Cond.fieldLink RX10 47 "ClapBankModel" "got" "[I", Cond.fieldLink RX10 50 "ClapBankModel" "saved" "[I", Cond.fieldLink RX10 53 "ClapBankModel" "storms" "[I", Cond.fieldLink RX10 56 "ClapBankModel" "starved" "[I", Cond.fieldLink RX10 59 "ClapBankModel" "asks" "[I", Cond.fieldLink RX10 62 "ClapBankModel" "wentTo" "[I", Cond.constant RX10 65 (117649)]
def wsX10_init_r2 : List Cond := [Cond.arrayClass .long, Cond.fieldLink RX10 66 "ClapBankModel" "ahead" "[J", Cond.fieldLink RX10 70 "ClapBankModel" "behind" "[J", Cond.fieldLink RX10 73 "ClapBankModel" "unit" "[I", Cond.arrayClass .boolean, Cond.fieldLink RX10 76 "ClapBankModel" "kept" "[Z"]
def wsX10_init : List Cond := .code yX10_init cX10_init 1 none :: ((wsX10_init_r1 ++ wsX10_init_r2) ++ wsX100)
theorem dX10_init_0 : decode cX10_init 0 = .ok (.aload_n 0, 1) := by decide +kernel
theorem dX10_init_1 : decode cX10_init 1 = .ok (.invokespecial 1, 3) := by decide +kernel
theorem dX10_init_4 : decode cX10_init 4 = .ok (.aload_n 0, 1) := by decide +kernel
theorem dX10_init_5 : decode cX10_init 5 = .ok (.sipush 2400, 3) := by decide +kernel
theorem dX10_init_8 : decode cX10_init 8 = .ok (.newarray .byte, 2) := by decide +kernel
theorem dX10_init_10 : decode cX10_init 10 = .ok (.putfield 7, 3) := by decide +kernel
theorem dX10_init_13 : decode cX10_init 13 = .ok (.aload_n 0, 1) := by decide +kernel
theorem dX10_init_14 : decode cX10_init 14 = .ok (.iconst 4, 1) := by decide +kernel
theorem dX10_init_15 : decode cX10_init 15 = .ok (.newarray .int, 2) := by decide +kernel
theorem dX10_init_17 : decode cX10_init 17 = .ok (.putfield 13, 3) := by decide +kernel
theorem dX10_init_20 : decode cX10_init 20 = .ok (.aload_n 0, 1) := by decide +kernel
theorem dX10_init_21 : decode cX10_init 21 = .ok (.iconst 4, 1) := by decide +kernel
theorem dX10_init_22 : decode cX10_init 22 = .ok (.newarray .int, 2) := by decide +kernel
theorem dX10_init_24 : decode cX10_init 24 = .ok (.putfield 17, 3) := by decide +kernel
theorem dX10_init_27 : decode cX10_init 27 = .ok (.aload_n 0, 1) := by decide +kernel
theorem dX10_init_28 : decode cX10_init 28 = .ok (.iconst 4, 1) := by decide +kernel
theorem dX10_init_29 : decode cX10_init 29 = .ok (.newarray .int, 2) := by decide +kernel
theorem dX10_init_31 : decode cX10_init 31 = .ok (.putfield 20, 3) := by decide +kernel
theorem dX10_init_34 : decode cX10_init 34 = .ok (.aload_n 0, 1) := by decide +kernel
theorem dX10_init_35 : decode cX10_init 35 = .ok (.bipush 12, 2) := by decide +kernel
theorem dX10_init_37 : decode cX10_init 37 = .ok (.newarray .int, 2) := by decide +kernel
theorem dX10_init_39 : decode cX10_init 39 = .ok (.putfield 23, 3) := by decide +kernel
theorem dX10_init_42 : decode cX10_init 42 = .ok (.aload_n 0, 1) := by decide +kernel
theorem dX10_init_43 : decode cX10_init 43 = .ok (.sipush 288, 3) := by decide +kernel
theorem dX10_init_46 : decode cX10_init 46 = .ok (.newarray .int, 2) := by decide +kernel
theorem dX10_init_48 : decode cX10_init 48 = .ok (.putfield 26, 3) := by decide +kernel
theorem dX10_init_51 : decode cX10_init 51 = .ok (.aload_n 0, 1) := by decide +kernel
theorem dX10_init_52 : decode cX10_init 52 = .ok (.sipush 968, 3) := by decide +kernel
theorem dX10_init_55 : decode cX10_init 55 = .ok (.newarray .int, 2) := by decide +kernel
theorem dX10_init_57 : decode cX10_init 57 = .ok (.putfield 29, 3) := by decide +kernel
theorem dX10_init_60 : decode cX10_init 60 = .ok (.aload_n 0, 1) := by decide +kernel
theorem dX10_init_61 : decode cX10_init 61 = .ok (.bipush 56, 2) := by decide +kernel
theorem dX10_init_63 : decode cX10_init 63 = .ok (.newarray .int, 2) := by decide +kernel
theorem dX10_init_65 : decode cX10_init 65 = .ok (.putfield 32, 3) := by decide +kernel
theorem dX10_init_68 : decode cX10_init 68 = .ok (.aload_n 0, 1) := by decide +kernel
theorem dX10_init_69 : decode cX10_init 69 = .ok (.bipush 121, 2) := by decide +kernel
theorem dX10_init_71 : decode cX10_init 71 = .ok (.newarray .int, 2) := by decide +kernel
theorem dX10_init_73 : decode cX10_init 73 = .ok (.putfield 35, 3) := by decide +kernel
theorem dX10_init_76 : decode cX10_init 76 = .ok (.aload_n 0, 1) := by decide +kernel
theorem dX10_init_77 : decode cX10_init 77 = .ok (.iconst 4, 1) := by decide +kernel
theorem dX10_init_78 : decode cX10_init 78 = .ok (.newarray .int, 2) := by decide +kernel
theorem dX10_init_80 : decode cX10_init 80 = .ok (.putfield 38, 3) := by decide +kernel
theorem dX10_init_83 : decode cX10_init 83 = .ok (.aload_n 0, 1) := by decide +kernel
theorem dX10_init_84 : decode cX10_init 84 = .ok (.iconst 5, 1) := by decide +kernel
theorem dX10_init_85 : decode cX10_init 85 = .ok (.newarray .int, 2) := by decide +kernel
theorem dX10_init_87 : decode cX10_init 87 = .ok (.putfield 41, 3) := by decide +kernel
theorem dX10_init_90 : decode cX10_init 90 = .ok (.aload_n 0, 1) := by decide +kernel
theorem dX10_init_91 : decode cX10_init 91 = .ok (.bipush 25, 2) := by decide +kernel
theorem dX10_init_93 : decode cX10_init 93 = .ok (.newarray .int, 2) := by decide +kernel
theorem dX10_init_95 : decode cX10_init 95 = .ok (.putfield 44, 3) := by decide +kernel
theorem dX10_init_98 : decode cX10_init 98 = .ok (.aload_n 0, 1) := by decide +kernel
theorem dX10_init_99 : decode cX10_init 99 = .ok (.bipush 30, 2) := by decide +kernel
theorem dX10_init_101 : decode cX10_init 101 = .ok (.newarray .int, 2) := by decide +kernel
theorem dX10_init_103 : decode cX10_init 103 = .ok (.putfield 47, 3) := by decide +kernel
theorem dX10_init_106 : decode cX10_init 106 = .ok (.aload_n 0, 1) := by decide +kernel
theorem dX10_init_107 : decode cX10_init 107 = .ok (.bipush 6, 2) := by decide +kernel
theorem dX10_init_109 : decode cX10_init 109 = .ok (.newarray .int, 2) := by decide +kernel
theorem dX10_init_111 : decode cX10_init 111 = .ok (.putfield 50, 3) := by decide +kernel
theorem dX10_init_114 : decode cX10_init 114 = .ok (.aload_n 0, 1) := by decide +kernel
theorem dX10_init_115 : decode cX10_init 115 = .ok (.bipush 6, 2) := by decide +kernel
theorem dX10_init_117 : decode cX10_init 117 = .ok (.newarray .int, 2) := by decide +kernel
theorem dX10_init_119 : decode cX10_init 119 = .ok (.putfield 53, 3) := by decide +kernel
theorem dX10_init_122 : decode cX10_init 122 = .ok (.aload_n 0, 1) := by decide +kernel
theorem dX10_init_123 : decode cX10_init 123 = .ok (.bipush 6, 2) := by decide +kernel
theorem dX10_init_125 : decode cX10_init 125 = .ok (.newarray .int, 2) := by decide +kernel
theorem dX10_init_127 : decode cX10_init 127 = .ok (.putfield 56, 3) := by decide +kernel
theorem dX10_init_130 : decode cX10_init 130 = .ok (.aload_n 0, 1) := by decide +kernel
theorem dX10_init_131 : decode cX10_init 131 = .ok (.sipush 804, 3) := by decide +kernel
theorem dX10_init_134 : decode cX10_init 134 = .ok (.newarray .int, 2) := by decide +kernel
theorem dX10_init_136 : decode cX10_init 136 = .ok (.putfield 59, 3) := by decide +kernel
theorem dX10_init_139 : decode cX10_init 139 = .ok (.aload_n 0, 1) := by decide +kernel
theorem dX10_init_140 : decode cX10_init 140 = .ok (.sipush 201, 3) := by decide +kernel
theorem dX10_init_143 : decode cX10_init 143 = .ok (.newarray .int, 2) := by decide +kernel
theorem dX10_init_145 : decode cX10_init 145 = .ok (.putfield 62, 3) := by decide +kernel
theorem dX10_init_148 : decode cX10_init 148 = .ok (.aload_n 0, 1) := by decide +kernel
theorem dX10_init_149 : decode cX10_init 149 = .ok (.ldc 65, 2) := by decide +kernel
theorem dX10_init_151 : decode cX10_init 151 = .ok (.newarray .long, 2) := by decide +kernel
theorem dX10_init_153 : decode cX10_init 153 = .ok (.putfield 66, 3) := by decide +kernel
theorem dX10_init_156 : decode cX10_init 156 = .ok (.aload_n 0, 1) := by decide +kernel
theorem dX10_init_157 : decode cX10_init 157 = .ok (.ldc 65, 2) := by decide +kernel
theorem dX10_init_159 : decode cX10_init 159 = .ok (.newarray .long, 2) := by decide +kernel
theorem dX10_init_161 : decode cX10_init 161 = .ok (.putfield 70, 3) := by decide +kernel
theorem dX10_init_164 : decode cX10_init 164 = .ok (.aload_n 0, 1) := by decide +kernel
theorem dX10_init_165 : decode cX10_init 165 = .ok (.iconst 5, 1) := by decide +kernel
theorem dX10_init_166 : decode cX10_init 166 = .ok (.newarray .int, 2) := by decide +kernel
theorem dX10_init_168 : decode cX10_init 168 = .ok (.putfield 73, 3) := by decide +kernel
theorem dX10_init_171 : decode cX10_init 171 = .ok (.aload_n 0, 1) := by decide +kernel
theorem dX10_init_172 : decode cX10_init 172 = .ok (.iconst 3, 1) := by decide +kernel
theorem dX10_init_173 : decode cX10_init 173 = .ok (.newarray .boolean, 2) := by decide +kernel
theorem dX10_init_175 : decode cX10_init 175 = .ok (.putfield 76, 3) := by decide +kernel
theorem dX10_init_178 : decode cX10_init 178 = .ok (.aload_n 0, 1) := by decide +kernel
theorem dX10_init_179 : decode cX10_init 179 = .ok (.getfield 20, 3) := by decide +kernel
theorem dX10_init_182 : decode cX10_init 182 = .ok (.iconst 0, 1) := by decide +kernel
theorem dX10_init_183 : decode cX10_init 183 = .ok (.iconst (-1), 1) := by decide +kernel
theorem dX10_init_184 : decode cX10_init 184 = .ok (.iastore, 1) := by decide +kernel
theorem dX10_init_185 : decode cX10_init 185 = .ok (.return_, 1) := by decide +kernel
