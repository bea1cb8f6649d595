abbrev cL_law : ByteArray := code
def tb62_law_0_1 : List (Nat × (Instr × Nat)) := [(148, (.aload_n 1, 1)), (149, (.aload_n 0, 1)), (150, (.iload_n 3, 1)), (151, (.iconst 1, 1)), (152, (.iadd, 1)), (153, (.iaload, 1)), (154, (.aload_n 0, 1)), (155, (.iload_n 3, 1)), (156, (.iconst 2, 1)), (157, (.iadd, 1)), (158, (.iaload, 1)), (159, (.aload_n 0, 1)), (160, (.iload_n 3, 1)), (161, (.iconst 3, 1)), (162, (.iadd, 1)), (163, (.iaload, 1)), (164, (.aload_n 0, 1)), (165, (.iload_n 3, 1)), (166, (.iconst 4, 1)), (167, (.iadd, 1)), (168, (.iaload, 1)), (169, (.aload_n 0, 1)), (170, (.iload_n 3, 1)), (171, (.iconst 5, 1)), (172, (.iadd, 1)), (173, (.iaload, 1)), (174, (.invokevirtual 13, 3)), (177, (.pop, 1)), (178, (.aload_n 2, 1)), (179, (.aload_n 0, 1)), (180, (.iload_n 3, 1)), (181, (.iconst 1, 1)), (182, (.iadd, 1)), (183, (.iaload, 1)), (184, (.aload_n 0, 1)), (185, (.iload_n 3, 1)), (186, (.iconst 2, 1)), (187, (.iadd, 1)), (188, (.iaload, 1)), (189, (.aload_n 0, 1))]
theorem ok62_law_0_1 : dcs cL_law tb62_law_0_1 = true := by decide +kernel
theorem dL_law_148 : decode cL_law 148 = .ok (.aload_n 1, 1) := dcs_at ok62_law_0_1 0 rfl
theorem dL_law_149 : decode cL_law 149 = .ok (.aload_n 0, 1) := dcs_at ok62_law_0_1 1 rfl
theorem dL_law_150 : decode cL_law 150 = .ok (.iload_n 3, 1) := dcs_at ok62_law_0_1 2 rfl
theorem dL_law_151 : decode cL_law 151 = .ok (.iconst 1, 1) := dcs_at ok62_law_0_1 3 rfl
theorem dL_law_152 : decode cL_law 152 = .ok (.iadd, 1) := dcs_at ok62_law_0_1 4 rfl
theorem dL_law_153 : decode cL_law 153 = .ok (.iaload, 1) := dcs_at ok62_law_0_1 5 rfl
theorem dL_law_154 : decode cL_law 154 = .ok (.aload_n 0, 1) := dcs_at ok62_law_0_1 6 rfl
theorem dL_law_155 : decode cL_law 155 = .ok (.iload_n 3, 1) := dcs_at ok62_law_0_1 7 rfl
theorem dL_law_156 : decode cL_law 156 = .ok (.iconst 2, 1) := dcs_at ok62_law_0_1 8 rfl
theorem dL_law_157 : decode cL_law 157 = .ok (.iadd, 1) := dcs_at ok62_law_0_1 9 rfl
theorem dL_law_158 : decode cL_law 158 = .ok (.iaload, 1) := dcs_at ok62_law_0_1 10 rfl
theorem dL_law_159 : decode cL_law 159 = .ok (.aload_n 0, 1) := dcs_at ok62_law_0_1 11 rfl
theorem dL_law_160 : decode cL_law 160 = .ok (.iload_n 3, 1) := dcs_at ok62_law_0_1 12 rfl
theorem dL_law_161 : decode cL_law 161 = .ok (.iconst 3, 1) := dcs_at ok62_law_0_1 13 rfl
theorem dL_law_162 : decode cL_law 162 = .ok (.iadd, 1) := dcs_at ok62_law_0_1 14 rfl
theorem dL_law_163 : decode cL_law 163 = .ok (.iaload, 1) := dcs_at ok62_law_0_1 15 rfl
theorem dL_law_164 : decode cL_law 164 = .ok (.aload_n 0, 1) := dcs_at ok62_law_0_1 16 rfl
theorem dL_law_165 : decode cL_law 165 = .ok (.iload_n 3, 1) := dcs_at ok62_law_0_1 17 rfl
theorem dL_law_166 : decode cL_law 166 = .ok (.iconst 4, 1) := dcs_at ok62_law_0_1 18 rfl
theorem dL_law_167 : decode cL_law 167 = .ok (.iadd, 1) := dcs_at ok62_law_0_1 19 rfl
theorem dL_law_168 : decode cL_law 168 = .ok (.iaload, 1) := dcs_at ok62_law_0_1 20 rfl
theorem dL_law_169 : decode cL_law 169 = .ok (.aload_n 0, 1) := dcs_at ok62_law_0_1 21 rfl
theorem dL_law_170 : decode cL_law 170 = .ok (.iload_n 3, 1) := dcs_at ok62_law_0_1 22 rfl
theorem dL_law_171 : decode cL_law 171 = .ok (.iconst 5, 1) := dcs_at ok62_law_0_1 23 rfl
theorem dL_law_172 : decode cL_law 172 = .ok (.iadd, 1) := dcs_at ok62_law_0_1 24 rfl
theorem dL_law_173 : decode cL_law 173 = .ok (.iaload, 1) := dcs_at ok62_law_0_1 25 rfl
theorem dL_law_174 : decode cL_law 174 = .ok (.invokevirtual 13, 3) := dcs_at ok62_law_0_1 26 rfl
theorem dL_law_177 : decode cL_law 177 = .ok (.pop, 1) := dcs_at ok62_law_0_1 27 rfl
theorem dL_law_178 : decode cL_law 178 = .ok (.aload_n 2, 1) := dcs_at ok62_law_0_1 28 rfl
theorem dL_law_179 : decode cL_law 179 = .ok (.aload_n 0, 1) := dcs_at ok62_law_0_1 29 rfl
theorem dL_law_180 : decode cL_law 180 = .ok (.iload_n 3, 1) := dcs_at ok62_law_0_1 30 rfl
theorem dL_law_181 : decode cL_law 181 = .ok (.iconst 1, 1) := dcs_at ok62_law_0_1 31 rfl
theorem dL_law_182 : decode cL_law 182 = .ok (.iadd, 1) := dcs_at ok62_law_0_1 32 rfl
theorem dL_law_183 : decode cL_law 183 = .ok (.iaload, 1) := dcs_at ok62_law_0_1 33 rfl
theorem dL_law_184 : decode cL_law 184 = .ok (.aload_n 0, 1) := dcs_at ok62_law_0_1 34 rfl
theorem dL_law_185 : decode cL_law 185 = .ok (.iload_n 3, 1) := dcs_at ok62_law_0_1 35 rfl
theorem dL_law_186 : decode cL_law 186 = .ok (.iconst 2, 1) := dcs_at ok62_law_0_1 36 rfl
theorem dL_law_187 : decode cL_law 187 = .ok (.iadd, 1) := dcs_at ok62_law_0_1 37 rfl
theorem dL_law_188 : decode cL_law 188 = .ok (.iaload, 1) := dcs_at ok62_law_0_1 38 rfl
theorem dL_law_189 : decode cL_law 189 = .ok (.aload_n 0, 1) := dcs_at ok62_law_0_1 39 rfl
def tb62_law_0_2 : List (Nat × (Instr × Nat)) := [(190, (.iload_n 3, 1)), (191, (.iconst 3, 1)), (192, (.iadd, 1)), (193, (.iaload, 1)), (194, (.aload_n 0, 1)), (195, (.iload_n 3, 1)), (196, (.iconst 4, 1)), (197, (.iadd, 1)), (198, (.iaload, 1)), (199, (.aload_n 0, 1)), (200, (.iload_n 3, 1)), (201, (.iconst 5, 1)), (202, (.iadd, 1)), (203, (.iaload, 1)), (204, (.invokevirtual 17, 3)), (207, (.pop, 1)), (208, (.goto 1033, 3)), (211, (.aload_n 1, 1)), (212, (.aload_n 0, 1)), (213, (.iload_n 3, 1)), (214, (.iconst 1, 1)), (215, (.iadd, 1)), (216, (.iaload, 1)), (217, (.invokevirtual 18, 3)), (220, (.pop, 1)), (221, (.aload_n 2, 1)), (222, (.aload_n 0, 1)), (223, (.iload_n 3, 1)), (224, (.iconst 1, 1)), (225, (.iadd, 1)), (226, (.iaload, 1)), (227, (.invokevirtual 22, 3)), (230, (.pop, 1)), (231, (.goto 1010, 3)), (234, (.aload_n 1, 1)), (235, (.aload_n 0, 1)), (236, (.iload_n 3, 1)), (237, (.iconst 1, 1)), (238, (.iadd, 1)), (239, (.iaload, 1))]
theorem ok62_law_0_2 : dcs cL_law tb62_law_0_2 = true := by decide +kernel
theorem dL_law_190 : decode cL_law 190 = .ok (.iload_n 3, 1) := dcs_at ok62_law_0_2 0 rfl
theorem dL_law_191 : decode cL_law 191 = .ok (.iconst 3, 1) := dcs_at ok62_law_0_2 1 rfl
theorem dL_law_192 : decode cL_law 192 = .ok (.iadd, 1) := dcs_at ok62_law_0_2 2 rfl
theorem dL_law_193 : decode cL_law 193 = .ok (.iaload, 1) := dcs_at ok62_law_0_2 3 rfl
theorem dL_law_194 : decode cL_law 194 = .ok (.aload_n 0, 1) := dcs_at ok62_law_0_2 4 rfl
theorem dL_law_195 : decode cL_law 195 = .ok (.iload_n 3, 1) := dcs_at ok62_law_0_2 5 rfl
theorem dL_law_196 : decode cL_law 196 = .ok (.iconst 4, 1) := dcs_at ok62_law_0_2 6 rfl
theorem dL_law_197 : decode cL_law 197 = .ok (.iadd, 1) := dcs_at ok62_law_0_2 7 rfl
theorem dL_law_198 : decode cL_law 198 = .ok (.iaload, 1) := dcs_at ok62_law_0_2 8 rfl
theorem dL_law_199 : decode cL_law 199 = .ok (.aload_n 0, 1) := dcs_at ok62_law_0_2 9 rfl
theorem dL_law_200 : decode cL_law 200 = .ok (.iload_n 3, 1) := dcs_at ok62_law_0_2 10 rfl
theorem dL_law_201 : decode cL_law 201 = .ok (.iconst 5, 1) := dcs_at ok62_law_0_2 11 rfl
theorem dL_law_202 : decode cL_law 202 = .ok (.iadd, 1) := dcs_at ok62_law_0_2 12 rfl
theorem dL_law_203 : decode cL_law 203 = .ok (.iaload, 1) := dcs_at ok62_law_0_2 13 rfl
theorem dL_law_204 : decode cL_law 204 = .ok (.invokevirtual 17, 3) := dcs_at ok62_law_0_2 14 rfl
theorem dL_law_207 : decode cL_law 207 = .ok (.pop, 1) := dcs_at ok62_law_0_2 15 rfl
theorem dL_law_208 : decode cL_law 208 = .ok (.goto 1033, 3) := dcs_at ok62_law_0_2 16 rfl
theorem dL_law_211 : decode cL_law 211 = .ok (.aload_n 1, 1) := dcs_at ok62_law_0_2 17 rfl
theorem dL_law_212 : decode cL_law 212 = .ok (.aload_n 0, 1) := dcs_at ok62_law_0_2 18 rfl
theorem dL_law_213 : decode cL_law 213 = .ok (.iload_n 3, 1) := dcs_at ok62_law_0_2 19 rfl
theorem dL_law_214 : decode cL_law 214 = .ok (.iconst 1, 1) := dcs_at ok62_law_0_2 20 rfl
theorem dL_law_215 : decode cL_law 215 = .ok (.iadd, 1) := dcs_at ok62_law_0_2 21 rfl
theorem dL_law_216 : decode cL_law 216 = .ok (.iaload, 1) := dcs_at ok62_law_0_2 22 rfl
theorem dL_law_217 : decode cL_law 217 = .ok (.invokevirtual 18, 3) := dcs_at ok62_law_0_2 23 rfl
theorem dL_law_220 : decode cL_law 220 = .ok (.pop, 1) := dcs_at ok62_law_0_2 24 rfl
theorem dL_law_221 : decode cL_law 221 = .ok (.aload_n 2, 1) := dcs_at ok62_law_0_2 25 rfl
theorem dL_law_222 : decode cL_law 222 = .ok (.aload_n 0, 1) := dcs_at ok62_law_0_2 26 rfl
theorem dL_law_223 : decode cL_law 223 = .ok (.iload_n 3, 1) := dcs_at ok62_law_0_2 27 rfl
theorem dL_law_224 : decode cL_law 224 = .ok (.iconst 1, 1) := dcs_at ok62_law_0_2 28 rfl
theorem dL_law_225 : decode cL_law 225 = .ok (.iadd, 1) := dcs_at ok62_law_0_2 29 rfl
theorem dL_law_226 : decode cL_law 226 = .ok (.iaload, 1) := dcs_at ok62_law_0_2 30 rfl
theorem dL_law_227 : decode cL_law 227 = .ok (.invokevirtual 22, 3) := dcs_at ok62_law_0_2 31 rfl
theorem dL_law_230 : decode cL_law 230 = .ok (.pop, 1) := dcs_at ok62_law_0_2 32 rfl
theorem dL_law_231 : decode cL_law 231 = .ok (.goto 1010, 3) := dcs_at ok62_law_0_2 33 rfl
theorem dL_law_234 : decode cL_law 234 = .ok (.aload_n 1, 1) := dcs_at ok62_law_0_2 34 rfl
theorem dL_law_235 : decode cL_law 235 = .ok (.aload_n 0, 1) := dcs_at ok62_law_0_2 35 rfl
theorem dL_law_236 : decode cL_law 236 = .ok (.iload_n 3, 1) := dcs_at ok62_law_0_2 36 rfl
theorem dL_law_237 : decode cL_law 237 = .ok (.iconst 1, 1) := dcs_at ok62_law_0_2 37 rfl
theorem dL_law_238 : decode cL_law 238 = .ok (.iadd, 1) := dcs_at ok62_law_0_2 38 rfl
theorem dL_law_239 : decode cL_law 239 = .ok (.iaload, 1) := dcs_at ok62_law_0_2 39 rfl
def tb62_law_0_3 : List (Nat × (Instr × Nat)) := [(240, (.aload_n 0, 1)), (241, (.iload_n 3, 1)), (242, (.iconst 2, 1)), (243, (.iadd, 1)), (244, (.iaload, 1)), (245, (.invokevirtual 23, 3)), (248, (.pop, 1)), (249, (.aload_n 2, 1)), (250, (.aload_n 0, 1)), (251, (.iload_n 3, 1)), (252, (.iconst 1, 1)), (253, (.iadd, 1)), (254, (.iaload, 1)), (255, (.aload_n 0, 1)), (256, (.iload_n 3, 1)), (257, (.iconst 2, 1)), (258, (.iadd, 1)), (259, (.iaload, 1)), (260, (.invokevirtual 27, 3)), (263, (.pop, 1)), (264, (.goto 977, 3)), (267, (.aload_n 1, 1)), (268, (.aload_n 0, 1)), (269, (.iload_n 3, 1)), (270, (.iconst 1, 1)), (271, (.iadd, 1)), (272, (.iaload, 1)), (273, (.invokevirtual 28, 3)), (276, (.pop, 1)), (277, (.aload_n 2, 1)), (278, (.aload_n 0, 1)), (279, (.iload_n 3, 1)), (280, (.iconst 1, 1)), (281, (.iadd, 1)), (282, (.iaload, 1)), (283, (.invokevirtual 31, 3)), (286, (.pop, 1)), (287, (.goto 954, 3)), (290, (.aload_n 1, 1)), (291, (.aload_n 0, 1))]
theorem ok62_law_0_3 : dcs cL_law tb62_law_0_3 = true := by decide +kernel
theorem dL_law_240 : decode cL_law 240 = .ok (.aload_n 0, 1) := dcs_at ok62_law_0_3 0 rfl
theorem dL_law_241 : decode cL_law 241 = .ok (.iload_n 3, 1) := dcs_at ok62_law_0_3 1 rfl
theorem dL_law_242 : decode cL_law 242 = .ok (.iconst 2, 1) := dcs_at ok62_law_0_3 2 rfl
theorem dL_law_243 : decode cL_law 243 = .ok (.iadd, 1) := dcs_at ok62_law_0_3 3 rfl
theorem dL_law_244 : decode cL_law 244 = .ok (.iaload, 1) := dcs_at ok62_law_0_3 4 rfl
theorem dL_law_245 : decode cL_law 245 = .ok (.invokevirtual 23, 3) := dcs_at ok62_law_0_3 5 rfl
theorem dL_law_248 : decode cL_law 248 = .ok (.pop, 1) := dcs_at ok62_law_0_3 6 rfl
theorem dL_law_249 : decode cL_law 249 = .ok (.aload_n 2, 1) := dcs_at ok62_law_0_3 7 rfl
theorem dL_law_250 : decode cL_law 250 = .ok (.aload_n 0, 1) := dcs_at ok62_law_0_3 8 rfl
theorem dL_law_251 : decode cL_law 251 = .ok (.iload_n 3, 1) := dcs_at ok62_law_0_3 9 rfl
theorem dL_law_252 : decode cL_law 252 = .ok (.iconst 1, 1) := dcs_at ok62_law_0_3 10 rfl
theorem dL_law_253 : decode cL_law 253 = .ok (.iadd, 1) := dcs_at ok62_law_0_3 11 rfl
theorem dL_law_254 : decode cL_law 254 = .ok (.iaload, 1) := dcs_at ok62_law_0_3 12 rfl
theorem dL_law_255 : decode cL_law 255 = .ok (.aload_n 0, 1) := dcs_at ok62_law_0_3 13 rfl
theorem dL_law_256 : decode cL_law 256 = .ok (.iload_n 3, 1) := dcs_at ok62_law_0_3 14 rfl
theorem dL_law_257 : decode cL_law 257 = .ok (.iconst 2, 1) := dcs_at ok62_law_0_3 15 rfl
theorem dL_law_258 : decode cL_law 258 = .ok (.iadd, 1) := dcs_at ok62_law_0_3 16 rfl
theorem dL_law_259 : decode cL_law 259 = .ok (.iaload, 1) := dcs_at ok62_law_0_3 17 rfl
theorem dL_law_260 : decode cL_law 260 = .ok (.invokevirtual 27, 3) := dcs_at ok62_law_0_3 18 rfl
theorem dL_law_263 : decode cL_law 263 = .ok (.pop, 1) := dcs_at ok62_law_0_3 19 rfl
theorem dL_law_264 : decode cL_law 264 = .ok (.goto 977, 3) := dcs_at ok62_law_0_3 20 rfl
theorem dL_law_267 : decode cL_law 267 = .ok (.aload_n 1, 1) := dcs_at ok62_law_0_3 21 rfl
theorem dL_law_268 : decode cL_law 268 = .ok (.aload_n 0, 1) := dcs_at ok62_law_0_3 22 rfl
theorem dL_law_269 : decode cL_law 269 = .ok (.iload_n 3, 1) := dcs_at ok62_law_0_3 23 rfl
theorem dL_law_270 : decode cL_law 270 = .ok (.iconst 1, 1) := dcs_at ok62_law_0_3 24 rfl
theorem dL_law_271 : decode cL_law 271 = .ok (.iadd, 1) := dcs_at ok62_law_0_3 25 rfl
theorem dL_law_272 : decode cL_law 272 = .ok (.iaload, 1) := dcs_at ok62_law_0_3 26 rfl
theorem dL_law_273 : decode cL_law 273 = .ok (.invokevirtual 28, 3) := dcs_at ok62_law_0_3 27 rfl
theorem dL_law_276 : decode cL_law 276 = .ok (.pop, 1) := dcs_at ok62_law_0_3 28 rfl
theorem dL_law_277 : decode cL_law 277 = .ok (.aload_n 2, 1) := dcs_at ok62_law_0_3 29 rfl
theorem dL_law_278 : decode cL_law 278 = .ok (.aload_n 0, 1) := dcs_at ok62_law_0_3 30 rfl
theorem dL_law_279 : decode cL_law 279 = .ok (.iload_n 3, 1) := dcs_at ok62_law_0_3 31 rfl
theorem dL_law_280 : decode cL_law 280 = .ok (.iconst 1, 1) := dcs_at ok62_law_0_3 32 rfl
theorem dL_law_281 : decode cL_law 281 = .ok (.iadd, 1) := dcs_at ok62_law_0_3 33 rfl
theorem dL_law_282 : decode cL_law 282 = .ok (.iaload, 1) := dcs_at ok62_law_0_3 34 rfl
theorem dL_law_283 : decode cL_law 283 = .ok (.invokevirtual 31, 3) := dcs_at ok62_law_0_3 35 rfl
theorem dL_law_286 : decode cL_law 286 = .ok (.pop, 1) := dcs_at ok62_law_0_3 36 rfl
theorem dL_law_287 : decode cL_law 287 = .ok (.goto 954, 3) := dcs_at ok62_law_0_3 37 rfl
theorem dL_law_290 : decode cL_law 290 = .ok (.aload_n 1, 1) := dcs_at ok62_law_0_3 38 rfl
theorem dL_law_291 : decode cL_law 291 = .ok (.aload_n 0, 1) := dcs_at ok62_law_0_3 39 rfl
def tb62_law_0_4 : List (Nat × (Instr × Nat)) := [(292, (.iload_n 3, 1)), (293, (.iconst 1, 1)), (294, (.iadd, 1)), (295, (.iaload, 1)), (296, (.aload_n 0, 1)), (297, (.iload_n 3, 1)), (298, (.iconst 2, 1)), (299, (.iadd, 1)), (300, (.iaload, 1)), (301, (.invokevirtual 32, 3)), (304, (.pop, 1)), (305, (.aload_n 2, 1)), (306, (.aload_n 0, 1)), (307, (.iload_n 3, 1)), (308, (.iconst 1, 1)), (309, (.iadd, 1)), (310, (.iaload, 1)), (311, (.aload_n 0, 1)), (312, (.iload_n 3, 1)), (313, (.iconst 2, 1)), (314, (.iadd, 1)), (315, (.iaload, 1)), (316, (.invokevirtual 35, 3)), (319, (.pop, 1)), (320, (.goto 921, 3)), (323, (.aload_n 1, 1)), (324, (.aload_n 0, 1)), (325, (.iload_n 3, 1)), (326, (.iconst 1, 1)), (327, (.iadd, 1)), (328, (.iaload, 1)), (329, (.aload_n 0, 1)), (330, (.iload_n 3, 1)), (331, (.iconst 2, 1)), (332, (.iadd, 1)), (333, (.iaload, 1)), (334, (.aload_n 0, 1)), (335, (.iload_n 3, 1)), (336, (.iconst 3, 1)), (337, (.iadd, 1))]
theorem ok62_law_0_4 : dcs cL_law tb62_law_0_4 = true := by decide +kernel
theorem dL_law_292 : decode cL_law 292 = .ok (.iload_n 3, 1) := dcs_at ok62_law_0_4 0 rfl
theorem dL_law_293 : decode cL_law 293 = .ok (.iconst 1, 1) := dcs_at ok62_law_0_4 1 rfl
theorem dL_law_294 : decode cL_law 294 = .ok (.iadd, 1) := dcs_at ok62_law_0_4 2 rfl
theorem dL_law_295 : decode cL_law 295 = .ok (.iaload, 1) := dcs_at ok62_law_0_4 3 rfl
theorem dL_law_296 : decode cL_law 296 = .ok (.aload_n 0, 1) := dcs_at ok62_law_0_4 4 rfl
theorem dL_law_297 : decode cL_law 297 = .ok (.iload_n 3, 1) := dcs_at ok62_law_0_4 5 rfl
theorem dL_law_298 : decode cL_law 298 = .ok (.iconst 2, 1) := dcs_at ok62_law_0_4 6 rfl
theorem dL_law_299 : decode cL_law 299 = .ok (.iadd, 1) := dcs_at ok62_law_0_4 7 rfl
theorem dL_law_300 : decode cL_law 300 = .ok (.iaload, 1) := dcs_at ok62_law_0_4 8 rfl
theorem dL_law_301 : decode cL_law 301 = .ok (.invokevirtual 32, 3) := dcs_at ok62_law_0_4 9 rfl
theorem dL_law_304 : decode cL_law 304 = .ok (.pop, 1) := dcs_at ok62_law_0_4 10 rfl
theorem dL_law_305 : decode cL_law 305 = .ok (.aload_n 2, 1) := dcs_at ok62_law_0_4 11 rfl
theorem dL_law_306 : decode cL_law 306 = .ok (.aload_n 0, 1) := dcs_at ok62_law_0_4 12 rfl
theorem dL_law_307 : decode cL_law 307 = .ok (.iload_n 3, 1) := dcs_at ok62_law_0_4 13 rfl
theorem dL_law_308 : decode cL_law 308 = .ok (.iconst 1, 1) := dcs_at ok62_law_0_4 14 rfl
theorem dL_law_309 : decode cL_law 309 = .ok (.iadd, 1) := dcs_at ok62_law_0_4 15 rfl
theorem dL_law_310 : decode cL_law 310 = .ok (.iaload, 1) := dcs_at ok62_law_0_4 16 rfl
theorem dL_law_311 : decode cL_law 311 = .ok (.aload_n 0, 1) := dcs_at ok62_law_0_4 17 rfl
theorem dL_law_312 : decode cL_law 312 = .ok (.iload_n 3, 1) := dcs_at ok62_law_0_4 18 rfl
theorem dL_law_313 : decode cL_law 313 = .ok (.iconst 2, 1) := dcs_at ok62_law_0_4 19 rfl
theorem dL_law_314 : decode cL_law 314 = .ok (.iadd, 1) := dcs_at ok62_law_0_4 20 rfl
theorem dL_law_315 : decode cL_law 315 = .ok (.iaload, 1) := dcs_at ok62_law_0_4 21 rfl
theorem dL_law_316 : decode cL_law 316 = .ok (.invokevirtual 35, 3) := dcs_at ok62_law_0_4 22 rfl
theorem dL_law_319 : decode cL_law 319 = .ok (.pop, 1) := dcs_at ok62_law_0_4 23 rfl
theorem dL_law_320 : decode cL_law 320 = .ok (.goto 921, 3) := dcs_at ok62_law_0_4 24 rfl
theorem dL_law_323 : decode cL_law 323 = .ok (.aload_n 1, 1) := dcs_at ok62_law_0_4 25 rfl
theorem dL_law_324 : decode cL_law 324 = .ok (.aload_n 0, 1) := dcs_at ok62_law_0_4 26 rfl
theorem dL_law_325 : decode cL_law 325 = .ok (.iload_n 3, 1) := dcs_at ok62_law_0_4 27 rfl
theorem dL_law_326 : decode cL_law 326 = .ok (.iconst 1, 1) := dcs_at ok62_law_0_4 28 rfl
theorem dL_law_327 : decode cL_law 327 = .ok (.iadd, 1) := dcs_at ok62_law_0_4 29 rfl
theorem dL_law_328 : decode cL_law 328 = .ok (.iaload, 1) := dcs_at ok62_law_0_4 30 rfl
theorem dL_law_329 : decode cL_law 329 = .ok (.aload_n 0, 1) := dcs_at ok62_law_0_4 31 rfl
theorem dL_law_330 : decode cL_law 330 = .ok (.iload_n 3, 1) := dcs_at ok62_law_0_4 32 rfl
theorem dL_law_331 : decode cL_law 331 = .ok (.iconst 2, 1) := dcs_at ok62_law_0_4 33 rfl
theorem dL_law_332 : decode cL_law 332 = .ok (.iadd, 1) := dcs_at ok62_law_0_4 34 rfl
theorem dL_law_333 : decode cL_law 333 = .ok (.iaload, 1) := dcs_at ok62_law_0_4 35 rfl
theorem dL_law_334 : decode cL_law 334 = .ok (.aload_n 0, 1) := dcs_at ok62_law_0_4 36 rfl
theorem dL_law_335 : decode cL_law 335 = .ok (.iload_n 3, 1) := dcs_at ok62_law_0_4 37 rfl
theorem dL_law_336 : decode cL_law 336 = .ok (.iconst 3, 1) := dcs_at ok62_law_0_4 38 rfl
theorem dL_law_337 : decode cL_law 337 = .ok (.iadd, 1) := dcs_at ok62_law_0_4 39 rfl
def tb62_law_0_5 : List (Nat × (Instr × Nat)) := [(338, (.iaload, 1)), (339, (.invokevirtual 36, 3)), (342, (.pop, 1)), (343, (.aload_n 2, 1)), (344, (.aload_n 0, 1)), (345, (.iload_n 3, 1)), (346, (.iconst 1, 1)), (347, (.iadd, 1)), (348, (.iaload, 1)), (349, (.aload_n 0, 1)), (350, (.iload_n 3, 1)), (351, (.iconst 2, 1)), (352, (.iadd, 1)), (353, (.iaload, 1)), (354, (.aload_n 0, 1)), (355, (.iload_n 3, 1)), (356, (.iconst 3, 1)), (357, (.iadd, 1)), (358, (.iaload, 1)), (359, (.invokevirtual 40, 3)), (362, (.pop, 1)), (363, (.goto 878, 3)), (366, (.aload_n 1, 1)), (367, (.aload_n 0, 1)), (368, (.iload_n 3, 1)), (369, (.iconst 1, 1)), (370, (.iadd, 1)), (371, (.iaload, 1)), (372, (.aload_n 0, 1)), (373, (.iload_n 3, 1)), (374, (.iconst 2, 1)), (375, (.iadd, 1)), (376, (.iaload, 1)), (377, (.invokevirtual 41, 3)), (380, (.pop, 1)), (381, (.aload_n 2, 1)), (382, (.aload_n 0, 1)), (383, (.iload_n 3, 1)), (384, (.iconst 1, 1)), (385, (.iadd, 1))]
theorem ok62_law_0_5 : dcs cL_law tb62_law_0_5 = true := by decide +kernel
theorem dL_law_338 : decode cL_law 338 = .ok (.iaload, 1) := dcs_at ok62_law_0_5 0 rfl
theorem dL_law_339 : decode cL_law 339 = .ok (.invokevirtual 36, 3) := dcs_at ok62_law_0_5 1 rfl
theorem dL_law_342 : decode cL_law 342 = .ok (.pop, 1) := dcs_at ok62_law_0_5 2 rfl
theorem dL_law_343 : decode cL_law 343 = .ok (.aload_n 2, 1) := dcs_at ok62_law_0_5 3 rfl
theorem dL_law_344 : decode cL_law 344 = .ok (.aload_n 0, 1) := dcs_at ok62_law_0_5 4 rfl
theorem dL_law_345 : decode cL_law 345 = .ok (.iload_n 3, 1) := dcs_at ok62_law_0_5 5 rfl
theorem dL_law_346 : decode cL_law 346 = .ok (.iconst 1, 1) := dcs_at ok62_law_0_5 6 rfl
theorem dL_law_347 : decode cL_law 347 = .ok (.iadd, 1) := dcs_at ok62_law_0_5 7 rfl
theorem dL_law_348 : decode cL_law 348 = .ok (.iaload, 1) := dcs_at ok62_law_0_5 8 rfl
theorem dL_law_349 : decode cL_law 349 = .ok (.aload_n 0, 1) := dcs_at ok62_law_0_5 9 rfl
theorem dL_law_350 : decode cL_law 350 = .ok (.iload_n 3, 1) := dcs_at ok62_law_0_5 10 rfl
theorem dL_law_351 : decode cL_law 351 = .ok (.iconst 2, 1) := dcs_at ok62_law_0_5 11 rfl
theorem dL_law_352 : decode cL_law 352 = .ok (.iadd, 1) := dcs_at ok62_law_0_5 12 rfl
theorem dL_law_353 : decode cL_law 353 = .ok (.iaload, 1) := dcs_at ok62_law_0_5 13 rfl
theorem dL_law_354 : decode cL_law 354 = .ok (.aload_n 0, 1) := dcs_at ok62_law_0_5 14 rfl
theorem dL_law_355 : decode cL_law 355 = .ok (.iload_n 3, 1) := dcs_at ok62_law_0_5 15 rfl
theorem dL_law_356 : decode cL_law 356 = .ok (.iconst 3, 1) := dcs_at ok62_law_0_5 16 rfl
theorem dL_law_357 : decode cL_law 357 = .ok (.iadd, 1) := dcs_at ok62_law_0_5 17 rfl
theorem dL_law_358 : decode cL_law 358 = .ok (.iaload, 1) := dcs_at ok62_law_0_5 18 rfl
theorem dL_law_359 : decode cL_law 359 = .ok (.invokevirtual 40, 3) := dcs_at ok62_law_0_5 19 rfl
theorem dL_law_362 : decode cL_law 362 = .ok (.pop, 1) := dcs_at ok62_law_0_5 20 rfl
theorem dL_law_363 : decode cL_law 363 = .ok (.goto 878, 3) := dcs_at ok62_law_0_5 21 rfl
theorem dL_law_366 : decode cL_law 366 = .ok (.aload_n 1, 1) := dcs_at ok62_law_0_5 22 rfl
theorem dL_law_367 : decode cL_law 367 = .ok (.aload_n 0, 1) := dcs_at ok62_law_0_5 23 rfl
theorem dL_law_368 : decode cL_law 368 = .ok (.iload_n 3, 1) := dcs_at ok62_law_0_5 24 rfl
theorem dL_law_369 : decode cL_law 369 = .ok (.iconst 1, 1) := dcs_at ok62_law_0_5 25 rfl
theorem dL_law_370 : decode cL_law 370 = .ok (.iadd, 1) := dcs_at ok62_law_0_5 26 rfl
theorem dL_law_371 : decode cL_law 371 = .ok (.iaload, 1) := dcs_at ok62_law_0_5 27 rfl
theorem dL_law_372 : decode cL_law 372 = .ok (.aload_n 0, 1) := dcs_at ok62_law_0_5 28 rfl
theorem dL_law_373 : decode cL_law 373 = .ok (.iload_n 3, 1) := dcs_at ok62_law_0_5 29 rfl
theorem dL_law_374 : decode cL_law 374 = .ok (.iconst 2, 1) := dcs_at ok62_law_0_5 30 rfl
theorem dL_law_375 : decode cL_law 375 = .ok (.iadd, 1) := dcs_at ok62_law_0_5 31 rfl
theorem dL_law_376 : decode cL_law 376 = .ok (.iaload, 1) := dcs_at ok62_law_0_5 32 rfl
theorem dL_law_377 : decode cL_law 377 = .ok (.invokevirtual 41, 3) := dcs_at ok62_law_0_5 33 rfl
theorem dL_law_380 : decode cL_law 380 = .ok (.pop, 1) := dcs_at ok62_law_0_5 34 rfl
theorem dL_law_381 : decode cL_law 381 = .ok (.aload_n 2, 1) := dcs_at ok62_law_0_5 35 rfl
theorem dL_law_382 : decode cL_law 382 = .ok (.aload_n 0, 1) := dcs_at ok62_law_0_5 36 rfl
theorem dL_law_383 : decode cL_law 383 = .ok (.iload_n 3, 1) := dcs_at ok62_law_0_5 37 rfl
theorem dL_law_384 : decode cL_law 384 = .ok (.iconst 1, 1) := dcs_at ok62_law_0_5 38 rfl
theorem dL_law_385 : decode cL_law 385 = .ok (.iadd, 1) := dcs_at ok62_law_0_5 39 rfl
def tb62_law_0_6 : List (Nat × (Instr × Nat)) := [(386, (.iaload, 1)), (387, (.aload_n 0, 1)), (388, (.iload_n 3, 1)), (389, (.iconst 2, 1)), (390, (.iadd, 1)), (391, (.iaload, 1)), (392, (.invokevirtual 44, 3)), (395, (.pop, 1)), (396, (.goto 845, 3)), (399, (.aload_n 1, 1)), (400, (.aload_n 0, 1)), (401, (.iload_n 3, 1)), (402, (.iconst 1, 1)), (403, (.iadd, 1)), (404, (.iaload, 1)), (405, (.aload_n 0, 1)), (406, (.iload_n 3, 1)), (407, (.iconst 2, 1)), (408, (.iadd, 1)), (409, (.iaload, 1)), (410, (.aload_n 0, 1)), (411, (.iload_n 3, 1)), (412, (.iconst 3, 1)), (413, (.iadd, 1)), (414, (.iaload, 1)), (415, (.aload_n 0, 1)), (416, (.iload_n 3, 1)), (417, (.iconst 4, 1)), (418, (.iadd, 1)), (419, (.iaload, 1)), (420, (.invokevirtual 45, 3)), (423, (.pop, 1)), (424, (.aload_n 2, 1)), (425, (.aload_n 0, 1)), (426, (.iload_n 3, 1)), (427, (.iconst 1, 1)), (428, (.iadd, 1)), (429, (.iaload, 1)), (430, (.aload_n 0, 1)), (431, (.iload_n 3, 1))]
theorem ok62_law_0_6 : dcs cL_law tb62_law_0_6 = true := by decide +kernel
theorem dL_law_386 : decode cL_law 386 = .ok (.iaload, 1) := dcs_at ok62_law_0_6 0 rfl
theorem dL_law_387 : decode cL_law 387 = .ok (.aload_n 0, 1) := dcs_at ok62_law_0_6 1 rfl
theorem dL_law_388 : decode cL_law 388 = .ok (.iload_n 3, 1) := dcs_at ok62_law_0_6 2 rfl
theorem dL_law_389 : decode cL_law 389 = .ok (.iconst 2, 1) := dcs_at ok62_law_0_6 3 rfl
theorem dL_law_390 : decode cL_law 390 = .ok (.iadd, 1) := dcs_at ok62_law_0_6 4 rfl
theorem dL_law_391 : decode cL_law 391 = .ok (.iaload, 1) := dcs_at ok62_law_0_6 5 rfl
theorem dL_law_392 : decode cL_law 392 = .ok (.invokevirtual 44, 3) := dcs_at ok62_law_0_6 6 rfl
theorem dL_law_395 : decode cL_law 395 = .ok (.pop, 1) := dcs_at ok62_law_0_6 7 rfl
theorem dL_law_396 : decode cL_law 396 = .ok (.goto 845, 3) := dcs_at ok62_law_0_6 8 rfl
theorem dL_law_399 : decode cL_law 399 = .ok (.aload_n 1, 1) := dcs_at ok62_law_0_6 9 rfl
theorem dL_law_400 : decode cL_law 400 = .ok (.aload_n 0, 1) := dcs_at ok62_law_0_6 10 rfl
theorem dL_law_401 : decode cL_law 401 = .ok (.iload_n 3, 1) := dcs_at ok62_law_0_6 11 rfl
theorem dL_law_402 : decode cL_law 402 = .ok (.iconst 1, 1) := dcs_at ok62_law_0_6 12 rfl
theorem dL_law_403 : decode cL_law 403 = .ok (.iadd, 1) := dcs_at ok62_law_0_6 13 rfl
theorem dL_law_404 : decode cL_law 404 = .ok (.iaload, 1) := dcs_at ok62_law_0_6 14 rfl
theorem dL_law_405 : decode cL_law 405 = .ok (.aload_n 0, 1) := dcs_at ok62_law_0_6 15 rfl
theorem dL_law_406 : decode cL_law 406 = .ok (.iload_n 3, 1) := dcs_at ok62_law_0_6 16 rfl
theorem dL_law_407 : decode cL_law 407 = .ok (.iconst 2, 1) := dcs_at ok62_law_0_6 17 rfl
theorem dL_law_408 : decode cL_law 408 = .ok (.iadd, 1) := dcs_at ok62_law_0_6 18 rfl
theorem dL_law_409 : decode cL_law 409 = .ok (.iaload, 1) := dcs_at ok62_law_0_6 19 rfl
theorem dL_law_410 : decode cL_law 410 = .ok (.aload_n 0, 1) := dcs_at ok62_law_0_6 20 rfl
theorem dL_law_411 : decode cL_law 411 = .ok (.iload_n 3, 1) := dcs_at ok62_law_0_6 21 rfl
theorem dL_law_412 : decode cL_law 412 = .ok (.iconst 3, 1) := dcs_at ok62_law_0_6 22 rfl
theorem dL_law_413 : decode cL_law 413 = .ok (.iadd, 1) := dcs_at ok62_law_0_6 23 rfl
theorem dL_law_414 : decode cL_law 414 = .ok (.iaload, 1) := dcs_at ok62_law_0_6 24 rfl
theorem dL_law_415 : decode cL_law 415 = .ok (.aload_n 0, 1) := dcs_at ok62_law_0_6 25 rfl
theorem dL_law_416 : decode cL_law 416 = .ok (.iload_n 3, 1) := dcs_at ok62_law_0_6 26 rfl
theorem dL_law_417 : decode cL_law 417 = .ok (.iconst 4, 1) := dcs_at ok62_law_0_6 27 rfl
theorem dL_law_418 : decode cL_law 418 = .ok (.iadd, 1) := dcs_at ok62_law_0_6 28 rfl
theorem dL_law_419 : decode cL_law 419 = .ok (.iaload, 1) := dcs_at ok62_law_0_6 29 rfl
theorem dL_law_420 : decode cL_law 420 = .ok (.invokevirtual 45, 3) := dcs_at ok62_law_0_6 30 rfl
theorem dL_law_423 : decode cL_law 423 = .ok (.pop, 1) := dcs_at ok62_law_0_6 31 rfl
theorem dL_law_424 : decode cL_law 424 = .ok (.aload_n 2, 1) := dcs_at ok62_law_0_6 32 rfl
theorem dL_law_425 : decode cL_law 425 = .ok (.aload_n 0, 1) := dcs_at ok62_law_0_6 33 rfl
theorem dL_law_426 : decode cL_law 426 = .ok (.iload_n 3, 1) := dcs_at ok62_law_0_6 34 rfl
theorem dL_law_427 : decode cL_law 427 = .ok (.iconst 1, 1) := dcs_at ok62_law_0_6 35 rfl
theorem dL_law_428 : decode cL_law 428 = .ok (.iadd, 1) := dcs_at ok62_law_0_6 36 rfl
theorem dL_law_429 : decode cL_law 429 = .ok (.iaload, 1) := dcs_at ok62_law_0_6 37 rfl
theorem dL_law_430 : decode cL_law 430 = .ok (.aload_n 0, 1) := dcs_at ok62_law_0_6 38 rfl
theorem dL_law_431 : decode cL_law 431 = .ok (.iload_n 3, 1) := dcs_at ok62_law_0_6 39 rfl
def tb62_law_0_7 : List (Nat × (Instr × Nat)) := [(432, (.iconst 2, 1)), (433, (.iadd, 1)), (434, (.iaload, 1)), (435, (.aload_n 0, 1)), (436, (.iload_n 3, 1)), (437, (.iconst 3, 1)), (438, (.iadd, 1)), (439, (.iaload, 1)), (440, (.aload_n 0, 1)), (441, (.iload_n 3, 1)), (442, (.iconst 4, 1)), (443, (.iadd, 1)), (444, (.iaload, 1)), (445, (.invokevirtual 49, 3)), (448, (.pop, 1)), (449, (.goto 792, 3)), (452, (.aload_n 1, 1)), (453, (.aload_n 0, 1)), (454, (.iload_n 3, 1)), (455, (.iconst 1, 1)), (456, (.iadd, 1)), (457, (.iaload, 1)), (458, (.aload_n 0, 1)), (459, (.iload_n 3, 1)), (460, (.iconst 2, 1)), (461, (.iadd, 1)), (462, (.iaload, 1)), (463, (.aload_n 0, 1)), (464, (.iload_n 3, 1)), (465, (.iconst 3, 1)), (466, (.iadd, 1)), (467, (.iaload, 1)), (468, (.aload_n 0, 1)), (469, (.iload_n 3, 1)), (470, (.iconst 4, 1)), (471, (.iadd, 1)), (472, (.iaload, 1)), (473, (.aload_n 0, 1)), (474, (.iload_n 3, 1)), (475, (.iconst 5, 1))]
theorem ok62_law_0_7 : dcs cL_law tb62_law_0_7 = true := by decide +kernel
theorem dL_law_432 : decode cL_law 432 = .ok (.iconst 2, 1) := dcs_at ok62_law_0_7 0 rfl
theorem dL_law_433 : decode cL_law 433 = .ok (.iadd, 1) := dcs_at ok62_law_0_7 1 rfl
theorem dL_law_434 : decode cL_law 434 = .ok (.iaload, 1) := dcs_at ok62_law_0_7 2 rfl
theorem dL_law_435 : decode cL_law 435 = .ok (.aload_n 0, 1) := dcs_at ok62_law_0_7 3 rfl
theorem dL_law_436 : decode cL_law 436 = .ok (.iload_n 3, 1) := dcs_at ok62_law_0_7 4 rfl
theorem dL_law_437 : decode cL_law 437 = .ok (.iconst 3, 1) := dcs_at ok62_law_0_7 5 rfl
theorem dL_law_438 : decode cL_law 438 = .ok (.iadd, 1) := dcs_at ok62_law_0_7 6 rfl
theorem dL_law_439 : decode cL_law 439 = .ok (.iaload, 1) := dcs_at ok62_law_0_7 7 rfl
theorem dL_law_440 : decode cL_law 440 = .ok (.aload_n 0, 1) := dcs_at ok62_law_0_7 8 rfl
theorem dL_law_441 : decode cL_law 441 = .ok (.iload_n 3, 1) := dcs_at ok62_law_0_7 9 rfl
theorem dL_law_442 : decode cL_law 442 = .ok (.iconst 4, 1) := dcs_at ok62_law_0_7 10 rfl
theorem dL_law_443 : decode cL_law 443 = .ok (.iadd, 1) := dcs_at ok62_law_0_7 11 rfl
theorem dL_law_444 : decode cL_law 444 = .ok (.iaload, 1) := dcs_at ok62_law_0_7 12 rfl
theorem dL_law_445 : decode cL_law 445 = .ok (.invokevirtual 49, 3) := dcs_at ok62_law_0_7 13 rfl
theorem dL_law_448 : decode cL_law 448 = .ok (.pop, 1) := dcs_at ok62_law_0_7 14 rfl
theorem dL_law_449 : decode cL_law 449 = .ok (.goto 792, 3) := dcs_at ok62_law_0_7 15 rfl
theorem dL_law_452 : decode cL_law 452 = .ok (.aload_n 1, 1) := dcs_at ok62_law_0_7 16 rfl
theorem dL_law_453 : decode cL_law 453 = .ok (.aload_n 0, 1) := dcs_at ok62_law_0_7 17 rfl
theorem dL_law_454 : decode cL_law 454 = .ok (.iload_n 3, 1) := dcs_at ok62_law_0_7 18 rfl
theorem dL_law_455 : decode cL_law 455 = .ok (.iconst 1, 1) := dcs_at ok62_law_0_7 19 rfl
theorem dL_law_456 : decode cL_law 456 = .ok (.iadd, 1) := dcs_at ok62_law_0_7 20 rfl
theorem dL_law_457 : decode cL_law 457 = .ok (.iaload, 1) := dcs_at ok62_law_0_7 21 rfl
theorem dL_law_458 : decode cL_law 458 = .ok (.aload_n 0, 1) := dcs_at ok62_law_0_7 22 rfl
theorem dL_law_459 : decode cL_law 459 = .ok (.iload_n 3, 1) := dcs_at ok62_law_0_7 23 rfl
theorem dL_law_460 : decode cL_law 460 = .ok (.iconst 2, 1) := dcs_at ok62_law_0_7 24 rfl
theorem dL_law_461 : decode cL_law 461 = .ok (.iadd, 1) := dcs_at ok62_law_0_7 25 rfl
theorem dL_law_462 : decode cL_law 462 = .ok (.iaload, 1) := dcs_at ok62_law_0_7 26 rfl
theorem dL_law_463 : decode cL_law 463 = .ok (.aload_n 0, 1) := dcs_at ok62_law_0_7 27 rfl
theorem dL_law_464 : decode cL_law 464 = .ok (.iload_n 3, 1) := dcs_at ok62_law_0_7 28 rfl
theorem dL_law_465 : decode cL_law 465 = .ok (.iconst 3, 1) := dcs_at ok62_law_0_7 29 rfl
theorem dL_law_466 : decode cL_law 466 = .ok (.iadd, 1) := dcs_at ok62_law_0_7 30 rfl
theorem dL_law_467 : decode cL_law 467 = .ok (.iaload, 1) := dcs_at ok62_law_0_7 31 rfl
theorem dL_law_468 : decode cL_law 468 = .ok (.aload_n 0, 1) := dcs_at ok62_law_0_7 32 rfl
theorem dL_law_469 : decode cL_law 469 = .ok (.iload_n 3, 1) := dcs_at ok62_law_0_7 33 rfl
theorem dL_law_470 : decode cL_law 470 = .ok (.iconst 4, 1) := dcs_at ok62_law_0_7 34 rfl
theorem dL_law_471 : decode cL_law 471 = .ok (.iadd, 1) := dcs_at ok62_law_0_7 35 rfl
theorem dL_law_472 : decode cL_law 472 = .ok (.iaload, 1) := dcs_at ok62_law_0_7 36 rfl
theorem dL_law_473 : decode cL_law 473 = .ok (.aload_n 0, 1) := dcs_at ok62_law_0_7 37 rfl
theorem dL_law_474 : decode cL_law 474 = .ok (.iload_n 3, 1) := dcs_at ok62_law_0_7 38 rfl
theorem dL_law_475 : decode cL_law 475 = .ok (.iconst 5, 1) := dcs_at ok62_law_0_7 39 rfl
def tb62_law_0_8 : List (Nat × (Instr × Nat)) := [(476, (.iadd, 1)), (477, (.iaload, 1)), (478, (.invokevirtual 50, 3)), (481, (.pop, 1)), (482, (.aload_n 2, 1)), (483, (.aload_n 0, 1)), (484, (.iload_n 3, 1)), (485, (.iconst 1, 1)), (486, (.iadd, 1)), (487, (.iaload, 1)), (488, (.aload_n 0, 1)), (489, (.iload_n 3, 1)), (490, (.iconst 2, 1)), (491, (.iadd, 1)), (492, (.iaload, 1)), (493, (.aload_n 0, 1)), (494, (.iload_n 3, 1)), (495, (.iconst 3, 1)), (496, (.iadd, 1)), (497, (.iaload, 1)), (498, (.aload_n 0, 1)), (499, (.iload_n 3, 1)), (500, (.iconst 4, 1)), (501, (.iadd, 1)), (502, (.iaload, 1)), (503, (.aload_n 0, 1)), (504, (.iload_n 3, 1)), (505, (.iconst 5, 1)), (506, (.iadd, 1)), (507, (.iaload, 1)), (508, (.invokevirtual 53, 3)), (511, (.pop, 1)), (512, (.goto 729, 3)), (515, (.aload_n 1, 1)), (516, (.aload_n 0, 1)), (517, (.iload_n 3, 1)), (518, (.iconst 1, 1)), (519, (.iadd, 1)), (520, (.iaload, 1)), (521, (.aload_n 0, 1))]
theorem ok62_law_0_8 : dcs cL_law tb62_law_0_8 = true := by decide +kernel
theorem dL_law_476 : decode cL_law 476 = .ok (.iadd, 1) := dcs_at ok62_law_0_8 0 rfl
theorem dL_law_477 : decode cL_law 477 = .ok (.iaload, 1) := dcs_at ok62_law_0_8 1 rfl
theorem dL_law_478 : decode cL_law 478 = .ok (.invokevirtual 50, 3) := dcs_at ok62_law_0_8 2 rfl
theorem dL_law_481 : decode cL_law 481 = .ok (.pop, 1) := dcs_at ok62_law_0_8 3 rfl
theorem dL_law_482 : decode cL_law 482 = .ok (.aload_n 2, 1) := dcs_at ok62_law_0_8 4 rfl
theorem dL_law_483 : decode cL_law 483 = .ok (.aload_n 0, 1) := dcs_at ok62_law_0_8 5 rfl
theorem dL_law_484 : decode cL_law 484 = .ok (.iload_n 3, 1) := dcs_at ok62_law_0_8 6 rfl
theorem dL_law_485 : decode cL_law 485 = .ok (.iconst 1, 1) := dcs_at ok62_law_0_8 7 rfl
theorem dL_law_486 : decode cL_law 486 = .ok (.iadd, 1) := dcs_at ok62_law_0_8 8 rfl
theorem dL_law_487 : decode cL_law 487 = .ok (.iaload, 1) := dcs_at ok62_law_0_8 9 rfl
theorem dL_law_488 : decode cL_law 488 = .ok (.aload_n 0, 1) := dcs_at ok62_law_0_8 10 rfl
theorem dL_law_489 : decode cL_law 489 = .ok (.iload_n 3, 1) := dcs_at ok62_law_0_8 11 rfl
theorem dL_law_490 : decode cL_law 490 = .ok (.iconst 2, 1) := dcs_at ok62_law_0_8 12 rfl
theorem dL_law_491 : decode cL_law 491 = .ok (.iadd, 1) := dcs_at ok62_law_0_8 13 rfl
theorem dL_law_492 : decode cL_law 492 = .ok (.iaload, 1) := dcs_at ok62_law_0_8 14 rfl
theorem dL_law_493 : decode cL_law 493 = .ok (.aload_n 0, 1) := dcs_at ok62_law_0_8 15 rfl
theorem dL_law_494 : decode cL_law 494 = .ok (.iload_n 3, 1) := dcs_at ok62_law_0_8 16 rfl
theorem dL_law_495 : decode cL_law 495 = .ok (.iconst 3, 1) := dcs_at ok62_law_0_8 17 rfl
theorem dL_law_496 : decode cL_law 496 = .ok (.iadd, 1) := dcs_at ok62_law_0_8 18 rfl
theorem dL_law_497 : decode cL_law 497 = .ok (.iaload, 1) := dcs_at ok62_law_0_8 19 rfl
theorem dL_law_498 : decode cL_law 498 = .ok (.aload_n 0, 1) := dcs_at ok62_law_0_8 20 rfl
theorem dL_law_499 : decode cL_law 499 = .ok (.iload_n 3, 1) := dcs_at ok62_law_0_8 21 rfl
theorem dL_law_500 : decode cL_law 500 = .ok (.iconst 4, 1) := dcs_at ok62_law_0_8 22 rfl
theorem dL_law_501 : decode cL_law 501 = .ok (.iadd, 1) := dcs_at ok62_law_0_8 23 rfl
theorem dL_law_502 : decode cL_law 502 = .ok (.iaload, 1) := dcs_at ok62_law_0_8 24 rfl
theorem dL_law_503 : decode cL_law 503 = .ok (.aload_n 0, 1) := dcs_at ok62_law_0_8 25 rfl
theorem dL_law_504 : decode cL_law 504 = .ok (.iload_n 3, 1) := dcs_at ok62_law_0_8 26 rfl
theorem dL_law_505 : decode cL_law 505 = .ok (.iconst 5, 1) := dcs_at ok62_law_0_8 27 rfl
theorem dL_law_506 : decode cL_law 506 = .ok (.iadd, 1) := dcs_at ok62_law_0_8 28 rfl
theorem dL_law_507 : decode cL_law 507 = .ok (.iaload, 1) := dcs_at ok62_law_0_8 29 rfl
theorem dL_law_508 : decode cL_law 508 = .ok (.invokevirtual 53, 3) := dcs_at ok62_law_0_8 30 rfl
theorem dL_law_511 : decode cL_law 511 = .ok (.pop, 1) := dcs_at ok62_law_0_8 31 rfl
theorem dL_law_512 : decode cL_law 512 = .ok (.goto 729, 3) := dcs_at ok62_law_0_8 32 rfl
theorem dL_law_515 : decode cL_law 515 = .ok (.aload_n 1, 1) := dcs_at ok62_law_0_8 33 rfl
theorem dL_law_516 : decode cL_law 516 = .ok (.aload_n 0, 1) := dcs_at ok62_law_0_8 34 rfl
theorem dL_law_517 : decode cL_law 517 = .ok (.iload_n 3, 1) := dcs_at ok62_law_0_8 35 rfl
theorem dL_law_518 : decode cL_law 518 = .ok (.iconst 1, 1) := dcs_at ok62_law_0_8 36 rfl
theorem dL_law_519 : decode cL_law 519 = .ok (.iadd, 1) := dcs_at ok62_law_0_8 37 rfl
theorem dL_law_520 : decode cL_law 520 = .ok (.iaload, 1) := dcs_at ok62_law_0_8 38 rfl
theorem dL_law_521 : decode cL_law 521 = .ok (.aload_n 0, 1) := dcs_at ok62_law_0_8 39 rfl
def tb62_law_0_9 : List (Nat × (Instr × Nat)) := [(522, (.iload_n 3, 1)), (523, (.iconst 2, 1)), (524, (.iadd, 1)), (525, (.iaload, 1)), (526, (.aload_n 0, 1)), (527, (.iload_n 3, 1)), (528, (.iconst 3, 1)), (529, (.iadd, 1)), (530, (.iaload, 1)), (531, (.aload_n 0, 1)), (532, (.iload_n 3, 1)), (533, (.iconst 4, 1)), (534, (.iadd, 1)), (535, (.iaload, 1)), (536, (.aload_n 0, 1)), (537, (.iload_n 3, 1)), (538, (.iconst 5, 1)), (539, (.iadd, 1)), (540, (.iaload, 1)), (541, (.invokevirtual 54, 3)), (544, (.pop, 1)), (545, (.aload_n 2, 1)), (546, (.aload_n 0, 1)), (547, (.iload_n 3, 1)), (548, (.iconst 1, 1)), (549, (.iadd, 1)), (550, (.iaload, 1)), (551, (.aload_n 0, 1)), (552, (.iload_n 3, 1)), (553, (.iconst 2, 1)), (554, (.iadd, 1)), (555, (.iaload, 1)), (556, (.aload_n 0, 1)), (557, (.iload_n 3, 1)), (558, (.iconst 3, 1)), (559, (.iadd, 1)), (560, (.iaload, 1)), (561, (.aload_n 0, 1)), (562, (.iload_n 3, 1)), (563, (.iconst 4, 1))]
theorem ok62_law_0_9 : dcs cL_law tb62_law_0_9 = true := by decide +kernel
theorem dL_law_522 : decode cL_law 522 = .ok (.iload_n 3, 1) := dcs_at ok62_law_0_9 0 rfl
theorem dL_law_523 : decode cL_law 523 = .ok (.iconst 2, 1) := dcs_at ok62_law_0_9 1 rfl
theorem dL_law_524 : decode cL_law 524 = .ok (.iadd, 1) := dcs_at ok62_law_0_9 2 rfl
theorem dL_law_525 : decode cL_law 525 = .ok (.iaload, 1) := dcs_at ok62_law_0_9 3 rfl
theorem dL_law_526 : decode cL_law 526 = .ok (.aload_n 0, 1) := dcs_at ok62_law_0_9 4 rfl
theorem dL_law_527 : decode cL_law 527 = .ok (.iload_n 3, 1) := dcs_at ok62_law_0_9 5 rfl
theorem dL_law_528 : decode cL_law 528 = .ok (.iconst 3, 1) := dcs_at ok62_law_0_9 6 rfl
theorem dL_law_529 : decode cL_law 529 = .ok (.iadd, 1) := dcs_at ok62_law_0_9 7 rfl
theorem dL_law_530 : decode cL_law 530 = .ok (.iaload, 1) := dcs_at ok62_law_0_9 8 rfl
theorem dL_law_531 : decode cL_law 531 = .ok (.aload_n 0, 1) := dcs_at ok62_law_0_9 9 rfl
theorem dL_law_532 : decode cL_law 532 = .ok (.iload_n 3, 1) := dcs_at ok62_law_0_9 10 rfl
theorem dL_law_533 : decode cL_law 533 = .ok (.iconst 4, 1) := dcs_at ok62_law_0_9 11 rfl
theorem dL_law_534 : decode cL_law 534 = .ok (.iadd, 1) := dcs_at ok62_law_0_9 12 rfl
theorem dL_law_535 : decode cL_law 535 = .ok (.iaload, 1) := dcs_at ok62_law_0_9 13 rfl
theorem dL_law_536 : decode cL_law 536 = .ok (.aload_n 0, 1) := dcs_at ok62_law_0_9 14 rfl
theorem dL_law_537 : decode cL_law 537 = .ok (.iload_n 3, 1) := dcs_at ok62_law_0_9 15 rfl
theorem dL_law_538 : decode cL_law 538 = .ok (.iconst 5, 1) := dcs_at ok62_law_0_9 16 rfl
theorem dL_law_539 : decode cL_law 539 = .ok (.iadd, 1) := dcs_at ok62_law_0_9 17 rfl
theorem dL_law_540 : decode cL_law 540 = .ok (.iaload, 1) := dcs_at ok62_law_0_9 18 rfl
theorem dL_law_541 : decode cL_law 541 = .ok (.invokevirtual 54, 3) := dcs_at ok62_law_0_9 19 rfl
theorem dL_law_544 : decode cL_law 544 = .ok (.pop, 1) := dcs_at ok62_law_0_9 20 rfl
theorem dL_law_545 : decode cL_law 545 = .ok (.aload_n 2, 1) := dcs_at ok62_law_0_9 21 rfl
theorem dL_law_546 : decode cL_law 546 = .ok (.aload_n 0, 1) := dcs_at ok62_law_0_9 22 rfl
theorem dL_law_547 : decode cL_law 547 = .ok (.iload_n 3, 1) := dcs_at ok62_law_0_9 23 rfl
theorem dL_law_548 : decode cL_law 548 = .ok (.iconst 1, 1) := dcs_at ok62_law_0_9 24 rfl
theorem dL_law_549 : decode cL_law 549 = .ok (.iadd, 1) := dcs_at ok62_law_0_9 25 rfl
theorem dL_law_550 : decode cL_law 550 = .ok (.iaload, 1) := dcs_at ok62_law_0_9 26 rfl
theorem dL_law_551 : decode cL_law 551 = .ok (.aload_n 0, 1) := dcs_at ok62_law_0_9 27 rfl
theorem dL_law_552 : decode cL_law 552 = .ok (.iload_n 3, 1) := dcs_at ok62_law_0_9 28 rfl
theorem dL_law_553 : decode cL_law 553 = .ok (.iconst 2, 1) := dcs_at ok62_law_0_9 29 rfl
theorem dL_law_554 : decode cL_law 554 = .ok (.iadd, 1) := dcs_at ok62_law_0_9 30 rfl
theorem dL_law_555 : decode cL_law 555 = .ok (.iaload, 1) := dcs_at ok62_law_0_9 31 rfl
theorem dL_law_556 : decode cL_law 556 = .ok (.aload_n 0, 1) := dcs_at ok62_law_0_9 32 rfl
theorem dL_law_557 : decode cL_law 557 = .ok (.iload_n 3, 1) := dcs_at ok62_law_0_9 33 rfl
theorem dL_law_558 : decode cL_law 558 = .ok (.iconst 3, 1) := dcs_at ok62_law_0_9 34 rfl
theorem dL_law_559 : decode cL_law 559 = .ok (.iadd, 1) := dcs_at ok62_law_0_9 35 rfl
theorem dL_law_560 : decode cL_law 560 = .ok (.iaload, 1) := dcs_at ok62_law_0_9 36 rfl
theorem dL_law_561 : decode cL_law 561 = .ok (.aload_n 0, 1) := dcs_at ok62_law_0_9 37 rfl
theorem dL_law_562 : decode cL_law 562 = .ok (.iload_n 3, 1) := dcs_at ok62_law_0_9 38 rfl
theorem dL_law_563 : decode cL_law 563 = .ok (.iconst 4, 1) := dcs_at ok62_law_0_9 39 rfl
def tb62_law_0_10 : List (Nat × (Instr × Nat)) := [(564, (.iadd, 1)), (565, (.iaload, 1)), (566, (.aload_n 0, 1)), (567, (.iload_n 3, 1)), (568, (.iconst 5, 1)), (569, (.iadd, 1)), (570, (.iaload, 1)), (571, (.invokevirtual 57, 3)), (574, (.pop, 1)), (575, (.goto 666, 3)), (578, (.aload_n 1, 1)), (579, (.aload_n 0, 1)), (580, (.iload_n 3, 1)), (581, (.iconst 1, 1)), (582, (.iadd, 1)), (583, (.iaload, 1)), (584, (.aload_n 0, 1)), (585, (.iload_n 3, 1)), (586, (.iconst 2, 1)), (587, (.iadd, 1)), (588, (.iaload, 1)), (589, (.aload_n 0, 1)), (590, (.iload_n 3, 1)), (591, (.iconst 3, 1)), (592, (.iadd, 1)), (593, (.iaload, 1)), (594, (.aload_n 0, 1)), (595, (.iload_n 3, 1)), (596, (.iconst 4, 1)), (597, (.iadd, 1)), (598, (.iaload, 1)), (599, (.invokevirtual 58, 3)), (602, (.pop, 1)), (603, (.aload_n 2, 1)), (604, (.aload_n 0, 1)), (605, (.iload_n 3, 1)), (606, (.iconst 1, 1)), (607, (.iadd, 1)), (608, (.iaload, 1)), (609, (.aload_n 0, 1))]
theorem ok62_law_0_10 : dcs cL_law tb62_law_0_10 = true := by decide +kernel
theorem dL_law_564 : decode cL_law 564 = .ok (.iadd, 1) := dcs_at ok62_law_0_10 0 rfl
theorem dL_law_565 : decode cL_law 565 = .ok (.iaload, 1) := dcs_at ok62_law_0_10 1 rfl
theorem dL_law_566 : decode cL_law 566 = .ok (.aload_n 0, 1) := dcs_at ok62_law_0_10 2 rfl
theorem dL_law_567 : decode cL_law 567 = .ok (.iload_n 3, 1) := dcs_at ok62_law_0_10 3 rfl
theorem dL_law_568 : decode cL_law 568 = .ok (.iconst 5, 1) := dcs_at ok62_law_0_10 4 rfl
theorem dL_law_569 : decode cL_law 569 = .ok (.iadd, 1) := dcs_at ok62_law_0_10 5 rfl
theorem dL_law_570 : decode cL_law 570 = .ok (.iaload, 1) := dcs_at ok62_law_0_10 6 rfl
theorem dL_law_571 : decode cL_law 571 = .ok (.invokevirtual 57, 3) := dcs_at ok62_law_0_10 7 rfl
theorem dL_law_574 : decode cL_law 574 = .ok (.pop, 1) := dcs_at ok62_law_0_10 8 rfl
theorem dL_law_575 : decode cL_law 575 = .ok (.goto 666, 3) := dcs_at ok62_law_0_10 9 rfl
theorem dL_law_578 : decode cL_law 578 = .ok (.aload_n 1, 1) := dcs_at ok62_law_0_10 10 rfl
theorem dL_law_579 : decode cL_law 579 = .ok (.aload_n 0, 1) := dcs_at ok62_law_0_10 11 rfl
theorem dL_law_580 : decode cL_law 580 = .ok (.iload_n 3, 1) := dcs_at ok62_law_0_10 12 rfl
theorem dL_law_581 : decode cL_law 581 = .ok (.iconst 1, 1) := dcs_at ok62_law_0_10 13 rfl
theorem dL_law_582 : decode cL_law 582 = .ok (.iadd, 1) := dcs_at ok62_law_0_10 14 rfl
theorem dL_law_583 : decode cL_law 583 = .ok (.iaload, 1) := dcs_at ok62_law_0_10 15 rfl
theorem dL_law_584 : decode cL_law 584 = .ok (.aload_n 0, 1) := dcs_at ok62_law_0_10 16 rfl
theorem dL_law_585 : decode cL_law 585 = .ok (.iload_n 3, 1) := dcs_at ok62_law_0_10 17 rfl
theorem dL_law_586 : decode cL_law 586 = .ok (.iconst 2, 1) := dcs_at ok62_law_0_10 18 rfl
theorem dL_law_587 : decode cL_law 587 = .ok (.iadd, 1) := dcs_at ok62_law_0_10 19 rfl
theorem dL_law_588 : decode cL_law 588 = .ok (.iaload, 1) := dcs_at ok62_law_0_10 20 rfl
theorem dL_law_589 : decode cL_law 589 = .ok (.aload_n 0, 1) := dcs_at ok62_law_0_10 21 rfl
theorem dL_law_590 : decode cL_law 590 = .ok (.iload_n 3, 1) := dcs_at ok62_law_0_10 22 rfl
theorem dL_law_591 : decode cL_law 591 = .ok (.iconst 3, 1) := dcs_at ok62_law_0_10 23 rfl
theorem dL_law_592 : decode cL_law 592 = .ok (.iadd, 1) := dcs_at ok62_law_0_10 24 rfl
theorem dL_law_593 : decode cL_law 593 = .ok (.iaload, 1) := dcs_at ok62_law_0_10 25 rfl
theorem dL_law_594 : decode cL_law 594 = .ok (.aload_n 0, 1) := dcs_at ok62_law_0_10 26 rfl
theorem dL_law_595 : decode cL_law 595 = .ok (.iload_n 3, 1) := dcs_at ok62_law_0_10 27 rfl
theorem dL_law_596 : decode cL_law 596 = .ok (.iconst 4, 1) := dcs_at ok62_law_0_10 28 rfl
theorem dL_law_597 : decode cL_law 597 = .ok (.iadd, 1) := dcs_at ok62_law_0_10 29 rfl
theorem dL_law_598 : decode cL_law 598 = .ok (.iaload, 1) := dcs_at ok62_law_0_10 30 rfl
theorem dL_law_599 : decode cL_law 599 = .ok (.invokevirtual 58, 3) := dcs_at ok62_law_0_10 31 rfl
theorem dL_law_602 : decode cL_law 602 = .ok (.pop, 1) := dcs_at ok62_law_0_10 32 rfl
theorem dL_law_603 : decode cL_law 603 = .ok (.aload_n 2, 1) := dcs_at ok62_law_0_10 33 rfl
theorem dL_law_604 : decode cL_law 604 = .ok (.aload_n 0, 1) := dcs_at ok62_law_0_10 34 rfl
theorem dL_law_605 : decode cL_law 605 = .ok (.iload_n 3, 1) := dcs_at ok62_law_0_10 35 rfl
theorem dL_law_606 : decode cL_law 606 = .ok (.iconst 1, 1) := dcs_at ok62_law_0_10 36 rfl
theorem dL_law_607 : decode cL_law 607 = .ok (.iadd, 1) := dcs_at ok62_law_0_10 37 rfl
theorem dL_law_608 : decode cL_law 608 = .ok (.iaload, 1) := dcs_at ok62_law_0_10 38 rfl
theorem dL_law_609 : decode cL_law 609 = .ok (.aload_n 0, 1) := dcs_at ok62_law_0_10 39 rfl
def tb62_law_0_11 : List (Nat × (Instr × Nat)) := [(610, (.iload_n 3, 1)), (611, (.iconst 2, 1)), (612, (.iadd, 1)), (613, (.iaload, 1)), (614, (.aload_n 0, 1)), (615, (.iload_n 3, 1)), (616, (.iconst 3, 1)), (617, (.iadd, 1)), (618, (.iaload, 1)), (619, (.aload_n 0, 1)), (620, (.iload_n 3, 1)), (621, (.iconst 4, 1)), (622, (.iadd, 1)), (623, (.iaload, 1)), (624, (.invokevirtual 61, 3)), (627, (.pop, 1)), (628, (.goto 613, 3)), (631, (.aload_n 1, 1)), (632, (.aload_n 0, 1)), (633, (.iload_n 3, 1)), (634, (.iconst 1, 1)), (635, (.iadd, 1)), (636, (.iaload, 1)), (637, (.aload_n 0, 1)), (638, (.iload_n 3, 1)), (639, (.iconst 2, 1)), (640, (.iadd, 1)), (641, (.iaload, 1)), (642, (.aload_n 0, 1)), (643, (.iload_n 3, 1)), (644, (.iconst 3, 1)), (645, (.iadd, 1)), (646, (.iaload, 1)), (647, (.aload_n 0, 1)), (648, (.iload_n 3, 1)), (649, (.iconst 4, 1)), (650, (.iadd, 1)), (651, (.iaload, 1)), (652, (.invokevirtual 62, 3)), (655, (.pop, 1))]
theorem ok62_law_0_11 : dcs cL_law tb62_law_0_11 = true := by decide +kernel
theorem dL_law_610 : decode cL_law 610 = .ok (.iload_n 3, 1) := dcs_at ok62_law_0_11 0 rfl
theorem dL_law_611 : decode cL_law 611 = .ok (.iconst 2, 1) := dcs_at ok62_law_0_11 1 rfl
theorem dL_law_612 : decode cL_law 612 = .ok (.iadd, 1) := dcs_at ok62_law_0_11 2 rfl
theorem dL_law_613 : decode cL_law 613 = .ok (.iaload, 1) := dcs_at ok62_law_0_11 3 rfl
theorem dL_law_614 : decode cL_law 614 = .ok (.aload_n 0, 1) := dcs_at ok62_law_0_11 4 rfl
theorem dL_law_615 : decode cL_law 615 = .ok (.iload_n 3, 1) := dcs_at ok62_law_0_11 5 rfl
theorem dL_law_616 : decode cL_law 616 = .ok (.iconst 3, 1) := dcs_at ok62_law_0_11 6 rfl
theorem dL_law_617 : decode cL_law 617 = .ok (.iadd, 1) := dcs_at ok62_law_0_11 7 rfl
theorem dL_law_618 : decode cL_law 618 = .ok (.iaload, 1) := dcs_at ok62_law_0_11 8 rfl
theorem dL_law_619 : decode cL_law 619 = .ok (.aload_n 0, 1) := dcs_at ok62_law_0_11 9 rfl
theorem dL_law_620 : decode cL_law 620 = .ok (.iload_n 3, 1) := dcs_at ok62_law_0_11 10 rfl
theorem dL_law_621 : decode cL_law 621 = .ok (.iconst 4, 1) := dcs_at ok62_law_0_11 11 rfl
theorem dL_law_622 : decode cL_law 622 = .ok (.iadd, 1) := dcs_at ok62_law_0_11 12 rfl
theorem dL_law_623 : decode cL_law 623 = .ok (.iaload, 1) := dcs_at ok62_law_0_11 13 rfl
theorem dL_law_624 : decode cL_law 624 = .ok (.invokevirtual 61, 3) := dcs_at ok62_law_0_11 14 rfl
theorem dL_law_627 : decode cL_law 627 = .ok (.pop, 1) := dcs_at ok62_law_0_11 15 rfl
theorem dL_law_628 : decode cL_law 628 = .ok (.goto 613, 3) := dcs_at ok62_law_0_11 16 rfl
theorem dL_law_631 : decode cL_law 631 = .ok (.aload_n 1, 1) := dcs_at ok62_law_0_11 17 rfl
theorem dL_law_632 : decode cL_law 632 = .ok (.aload_n 0, 1) := dcs_at ok62_law_0_11 18 rfl
theorem dL_law_633 : decode cL_law 633 = .ok (.iload_n 3, 1) := dcs_at ok62_law_0_11 19 rfl
theorem dL_law_634 : decode cL_law 634 = .ok (.iconst 1, 1) := dcs_at ok62_law_0_11 20 rfl
theorem dL_law_635 : decode cL_law 635 = .ok (.iadd, 1) := dcs_at ok62_law_0_11 21 rfl
theorem dL_law_636 : decode cL_law 636 = .ok (.iaload, 1) := dcs_at ok62_law_0_11 22 rfl
theorem dL_law_637 : decode cL_law 637 = .ok (.aload_n 0, 1) := dcs_at ok62_law_0_11 23 rfl
theorem dL_law_638 : decode cL_law 638 = .ok (.iload_n 3, 1) := dcs_at ok62_law_0_11 24 rfl
theorem dL_law_639 : decode cL_law 639 = .ok (.iconst 2, 1) := dcs_at ok62_law_0_11 25 rfl
theorem dL_law_640 : decode cL_law 640 = .ok (.iadd, 1) := dcs_at ok62_law_0_11 26 rfl
theorem dL_law_641 : decode cL_law 641 = .ok (.iaload, 1) := dcs_at ok62_law_0_11 27 rfl
theorem dL_law_642 : decode cL_law 642 = .ok (.aload_n 0, 1) := dcs_at ok62_law_0_11 28 rfl
theorem dL_law_643 : decode cL_law 643 = .ok (.iload_n 3, 1) := dcs_at ok62_law_0_11 29 rfl
theorem dL_law_644 : decode cL_law 644 = .ok (.iconst 3, 1) := dcs_at ok62_law_0_11 30 rfl
theorem dL_law_645 : decode cL_law 645 = .ok (.iadd, 1) := dcs_at ok62_law_0_11 31 rfl
theorem dL_law_646 : decode cL_law 646 = .ok (.iaload, 1) := dcs_at ok62_law_0_11 32 rfl
theorem dL_law_647 : decode cL_law 647 = .ok (.aload_n 0, 1) := dcs_at ok62_law_0_11 33 rfl
theorem dL_law_648 : decode cL_law 648 = .ok (.iload_n 3, 1) := dcs_at ok62_law_0_11 34 rfl
theorem dL_law_649 : decode cL_law 649 = .ok (.iconst 4, 1) := dcs_at ok62_law_0_11 35 rfl
theorem dL_law_650 : decode cL_law 650 = .ok (.iadd, 1) := dcs_at ok62_law_0_11 36 rfl
theorem dL_law_651 : decode cL_law 651 = .ok (.iaload, 1) := dcs_at ok62_law_0_11 37 rfl
theorem dL_law_652 : decode cL_law 652 = .ok (.invokevirtual 62, 3) := dcs_at ok62_law_0_11 38 rfl
theorem dL_law_655 : decode cL_law 655 = .ok (.pop, 1) := dcs_at ok62_law_0_11 39 rfl
def tb62_law_0_12 : List (Nat × (Instr × Nat)) := [(656, (.aload_n 2, 1)), (657, (.aload_n 0, 1)), (658, (.iload_n 3, 1)), (659, (.iconst 1, 1)), (660, (.iadd, 1)), (661, (.iaload, 1)), (662, (.aload_n 0, 1)), (663, (.iload_n 3, 1)), (664, (.iconst 2, 1)), (665, (.iadd, 1)), (666, (.iaload, 1)), (667, (.aload_n 0, 1)), (668, (.iload_n 3, 1)), (669, (.iconst 3, 1)), (670, (.iadd, 1)), (671, (.iaload, 1)), (672, (.aload_n 0, 1)), (673, (.iload_n 3, 1)), (674, (.iconst 4, 1)), (675, (.iadd, 1)), (676, (.iaload, 1)), (677, (.invokevirtual 65, 3)), (680, (.pop, 1)), (681, (.goto 560, 3)), (684, (.aload_n 1, 1)), (685, (.aload_n 0, 1)), (686, (.iload_n 3, 1)), (687, (.iconst 1, 1)), (688, (.iadd, 1)), (689, (.iaload, 1)), (690, (.aload_n 0, 1)), (691, (.iload_n 3, 1)), (692, (.iconst 2, 1)), (693, (.iadd, 1)), (694, (.iaload, 1)), (695, (.aload_n 0, 1)), (696, (.iload_n 3, 1)), (697, (.iconst 3, 1)), (698, (.iadd, 1)), (699, (.iaload, 1))]
theorem ok62_law_0_12 : dcs cL_law tb62_law_0_12 = true := by decide +kernel
theorem dL_law_656 : decode cL_law 656 = .ok (.aload_n 2, 1) := dcs_at ok62_law_0_12 0 rfl
theorem dL_law_657 : decode cL_law 657 = .ok (.aload_n 0, 1) := dcs_at ok62_law_0_12 1 rfl
theorem dL_law_658 : decode cL_law 658 = .ok (.iload_n 3, 1) := dcs_at ok62_law_0_12 2 rfl
theorem dL_law_659 : decode cL_law 659 = .ok (.iconst 1, 1) := dcs_at ok62_law_0_12 3 rfl
theorem dL_law_660 : decode cL_law 660 = .ok (.iadd, 1) := dcs_at ok62_law_0_12 4 rfl
theorem dL_law_661 : decode cL_law 661 = .ok (.iaload, 1) := dcs_at ok62_law_0_12 5 rfl
theorem dL_law_662 : decode cL_law 662 = .ok (.aload_n 0, 1) := dcs_at ok62_law_0_12 6 rfl
theorem dL_law_663 : decode cL_law 663 = .ok (.iload_n 3, 1) := dcs_at ok62_law_0_12 7 rfl
theorem dL_law_664 : decode cL_law 664 = .ok (.iconst 2, 1) := dcs_at ok62_law_0_12 8 rfl
theorem dL_law_665 : decode cL_law 665 = .ok (.iadd, 1) := dcs_at ok62_law_0_12 9 rfl
theorem dL_law_666 : decode cL_law 666 = .ok (.iaload, 1) := dcs_at ok62_law_0_12 10 rfl
theorem dL_law_667 : decode cL_law 667 = .ok (.aload_n 0, 1) := dcs_at ok62_law_0_12 11 rfl
theorem dL_law_668 : decode cL_law 668 = .ok (.iload_n 3, 1) := dcs_at ok62_law_0_12 12 rfl
theorem dL_law_669 : decode cL_law 669 = .ok (.iconst 3, 1) := dcs_at ok62_law_0_12 13 rfl
theorem dL_law_670 : decode cL_law 670 = .ok (.iadd, 1) := dcs_at ok62_law_0_12 14 rfl
theorem dL_law_671 : decode cL_law 671 = .ok (.iaload, 1) := dcs_at ok62_law_0_12 15 rfl
theorem dL_law_672 : decode cL_law 672 = .ok (.aload_n 0, 1) := dcs_at ok62_law_0_12 16 rfl
theorem dL_law_673 : decode cL_law 673 = .ok (.iload_n 3, 1) := dcs_at ok62_law_0_12 17 rfl
theorem dL_law_674 : decode cL_law 674 = .ok (.iconst 4, 1) := dcs_at ok62_law_0_12 18 rfl
theorem dL_law_675 : decode cL_law 675 = .ok (.iadd, 1) := dcs_at ok62_law_0_12 19 rfl
theorem dL_law_676 : decode cL_law 676 = .ok (.iaload, 1) := dcs_at ok62_law_0_12 20 rfl
theorem dL_law_677 : decode cL_law 677 = .ok (.invokevirtual 65, 3) := dcs_at ok62_law_0_12 21 rfl
theorem dL_law_680 : decode cL_law 680 = .ok (.pop, 1) := dcs_at ok62_law_0_12 22 rfl
theorem dL_law_681 : decode cL_law 681 = .ok (.goto 560, 3) := dcs_at ok62_law_0_12 23 rfl
theorem dL_law_684 : decode cL_law 684 = .ok (.aload_n 1, 1) := dcs_at ok62_law_0_12 24 rfl
theorem dL_law_685 : decode cL_law 685 = .ok (.aload_n 0, 1) := dcs_at ok62_law_0_12 25 rfl
theorem dL_law_686 : decode cL_law 686 = .ok (.iload_n 3, 1) := dcs_at ok62_law_0_12 26 rfl
theorem dL_law_687 : decode cL_law 687 = .ok (.iconst 1, 1) := dcs_at ok62_law_0_12 27 rfl
theorem dL_law_688 : decode cL_law 688 = .ok (.iadd, 1) := dcs_at ok62_law_0_12 28 rfl
theorem dL_law_689 : decode cL_law 689 = .ok (.iaload, 1) := dcs_at ok62_law_0_12 29 rfl
theorem dL_law_690 : decode cL_law 690 = .ok (.aload_n 0, 1) := dcs_at ok62_law_0_12 30 rfl
theorem dL_law_691 : decode cL_law 691 = .ok (.iload_n 3, 1) := dcs_at ok62_law_0_12 31 rfl
theorem dL_law_692 : decode cL_law 692 = .ok (.iconst 2, 1) := dcs_at ok62_law_0_12 32 rfl
theorem dL_law_693 : decode cL_law 693 = .ok (.iadd, 1) := dcs_at ok62_law_0_12 33 rfl
theorem dL_law_694 : decode cL_law 694 = .ok (.iaload, 1) := dcs_at ok62_law_0_12 34 rfl
theorem dL_law_695 : decode cL_law 695 = .ok (.aload_n 0, 1) := dcs_at ok62_law_0_12 35 rfl
theorem dL_law_696 : decode cL_law 696 = .ok (.iload_n 3, 1) := dcs_at ok62_law_0_12 36 rfl
theorem dL_law_697 : decode cL_law 697 = .ok (.iconst 3, 1) := dcs_at ok62_law_0_12 37 rfl
theorem dL_law_698 : decode cL_law 698 = .ok (.iadd, 1) := dcs_at ok62_law_0_12 38 rfl
theorem dL_law_699 : decode cL_law 699 = .ok (.iaload, 1) := dcs_at ok62_law_0_12 39 rfl
def tb62_law_0_13 : List (Nat × (Instr × Nat)) := [(700, (.aload_n 0, 1)), (701, (.iload_n 3, 1)), (702, (.iconst 4, 1)), (703, (.iadd, 1)), (704, (.iaload, 1)), (705, (.ifCond .eq 7, 3)), (708, (.iconst 1, 1)), (709, (.goto 4, 3)), (712, (.iconst 0, 1)), (713, (.invokevirtual 66, 3)), (716, (.pop, 1)), (717, (.aload_n 2, 1)), (718, (.aload_n 0, 1)), (719, (.iload_n 3, 1)), (720, (.iconst 1, 1)), (721, (.iadd, 1)), (722, (.iaload, 1)), (723, (.aload_n 0, 1)), (724, (.iload_n 3, 1)), (725, (.iconst 2, 1)), (726, (.iadd, 1)), (727, (.iaload, 1)), (728, (.aload_n 0, 1)), (729, (.iload_n 3, 1)), (730, (.iconst 3, 1)), (731, (.iadd, 1)), (732, (.iaload, 1)), (733, (.aload_n 0, 1)), (734, (.iload_n 3, 1)), (735, (.iconst 4, 1)), (736, (.iadd, 1)), (737, (.iaload, 1)), (738, (.ifCond .eq 7, 3)), (741, (.iconst 1, 1)), (742, (.goto 4, 3)), (745, (.iconst 0, 1)), (746, (.invokevirtual 70, 3)), (749, (.pop, 1)), (750, (.goto 491, 3)), (753, (.aload_n 1, 1))]
theorem ok62_law_0_13 : dcs cL_law tb62_law_0_13 = true := by decide +kernel
theorem dL_law_700 : decode cL_law 700 = .ok (.aload_n 0, 1) := dcs_at ok62_law_0_13 0 rfl
theorem dL_law_701 : decode cL_law 701 = .ok (.iload_n 3, 1) := dcs_at ok62_law_0_13 1 rfl
theorem dL_law_702 : decode cL_law 702 = .ok (.iconst 4, 1) := dcs_at ok62_law_0_13 2 rfl
theorem dL_law_703 : decode cL_law 703 = .ok (.iadd, 1) := dcs_at ok62_law_0_13 3 rfl
theorem dL_law_704 : decode cL_law 704 = .ok (.iaload, 1) := dcs_at ok62_law_0_13 4 rfl
theorem dL_law_705 : decode cL_law 705 = .ok (.ifCond .eq 7, 3) := dcs_at ok62_law_0_13 5 rfl
theorem dL_law_708 : decode cL_law 708 = .ok (.iconst 1, 1) := dcs_at ok62_law_0_13 6 rfl
theorem dL_law_709 : decode cL_law 709 = .ok (.goto 4, 3) := dcs_at ok62_law_0_13 7 rfl
theorem dL_law_712 : decode cL_law 712 = .ok (.iconst 0, 1) := dcs_at ok62_law_0_13 8 rfl
theorem dL_law_713 : decode cL_law 713 = .ok (.invokevirtual 66, 3) := dcs_at ok62_law_0_13 9 rfl
theorem dL_law_716 : decode cL_law 716 = .ok (.pop, 1) := dcs_at ok62_law_0_13 10 rfl
theorem dL_law_717 : decode cL_law 717 = .ok (.aload_n 2, 1) := dcs_at ok62_law_0_13 11 rfl
theorem dL_law_718 : decode cL_law 718 = .ok (.aload_n 0, 1) := dcs_at ok62_law_0_13 12 rfl
theorem dL_law_719 : decode cL_law 719 = .ok (.iload_n 3, 1) := dcs_at ok62_law_0_13 13 rfl
theorem dL_law_720 : decode cL_law 720 = .ok (.iconst 1, 1) := dcs_at ok62_law_0_13 14 rfl
theorem dL_law_721 : decode cL_law 721 = .ok (.iadd, 1) := dcs_at ok62_law_0_13 15 rfl
theorem dL_law_722 : decode cL_law 722 = .ok (.iaload, 1) := dcs_at ok62_law_0_13 16 rfl
theorem dL_law_723 : decode cL_law 723 = .ok (.aload_n 0, 1) := dcs_at ok62_law_0_13 17 rfl
theorem dL_law_724 : decode cL_law 724 = .ok (.iload_n 3, 1) := dcs_at ok62_law_0_13 18 rfl
theorem dL_law_725 : decode cL_law 725 = .ok (.iconst 2, 1) := dcs_at ok62_law_0_13 19 rfl
theorem dL_law_726 : decode cL_law 726 = .ok (.iadd, 1) := dcs_at ok62_law_0_13 20 rfl
theorem dL_law_727 : decode cL_law 727 = .ok (.iaload, 1) := dcs_at ok62_law_0_13 21 rfl
theorem dL_law_728 : decode cL_law 728 = .ok (.aload_n 0, 1) := dcs_at ok62_law_0_13 22 rfl
theorem dL_law_729 : decode cL_law 729 = .ok (.iload_n 3, 1) := dcs_at ok62_law_0_13 23 rfl
theorem dL_law_730 : decode cL_law 730 = .ok (.iconst 3, 1) := dcs_at ok62_law_0_13 24 rfl
theorem dL_law_731 : decode cL_law 731 = .ok (.iadd, 1) := dcs_at ok62_law_0_13 25 rfl
theorem dL_law_732 : decode cL_law 732 = .ok (.iaload, 1) := dcs_at ok62_law_0_13 26 rfl
theorem dL_law_733 : decode cL_law 733 = .ok (.aload_n 0, 1) := dcs_at ok62_law_0_13 27 rfl
theorem dL_law_734 : decode cL_law 734 = .ok (.iload_n 3, 1) := dcs_at ok62_law_0_13 28 rfl
theorem dL_law_735 : decode cL_law 735 = .ok (.iconst 4, 1) := dcs_at ok62_law_0_13 29 rfl
theorem dL_law_736 : decode cL_law 736 = .ok (.iadd, 1) := dcs_at ok62_law_0_13 30 rfl
theorem dL_law_737 : decode cL_law 737 = .ok (.iaload, 1) := dcs_at ok62_law_0_13 31 rfl
theorem dL_law_738 : decode cL_law 738 = .ok (.ifCond .eq 7, 3) := dcs_at ok62_law_0_13 32 rfl
theorem dL_law_741 : decode cL_law 741 = .ok (.iconst 1, 1) := dcs_at ok62_law_0_13 33 rfl
theorem dL_law_742 : decode cL_law 742 = .ok (.goto 4, 3) := dcs_at ok62_law_0_13 34 rfl
theorem dL_law_745 : decode cL_law 745 = .ok (.iconst 0, 1) := dcs_at ok62_law_0_13 35 rfl
theorem dL_law_746 : decode cL_law 746 = .ok (.invokevirtual 70, 3) := dcs_at ok62_law_0_13 36 rfl
theorem dL_law_749 : decode cL_law 749 = .ok (.pop, 1) := dcs_at ok62_law_0_13 37 rfl
theorem dL_law_750 : decode cL_law 750 = .ok (.goto 491, 3) := dcs_at ok62_law_0_13 38 rfl
theorem dL_law_753 : decode cL_law 753 = .ok (.aload_n 1, 1) := dcs_at ok62_law_0_13 39 rfl
def tb62_law_0_14 : List (Nat × (Instr × Nat)) := [(754, (.aload_n 0, 1)), (755, (.iload_n 3, 1)), (756, (.iconst 1, 1)), (757, (.iadd, 1)), (758, (.iaload, 1)), (759, (.aload_n 0, 1)), (760, (.iload_n 3, 1)), (761, (.iconst 2, 1)), (762, (.iadd, 1)), (763, (.iaload, 1)), (764, (.aload_n 0, 1)), (765, (.iload_n 3, 1)), (766, (.iconst 3, 1)), (767, (.iadd, 1)), (768, (.iaload, 1)), (769, (.invokevirtual 71, 3)), (772, (.pop, 1)), (773, (.aload_n 2, 1)), (774, (.aload_n 0, 1)), (775, (.iload_n 3, 1)), (776, (.iconst 1, 1)), (777, (.iadd, 1)), (778, (.iaload, 1)), (779, (.aload_n 0, 1)), (780, (.iload_n 3, 1)), (781, (.iconst 2, 1)), (782, (.iadd, 1)), (783, (.iaload, 1)), (784, (.aload_n 0, 1)), (785, (.iload_n 3, 1)), (786, (.iconst 3, 1)), (787, (.iadd, 1)), (788, (.iaload, 1)), (789, (.invokevirtual 74, 3)), (792, (.pop, 1)), (793, (.goto 448, 3)), (796, (.aload_n 1, 1)), (797, (.aload_n 0, 1)), (798, (.iload_n 3, 1)), (799, (.iconst 1, 1))]
theorem ok62_law_0_14 : dcs cL_law tb62_law_0_14 = true := by decide +kernel
theorem dL_law_754 : decode cL_law 754 = .ok (.aload_n 0, 1) := dcs_at ok62_law_0_14 0 rfl
theorem dL_law_755 : decode cL_law 755 = .ok (.iload_n 3, 1) := dcs_at ok62_law_0_14 1 rfl
theorem dL_law_756 : decode cL_law 756 = .ok (.iconst 1, 1) := dcs_at ok62_law_0_14 2 rfl
theorem dL_law_757 : decode cL_law 757 = .ok (.iadd, 1) := dcs_at ok62_law_0_14 3 rfl
theorem dL_law_758 : decode cL_law 758 = .ok (.iaload, 1) := dcs_at ok62_law_0_14 4 rfl
theorem dL_law_759 : decode cL_law 759 = .ok (.aload_n 0, 1) := dcs_at ok62_law_0_14 5 rfl
theorem dL_law_760 : decode cL_law 760 = .ok (.iload_n 3, 1) := dcs_at ok62_law_0_14 6 rfl
theorem dL_law_761 : decode cL_law 761 = .ok (.iconst 2, 1) := dcs_at ok62_law_0_14 7 rfl
theorem dL_law_762 : decode cL_law 762 = .ok (.iadd, 1) := dcs_at ok62_law_0_14 8 rfl
theorem dL_law_763 : decode cL_law 763 = .ok (.iaload, 1) := dcs_at ok62_law_0_14 9 rfl
theorem dL_law_764 : decode cL_law 764 = .ok (.aload_n 0, 1) := dcs_at ok62_law_0_14 10 rfl
theorem dL_law_765 : decode cL_law 765 = .ok (.iload_n 3, 1) := dcs_at ok62_law_0_14 11 rfl
theorem dL_law_766 : decode cL_law 766 = .ok (.iconst 3, 1) := dcs_at ok62_law_0_14 12 rfl
theorem dL_law_767 : decode cL_law 767 = .ok (.iadd, 1) := dcs_at ok62_law_0_14 13 rfl
theorem dL_law_768 : decode cL_law 768 = .ok (.iaload, 1) := dcs_at ok62_law_0_14 14 rfl
theorem dL_law_769 : decode cL_law 769 = .ok (.invokevirtual 71, 3) := dcs_at ok62_law_0_14 15 rfl
theorem dL_law_772 : decode cL_law 772 = .ok (.pop, 1) := dcs_at ok62_law_0_14 16 rfl
theorem dL_law_773 : decode cL_law 773 = .ok (.aload_n 2, 1) := dcs_at ok62_law_0_14 17 rfl
theorem dL_law_774 : decode cL_law 774 = .ok (.aload_n 0, 1) := dcs_at ok62_law_0_14 18 rfl
theorem dL_law_775 : decode cL_law 775 = .ok (.iload_n 3, 1) := dcs_at ok62_law_0_14 19 rfl
theorem dL_law_776 : decode cL_law 776 = .ok (.iconst 1, 1) := dcs_at ok62_law_0_14 20 rfl
theorem dL_law_777 : decode cL_law 777 = .ok (.iadd, 1) := dcs_at ok62_law_0_14 21 rfl
theorem dL_law_778 : decode cL_law 778 = .ok (.iaload, 1) := dcs_at ok62_law_0_14 22 rfl
theorem dL_law_779 : decode cL_law 779 = .ok (.aload_n 0, 1) := dcs_at ok62_law_0_14 23 rfl
theorem dL_law_780 : decode cL_law 780 = .ok (.iload_n 3, 1) := dcs_at ok62_law_0_14 24 rfl
theorem dL_law_781 : decode cL_law 781 = .ok (.iconst 2, 1) := dcs_at ok62_law_0_14 25 rfl
theorem dL_law_782 : decode cL_law 782 = .ok (.iadd, 1) := dcs_at ok62_law_0_14 26 rfl
theorem dL_law_783 : decode cL_law 783 = .ok (.iaload, 1) := dcs_at ok62_law_0_14 27 rfl
theorem dL_law_784 : decode cL_law 784 = .ok (.aload_n 0, 1) := dcs_at ok62_law_0_14 28 rfl
theorem dL_law_785 : decode cL_law 785 = .ok (.iload_n 3, 1) := dcs_at ok62_law_0_14 29 rfl
theorem dL_law_786 : decode cL_law 786 = .ok (.iconst 3, 1) := dcs_at ok62_law_0_14 30 rfl
theorem dL_law_787 : decode cL_law 787 = .ok (.iadd, 1) := dcs_at ok62_law_0_14 31 rfl
theorem dL_law_788 : decode cL_law 788 = .ok (.iaload, 1) := dcs_at ok62_law_0_14 32 rfl
theorem dL_law_789 : decode cL_law 789 = .ok (.invokevirtual 74, 3) := dcs_at ok62_law_0_14 33 rfl
theorem dL_law_792 : decode cL_law 792 = .ok (.pop, 1) := dcs_at ok62_law_0_14 34 rfl
theorem dL_law_793 : decode cL_law 793 = .ok (.goto 448, 3) := dcs_at ok62_law_0_14 35 rfl
theorem dL_law_796 : decode cL_law 796 = .ok (.aload_n 1, 1) := dcs_at ok62_law_0_14 36 rfl
theorem dL_law_797 : decode cL_law 797 = .ok (.aload_n 0, 1) := dcs_at ok62_law_0_14 37 rfl
theorem dL_law_798 : decode cL_law 798 = .ok (.iload_n 3, 1) := dcs_at ok62_law_0_14 38 rfl
theorem dL_law_799 : decode cL_law 799 = .ok (.iconst 1, 1) := dcs_at ok62_law_0_14 39 rfl
def tb62_law_0_15 : List (Nat × (Instr × Nat)) := [(800, (.iadd, 1)), (801, (.iaload, 1)), (802, (.aload_n 0, 1)), (803, (.iload_n 3, 1)), (804, (.iconst 2, 1)), (805, (.iadd, 1)), (806, (.iaload, 1)), (807, (.aload_n 0, 1)), (808, (.iload_n 3, 1)), (809, (.iconst 3, 1)), (810, (.iadd, 1)), (811, (.iaload, 1)), (812, (.invokevirtual 75, 3)), (815, (.pop, 1)), (816, (.aload_n 2, 1)), (817, (.aload_n 0, 1)), (818, (.iload_n 3, 1)), (819, (.iconst 1, 1)), (820, (.iadd, 1)), (821, (.iaload, 1)), (822, (.aload_n 0, 1)), (823, (.iload_n 3, 1)), (824, (.iconst 2, 1)), (825, (.iadd, 1)), (826, (.iaload, 1)), (827, (.aload_n 0, 1)), (828, (.iload_n 3, 1)), (829, (.iconst 3, 1)), (830, (.iadd, 1)), (831, (.iaload, 1)), (832, (.invokevirtual 78, 3)), (835, (.pop, 1)), (836, (.goto 405, 3)), (839, (.aload_n 1, 1)), (840, (.aload_n 0, 1)), (841, (.iload_n 3, 1)), (842, (.iconst 1, 1)), (843, (.iadd, 1)), (844, (.iaload, 1)), (845, (.aload_n 0, 1))]
theorem ok62_law_0_15 : dcs cL_law tb62_law_0_15 = true := by decide +kernel
theorem dL_law_800 : decode cL_law 800 = .ok (.iadd, 1) := dcs_at ok62_law_0_15 0 rfl
theorem dL_law_801 : decode cL_law 801 = .ok (.iaload, 1) := dcs_at ok62_law_0_15 1 rfl
theorem dL_law_802 : decode cL_law 802 = .ok (.aload_n 0, 1) := dcs_at ok62_law_0_15 2 rfl
theorem dL_law_803 : decode cL_law 803 = .ok (.iload_n 3, 1) := dcs_at ok62_law_0_15 3 rfl
theorem dL_law_804 : decode cL_law 804 = .ok (.iconst 2, 1) := dcs_at ok62_law_0_15 4 rfl
theorem dL_law_805 : decode cL_law 805 = .ok (.iadd, 1) := dcs_at ok62_law_0_15 5 rfl
theorem dL_law_806 : decode cL_law 806 = .ok (.iaload, 1) := dcs_at ok62_law_0_15 6 rfl
theorem dL_law_807 : decode cL_law 807 = .ok (.aload_n 0, 1) := dcs_at ok62_law_0_15 7 rfl
theorem dL_law_808 : decode cL_law 808 = .ok (.iload_n 3, 1) := dcs_at ok62_law_0_15 8 rfl
theorem dL_law_809 : decode cL_law 809 = .ok (.iconst 3, 1) := dcs_at ok62_law_0_15 9 rfl
theorem dL_law_810 : decode cL_law 810 = .ok (.iadd, 1) := dcs_at ok62_law_0_15 10 rfl
theorem dL_law_811 : decode cL_law 811 = .ok (.iaload, 1) := dcs_at ok62_law_0_15 11 rfl
theorem dL_law_812 : decode cL_law 812 = .ok (.invokevirtual 75, 3) := dcs_at ok62_law_0_15 12 rfl
theorem dL_law_815 : decode cL_law 815 = .ok (.pop, 1) := dcs_at ok62_law_0_15 13 rfl
theorem dL_law_816 : decode cL_law 816 = .ok (.aload_n 2, 1) := dcs_at ok62_law_0_15 14 rfl
theorem dL_law_817 : decode cL_law 817 = .ok (.aload_n 0, 1) := dcs_at ok62_law_0_15 15 rfl
theorem dL_law_818 : decode cL_law 818 = .ok (.iload_n 3, 1) := dcs_at ok62_law_0_15 16 rfl
theorem dL_law_819 : decode cL_law 819 = .ok (.iconst 1, 1) := dcs_at ok62_law_0_15 17 rfl
theorem dL_law_820 : decode cL_law 820 = .ok (.iadd, 1) := dcs_at ok62_law_0_15 18 rfl
theorem dL_law_821 : decode cL_law 821 = .ok (.iaload, 1) := dcs_at ok62_law_0_15 19 rfl
theorem dL_law_822 : decode cL_law 822 = .ok (.aload_n 0, 1) := dcs_at ok62_law_0_15 20 rfl
theorem dL_law_823 : decode cL_law 823 = .ok (.iload_n 3, 1) := dcs_at ok62_law_0_15 21 rfl
theorem dL_law_824 : decode cL_law 824 = .ok (.iconst 2, 1) := dcs_at ok62_law_0_15 22 rfl
theorem dL_law_825 : decode cL_law 825 = .ok (.iadd, 1) := dcs_at ok62_law_0_15 23 rfl
theorem dL_law_826 : decode cL_law 826 = .ok (.iaload, 1) := dcs_at ok62_law_0_15 24 rfl
theorem dL_law_827 : decode cL_law 827 = .ok (.aload_n 0, 1) := dcs_at ok62_law_0_15 25 rfl
theorem dL_law_828 : decode cL_law 828 = .ok (.iload_n 3, 1) := dcs_at ok62_law_0_15 26 rfl
theorem dL_law_829 : decode cL_law 829 = .ok (.iconst 3, 1) := dcs_at ok62_law_0_15 27 rfl
theorem dL_law_830 : decode cL_law 830 = .ok (.iadd, 1) := dcs_at ok62_law_0_15 28 rfl
theorem dL_law_831 : decode cL_law 831 = .ok (.iaload, 1) := dcs_at ok62_law_0_15 29 rfl
theorem dL_law_832 : decode cL_law 832 = .ok (.invokevirtual 78, 3) := dcs_at ok62_law_0_15 30 rfl
theorem dL_law_835 : decode cL_law 835 = .ok (.pop, 1) := dcs_at ok62_law_0_15 31 rfl
theorem dL_law_836 : decode cL_law 836 = .ok (.goto 405, 3) := dcs_at ok62_law_0_15 32 rfl
theorem dL_law_839 : decode cL_law 839 = .ok (.aload_n 1, 1) := dcs_at ok62_law_0_15 33 rfl
theorem dL_law_840 : decode cL_law 840 = .ok (.aload_n 0, 1) := dcs_at ok62_law_0_15 34 rfl
theorem dL_law_841 : decode cL_law 841 = .ok (.iload_n 3, 1) := dcs_at ok62_law_0_15 35 rfl
theorem dL_law_842 : decode cL_law 842 = .ok (.iconst 1, 1) := dcs_at ok62_law_0_15 36 rfl
theorem dL_law_843 : decode cL_law 843 = .ok (.iadd, 1) := dcs_at ok62_law_0_15 37 rfl
theorem dL_law_844 : decode cL_law 844 = .ok (.iaload, 1) := dcs_at ok62_law_0_15 38 rfl
theorem dL_law_845 : decode cL_law 845 = .ok (.aload_n 0, 1) := dcs_at ok62_law_0_15 39 rfl
def tb62_law_0_16 : List (Nat × (Instr × Nat)) := [(846, (.iload_n 3, 1)), (847, (.iconst 2, 1)), (848, (.iadd, 1)), (849, (.iaload, 1)), (850, (.invokevirtual 79, 3)), (853, (.pop, 1)), (854, (.aload_n 2, 1)), (855, (.aload_n 0, 1)), (856, (.iload_n 3, 1)), (857, (.iconst 1, 1)), (858, (.iadd, 1)), (859, (.iaload, 1)), (860, (.aload_n 0, 1)), (861, (.iload_n 3, 1)), (862, (.iconst 2, 1)), (863, (.iadd, 1)), (864, (.iaload, 1)), (865, (.invokevirtual 82, 3)), (868, (.pop, 1)), (869, (.goto 372, 3)), (872, (.aload_n 1, 1)), (873, (.aload_n 0, 1)), (874, (.iload_n 3, 1)), (875, (.iconst 1, 1)), (876, (.iadd, 1)), (877, (.iaload, 1)), (878, (.aload_n 0, 1)), (879, (.iload_n 3, 1)), (880, (.iconst 2, 1)), (881, (.iadd, 1)), (882, (.iaload, 1)), (883, (.invokevirtual 83, 3)), (886, (.pop, 1)), (887, (.aload_n 2, 1)), (888, (.aload_n 0, 1)), (889, (.iload_n 3, 1)), (890, (.iconst 1, 1)), (891, (.iadd, 1)), (892, (.iaload, 1)), (893, (.aload_n 0, 1))]
theorem ok62_law_0_16 : dcs cL_law tb62_law_0_16 = true := by decide +kernel
theorem dL_law_846 : decode cL_law 846 = .ok (.iload_n 3, 1) := dcs_at ok62_law_0_16 0 rfl
theorem dL_law_847 : decode cL_law 847 = .ok (.iconst 2, 1) := dcs_at ok62_law_0_16 1 rfl
theorem dL_law_848 : decode cL_law 848 = .ok (.iadd, 1) := dcs_at ok62_law_0_16 2 rfl
theorem dL_law_849 : decode cL_law 849 = .ok (.iaload, 1) := dcs_at ok62_law_0_16 3 rfl
theorem dL_law_850 : decode cL_law 850 = .ok (.invokevirtual 79, 3) := dcs_at ok62_law_0_16 4 rfl
theorem dL_law_853 : decode cL_law 853 = .ok (.pop, 1) := dcs_at ok62_law_0_16 5 rfl
theorem dL_law_854 : decode cL_law 854 = .ok (.aload_n 2, 1) := dcs_at ok62_law_0_16 6 rfl
theorem dL_law_855 : decode cL_law 855 = .ok (.aload_n 0, 1) := dcs_at ok62_law_0_16 7 rfl
theorem dL_law_856 : decode cL_law 856 = .ok (.iload_n 3, 1) := dcs_at ok62_law_0_16 8 rfl
theorem dL_law_857 : decode cL_law 857 = .ok (.iconst 1, 1) := dcs_at ok62_law_0_16 9 rfl
theorem dL_law_858 : decode cL_law 858 = .ok (.iadd, 1) := dcs_at ok62_law_0_16 10 rfl
theorem dL_law_859 : decode cL_law 859 = .ok (.iaload, 1) := dcs_at ok62_law_0_16 11 rfl
theorem dL_law_860 : decode cL_law 860 = .ok (.aload_n 0, 1) := dcs_at ok62_law_0_16 12 rfl
theorem dL_law_861 : decode cL_law 861 = .ok (.iload_n 3, 1) := dcs_at ok62_law_0_16 13 rfl
theorem dL_law_862 : decode cL_law 862 = .ok (.iconst 2, 1) := dcs_at ok62_law_0_16 14 rfl
theorem dL_law_863 : decode cL_law 863 = .ok (.iadd, 1) := dcs_at ok62_law_0_16 15 rfl
theorem dL_law_864 : decode cL_law 864 = .ok (.iaload, 1) := dcs_at ok62_law_0_16 16 rfl
theorem dL_law_865 : decode cL_law 865 = .ok (.invokevirtual 82, 3) := dcs_at ok62_law_0_16 17 rfl
theorem dL_law_868 : decode cL_law 868 = .ok (.pop, 1) := dcs_at ok62_law_0_16 18 rfl
theorem dL_law_869 : decode cL_law 869 = .ok (.goto 372, 3) := dcs_at ok62_law_0_16 19 rfl
theorem dL_law_872 : decode cL_law 872 = .ok (.aload_n 1, 1) := dcs_at ok62_law_0_16 20 rfl
theorem dL_law_873 : decode cL_law 873 = .ok (.aload_n 0, 1) := dcs_at ok62_law_0_16 21 rfl
theorem dL_law_874 : decode cL_law 874 = .ok (.iload_n 3, 1) := dcs_at ok62_law_0_16 22 rfl
theorem dL_law_875 : decode cL_law 875 = .ok (.iconst 1, 1) := dcs_at ok62_law_0_16 23 rfl
theorem dL_law_876 : decode cL_law 876 = .ok (.iadd, 1) := dcs_at ok62_law_0_16 24 rfl
theorem dL_law_877 : decode cL_law 877 = .ok (.iaload, 1) := dcs_at ok62_law_0_16 25 rfl
theorem dL_law_878 : decode cL_law 878 = .ok (.aload_n 0, 1) := dcs_at ok62_law_0_16 26 rfl
theorem dL_law_879 : decode cL_law 879 = .ok (.iload_n 3, 1) := dcs_at ok62_law_0_16 27 rfl
theorem dL_law_880 : decode cL_law 880 = .ok (.iconst 2, 1) := dcs_at ok62_law_0_16 28 rfl
theorem dL_law_881 : decode cL_law 881 = .ok (.iadd, 1) := dcs_at ok62_law_0_16 29 rfl
theorem dL_law_882 : decode cL_law 882 = .ok (.iaload, 1) := dcs_at ok62_law_0_16 30 rfl
theorem dL_law_883 : decode cL_law 883 = .ok (.invokevirtual 83, 3) := dcs_at ok62_law_0_16 31 rfl
theorem dL_law_886 : decode cL_law 886 = .ok (.pop, 1) := dcs_at ok62_law_0_16 32 rfl
theorem dL_law_887 : decode cL_law 887 = .ok (.aload_n 2, 1) := dcs_at ok62_law_0_16 33 rfl
theorem dL_law_888 : decode cL_law 888 = .ok (.aload_n 0, 1) := dcs_at ok62_law_0_16 34 rfl
theorem dL_law_889 : decode cL_law 889 = .ok (.iload_n 3, 1) := dcs_at ok62_law_0_16 35 rfl
theorem dL_law_890 : decode cL_law 890 = .ok (.iconst 1, 1) := dcs_at ok62_law_0_16 36 rfl
theorem dL_law_891 : decode cL_law 891 = .ok (.iadd, 1) := dcs_at ok62_law_0_16 37 rfl
theorem dL_law_892 : decode cL_law 892 = .ok (.iaload, 1) := dcs_at ok62_law_0_16 38 rfl
theorem dL_law_893 : decode cL_law 893 = .ok (.aload_n 0, 1) := dcs_at ok62_law_0_16 39 rfl
def tb62_law_0_17 : List (Nat × (Instr × Nat)) := [(894, (.iload_n 3, 1)), (895, (.iconst 2, 1)), (896, (.iadd, 1)), (897, (.iaload, 1)), (898, (.invokevirtual 86, 3)), (901, (.pop, 1)), (902, (.goto 339, 3)), (905, (.aload_n 1, 1)), (906, (.aload_n 0, 1)), (907, (.iload_n 3, 1)), (908, (.iconst 1, 1)), (909, (.iadd, 1)), (910, (.iaload, 1)), (911, (.aload_n 0, 1)), (912, (.iload_n 3, 1)), (913, (.iconst 2, 1)), (914, (.iadd, 1)), (915, (.iaload, 1)), (916, (.invokevirtual 87, 3)), (919, (.pop2, 1)), (920, (.aload_n 2, 1)), (921, (.aload_n 0, 1)), (922, (.iload_n 3, 1)), (923, (.iconst 1, 1)), (924, (.iadd, 1)), (925, (.iaload, 1)), (926, (.aload_n 0, 1)), (927, (.iload_n 3, 1)), (928, (.iconst 2, 1)), (929, (.iadd, 1)), (930, (.iaload, 1)), (931, (.invokevirtual 91, 3)), (934, (.pop2, 1)), (935, (.goto 306, 3)), (938, (.aload_n 1, 1)), (939, (.aload_n 0, 1)), (940, (.iload_n 3, 1)), (941, (.iconst 1, 1)), (942, (.iadd, 1)), (943, (.iaload, 1))]
theorem ok62_law_0_17 : dcs cL_law tb62_law_0_17 = true := by decide +kernel
theorem dL_law_894 : decode cL_law 894 = .ok (.iload_n 3, 1) := dcs_at ok62_law_0_17 0 rfl
theorem dL_law_895 : decode cL_law 895 = .ok (.iconst 2, 1) := dcs_at ok62_law_0_17 1 rfl
theorem dL_law_896 : decode cL_law 896 = .ok (.iadd, 1) := dcs_at ok62_law_0_17 2 rfl
theorem dL_law_897 : decode cL_law 897 = .ok (.iaload, 1) := dcs_at ok62_law_0_17 3 rfl
theorem dL_law_898 : decode cL_law 898 = .ok (.invokevirtual 86, 3) := dcs_at ok62_law_0_17 4 rfl
theorem dL_law_901 : decode cL_law 901 = .ok (.pop, 1) := dcs_at ok62_law_0_17 5 rfl
theorem dL_law_902 : decode cL_law 902 = .ok (.goto 339, 3) := dcs_at ok62_law_0_17 6 rfl
theorem dL_law_905 : decode cL_law 905 = .ok (.aload_n 1, 1) := dcs_at ok62_law_0_17 7 rfl
theorem dL_law_906 : decode cL_law 906 = .ok (.aload_n 0, 1) := dcs_at ok62_law_0_17 8 rfl
theorem dL_law_907 : decode cL_law 907 = .ok (.iload_n 3, 1) := dcs_at ok62_law_0_17 9 rfl
theorem dL_law_908 : decode cL_law 908 = .ok (.iconst 1, 1) := dcs_at ok62_law_0_17 10 rfl
theorem dL_law_909 : decode cL_law 909 = .ok (.iadd, 1) := dcs_at ok62_law_0_17 11 rfl
theorem dL_law_910 : decode cL_law 910 = .ok (.iaload, 1) := dcs_at ok62_law_0_17 12 rfl
theorem dL_law_911 : decode cL_law 911 = .ok (.aload_n 0, 1) := dcs_at ok62_law_0_17 13 rfl
theorem dL_law_912 : decode cL_law 912 = .ok (.iload_n 3, 1) := dcs_at ok62_law_0_17 14 rfl
theorem dL_law_913 : decode cL_law 913 = .ok (.iconst 2, 1) := dcs_at ok62_law_0_17 15 rfl
theorem dL_law_914 : decode cL_law 914 = .ok (.iadd, 1) := dcs_at ok62_law_0_17 16 rfl
theorem dL_law_915 : decode cL_law 915 = .ok (.iaload, 1) := dcs_at ok62_law_0_17 17 rfl
theorem dL_law_916 : decode cL_law 916 = .ok (.invokevirtual 87, 3) := dcs_at ok62_law_0_17 18 rfl
theorem dL_law_919 : decode cL_law 919 = .ok (.pop2, 1) := dcs_at ok62_law_0_17 19 rfl
theorem dL_law_920 : decode cL_law 920 = .ok (.aload_n 2, 1) := dcs_at ok62_law_0_17 20 rfl
theorem dL_law_921 : decode cL_law 921 = .ok (.aload_n 0, 1) := dcs_at ok62_law_0_17 21 rfl
theorem dL_law_922 : decode cL_law 922 = .ok (.iload_n 3, 1) := dcs_at ok62_law_0_17 22 rfl
theorem dL_law_923 : decode cL_law 923 = .ok (.iconst 1, 1) := dcs_at ok62_law_0_17 23 rfl
theorem dL_law_924 : decode cL_law 924 = .ok (.iadd, 1) := dcs_at ok62_law_0_17 24 rfl
theorem dL_law_925 : decode cL_law 925 = .ok (.iaload, 1) := dcs_at ok62_law_0_17 25 rfl
theorem dL_law_926 : decode cL_law 926 = .ok (.aload_n 0, 1) := dcs_at ok62_law_0_17 26 rfl
theorem dL_law_927 : decode cL_law 927 = .ok (.iload_n 3, 1) := dcs_at ok62_law_0_17 27 rfl
theorem dL_law_928 : decode cL_law 928 = .ok (.iconst 2, 1) := dcs_at ok62_law_0_17 28 rfl
theorem dL_law_929 : decode cL_law 929 = .ok (.iadd, 1) := dcs_at ok62_law_0_17 29 rfl
theorem dL_law_930 : decode cL_law 930 = .ok (.iaload, 1) := dcs_at ok62_law_0_17 30 rfl
theorem dL_law_931 : decode cL_law 931 = .ok (.invokevirtual 91, 3) := dcs_at ok62_law_0_17 31 rfl
theorem dL_law_934 : decode cL_law 934 = .ok (.pop2, 1) := dcs_at ok62_law_0_17 32 rfl
theorem dL_law_935 : decode cL_law 935 = .ok (.goto 306, 3) := dcs_at ok62_law_0_17 33 rfl
theorem dL_law_938 : decode cL_law 938 = .ok (.aload_n 1, 1) := dcs_at ok62_law_0_17 34 rfl
theorem dL_law_939 : decode cL_law 939 = .ok (.aload_n 0, 1) := dcs_at ok62_law_0_17 35 rfl
theorem dL_law_940 : decode cL_law 940 = .ok (.iload_n 3, 1) := dcs_at ok62_law_0_17 36 rfl
theorem dL_law_941 : decode cL_law 941 = .ok (.iconst 1, 1) := dcs_at ok62_law_0_17 37 rfl
theorem dL_law_942 : decode cL_law 942 = .ok (.iadd, 1) := dcs_at ok62_law_0_17 38 rfl
theorem dL_law_943 : decode cL_law 943 = .ok (.iaload, 1) := dcs_at ok62_law_0_17 39 rfl
def tb62_law_0_18 : List (Nat × (Instr × Nat)) := [(944, (.aload_n 0, 1)), (945, (.iload_n 3, 1)), (946, (.iconst 2, 1)), (947, (.iadd, 1)), (948, (.iaload, 1)), (949, (.aload_n 0, 1)), (950, (.iload_n 3, 1)), (951, (.iconst 3, 1)), (952, (.iadd, 1)), (953, (.iaload, 1)), (954, (.aload_n 0, 1)), (955, (.iload_n 3, 1)), (956, (.iconst 4, 1)), (957, (.iadd, 1)), (958, (.iaload, 1)), (959, (.ifCond .eq 7, 3)), (962, (.iconst 1, 1)), (963, (.goto 4, 3)), (966, (.iconst 0, 1)), (967, (.invokevirtual 92, 3)), (970, (.aload_n 2, 1)), (971, (.aload_n 0, 1)), (972, (.iload_n 3, 1)), (973, (.iconst 1, 1)), (974, (.iadd, 1)), (975, (.iaload, 1)), (976, (.aload_n 0, 1)), (977, (.iload_n 3, 1)), (978, (.iconst 2, 1)), (979, (.iadd, 1)), (980, (.iaload, 1)), (981, (.aload_n 0, 1)), (982, (.iload_n 3, 1)), (983, (.iconst 3, 1)), (984, (.iadd, 1)), (985, (.iaload, 1)), (986, (.aload_n 0, 1)), (987, (.iload_n 3, 1)), (988, (.iconst 4, 1)), (989, (.iadd, 1))]
theorem ok62_law_0_18 : dcs cL_law tb62_law_0_18 = true := by decide +kernel
theorem dL_law_944 : decode cL_law 944 = .ok (.aload_n 0, 1) := dcs_at ok62_law_0_18 0 rfl
theorem dL_law_945 : decode cL_law 945 = .ok (.iload_n 3, 1) := dcs_at ok62_law_0_18 1 rfl
theorem dL_law_946 : decode cL_law 946 = .ok (.iconst 2, 1) := dcs_at ok62_law_0_18 2 rfl
theorem dL_law_947 : decode cL_law 947 = .ok (.iadd, 1) := dcs_at ok62_law_0_18 3 rfl
theorem dL_law_948 : decode cL_law 948 = .ok (.iaload, 1) := dcs_at ok62_law_0_18 4 rfl
theorem dL_law_949 : decode cL_law 949 = .ok (.aload_n 0, 1) := dcs_at ok62_law_0_18 5 rfl
theorem dL_law_950 : decode cL_law 950 = .ok (.iload_n 3, 1) := dcs_at ok62_law_0_18 6 rfl
theorem dL_law_951 : decode cL_law 951 = .ok (.iconst 3, 1) := dcs_at ok62_law_0_18 7 rfl
theorem dL_law_952 : decode cL_law 952 = .ok (.iadd, 1) := dcs_at ok62_law_0_18 8 rfl
theorem dL_law_953 : decode cL_law 953 = .ok (.iaload, 1) := dcs_at ok62_law_0_18 9 rfl
theorem dL_law_954 : decode cL_law 954 = .ok (.aload_n 0, 1) := dcs_at ok62_law_0_18 10 rfl
theorem dL_law_955 : decode cL_law 955 = .ok (.iload_n 3, 1) := dcs_at ok62_law_0_18 11 rfl
theorem dL_law_956 : decode cL_law 956 = .ok (.iconst 4, 1) := dcs_at ok62_law_0_18 12 rfl
theorem dL_law_957 : decode cL_law 957 = .ok (.iadd, 1) := dcs_at ok62_law_0_18 13 rfl
theorem dL_law_958 : decode cL_law 958 = .ok (.iaload, 1) := dcs_at ok62_law_0_18 14 rfl
theorem dL_law_959 : decode cL_law 959 = .ok (.ifCond .eq 7, 3) := dcs_at ok62_law_0_18 15 rfl
theorem dL_law_962 : decode cL_law 962 = .ok (.iconst 1, 1) := dcs_at ok62_law_0_18 16 rfl
theorem dL_law_963 : decode cL_law 963 = .ok (.goto 4, 3) := dcs_at ok62_law_0_18 17 rfl
theorem dL_law_966 : decode cL_law 966 = .ok (.iconst 0, 1) := dcs_at ok62_law_0_18 18 rfl
theorem dL_law_967 : decode cL_law 967 = .ok (.invokevirtual 92, 3) := dcs_at ok62_law_0_18 19 rfl
theorem dL_law_970 : decode cL_law 970 = .ok (.aload_n 2, 1) := dcs_at ok62_law_0_18 20 rfl
theorem dL_law_971 : decode cL_law 971 = .ok (.aload_n 0, 1) := dcs_at ok62_law_0_18 21 rfl
theorem dL_law_972 : decode cL_law 972 = .ok (.iload_n 3, 1) := dcs_at ok62_law_0_18 22 rfl
theorem dL_law_973 : decode cL_law 973 = .ok (.iconst 1, 1) := dcs_at ok62_law_0_18 23 rfl
theorem dL_law_974 : decode cL_law 974 = .ok (.iadd, 1) := dcs_at ok62_law_0_18 24 rfl
theorem dL_law_975 : decode cL_law 975 = .ok (.iaload, 1) := dcs_at ok62_law_0_18 25 rfl
theorem dL_law_976 : decode cL_law 976 = .ok (.aload_n 0, 1) := dcs_at ok62_law_0_18 26 rfl
theorem dL_law_977 : decode cL_law 977 = .ok (.iload_n 3, 1) := dcs_at ok62_law_0_18 27 rfl
theorem dL_law_978 : decode cL_law 978 = .ok (.iconst 2, 1) := dcs_at ok62_law_0_18 28 rfl
theorem dL_law_979 : decode cL_law 979 = .ok (.iadd, 1) := dcs_at ok62_law_0_18 29 rfl
theorem dL_law_980 : decode cL_law 980 = .ok (.iaload, 1) := dcs_at ok62_law_0_18 30 rfl
theorem dL_law_981 : decode cL_law 981 = .ok (.aload_n 0, 1) := dcs_at ok62_law_0_18 31 rfl
theorem dL_law_982 : decode cL_law 982 = .ok (.iload_n 3, 1) := dcs_at ok62_law_0_18 32 rfl
theorem dL_law_983 : decode cL_law 983 = .ok (.iconst 3, 1) := dcs_at ok62_law_0_18 33 rfl
theorem dL_law_984 : decode cL_law 984 = .ok (.iadd, 1) := dcs_at ok62_law_0_18 34 rfl
theorem dL_law_985 : decode cL_law 985 = .ok (.iaload, 1) := dcs_at ok62_law_0_18 35 rfl
theorem dL_law_986 : decode cL_law 986 = .ok (.aload_n 0, 1) := dcs_at ok62_law_0_18 36 rfl
theorem dL_law_987 : decode cL_law 987 = .ok (.iload_n 3, 1) := dcs_at ok62_law_0_18 37 rfl
theorem dL_law_988 : decode cL_law 988 = .ok (.iconst 4, 1) := dcs_at ok62_law_0_18 38 rfl
theorem dL_law_989 : decode cL_law 989 = .ok (.iadd, 1) := dcs_at ok62_law_0_18 39 rfl
def tb62_law_0_19 : List (Nat × (Instr × Nat)) := [(990, (.iaload, 1)), (991, (.ifCond .eq 7, 3)), (994, (.iconst 1, 1)), (995, (.goto 4, 3)), (998, (.iconst 0, 1)), (999, (.invokevirtual 95, 3)), (1002, (.if_icmp .eq 239, 3)), (1007, (.aload_n 1, 1)), (1008, (.aload_n 0, 1)), (1009, (.iload_n 3, 1)), (1010, (.iconst 1, 1)), (1011, (.iadd, 1)), (1012, (.iaload, 1)), (1013, (.aload_n 0, 1)), (1014, (.iload_n 3, 1)), (1015, (.iconst 2, 1)), (1016, (.iadd, 1)), (1017, (.iaload, 1)), (1018, (.aload_n 0, 1)), (1019, (.iload_n 3, 1)), (1020, (.iconst 3, 1)), (1021, (.iadd, 1)), (1022, (.iaload, 1)), (1023, (.aload_n 0, 1)), (1024, (.iload_n 3, 1)), (1025, (.iconst 4, 1)), (1026, (.iadd, 1)), (1027, (.iaload, 1)), (1028, (.invokevirtual 96, 3)), (1031, (.pop, 1)), (1032, (.aload_n 2, 1)), (1033, (.aload_n 0, 1)), (1034, (.iload_n 3, 1)), (1035, (.iconst 1, 1)), (1036, (.iadd, 1)), (1037, (.iaload, 1)), (1038, (.aload_n 0, 1)), (1039, (.iload_n 3, 1)), (1040, (.iconst 2, 1)), (1041, (.iadd, 1))]
theorem ok62_law_0_19 : dcs cL_law tb62_law_0_19 = true := by decide +kernel
theorem dL_law_990 : decode cL_law 990 = .ok (.iaload, 1) := dcs_at ok62_law_0_19 0 rfl
theorem dL_law_991 : decode cL_law 991 = .ok (.ifCond .eq 7, 3) := dcs_at ok62_law_0_19 1 rfl
theorem dL_law_994 : decode cL_law 994 = .ok (.iconst 1, 1) := dcs_at ok62_law_0_19 2 rfl
theorem dL_law_995 : decode cL_law 995 = .ok (.goto 4, 3) := dcs_at ok62_law_0_19 3 rfl
theorem dL_law_998 : decode cL_law 998 = .ok (.iconst 0, 1) := dcs_at ok62_law_0_19 4 rfl
theorem dL_law_999 : decode cL_law 999 = .ok (.invokevirtual 95, 3) := dcs_at ok62_law_0_19 5 rfl
theorem dL_law_1002 : decode cL_law 1002 = .ok (.if_icmp .eq 239, 3) := dcs_at ok62_law_0_19 6 rfl
theorem dL_law_1007 : decode cL_law 1007 = .ok (.aload_n 1, 1) := dcs_at ok62_law_0_19 7 rfl
theorem dL_law_1008 : decode cL_law 1008 = .ok (.aload_n 0, 1) := dcs_at ok62_law_0_19 8 rfl
theorem dL_law_1009 : decode cL_law 1009 = .ok (.iload_n 3, 1) := dcs_at ok62_law_0_19 9 rfl
theorem dL_law_1010 : decode cL_law 1010 = .ok (.iconst 1, 1) := dcs_at ok62_law_0_19 10 rfl
theorem dL_law_1011 : decode cL_law 1011 = .ok (.iadd, 1) := dcs_at ok62_law_0_19 11 rfl
theorem dL_law_1012 : decode cL_law 1012 = .ok (.iaload, 1) := dcs_at ok62_law_0_19 12 rfl
theorem dL_law_1013 : decode cL_law 1013 = .ok (.aload_n 0, 1) := dcs_at ok62_law_0_19 13 rfl
theorem dL_law_1014 : decode cL_law 1014 = .ok (.iload_n 3, 1) := dcs_at ok62_law_0_19 14 rfl
theorem dL_law_1015 : decode cL_law 1015 = .ok (.iconst 2, 1) := dcs_at ok62_law_0_19 15 rfl
theorem dL_law_1016 : decode cL_law 1016 = .ok (.iadd, 1) := dcs_at ok62_law_0_19 16 rfl
theorem dL_law_1017 : decode cL_law 1017 = .ok (.iaload, 1) := dcs_at ok62_law_0_19 17 rfl
theorem dL_law_1018 : decode cL_law 1018 = .ok (.aload_n 0, 1) := dcs_at ok62_law_0_19 18 rfl
theorem dL_law_1019 : decode cL_law 1019 = .ok (.iload_n 3, 1) := dcs_at ok62_law_0_19 19 rfl
theorem dL_law_1020 : decode cL_law 1020 = .ok (.iconst 3, 1) := dcs_at ok62_law_0_19 20 rfl
theorem dL_law_1021 : decode cL_law 1021 = .ok (.iadd, 1) := dcs_at ok62_law_0_19 21 rfl
theorem dL_law_1022 : decode cL_law 1022 = .ok (.iaload, 1) := dcs_at ok62_law_0_19 22 rfl
theorem dL_law_1023 : decode cL_law 1023 = .ok (.aload_n 0, 1) := dcs_at ok62_law_0_19 23 rfl
theorem dL_law_1024 : decode cL_law 1024 = .ok (.iload_n 3, 1) := dcs_at ok62_law_0_19 24 rfl
theorem dL_law_1025 : decode cL_law 1025 = .ok (.iconst 4, 1) := dcs_at ok62_law_0_19 25 rfl
theorem dL_law_1026 : decode cL_law 1026 = .ok (.iadd, 1) := dcs_at ok62_law_0_19 26 rfl
theorem dL_law_1027 : decode cL_law 1027 = .ok (.iaload, 1) := dcs_at ok62_law_0_19 27 rfl
theorem dL_law_1028 : decode cL_law 1028 = .ok (.invokevirtual 96, 3) := dcs_at ok62_law_0_19 28 rfl
theorem dL_law_1031 : decode cL_law 1031 = .ok (.pop, 1) := dcs_at ok62_law_0_19 29 rfl
theorem dL_law_1032 : decode cL_law 1032 = .ok (.aload_n 2, 1) := dcs_at ok62_law_0_19 30 rfl
theorem dL_law_1033 : decode cL_law 1033 = .ok (.aload_n 0, 1) := dcs_at ok62_law_0_19 31 rfl
theorem dL_law_1034 : decode cL_law 1034 = .ok (.iload_n 3, 1) := dcs_at ok62_law_0_19 32 rfl
theorem dL_law_1035 : decode cL_law 1035 = .ok (.iconst 1, 1) := dcs_at ok62_law_0_19 33 rfl
theorem dL_law_1036 : decode cL_law 1036 = .ok (.iadd, 1) := dcs_at ok62_law_0_19 34 rfl
theorem dL_law_1037 : decode cL_law 1037 = .ok (.iaload, 1) := dcs_at ok62_law_0_19 35 rfl
theorem dL_law_1038 : decode cL_law 1038 = .ok (.aload_n 0, 1) := dcs_at ok62_law_0_19 36 rfl
theorem dL_law_1039 : decode cL_law 1039 = .ok (.iload_n 3, 1) := dcs_at ok62_law_0_19 37 rfl
theorem dL_law_1040 : decode cL_law 1040 = .ok (.iconst 2, 1) := dcs_at ok62_law_0_19 38 rfl
theorem dL_law_1041 : decode cL_law 1041 = .ok (.iadd, 1) := dcs_at ok62_law_0_19 39 rfl
def tb62_law_0_20 : List (Nat × (Instr × Nat)) := [(1042, (.iaload, 1)), (1043, (.aload_n 0, 1)), (1044, (.iload_n 3, 1)), (1045, (.iconst 3, 1)), (1046, (.iadd, 1)), (1047, (.iaload, 1)), (1048, (.aload_n 0, 1)), (1049, (.iload_n 3, 1)), (1050, (.iconst 4, 1)), (1051, (.iadd, 1)), (1052, (.iaload, 1)), (1053, (.invokevirtual 99, 3)), (1056, (.pop, 1)), (1057, (.goto 184, 3)), (1060, (.aload_n 1, 1)), (1061, (.aload_n 0, 1)), (1062, (.iload_n 3, 1)), (1063, (.iconst 1, 1)), (1064, (.iadd, 1)), (1065, (.iaload, 1)), (1066, (.aload_n 0, 1)), (1067, (.iload_n 3, 1)), (1068, (.iconst 2, 1)), (1069, (.iadd, 1)), (1070, (.iaload, 1)), (1071, (.aload_n 0, 1)), (1072, (.iload_n 3, 1)), (1073, (.iconst 3, 1)), (1074, (.iadd, 1)), (1075, (.iaload, 1)), (1076, (.aload_n 0, 1)), (1077, (.iload_n 3, 1)), (1078, (.iconst 4, 1)), (1079, (.iadd, 1)), (1080, (.iaload, 1)), (1081, (.invokevirtual 100, 3)), (1084, (.pop, 1)), (1085, (.aload_n 2, 1)), (1086, (.aload_n 0, 1)), (1087, (.iload_n 3, 1))]
theorem ok62_law_0_20 : dcs cL_law tb62_law_0_20 = true := by decide +kernel
theorem dL_law_1042 : decode cL_law 1042 = .ok (.iaload, 1) := dcs_at ok62_law_0_20 0 rfl
theorem dL_law_1043 : decode cL_law 1043 = .ok (.aload_n 0, 1) := dcs_at ok62_law_0_20 1 rfl
theorem dL_law_1044 : decode cL_law 1044 = .ok (.iload_n 3, 1) := dcs_at ok62_law_0_20 2 rfl
theorem dL_law_1045 : decode cL_law 1045 = .ok (.iconst 3, 1) := dcs_at ok62_law_0_20 3 rfl
theorem dL_law_1046 : decode cL_law 1046 = .ok (.iadd, 1) := dcs_at ok62_law_0_20 4 rfl
theorem dL_law_1047 : decode cL_law 1047 = .ok (.iaload, 1) := dcs_at ok62_law_0_20 5 rfl
theorem dL_law_1048 : decode cL_law 1048 = .ok (.aload_n 0, 1) := dcs_at ok62_law_0_20 6 rfl
theorem dL_law_1049 : decode cL_law 1049 = .ok (.iload_n 3, 1) := dcs_at ok62_law_0_20 7 rfl
theorem dL_law_1050 : decode cL_law 1050 = .ok (.iconst 4, 1) := dcs_at ok62_law_0_20 8 rfl
theorem dL_law_1051 : decode cL_law 1051 = .ok (.iadd, 1) := dcs_at ok62_law_0_20 9 rfl
theorem dL_law_1052 : decode cL_law 1052 = .ok (.iaload, 1) := dcs_at ok62_law_0_20 10 rfl
theorem dL_law_1053 : decode cL_law 1053 = .ok (.invokevirtual 99, 3) := dcs_at ok62_law_0_20 11 rfl
theorem dL_law_1056 : decode cL_law 1056 = .ok (.pop, 1) := dcs_at ok62_law_0_20 12 rfl
theorem dL_law_1057 : decode cL_law 1057 = .ok (.goto 184, 3) := dcs_at ok62_law_0_20 13 rfl
theorem dL_law_1060 : decode cL_law 1060 = .ok (.aload_n 1, 1) := dcs_at ok62_law_0_20 14 rfl
theorem dL_law_1061 : decode cL_law 1061 = .ok (.aload_n 0, 1) := dcs_at ok62_law_0_20 15 rfl
theorem dL_law_1062 : decode cL_law 1062 = .ok (.iload_n 3, 1) := dcs_at ok62_law_0_20 16 rfl
theorem dL_law_1063 : decode cL_law 1063 = .ok (.iconst 1, 1) := dcs_at ok62_law_0_20 17 rfl
theorem dL_law_1064 : decode cL_law 1064 = .ok (.iadd, 1) := dcs_at ok62_law_0_20 18 rfl
theorem dL_law_1065 : decode cL_law 1065 = .ok (.iaload, 1) := dcs_at ok62_law_0_20 19 rfl
theorem dL_law_1066 : decode cL_law 1066 = .ok (.aload_n 0, 1) := dcs_at ok62_law_0_20 20 rfl
theorem dL_law_1067 : decode cL_law 1067 = .ok (.iload_n 3, 1) := dcs_at ok62_law_0_20 21 rfl
theorem dL_law_1068 : decode cL_law 1068 = .ok (.iconst 2, 1) := dcs_at ok62_law_0_20 22 rfl
theorem dL_law_1069 : decode cL_law 1069 = .ok (.iadd, 1) := dcs_at ok62_law_0_20 23 rfl
theorem dL_law_1070 : decode cL_law 1070 = .ok (.iaload, 1) := dcs_at ok62_law_0_20 24 rfl
theorem dL_law_1071 : decode cL_law 1071 = .ok (.aload_n 0, 1) := dcs_at ok62_law_0_20 25 rfl
theorem dL_law_1072 : decode cL_law 1072 = .ok (.iload_n 3, 1) := dcs_at ok62_law_0_20 26 rfl
theorem dL_law_1073 : decode cL_law 1073 = .ok (.iconst 3, 1) := dcs_at ok62_law_0_20 27 rfl
theorem dL_law_1074 : decode cL_law 1074 = .ok (.iadd, 1) := dcs_at ok62_law_0_20 28 rfl
theorem dL_law_1075 : decode cL_law 1075 = .ok (.iaload, 1) := dcs_at ok62_law_0_20 29 rfl
theorem dL_law_1076 : decode cL_law 1076 = .ok (.aload_n 0, 1) := dcs_at ok62_law_0_20 30 rfl
theorem dL_law_1077 : decode cL_law 1077 = .ok (.iload_n 3, 1) := dcs_at ok62_law_0_20 31 rfl
theorem dL_law_1078 : decode cL_law 1078 = .ok (.iconst 4, 1) := dcs_at ok62_law_0_20 32 rfl
theorem dL_law_1079 : decode cL_law 1079 = .ok (.iadd, 1) := dcs_at ok62_law_0_20 33 rfl
theorem dL_law_1080 : decode cL_law 1080 = .ok (.iaload, 1) := dcs_at ok62_law_0_20 34 rfl
theorem dL_law_1081 : decode cL_law 1081 = .ok (.invokevirtual 100, 3) := dcs_at ok62_law_0_20 35 rfl
theorem dL_law_1084 : decode cL_law 1084 = .ok (.pop, 1) := dcs_at ok62_law_0_20 36 rfl
theorem dL_law_1085 : decode cL_law 1085 = .ok (.aload_n 2, 1) := dcs_at ok62_law_0_20 37 rfl
theorem dL_law_1086 : decode cL_law 1086 = .ok (.aload_n 0, 1) := dcs_at ok62_law_0_20 38 rfl
theorem dL_law_1087 : decode cL_law 1087 = .ok (.iload_n 3, 1) := dcs_at ok62_law_0_20 39 rfl
def tb62_law_0_21 : List (Nat × (Instr × Nat)) := [(1088, (.iconst 1, 1)), (1089, (.iadd, 1)), (1090, (.iaload, 1)), (1091, (.aload_n 0, 1)), (1092, (.iload_n 3, 1)), (1093, (.iconst 2, 1)), (1094, (.iadd, 1)), (1095, (.iaload, 1)), (1096, (.aload_n 0, 1)), (1097, (.iload_n 3, 1)), (1098, (.iconst 3, 1)), (1099, (.iadd, 1)), (1100, (.iaload, 1)), (1101, (.aload_n 0, 1)), (1102, (.iload_n 3, 1)), (1103, (.iconst 4, 1)), (1104, (.iadd, 1)), (1105, (.iaload, 1)), (1106, (.invokevirtual 103, 3)), (1109, (.pop, 1)), (1110, (.goto 131, 3)), (1113, (.aload_n 1, 1)), (1114, (.aload_n 0, 1)), (1115, (.iload_n 3, 1)), (1116, (.iconst 1, 1)), (1117, (.iadd, 1)), (1118, (.iaload, 1)), (1119, (.aload_n 0, 1)), (1120, (.iload_n 3, 1)), (1121, (.iconst 2, 1)), (1122, (.iadd, 1)), (1123, (.iaload, 1)), (1124, (.aload_n 0, 1)), (1125, (.iload_n 3, 1)), (1126, (.iconst 3, 1)), (1127, (.iadd, 1)), (1128, (.iaload, 1)), (1129, (.ifCond .eq 7, 3)), (1132, (.iconst 1, 1)), (1133, (.goto 4, 3))]
theorem ok62_law_0_21 : dcs cL_law tb62_law_0_21 = true := by decide +kernel
theorem dL_law_1088 : decode cL_law 1088 = .ok (.iconst 1, 1) := dcs_at ok62_law_0_21 0 rfl
theorem dL_law_1089 : decode cL_law 1089 = .ok (.iadd, 1) := dcs_at ok62_law_0_21 1 rfl
theorem dL_law_1090 : decode cL_law 1090 = .ok (.iaload, 1) := dcs_at ok62_law_0_21 2 rfl
theorem dL_law_1091 : decode cL_law 1091 = .ok (.aload_n 0, 1) := dcs_at ok62_law_0_21 3 rfl
theorem dL_law_1092 : decode cL_law 1092 = .ok (.iload_n 3, 1) := dcs_at ok62_law_0_21 4 rfl
theorem dL_law_1093 : decode cL_law 1093 = .ok (.iconst 2, 1) := dcs_at ok62_law_0_21 5 rfl
theorem dL_law_1094 : decode cL_law 1094 = .ok (.iadd, 1) := dcs_at ok62_law_0_21 6 rfl
theorem dL_law_1095 : decode cL_law 1095 = .ok (.iaload, 1) := dcs_at ok62_law_0_21 7 rfl
theorem dL_law_1096 : decode cL_law 1096 = .ok (.aload_n 0, 1) := dcs_at ok62_law_0_21 8 rfl
theorem dL_law_1097 : decode cL_law 1097 = .ok (.iload_n 3, 1) := dcs_at ok62_law_0_21 9 rfl
theorem dL_law_1098 : decode cL_law 1098 = .ok (.iconst 3, 1) := dcs_at ok62_law_0_21 10 rfl
theorem dL_law_1099 : decode cL_law 1099 = .ok (.iadd, 1) := dcs_at ok62_law_0_21 11 rfl
theorem dL_law_1100 : decode cL_law 1100 = .ok (.iaload, 1) := dcs_at ok62_law_0_21 12 rfl
theorem dL_law_1101 : decode cL_law 1101 = .ok (.aload_n 0, 1) := dcs_at ok62_law_0_21 13 rfl
theorem dL_law_1102 : decode cL_law 1102 = .ok (.iload_n 3, 1) := dcs_at ok62_law_0_21 14 rfl
theorem dL_law_1103 : decode cL_law 1103 = .ok (.iconst 4, 1) := dcs_at ok62_law_0_21 15 rfl
theorem dL_law_1104 : decode cL_law 1104 = .ok (.iadd, 1) := dcs_at ok62_law_0_21 16 rfl
theorem dL_law_1105 : decode cL_law 1105 = .ok (.iaload, 1) := dcs_at ok62_law_0_21 17 rfl
theorem dL_law_1106 : decode cL_law 1106 = .ok (.invokevirtual 103, 3) := dcs_at ok62_law_0_21 18 rfl
theorem dL_law_1109 : decode cL_law 1109 = .ok (.pop, 1) := dcs_at ok62_law_0_21 19 rfl
theorem dL_law_1110 : decode cL_law 1110 = .ok (.goto 131, 3) := dcs_at ok62_law_0_21 20 rfl
theorem dL_law_1113 : decode cL_law 1113 = .ok (.aload_n 1, 1) := dcs_at ok62_law_0_21 21 rfl
theorem dL_law_1114 : decode cL_law 1114 = .ok (.aload_n 0, 1) := dcs_at ok62_law_0_21 22 rfl
theorem dL_law_1115 : decode cL_law 1115 = .ok (.iload_n 3, 1) := dcs_at ok62_law_0_21 23 rfl
theorem dL_law_1116 : decode cL_law 1116 = .ok (.iconst 1, 1) := dcs_at ok62_law_0_21 24 rfl
theorem dL_law_1117 : decode cL_law 1117 = .ok (.iadd, 1) := dcs_at ok62_law_0_21 25 rfl
theorem dL_law_1118 : decode cL_law 1118 = .ok (.iaload, 1) := dcs_at ok62_law_0_21 26 rfl
theorem dL_law_1119 : decode cL_law 1119 = .ok (.aload_n 0, 1) := dcs_at ok62_law_0_21 27 rfl
theorem dL_law_1120 : decode cL_law 1120 = .ok (.iload_n 3, 1) := dcs_at ok62_law_0_21 28 rfl
theorem dL_law_1121 : decode cL_law 1121 = .ok (.iconst 2, 1) := dcs_at ok62_law_0_21 29 rfl
theorem dL_law_1122 : decode cL_law 1122 = .ok (.iadd, 1) := dcs_at ok62_law_0_21 30 rfl
theorem dL_law_1123 : decode cL_law 1123 = .ok (.iaload, 1) := dcs_at ok62_law_0_21 31 rfl
theorem dL_law_1124 : decode cL_law 1124 = .ok (.aload_n 0, 1) := dcs_at ok62_law_0_21 32 rfl
theorem dL_law_1125 : decode cL_law 1125 = .ok (.iload_n 3, 1) := dcs_at ok62_law_0_21 33 rfl
theorem dL_law_1126 : decode cL_law 1126 = .ok (.iconst 3, 1) := dcs_at ok62_law_0_21 34 rfl
theorem dL_law_1127 : decode cL_law 1127 = .ok (.iadd, 1) := dcs_at ok62_law_0_21 35 rfl
theorem dL_law_1128 : decode cL_law 1128 = .ok (.iaload, 1) := dcs_at ok62_law_0_21 36 rfl
theorem dL_law_1129 : decode cL_law 1129 = .ok (.ifCond .eq 7, 3) := dcs_at ok62_law_0_21 37 rfl
theorem dL_law_1132 : decode cL_law 1132 = .ok (.iconst 1, 1) := dcs_at ok62_law_0_21 38 rfl
theorem dL_law_1133 : decode cL_law 1133 = .ok (.goto 4, 3) := dcs_at ok62_law_0_21 39 rfl
def tb62_law_0_22 : List (Nat × (Instr × Nat)) := [(1136, (.iconst 0, 1)), (1137, (.invokevirtual 104, 3)), (1140, (.pop, 1)), (1141, (.aload_n 2, 1)), (1142, (.aload_n 0, 1)), (1143, (.iload_n 3, 1)), (1144, (.iconst 1, 1)), (1145, (.iadd, 1)), (1146, (.iaload, 1)), (1147, (.aload_n 0, 1)), (1148, (.iload_n 3, 1)), (1149, (.iconst 2, 1)), (1150, (.iadd, 1)), (1151, (.iaload, 1)), (1152, (.aload_n 0, 1)), (1153, (.iload_n 3, 1)), (1154, (.iconst 3, 1)), (1155, (.iadd, 1)), (1156, (.iaload, 1)), (1157, (.ifCond .eq 7, 3)), (1160, (.iconst 1, 1)), (1161, (.goto 4, 3)), (1164, (.iconst 0, 1)), (1165, (.invokevirtual 108, 3)), (1168, (.pop, 1)), (1169, (.goto 72, 3)), (1172, (.aload_n 1, 1)), (1173, (.aload_n 0, 1)), (1174, (.iload_n 3, 1)), (1175, (.iconst 1, 1)), (1176, (.iadd, 1)), (1177, (.iaload, 1)), (1178, (.invokevirtual 109, 3)), (1181, (.pop, 1)), (1182, (.aload_n 2, 1)), (1183, (.aload_n 0, 1)), (1184, (.iload_n 3, 1)), (1185, (.iconst 1, 1)), (1186, (.iadd, 1)), (1187, (.iaload, 1))]
theorem ok62_law_0_22 : dcs cL_law tb62_law_0_22 = true := by decide +kernel
theorem dL_law_1136 : decode cL_law 1136 = .ok (.iconst 0, 1) := dcs_at ok62_law_0_22 0 rfl
theorem dL_law_1137 : decode cL_law 1137 = .ok (.invokevirtual 104, 3) := dcs_at ok62_law_0_22 1 rfl
theorem dL_law_1140 : decode cL_law 1140 = .ok (.pop, 1) := dcs_at ok62_law_0_22 2 rfl
theorem dL_law_1141 : decode cL_law 1141 = .ok (.aload_n 2, 1) := dcs_at ok62_law_0_22 3 rfl
theorem dL_law_1142 : decode cL_law 1142 = .ok (.aload_n 0, 1) := dcs_at ok62_law_0_22 4 rfl
theorem dL_law_1143 : decode cL_law 1143 = .ok (.iload_n 3, 1) := dcs_at ok62_law_0_22 5 rfl
theorem dL_law_1144 : decode cL_law 1144 = .ok (.iconst 1, 1) := dcs_at ok62_law_0_22 6 rfl
theorem dL_law_1145 : decode cL_law 1145 = .ok (.iadd, 1) := dcs_at ok62_law_0_22 7 rfl
theorem dL_law_1146 : decode cL_law 1146 = .ok (.iaload, 1) := dcs_at ok62_law_0_22 8 rfl
theorem dL_law_1147 : decode cL_law 1147 = .ok (.aload_n 0, 1) := dcs_at ok62_law_0_22 9 rfl
theorem dL_law_1148 : decode cL_law 1148 = .ok (.iload_n 3, 1) := dcs_at ok62_law_0_22 10 rfl
theorem dL_law_1149 : decode cL_law 1149 = .ok (.iconst 2, 1) := dcs_at ok62_law_0_22 11 rfl
theorem dL_law_1150 : decode cL_law 1150 = .ok (.iadd, 1) := dcs_at ok62_law_0_22 12 rfl
theorem dL_law_1151 : decode cL_law 1151 = .ok (.iaload, 1) := dcs_at ok62_law_0_22 13 rfl
theorem dL_law_1152 : decode cL_law 1152 = .ok (.aload_n 0, 1) := dcs_at ok62_law_0_22 14 rfl
theorem dL_law_1153 : decode cL_law 1153 = .ok (.iload_n 3, 1) := dcs_at ok62_law_0_22 15 rfl
theorem dL_law_1154 : decode cL_law 1154 = .ok (.iconst 3, 1) := dcs_at ok62_law_0_22 16 rfl
theorem dL_law_1155 : decode cL_law 1155 = .ok (.iadd, 1) := dcs_at ok62_law_0_22 17 rfl
theorem dL_law_1156 : decode cL_law 1156 = .ok (.iaload, 1) := dcs_at ok62_law_0_22 18 rfl
theorem dL_law_1157 : decode cL_law 1157 = .ok (.ifCond .eq 7, 3) := dcs_at ok62_law_0_22 19 rfl
theorem dL_law_1160 : decode cL_law 1160 = .ok (.iconst 1, 1) := dcs_at ok62_law_0_22 20 rfl
theorem dL_law_1161 : decode cL_law 1161 = .ok (.goto 4, 3) := dcs_at ok62_law_0_22 21 rfl
theorem dL_law_1164 : decode cL_law 1164 = .ok (.iconst 0, 1) := dcs_at ok62_law_0_22 22 rfl
theorem dL_law_1165 : decode cL_law 1165 = .ok (.invokevirtual 108, 3) := dcs_at ok62_law_0_22 23 rfl
theorem dL_law_1168 : decode cL_law 1168 = .ok (.pop, 1) := dcs_at ok62_law_0_22 24 rfl
theorem dL_law_1169 : decode cL_law 1169 = .ok (.goto 72, 3) := dcs_at ok62_law_0_22 25 rfl
theorem dL_law_1172 : decode cL_law 1172 = .ok (.aload_n 1, 1) := dcs_at ok62_law_0_22 26 rfl
theorem dL_law_1173 : decode cL_law 1173 = .ok (.aload_n 0, 1) := dcs_at ok62_law_0_22 27 rfl
theorem dL_law_1174 : decode cL_law 1174 = .ok (.iload_n 3, 1) := dcs_at ok62_law_0_22 28 rfl
theorem dL_law_1175 : decode cL_law 1175 = .ok (.iconst 1, 1) := dcs_at ok62_law_0_22 29 rfl
theorem dL_law_1176 : decode cL_law 1176 = .ok (.iadd, 1) := dcs_at ok62_law_0_22 30 rfl
theorem dL_law_1177 : decode cL_law 1177 = .ok (.iaload, 1) := dcs_at ok62_law_0_22 31 rfl
theorem dL_law_1178 : decode cL_law 1178 = .ok (.invokevirtual 109, 3) := dcs_at ok62_law_0_22 32 rfl
theorem dL_law_1181 : decode cL_law 1181 = .ok (.pop, 1) := dcs_at ok62_law_0_22 33 rfl
theorem dL_law_1182 : decode cL_law 1182 = .ok (.aload_n 2, 1) := dcs_at ok62_law_0_22 34 rfl
theorem dL_law_1183 : decode cL_law 1183 = .ok (.aload_n 0, 1) := dcs_at ok62_law_0_22 35 rfl
theorem dL_law_1184 : decode cL_law 1184 = .ok (.iload_n 3, 1) := dcs_at ok62_law_0_22 36 rfl
theorem dL_law_1185 : decode cL_law 1185 = .ok (.iconst 1, 1) := dcs_at ok62_law_0_22 37 rfl
theorem dL_law_1186 : decode cL_law 1186 = .ok (.iadd, 1) := dcs_at ok62_law_0_22 38 rfl
theorem dL_law_1187 : decode cL_law 1187 = .ok (.iaload, 1) := dcs_at ok62_law_0_22 39 rfl
def tb62_law_0_23 : List (Nat × (Instr × Nat)) := [(1188, (.invokevirtual 112, 3)), (1191, (.pop, 1)), (1192, (.goto 49, 3)), (1195, (.aload_n 1, 1)), (1196, (.aload_n 0, 1)), (1197, (.iload_n 3, 1)), (1198, (.iconst 1, 1)), (1199, (.iadd, 1)), (1200, (.iaload, 1)), (1201, (.invokevirtual 113, 3)), (1204, (.pop, 1)), (1205, (.aload_n 2, 1)), (1206, (.aload_n 0, 1)), (1207, (.iload_n 3, 1)), (1208, (.iconst 1, 1)), (1209, (.iadd, 1)), (1210, (.iaload, 1)), (1211, (.invokevirtual 117, 3)), (1214, (.pop, 1)), (1215, (.goto 26, 3)), (1218, (.aload_n 1, 1)), (1219, (.aload_n 0, 1)), (1220, (.iload_n 3, 1)), (1221, (.iconst 1, 1)), (1222, (.iadd, 1)), (1223, (.iaload, 1)), (1224, (.invokevirtual 118, 3)), (1227, (.pop, 1)), (1228, (.aload_n 2, 1)), (1229, (.aload_n 0, 1)), (1230, (.iload_n 3, 1)), (1231, (.iconst 1, 1)), (1232, (.iadd, 1)), (1233, (.iaload, 1)), (1234, (.invokevirtual 121, 3)), (1237, (.pop, 1)), (1238, (.goto 3, 3))]
theorem ok62_law_0_23 : dcs cL_law tb62_law_0_23 = true := by decide +kernel
theorem dL_law_1188 : decode cL_law 1188 = .ok (.invokevirtual 112, 3) := dcs_at ok62_law_0_23 0 rfl
theorem dL_law_1191 : decode cL_law 1191 = .ok (.pop, 1) := dcs_at ok62_law_0_23 1 rfl
theorem dL_law_1192 : decode cL_law 1192 = .ok (.goto 49, 3) := dcs_at ok62_law_0_23 2 rfl
theorem dL_law_1195 : decode cL_law 1195 = .ok (.aload_n 1, 1) := dcs_at ok62_law_0_23 3 rfl
theorem dL_law_1196 : decode cL_law 1196 = .ok (.aload_n 0, 1) := dcs_at ok62_law_0_23 4 rfl
theorem dL_law_1197 : decode cL_law 1197 = .ok (.iload_n 3, 1) := dcs_at ok62_law_0_23 5 rfl
theorem dL_law_1198 : decode cL_law 1198 = .ok (.iconst 1, 1) := dcs_at ok62_law_0_23 6 rfl
theorem dL_law_1199 : decode cL_law 1199 = .ok (.iadd, 1) := dcs_at ok62_law_0_23 7 rfl
theorem dL_law_1200 : decode cL_law 1200 = .ok (.iaload, 1) := dcs_at ok62_law_0_23 8 rfl
theorem dL_law_1201 : decode cL_law 1201 = .ok (.invokevirtual 113, 3) := dcs_at ok62_law_0_23 9 rfl
theorem dL_law_1204 : decode cL_law 1204 = .ok (.pop, 1) := dcs_at ok62_law_0_23 10 rfl
theorem dL_law_1205 : decode cL_law 1205 = .ok (.aload_n 2, 1) := dcs_at ok62_law_0_23 11 rfl
theorem dL_law_1206 : decode cL_law 1206 = .ok (.aload_n 0, 1) := dcs_at ok62_law_0_23 12 rfl
theorem dL_law_1207 : decode cL_law 1207 = .ok (.iload_n 3, 1) := dcs_at ok62_law_0_23 13 rfl
theorem dL_law_1208 : decode cL_law 1208 = .ok (.iconst 1, 1) := dcs_at ok62_law_0_23 14 rfl
theorem dL_law_1209 : decode cL_law 1209 = .ok (.iadd, 1) := dcs_at ok62_law_0_23 15 rfl
theorem dL_law_1210 : decode cL_law 1210 = .ok (.iaload, 1) := dcs_at ok62_law_0_23 16 rfl
theorem dL_law_1211 : decode cL_law 1211 = .ok (.invokevirtual 117, 3) := dcs_at ok62_law_0_23 17 rfl
theorem dL_law_1214 : decode cL_law 1214 = .ok (.pop, 1) := dcs_at ok62_law_0_23 18 rfl
theorem dL_law_1215 : decode cL_law 1215 = .ok (.goto 26, 3) := dcs_at ok62_law_0_23 19 rfl
theorem dL_law_1218 : decode cL_law 1218 = .ok (.aload_n 1, 1) := dcs_at ok62_law_0_23 20 rfl
theorem dL_law_1219 : decode cL_law 1219 = .ok (.aload_n 0, 1) := dcs_at ok62_law_0_23 21 rfl
theorem dL_law_1220 : decode cL_law 1220 = .ok (.iload_n 3, 1) := dcs_at ok62_law_0_23 22 rfl
theorem dL_law_1221 : decode cL_law 1221 = .ok (.iconst 1, 1) := dcs_at ok62_law_0_23 23 rfl
theorem dL_law_1222 : decode cL_law 1222 = .ok (.iadd, 1) := dcs_at ok62_law_0_23 24 rfl
theorem dL_law_1223 : decode cL_law 1223 = .ok (.iaload, 1) := dcs_at ok62_law_0_23 25 rfl
theorem dL_law_1224 : decode cL_law 1224 = .ok (.invokevirtual 118, 3) := dcs_at ok62_law_0_23 26 rfl
theorem dL_law_1227 : decode cL_law 1227 = .ok (.pop, 1) := dcs_at ok62_law_0_23 27 rfl
theorem dL_law_1228 : decode cL_law 1228 = .ok (.aload_n 2, 1) := dcs_at ok62_law_0_23 28 rfl
theorem dL_law_1229 : decode cL_law 1229 = .ok (.aload_n 0, 1) := dcs_at ok62_law_0_23 29 rfl
theorem dL_law_1230 : decode cL_law 1230 = .ok (.iload_n 3, 1) := dcs_at ok62_law_0_23 30 rfl
theorem dL_law_1231 : decode cL_law 1231 = .ok (.iconst 1, 1) := dcs_at ok62_law_0_23 31 rfl
theorem dL_law_1232 : decode cL_law 1232 = .ok (.iadd, 1) := dcs_at ok62_law_0_23 32 rfl
theorem dL_law_1233 : decode cL_law 1233 = .ok (.iaload, 1) := dcs_at ok62_law_0_23 33 rfl
theorem dL_law_1234 : decode cL_law 1234 = .ok (.invokevirtual 121, 3) := dcs_at ok62_law_0_23 34 rfl
theorem dL_law_1237 : decode cL_law 1237 = .ok (.pop, 1) := dcs_at ok62_law_0_23 35 rfl
theorem dL_law_1238 : decode cL_law 1238 = .ok (.goto 3, 3) := dcs_at ok62_law_0_23 36 rfl
