def tb24_read_0_1 : List (Nat × (Instr × Nat)) := [(0, (.aload_n 0, 1)), (1, (.getfield 100, 3)), (4, (.aload_n 0, 1)), (5, (.getfield 103, 3)), (8, (.if_icmp .ge 19, 3)), (11, (.aload_n 0, 1)), (12, (.getfield 7, 3)), (15, (.aload_n 0, 1)), (16, (.getfield 100, 3)), (19, (.baload, 1)), (20, (.sipush 255, 3)), (23, (.iand, 1)), (24, (.goto 4, 3)), (27, (.iconst (-1), 1)), (28, (.ireturn, 1))]
theorem ok24_read_0_1 : dcs cX10_see tb24_read_0_1 = true := by decide +kernel
theorem dX10_see_0 : decode cX10_see 0 = .ok (.aload_n 0, 1) := dcs_at ok24_read_0_1 0 rfl
theorem dX10_see_1 : decode cX10_see 1 = .ok (.getfield 100, 3) := dcs_at ok24_read_0_1 1 rfl
theorem dX10_see_4 : decode cX10_see 4 = .ok (.aload_n 0, 1) := dcs_at ok24_read_0_1 2 rfl
theorem dX10_see_5 : decode cX10_see 5 = .ok (.getfield 103, 3) := dcs_at ok24_read_0_1 3 rfl
theorem dX10_see_8 : decode cX10_see 8 = .ok (.if_icmp .ge 19, 3) := dcs_at ok24_read_0_1 4 rfl
theorem dX10_see_11 : decode cX10_see 11 = .ok (.aload_n 0, 1) := dcs_at ok24_read_0_1 5 rfl
theorem dX10_see_12 : decode cX10_see 12 = .ok (.getfield 7, 3) := dcs_at ok24_read_0_1 6 rfl
theorem dX10_see_15 : decode cX10_see 15 = .ok (.aload_n 0, 1) := dcs_at ok24_read_0_1 7 rfl
theorem dX10_see_16 : decode cX10_see 16 = .ok (.getfield 100, 3) := dcs_at ok24_read_0_1 8 rfl
theorem dX10_see_19 : decode cX10_see 19 = .ok (.baload, 1) := dcs_at ok24_read_0_1 9 rfl
theorem dX10_see_20 : decode cX10_see 20 = .ok (.sipush 255, 3) := dcs_at ok24_read_0_1 10 rfl
theorem dX10_see_23 : decode cX10_see 23 = .ok (.iand, 1) := dcs_at ok24_read_0_1 11 rfl
theorem dX10_see_24 : decode cX10_see 24 = .ok (.goto 4, 3) := dcs_at ok24_read_0_1 12 rfl
theorem dX10_see_27 : decode cX10_see 27 = .ok (.iconst (-1), 1) := dcs_at ok24_read_0_1 13 rfl
theorem dX10_see_28 : decode cX10_see 28 = .ok (.ireturn, 1) := dcs_at ok24_read_0_1 14 rfl
def tb24_read_0_2 : List (Nat × (Instr × Nat)) := [(0, (.aload_n 0, 1)), (1, (.invokevirtual 106, 3)), (4, (.bipush 10, 2)), (6, (.if_icmp .eq 12, 3)), (9, (.aload_n 0, 1)), (10, (.invokevirtual 106, 3)), (13, (.bipush 32, 2)), (15, (.if_icmp .ne 16, 3)), (18, (.aload_n 0, 1)), (19, (.dup, 1)), (20, (.getfield 100, 3)), (23, (.iconst 1, 1)), (24, (.iadd, 1)), (25, (.putfield 100, 3)), (28, (.goto (-28), 3)), (31, (.aload_n 0, 1)), (32, (.aload_n 0, 1)), (33, (.getfield 100, 3)), (36, (.putfield 110, 3)), (39, (.aload_n 0, 1)), (40, (.invokevirtual 106, 3)), (43, (.istore_n 1, 1)), (44, (.aload_n 0, 1)), (45, (.lconst 0, 1)), (46, (.putfield 113, 3)), (49, (.iconst 0, 1)), (50, (.istore_n 2, 1)), (51, (.iload_n 1, 1)), (52, (.ifCond .ge 11, 3)), (55, (.aload_n 0, 1)), (56, (.iconst 0, 1)), (57, (.putfield 117, 3)), (60, (.goto 206, 3)), (63, (.iload_n 1, 1)), (64, (.bipush 97, 2)), (66, (.bipush 122, 2)), (68, (.invokestatic 92, 3)), (71, (.ifCond .eq 76, 3)), (74, (.aload_n 0, 1)), (75, (.invokevirtual 106, 3))]
theorem ok24_read_0_2 : dcs cX10_token tb24_read_0_2 = true := by decide +kernel
theorem dX10_token_0 : decode cX10_token 0 = .ok (.aload_n 0, 1) := dcs_at ok24_read_0_2 0 rfl
theorem dX10_token_1 : decode cX10_token 1 = .ok (.invokevirtual 106, 3) := dcs_at ok24_read_0_2 1 rfl
theorem dX10_token_4 : decode cX10_token 4 = .ok (.bipush 10, 2) := dcs_at ok24_read_0_2 2 rfl
theorem dX10_token_6 : decode cX10_token 6 = .ok (.if_icmp .eq 12, 3) := dcs_at ok24_read_0_2 3 rfl
theorem dX10_token_9 : decode cX10_token 9 = .ok (.aload_n 0, 1) := dcs_at ok24_read_0_2 4 rfl
theorem dX10_token_10 : decode cX10_token 10 = .ok (.invokevirtual 106, 3) := dcs_at ok24_read_0_2 5 rfl
theorem dX10_token_13 : decode cX10_token 13 = .ok (.bipush 32, 2) := dcs_at ok24_read_0_2 6 rfl
theorem dX10_token_15 : decode cX10_token 15 = .ok (.if_icmp .ne 16, 3) := dcs_at ok24_read_0_2 7 rfl
theorem dX10_token_18 : decode cX10_token 18 = .ok (.aload_n 0, 1) := dcs_at ok24_read_0_2 8 rfl
theorem dX10_token_19 : decode cX10_token 19 = .ok (.dup, 1) := dcs_at ok24_read_0_2 9 rfl
theorem dX10_token_20 : decode cX10_token 20 = .ok (.getfield 100, 3) := dcs_at ok24_read_0_2 10 rfl
theorem dX10_token_23 : decode cX10_token 23 = .ok (.iconst 1, 1) := dcs_at ok24_read_0_2 11 rfl
theorem dX10_token_24 : decode cX10_token 24 = .ok (.iadd, 1) := dcs_at ok24_read_0_2 12 rfl
theorem dX10_token_25 : decode cX10_token 25 = .ok (.putfield 100, 3) := dcs_at ok24_read_0_2 13 rfl
theorem dX10_token_28 : decode cX10_token 28 = .ok (.goto (-28), 3) := dcs_at ok24_read_0_2 14 rfl
theorem dX10_token_31 : decode cX10_token 31 = .ok (.aload_n 0, 1) := dcs_at ok24_read_0_2 15 rfl
theorem dX10_token_32 : decode cX10_token 32 = .ok (.aload_n 0, 1) := dcs_at ok24_read_0_2 16 rfl
theorem dX10_token_33 : decode cX10_token 33 = .ok (.getfield 100, 3) := dcs_at ok24_read_0_2 17 rfl
theorem dX10_token_36 : decode cX10_token 36 = .ok (.putfield 110, 3) := dcs_at ok24_read_0_2 18 rfl
theorem dX10_token_39 : decode cX10_token 39 = .ok (.aload_n 0, 1) := dcs_at ok24_read_0_2 19 rfl
theorem dX10_token_40 : decode cX10_token 40 = .ok (.invokevirtual 106, 3) := dcs_at ok24_read_0_2 20 rfl
theorem dX10_token_43 : decode cX10_token 43 = .ok (.istore_n 1, 1) := dcs_at ok24_read_0_2 21 rfl
theorem dX10_token_44 : decode cX10_token 44 = .ok (.aload_n 0, 1) := dcs_at ok24_read_0_2 22 rfl
theorem dX10_token_45 : decode cX10_token 45 = .ok (.lconst 0, 1) := dcs_at ok24_read_0_2 23 rfl
theorem dX10_token_46 : decode cX10_token 46 = .ok (.putfield 113, 3) := dcs_at ok24_read_0_2 24 rfl
theorem dX10_token_49 : decode cX10_token 49 = .ok (.iconst 0, 1) := dcs_at ok24_read_0_2 25 rfl
theorem dX10_token_50 : decode cX10_token 50 = .ok (.istore_n 2, 1) := dcs_at ok24_read_0_2 26 rfl
theorem dX10_token_51 : decode cX10_token 51 = .ok (.iload_n 1, 1) := dcs_at ok24_read_0_2 27 rfl
theorem dX10_token_52 : decode cX10_token 52 = .ok (.ifCond .ge 11, 3) := dcs_at ok24_read_0_2 28 rfl
theorem dX10_token_55 : decode cX10_token 55 = .ok (.aload_n 0, 1) := dcs_at ok24_read_0_2 29 rfl
theorem dX10_token_56 : decode cX10_token 56 = .ok (.iconst 0, 1) := dcs_at ok24_read_0_2 30 rfl
theorem dX10_token_57 : decode cX10_token 57 = .ok (.putfield 117, 3) := dcs_at ok24_read_0_2 31 rfl
theorem dX10_token_60 : decode cX10_token 60 = .ok (.goto 206, 3) := dcs_at ok24_read_0_2 32 rfl
theorem dX10_token_63 : decode cX10_token 63 = .ok (.iload_n 1, 1) := dcs_at ok24_read_0_2 33 rfl
theorem dX10_token_64 : decode cX10_token 64 = .ok (.bipush 97, 2) := dcs_at ok24_read_0_2 34 rfl
theorem dX10_token_66 : decode cX10_token 66 = .ok (.bipush 122, 2) := dcs_at ok24_read_0_2 35 rfl
theorem dX10_token_68 : decode cX10_token 68 = .ok (.invokestatic 92, 3) := dcs_at ok24_read_0_2 36 rfl
theorem dX10_token_71 : decode cX10_token 71 = .ok (.ifCond .eq 76, 3) := dcs_at ok24_read_0_2 37 rfl
theorem dX10_token_74 : decode cX10_token 74 = .ok (.aload_n 0, 1) := dcs_at ok24_read_0_2 38 rfl
theorem dX10_token_75 : decode cX10_token 75 = .ok (.invokevirtual 106, 3) := dcs_at ok24_read_0_2 39 rfl
def tb24_read_0_3 : List (Nat × (Instr × Nat)) := [(78, (.bipush 97, 2)), (80, (.bipush 122, 2)), (82, (.invokestatic 92, 3)), (85, (.ifCond .eq 36, 3)), (88, (.aload_n 0, 1)), (89, (.aload_n 0, 1)), (90, (.getfield 113, 3)), (93, (.bipush 8, 2)), (95, (.lshl, 1)), (96, (.aload_n 0, 1)), (97, (.invokevirtual 106, 3)), (100, (.i2l, 1)), (101, (.lor, 1)), (102, (.putfield 113, 3)), (105, (.aload_n 0, 1)), (106, (.dup, 1)), (107, (.getfield 100, 3)), (110, (.iconst 1, 1)), (111, (.iadd, 1)), (112, (.putfield 100, 3)), (115, (.iinc 2 1, 3)), (118, (.goto (-44), 3)), (121, (.aload_n 0, 1)), (122, (.iload_n 2, 1)), (123, (.bipush 8, 2)), (125, (.if_icmp .le 7, 3)), (128, (.lconst 0, 1)), (129, (.goto 7, 3)), (132, (.aload_n 0, 1)), (133, (.getfield 113, 3)), (136, (.putfield 113, 3)), (139, (.aload_n 0, 1)), (140, (.iconst 2, 1)), (141, (.putfield 117, 3)), (144, (.goto 122, 3)), (147, (.iload_n 1, 1)), (148, (.bipush 48, 2)), (150, (.bipush 57, 2)), (152, (.invokestatic 92, 3)), (155, (.ifCond .eq 86, 3))]
theorem ok24_read_0_3 : dcs cX10_token tb24_read_0_3 = true := by decide +kernel
theorem dX10_token_78 : decode cX10_token 78 = .ok (.bipush 97, 2) := dcs_at ok24_read_0_3 0 rfl
theorem dX10_token_80 : decode cX10_token 80 = .ok (.bipush 122, 2) := dcs_at ok24_read_0_3 1 rfl
theorem dX10_token_82 : decode cX10_token 82 = .ok (.invokestatic 92, 3) := dcs_at ok24_read_0_3 2 rfl
theorem dX10_token_85 : decode cX10_token 85 = .ok (.ifCond .eq 36, 3) := dcs_at ok24_read_0_3 3 rfl
theorem dX10_token_88 : decode cX10_token 88 = .ok (.aload_n 0, 1) := dcs_at ok24_read_0_3 4 rfl
theorem dX10_token_89 : decode cX10_token 89 = .ok (.aload_n 0, 1) := dcs_at ok24_read_0_3 5 rfl
theorem dX10_token_90 : decode cX10_token 90 = .ok (.getfield 113, 3) := dcs_at ok24_read_0_3 6 rfl
theorem dX10_token_93 : decode cX10_token 93 = .ok (.bipush 8, 2) := dcs_at ok24_read_0_3 7 rfl
theorem dX10_token_95 : decode cX10_token 95 = .ok (.lshl, 1) := dcs_at ok24_read_0_3 8 rfl
theorem dX10_token_96 : decode cX10_token 96 = .ok (.aload_n 0, 1) := dcs_at ok24_read_0_3 9 rfl
theorem dX10_token_97 : decode cX10_token 97 = .ok (.invokevirtual 106, 3) := dcs_at ok24_read_0_3 10 rfl
theorem dX10_token_100 : decode cX10_token 100 = .ok (.i2l, 1) := dcs_at ok24_read_0_3 11 rfl
theorem dX10_token_101 : decode cX10_token 101 = .ok (.lor, 1) := dcs_at ok24_read_0_3 12 rfl
theorem dX10_token_102 : decode cX10_token 102 = .ok (.putfield 113, 3) := dcs_at ok24_read_0_3 13 rfl
theorem dX10_token_105 : decode cX10_token 105 = .ok (.aload_n 0, 1) := dcs_at ok24_read_0_3 14 rfl
theorem dX10_token_106 : decode cX10_token 106 = .ok (.dup, 1) := dcs_at ok24_read_0_3 15 rfl
theorem dX10_token_107 : decode cX10_token 107 = .ok (.getfield 100, 3) := dcs_at ok24_read_0_3 16 rfl
theorem dX10_token_110 : decode cX10_token 110 = .ok (.iconst 1, 1) := dcs_at ok24_read_0_3 17 rfl
theorem dX10_token_111 : decode cX10_token 111 = .ok (.iadd, 1) := dcs_at ok24_read_0_3 18 rfl
theorem dX10_token_112 : decode cX10_token 112 = .ok (.putfield 100, 3) := dcs_at ok24_read_0_3 19 rfl
theorem dX10_token_115 : decode cX10_token 115 = .ok (.iinc 2 1, 3) := dcs_at ok24_read_0_3 20 rfl
theorem dX10_token_118 : decode cX10_token 118 = .ok (.goto (-44), 3) := dcs_at ok24_read_0_3 21 rfl
theorem dX10_token_121 : decode cX10_token 121 = .ok (.aload_n 0, 1) := dcs_at ok24_read_0_3 22 rfl
theorem dX10_token_122 : decode cX10_token 122 = .ok (.iload_n 2, 1) := dcs_at ok24_read_0_3 23 rfl
theorem dX10_token_123 : decode cX10_token 123 = .ok (.bipush 8, 2) := dcs_at ok24_read_0_3 24 rfl
theorem dX10_token_125 : decode cX10_token 125 = .ok (.if_icmp .le 7, 3) := dcs_at ok24_read_0_3 25 rfl
theorem dX10_token_128 : decode cX10_token 128 = .ok (.lconst 0, 1) := dcs_at ok24_read_0_3 26 rfl
theorem dX10_token_129 : decode cX10_token 129 = .ok (.goto 7, 3) := dcs_at ok24_read_0_3 27 rfl
theorem dX10_token_132 : decode cX10_token 132 = .ok (.aload_n 0, 1) := dcs_at ok24_read_0_3 28 rfl
theorem dX10_token_133 : decode cX10_token 133 = .ok (.getfield 113, 3) := dcs_at ok24_read_0_3 29 rfl
theorem dX10_token_136 : decode cX10_token 136 = .ok (.putfield 113, 3) := dcs_at ok24_read_0_3 30 rfl
theorem dX10_token_139 : decode cX10_token 139 = .ok (.aload_n 0, 1) := dcs_at ok24_read_0_3 31 rfl
theorem dX10_token_140 : decode cX10_token 140 = .ok (.iconst 2, 1) := dcs_at ok24_read_0_3 32 rfl
theorem dX10_token_141 : decode cX10_token 141 = .ok (.putfield 117, 3) := dcs_at ok24_read_0_3 33 rfl
theorem dX10_token_144 : decode cX10_token 144 = .ok (.goto 122, 3) := dcs_at ok24_read_0_3 34 rfl
theorem dX10_token_147 : decode cX10_token 147 = .ok (.iload_n 1, 1) := dcs_at ok24_read_0_3 35 rfl
theorem dX10_token_148 : decode cX10_token 148 = .ok (.bipush 48, 2) := dcs_at ok24_read_0_3 36 rfl
theorem dX10_token_150 : decode cX10_token 150 = .ok (.bipush 57, 2) := dcs_at ok24_read_0_3 37 rfl
theorem dX10_token_152 : decode cX10_token 152 = .ok (.invokestatic 92, 3) := dcs_at ok24_read_0_3 38 rfl
theorem dX10_token_155 : decode cX10_token 155 = .ok (.ifCond .eq 86, 3) := dcs_at ok24_read_0_3 39 rfl
def tb24_read_0_4 : List (Nat × (Instr × Nat)) := [(158, (.aload_n 0, 1)), (159, (.iconst 0, 1)), (160, (.putfield 120, 3)), (163, (.aload_n 0, 1)), (164, (.invokevirtual 106, 3)), (167, (.bipush 48, 2)), (169, (.bipush 57, 2)), (171, (.invokestatic 92, 3)), (174, (.ifCond .eq 50, 3)), (177, (.aload_n 0, 1)), (178, (.iload_n 2, 1)), (179, (.iconst 3, 1)), (180, (.if_icmp .ge 21, 3)), (183, (.bipush 10, 2)), (185, (.aload_n 0, 1)), (186, (.getfield 120, 3)), (189, (.imul, 1)), (190, (.aload_n 0, 1)), (191, (.invokevirtual 106, 3)), (194, (.iadd, 1)), (195, (.bipush 48, 2)), (197, (.isub, 1)), (198, (.goto 7, 3)), (201, (.aload_n 0, 1)), (202, (.getfield 120, 3)), (205, (.putfield 120, 3)), (208, (.aload_n 0, 1)), (209, (.dup, 1)), (210, (.getfield 100, 3)), (213, (.iconst 1, 1)), (214, (.iadd, 1)), (215, (.putfield 100, 3)), (218, (.iinc 2 1, 3)), (221, (.goto (-58), 3)), (224, (.aload_n 0, 1)), (225, (.iload_n 2, 1)), (226, (.iconst 3, 1)), (227, (.if_icmp .le 7, 3)), (230, (.iconst 1, 1)), (231, (.goto 4, 3))]
theorem ok24_read_0_4 : dcs cX10_token tb24_read_0_4 = true := by decide +kernel
theorem dX10_token_158 : decode cX10_token 158 = .ok (.aload_n 0, 1) := dcs_at ok24_read_0_4 0 rfl
theorem dX10_token_159 : decode cX10_token 159 = .ok (.iconst 0, 1) := dcs_at ok24_read_0_4 1 rfl
theorem dX10_token_160 : decode cX10_token 160 = .ok (.putfield 120, 3) := dcs_at ok24_read_0_4 2 rfl
theorem dX10_token_163 : decode cX10_token 163 = .ok (.aload_n 0, 1) := dcs_at ok24_read_0_4 3 rfl
theorem dX10_token_164 : decode cX10_token 164 = .ok (.invokevirtual 106, 3) := dcs_at ok24_read_0_4 4 rfl
theorem dX10_token_167 : decode cX10_token 167 = .ok (.bipush 48, 2) := dcs_at ok24_read_0_4 5 rfl
theorem dX10_token_169 : decode cX10_token 169 = .ok (.bipush 57, 2) := dcs_at ok24_read_0_4 6 rfl
theorem dX10_token_171 : decode cX10_token 171 = .ok (.invokestatic 92, 3) := dcs_at ok24_read_0_4 7 rfl
theorem dX10_token_174 : decode cX10_token 174 = .ok (.ifCond .eq 50, 3) := dcs_at ok24_read_0_4 8 rfl
theorem dX10_token_177 : decode cX10_token 177 = .ok (.aload_n 0, 1) := dcs_at ok24_read_0_4 9 rfl
theorem dX10_token_178 : decode cX10_token 178 = .ok (.iload_n 2, 1) := dcs_at ok24_read_0_4 10 rfl
theorem dX10_token_179 : decode cX10_token 179 = .ok (.iconst 3, 1) := dcs_at ok24_read_0_4 11 rfl
theorem dX10_token_180 : decode cX10_token 180 = .ok (.if_icmp .ge 21, 3) := dcs_at ok24_read_0_4 12 rfl
theorem dX10_token_183 : decode cX10_token 183 = .ok (.bipush 10, 2) := dcs_at ok24_read_0_4 13 rfl
theorem dX10_token_185 : decode cX10_token 185 = .ok (.aload_n 0, 1) := dcs_at ok24_read_0_4 14 rfl
theorem dX10_token_186 : decode cX10_token 186 = .ok (.getfield 120, 3) := dcs_at ok24_read_0_4 15 rfl
theorem dX10_token_189 : decode cX10_token 189 = .ok (.imul, 1) := dcs_at ok24_read_0_4 16 rfl
theorem dX10_token_190 : decode cX10_token 190 = .ok (.aload_n 0, 1) := dcs_at ok24_read_0_4 17 rfl
theorem dX10_token_191 : decode cX10_token 191 = .ok (.invokevirtual 106, 3) := dcs_at ok24_read_0_4 18 rfl
theorem dX10_token_194 : decode cX10_token 194 = .ok (.iadd, 1) := dcs_at ok24_read_0_4 19 rfl
theorem dX10_token_195 : decode cX10_token 195 = .ok (.bipush 48, 2) := dcs_at ok24_read_0_4 20 rfl
theorem dX10_token_197 : decode cX10_token 197 = .ok (.isub, 1) := dcs_at ok24_read_0_4 21 rfl
theorem dX10_token_198 : decode cX10_token 198 = .ok (.goto 7, 3) := dcs_at ok24_read_0_4 22 rfl
theorem dX10_token_201 : decode cX10_token 201 = .ok (.aload_n 0, 1) := dcs_at ok24_read_0_4 23 rfl
theorem dX10_token_202 : decode cX10_token 202 = .ok (.getfield 120, 3) := dcs_at ok24_read_0_4 24 rfl
theorem dX10_token_205 : decode cX10_token 205 = .ok (.putfield 120, 3) := dcs_at ok24_read_0_4 25 rfl
theorem dX10_token_208 : decode cX10_token 208 = .ok (.aload_n 0, 1) := dcs_at ok24_read_0_4 26 rfl
theorem dX10_token_209 : decode cX10_token 209 = .ok (.dup, 1) := dcs_at ok24_read_0_4 27 rfl
theorem dX10_token_210 : decode cX10_token 210 = .ok (.getfield 100, 3) := dcs_at ok24_read_0_4 28 rfl
theorem dX10_token_213 : decode cX10_token 213 = .ok (.iconst 1, 1) := dcs_at ok24_read_0_4 29 rfl
theorem dX10_token_214 : decode cX10_token 214 = .ok (.iadd, 1) := dcs_at ok24_read_0_4 30 rfl
theorem dX10_token_215 : decode cX10_token 215 = .ok (.putfield 100, 3) := dcs_at ok24_read_0_4 31 rfl
theorem dX10_token_218 : decode cX10_token 218 = .ok (.iinc 2 1, 3) := dcs_at ok24_read_0_4 32 rfl
theorem dX10_token_221 : decode cX10_token 221 = .ok (.goto (-58), 3) := dcs_at ok24_read_0_4 33 rfl
theorem dX10_token_224 : decode cX10_token 224 = .ok (.aload_n 0, 1) := dcs_at ok24_read_0_4 34 rfl
theorem dX10_token_225 : decode cX10_token 225 = .ok (.iload_n 2, 1) := dcs_at ok24_read_0_4 35 rfl
theorem dX10_token_226 : decode cX10_token 226 = .ok (.iconst 3, 1) := dcs_at ok24_read_0_4 36 rfl
theorem dX10_token_227 : decode cX10_token 227 = .ok (.if_icmp .le 7, 3) := dcs_at ok24_read_0_4 37 rfl
theorem dX10_token_230 : decode cX10_token 230 = .ok (.iconst 1, 1) := dcs_at ok24_read_0_4 38 rfl
theorem dX10_token_231 : decode cX10_token 231 = .ok (.goto 4, 3) := dcs_at ok24_read_0_4 39 rfl
def tb24_read_0_5 : List (Nat × (Instr × Nat)) := [(234, (.iconst 3, 1)), (235, (.putfield 117, 3)), (238, (.goto 28, 3)), (241, (.aload_n 0, 1)), (242, (.dup, 1)), (243, (.getfield 100, 3)), (246, (.iconst 1, 1)), (247, (.iadd, 1)), (248, (.putfield 100, 3)), (251, (.aload_n 0, 1)), (252, (.iload_n 1, 1)), (253, (.bipush 59, 2)), (255, (.if_icmp .ne 7, 3)), (258, (.iconst 4, 1)), (259, (.goto 4, 3)), (262, (.iconst 1, 1)), (263, (.putfield 117, 3)), (266, (.return_, 1))]
theorem ok24_read_0_5 : dcs cX10_token tb24_read_0_5 = true := by decide +kernel
theorem dX10_token_234 : decode cX10_token 234 = .ok (.iconst 3, 1) := dcs_at ok24_read_0_5 0 rfl
theorem dX10_token_235 : decode cX10_token 235 = .ok (.putfield 117, 3) := dcs_at ok24_read_0_5 1 rfl
theorem dX10_token_238 : decode cX10_token 238 = .ok (.goto 28, 3) := dcs_at ok24_read_0_5 2 rfl
theorem dX10_token_241 : decode cX10_token 241 = .ok (.aload_n 0, 1) := dcs_at ok24_read_0_5 3 rfl
theorem dX10_token_242 : decode cX10_token 242 = .ok (.dup, 1) := dcs_at ok24_read_0_5 4 rfl
theorem dX10_token_243 : decode cX10_token 243 = .ok (.getfield 100, 3) := dcs_at ok24_read_0_5 5 rfl
theorem dX10_token_246 : decode cX10_token 246 = .ok (.iconst 1, 1) := dcs_at ok24_read_0_5 6 rfl
theorem dX10_token_247 : decode cX10_token 247 = .ok (.iadd, 1) := dcs_at ok24_read_0_5 7 rfl
theorem dX10_token_248 : decode cX10_token 248 = .ok (.putfield 100, 3) := dcs_at ok24_read_0_5 8 rfl
theorem dX10_token_251 : decode cX10_token 251 = .ok (.aload_n 0, 1) := dcs_at ok24_read_0_5 9 rfl
theorem dX10_token_252 : decode cX10_token 252 = .ok (.iload_n 1, 1) := dcs_at ok24_read_0_5 10 rfl
theorem dX10_token_253 : decode cX10_token 253 = .ok (.bipush 59, 2) := dcs_at ok24_read_0_5 11 rfl
theorem dX10_token_255 : decode cX10_token 255 = .ok (.if_icmp .ne 7, 3) := dcs_at ok24_read_0_5 12 rfl
theorem dX10_token_258 : decode cX10_token 258 = .ok (.iconst 4, 1) := dcs_at ok24_read_0_5 13 rfl
theorem dX10_token_259 : decode cX10_token 259 = .ok (.goto 4, 3) := dcs_at ok24_read_0_5 14 rfl
theorem dX10_token_262 : decode cX10_token 262 = .ok (.iconst 1, 1) := dcs_at ok24_read_0_5 15 rfl
theorem dX10_token_263 : decode cX10_token 263 = .ok (.putfield 117, 3) := dcs_at ok24_read_0_5 16 rfl
theorem dX10_token_266 : decode cX10_token 266 = .ok (.return_, 1) := dcs_at ok24_read_0_5 17 rfl
def tb24_read_0_6 : List (Nat × (Instr × Nat)) := [(0, (.aload_n 0, 1)), (1, (.aload_n 0, 1)), (2, (.getfield 110, 3)), (5, (.putfield 123, 3)), (8, (.iconst 0, 1)), (9, (.ireturn, 1))]
theorem ok24_read_0_6 : dcs cX10_fails tb24_read_0_6 = true := by decide +kernel
theorem dX10_fails_0 : decode cX10_fails 0 = .ok (.aload_n 0, 1) := dcs_at ok24_read_0_6 0 rfl
theorem dX10_fails_1 : decode cX10_fails 1 = .ok (.aload_n 0, 1) := dcs_at ok24_read_0_6 1 rfl
theorem dX10_fails_2 : decode cX10_fails 2 = .ok (.getfield 110, 3) := dcs_at ok24_read_0_6 2 rfl
theorem dX10_fails_5 : decode cX10_fails 5 = .ok (.putfield 123, 3) := dcs_at ok24_read_0_6 3 rfl
theorem dX10_fails_8 : decode cX10_fails 8 = .ok (.iconst 0, 1) := dcs_at ok24_read_0_6 4 rfl
theorem dX10_fails_9 : decode cX10_fails 9 = .ok (.ireturn, 1) := dcs_at ok24_read_0_6 5 rfl
def tb24_read_0_7 : List (Nat × (Instr × Nat)) := [(0, (.aload_n 0, 1)), (1, (.getfield 126, 3)), (4, (.ifCond .eq 27, 3)), (7, (.iload_n 2, 1)), (8, (.aload_n 0, 1)), (9, (.getfield 129, 3)), (12, (.if_icmp .lt 19, 3)), (15, (.iload_n 2, 1)), (16, (.aload_n 0, 1)), (17, (.getfield 129, 3)), (20, (.if_icmp .ne 21, 3)), (23, (.iload_n 1, 1)), (24, (.aload_n 0, 1)), (25, (.getfield 126, 3)), (28, (.if_icmp .ge 13, 3)), (31, (.aload_n 0, 1)), (32, (.iload_n 1, 1)), (33, (.putfield 126, 3)), (36, (.aload_n 0, 1)), (37, (.iload_n 2, 1)), (38, (.putfield 129, 3)), (41, (.return_, 1))]
theorem ok24_read_0_7 : dcs cX10_later tb24_read_0_7 = true := by decide +kernel
theorem dX10_later_0 : decode cX10_later 0 = .ok (.aload_n 0, 1) := dcs_at ok24_read_0_7 0 rfl
theorem dX10_later_1 : decode cX10_later 1 = .ok (.getfield 126, 3) := dcs_at ok24_read_0_7 1 rfl
theorem dX10_later_4 : decode cX10_later 4 = .ok (.ifCond .eq 27, 3) := dcs_at ok24_read_0_7 2 rfl
theorem dX10_later_7 : decode cX10_later 7 = .ok (.iload_n 2, 1) := dcs_at ok24_read_0_7 3 rfl
theorem dX10_later_8 : decode cX10_later 8 = .ok (.aload_n 0, 1) := dcs_at ok24_read_0_7 4 rfl
theorem dX10_later_9 : decode cX10_later 9 = .ok (.getfield 129, 3) := dcs_at ok24_read_0_7 5 rfl
theorem dX10_later_12 : decode cX10_later 12 = .ok (.if_icmp .lt 19, 3) := dcs_at ok24_read_0_7 6 rfl
theorem dX10_later_15 : decode cX10_later 15 = .ok (.iload_n 2, 1) := dcs_at ok24_read_0_7 7 rfl
theorem dX10_later_16 : decode cX10_later 16 = .ok (.aload_n 0, 1) := dcs_at ok24_read_0_7 8 rfl
theorem dX10_later_17 : decode cX10_later 17 = .ok (.getfield 129, 3) := dcs_at ok24_read_0_7 9 rfl
theorem dX10_later_20 : decode cX10_later 20 = .ok (.if_icmp .ne 21, 3) := dcs_at ok24_read_0_7 10 rfl
theorem dX10_later_23 : decode cX10_later 23 = .ok (.iload_n 1, 1) := dcs_at ok24_read_0_7 11 rfl
theorem dX10_later_24 : decode cX10_later 24 = .ok (.aload_n 0, 1) := dcs_at ok24_read_0_7 12 rfl
theorem dX10_later_25 : decode cX10_later 25 = .ok (.getfield 126, 3) := dcs_at ok24_read_0_7 13 rfl
theorem dX10_later_28 : decode cX10_later 28 = .ok (.if_icmp .ge 13, 3) := dcs_at ok24_read_0_7 14 rfl
theorem dX10_later_31 : decode cX10_later 31 = .ok (.aload_n 0, 1) := dcs_at ok24_read_0_7 15 rfl
theorem dX10_later_32 : decode cX10_later 32 = .ok (.iload_n 1, 1) := dcs_at ok24_read_0_7 16 rfl
theorem dX10_later_33 : decode cX10_later 33 = .ok (.putfield 126, 3) := dcs_at ok24_read_0_7 17 rfl
theorem dX10_later_36 : decode cX10_later 36 = .ok (.aload_n 0, 1) := dcs_at ok24_read_0_7 18 rfl
theorem dX10_later_37 : decode cX10_later 37 = .ok (.iload_n 2, 1) := dcs_at ok24_read_0_7 19 rfl
theorem dX10_later_38 : decode cX10_later 38 = .ok (.putfield 129, 3) := dcs_at ok24_read_0_7 20 rfl
theorem dX10_later_41 : decode cX10_later 41 = .ok (.return_, 1) := dcs_at ok24_read_0_7 21 rfl
def tb24_read_0_8 : List (Nat × (Instr × Nat)) := [(0, (.aload_n 0, 1)), (1, (.getfield 117, 3)), (4, (.iconst 3, 1)), (5, (.if_icmp .eq 8, 3)), (8, (.aload_n 0, 1)), (9, (.invokevirtual 132, 3)), (12, (.ireturn, 1)), (13, (.aload_n 0, 1)), (14, (.getfield 38, 3)), (17, (.iload_n 1, 1)), (18, (.aload_n 0, 1)), (19, (.getfield 120, 3)), (22, (.iastore, 1)), (23, (.aload_n 0, 1)), (24, (.getfield 120, 3)), (27, (.iload_n 2, 1)), (28, (.iload_n 3, 1)), (29, (.invokestatic 92, 3)), (32, (.ifCond .eq 12, 3)), (35, (.aload_n 0, 1)), (36, (.getfield 120, 3)), (39, (.iload 4, 2)), (41, (.if_icmp .ne 12, 3)), (44, (.aload_n 0, 1)), (45, (.iconst 2, 1)), (46, (.aload_n 0, 1)), (47, (.getfield 110, 3)), (50, (.invokevirtual 136, 3)), (53, (.aload_n 0, 1)), (54, (.invokevirtual 140, 3)), (57, (.iconst 1, 1)), (58, (.ireturn, 1))]
theorem ok24_read_0_8 : dcs cX10_takeBut tb24_read_0_8 = true := by decide +kernel
theorem dX10_takeBut_0 : decode cX10_takeBut 0 = .ok (.aload_n 0, 1) := dcs_at ok24_read_0_8 0 rfl
theorem dX10_takeBut_1 : decode cX10_takeBut 1 = .ok (.getfield 117, 3) := dcs_at ok24_read_0_8 1 rfl
theorem dX10_takeBut_4 : decode cX10_takeBut 4 = .ok (.iconst 3, 1) := dcs_at ok24_read_0_8 2 rfl
theorem dX10_takeBut_5 : decode cX10_takeBut 5 = .ok (.if_icmp .eq 8, 3) := dcs_at ok24_read_0_8 3 rfl
theorem dX10_takeBut_8 : decode cX10_takeBut 8 = .ok (.aload_n 0, 1) := dcs_at ok24_read_0_8 4 rfl
theorem dX10_takeBut_9 : decode cX10_takeBut 9 = .ok (.invokevirtual 132, 3) := dcs_at ok24_read_0_8 5 rfl
theorem dX10_takeBut_12 : decode cX10_takeBut 12 = .ok (.ireturn, 1) := dcs_at ok24_read_0_8 6 rfl
theorem dX10_takeBut_13 : decode cX10_takeBut 13 = .ok (.aload_n 0, 1) := dcs_at ok24_read_0_8 7 rfl
theorem dX10_takeBut_14 : decode cX10_takeBut 14 = .ok (.getfield 38, 3) := dcs_at ok24_read_0_8 8 rfl
theorem dX10_takeBut_17 : decode cX10_takeBut 17 = .ok (.iload_n 1, 1) := dcs_at ok24_read_0_8 9 rfl
theorem dX10_takeBut_18 : decode cX10_takeBut 18 = .ok (.aload_n 0, 1) := dcs_at ok24_read_0_8 10 rfl
theorem dX10_takeBut_19 : decode cX10_takeBut 19 = .ok (.getfield 120, 3) := dcs_at ok24_read_0_8 11 rfl
theorem dX10_takeBut_22 : decode cX10_takeBut 22 = .ok (.iastore, 1) := dcs_at ok24_read_0_8 12 rfl
theorem dX10_takeBut_23 : decode cX10_takeBut 23 = .ok (.aload_n 0, 1) := dcs_at ok24_read_0_8 13 rfl
theorem dX10_takeBut_24 : decode cX10_takeBut 24 = .ok (.getfield 120, 3) := dcs_at ok24_read_0_8 14 rfl
theorem dX10_takeBut_27 : decode cX10_takeBut 27 = .ok (.iload_n 2, 1) := dcs_at ok24_read_0_8 15 rfl
theorem dX10_takeBut_28 : decode cX10_takeBut 28 = .ok (.iload_n 3, 1) := dcs_at ok24_read_0_8 16 rfl
theorem dX10_takeBut_29 : decode cX10_takeBut 29 = .ok (.invokestatic 92, 3) := dcs_at ok24_read_0_8 17 rfl
theorem dX10_takeBut_32 : decode cX10_takeBut 32 = .ok (.ifCond .eq 12, 3) := dcs_at ok24_read_0_8 18 rfl
theorem dX10_takeBut_35 : decode cX10_takeBut 35 = .ok (.aload_n 0, 1) := dcs_at ok24_read_0_8 19 rfl
theorem dX10_takeBut_36 : decode cX10_takeBut 36 = .ok (.getfield 120, 3) := dcs_at ok24_read_0_8 20 rfl
theorem dX10_takeBut_39 : decode cX10_takeBut 39 = .ok (.iload 4, 2) := dcs_at ok24_read_0_8 21 rfl
theorem dX10_takeBut_41 : decode cX10_takeBut 41 = .ok (.if_icmp .ne 12, 3) := dcs_at ok24_read_0_8 22 rfl
theorem dX10_takeBut_44 : decode cX10_takeBut 44 = .ok (.aload_n 0, 1) := dcs_at ok24_read_0_8 23 rfl
theorem dX10_takeBut_45 : decode cX10_takeBut 45 = .ok (.iconst 2, 1) := dcs_at ok24_read_0_8 24 rfl
theorem dX10_takeBut_46 : decode cX10_takeBut 46 = .ok (.aload_n 0, 1) := dcs_at ok24_read_0_8 25 rfl
theorem dX10_takeBut_47 : decode cX10_takeBut 47 = .ok (.getfield 110, 3) := dcs_at ok24_read_0_8 26 rfl
theorem dX10_takeBut_50 : decode cX10_takeBut 50 = .ok (.invokevirtual 136, 3) := dcs_at ok24_read_0_8 27 rfl
theorem dX10_takeBut_53 : decode cX10_takeBut 53 = .ok (.aload_n 0, 1) := dcs_at ok24_read_0_8 28 rfl
theorem dX10_takeBut_54 : decode cX10_takeBut 54 = .ok (.invokevirtual 140, 3) := dcs_at ok24_read_0_8 29 rfl
theorem dX10_takeBut_57 : decode cX10_takeBut 57 = .ok (.iconst 1, 1) := dcs_at ok24_read_0_8 30 rfl
theorem dX10_takeBut_58 : decode cX10_takeBut 58 = .ok (.ireturn, 1) := dcs_at ok24_read_0_8 31 rfl
def tb24_read_0_9 : List (Nat × (Instr × Nat)) := [(0, (.aload_n 0, 1)), (1, (.iload_n 1, 1)), (2, (.iload_n 2, 1)), (3, (.iload_n 3, 1)), (4, (.iconst (-1), 1)), (5, (.invokevirtual 143, 3)), (8, (.ireturn, 1))]
theorem ok24_read_0_9 : dcs cX10_take tb24_read_0_9 = true := by decide +kernel
theorem dX10_take_0 : decode cX10_take 0 = .ok (.aload_n 0, 1) := dcs_at ok24_read_0_9 0 rfl
theorem dX10_take_1 : decode cX10_take 1 = .ok (.iload_n 1, 1) := dcs_at ok24_read_0_9 1 rfl
theorem dX10_take_2 : decode cX10_take 2 = .ok (.iload_n 2, 1) := dcs_at ok24_read_0_9 2 rfl
theorem dX10_take_3 : decode cX10_take 3 = .ok (.iload_n 3, 1) := dcs_at ok24_read_0_9 3 rfl
theorem dX10_take_4 : decode cX10_take 4 = .ok (.iconst (-1), 1) := dcs_at ok24_read_0_9 4 rfl
theorem dX10_take_5 : decode cX10_take 5 = .ok (.invokevirtual 143, 3) := dcs_at ok24_read_0_9 5 rfl
theorem dX10_take_8 : decode cX10_take 8 = .ok (.ireturn, 1) := dcs_at ok24_read_0_9 6 rfl
def tb24_read_0_10 : List (Nat × (Instr × Nat)) := [(0, (.aload_n 0, 1)), (1, (.getfield 35, 3)), (4, (.iload_n 1, 1)), (5, (.iaload, 1)), (6, (.iload_n 2, 1)), (7, (.if_icmp .ne 9, 3)), (10, (.aload_n 0, 1)), (11, (.iconst 3, 1)), (12, (.iload_n 3, 1)), (13, (.invokevirtual 136, 3)), (16, (.return_, 1))]
theorem ok24_read_0_10 : dcs cX10_full tb24_read_0_10 = true := by decide +kernel
theorem dX10_full_0 : decode cX10_full 0 = .ok (.aload_n 0, 1) := dcs_at ok24_read_0_10 0 rfl
theorem dX10_full_1 : decode cX10_full 1 = .ok (.getfield 35, 3) := dcs_at ok24_read_0_10 1 rfl
theorem dX10_full_4 : decode cX10_full 4 = .ok (.iload_n 1, 1) := dcs_at ok24_read_0_10 2 rfl
theorem dX10_full_5 : decode cX10_full 5 = .ok (.iaload, 1) := dcs_at ok24_read_0_10 3 rfl
theorem dX10_full_6 : decode cX10_full 6 = .ok (.iload_n 2, 1) := dcs_at ok24_read_0_10 4 rfl
theorem dX10_full_7 : decode cX10_full 7 = .ok (.if_icmp .ne 9, 3) := dcs_at ok24_read_0_10 5 rfl
theorem dX10_full_10 : decode cX10_full 10 = .ok (.aload_n 0, 1) := dcs_at ok24_read_0_10 6 rfl
theorem dX10_full_11 : decode cX10_full 11 = .ok (.iconst 3, 1) := dcs_at ok24_read_0_10 7 rfl
theorem dX10_full_12 : decode cX10_full 12 = .ok (.iload_n 3, 1) := dcs_at ok24_read_0_10 8 rfl
theorem dX10_full_13 : decode cX10_full 13 = .ok (.invokevirtual 136, 3) := dcs_at ok24_read_0_10 9 rfl
theorem dX10_full_16 : decode cX10_full 16 = .ok (.return_, 1) := dcs_at ok24_read_0_10 10 rfl
def tb24_read_0_11 : List (Nat × (Instr × Nat)) := [(0, (.aload_n 0, 1)), (1, (.getfield 35, 3)), (4, (.iload_n 1, 1)), (5, (.iaload, 1)), (6, (.istore 5, 2)), (8, (.iload 5, 2)), (10, (.iload 4, 2)), (12, (.if_icmp .ne 4, 3)), (15, (.return_, 1)), (16, (.iconst 0, 1)), (17, (.istore 6, 2)), (19, (.iload 6, 2)), (21, (.iload_n 3, 1)), (22, (.if_icmp .ge 30, 3)), (25, (.aload_n 0, 1)), (26, (.getfield 35, 3)), (29, (.iload_n 2, 1)), (30, (.iload_n 3, 1)), (31, (.iload 5, 2)), (33, (.imul, 1)), (34, (.iadd, 1)), (35, (.iload 6, 2)), (37, (.iadd, 1)), (38, (.aload_n 0, 1)), (39, (.getfield 38, 3)), (42, (.iload 6, 2)), (44, (.iaload, 1)), (45, (.iastore, 1)), (46, (.iinc 6 1, 3)), (49, (.goto (-30), 3)), (52, (.aload_n 0, 1)), (53, (.getfield 35, 3)), (56, (.iload_n 1, 1)), (57, (.dup2, 1)), (58, (.iaload, 1)), (59, (.iconst 1, 1)), (60, (.iadd, 1)), (61, (.iastore, 1)), (62, (.return_, 1))]
theorem ok24_read_0_11 : dcs cX10_keep tb24_read_0_11 = true := by decide +kernel
theorem dX10_keep_0 : decode cX10_keep 0 = .ok (.aload_n 0, 1) := dcs_at ok24_read_0_11 0 rfl
theorem dX10_keep_1 : decode cX10_keep 1 = .ok (.getfield 35, 3) := dcs_at ok24_read_0_11 1 rfl
theorem dX10_keep_4 : decode cX10_keep 4 = .ok (.iload_n 1, 1) := dcs_at ok24_read_0_11 2 rfl
theorem dX10_keep_5 : decode cX10_keep 5 = .ok (.iaload, 1) := dcs_at ok24_read_0_11 3 rfl
theorem dX10_keep_6 : decode cX10_keep 6 = .ok (.istore 5, 2) := dcs_at ok24_read_0_11 4 rfl
theorem dX10_keep_8 : decode cX10_keep 8 = .ok (.iload 5, 2) := dcs_at ok24_read_0_11 5 rfl
theorem dX10_keep_10 : decode cX10_keep 10 = .ok (.iload 4, 2) := dcs_at ok24_read_0_11 6 rfl
theorem dX10_keep_12 : decode cX10_keep 12 = .ok (.if_icmp .ne 4, 3) := dcs_at ok24_read_0_11 7 rfl
theorem dX10_keep_15 : decode cX10_keep 15 = .ok (.return_, 1) := dcs_at ok24_read_0_11 8 rfl
theorem dX10_keep_16 : decode cX10_keep 16 = .ok (.iconst 0, 1) := dcs_at ok24_read_0_11 9 rfl
theorem dX10_keep_17 : decode cX10_keep 17 = .ok (.istore 6, 2) := dcs_at ok24_read_0_11 10 rfl
theorem dX10_keep_19 : decode cX10_keep 19 = .ok (.iload 6, 2) := dcs_at ok24_read_0_11 11 rfl
theorem dX10_keep_21 : decode cX10_keep 21 = .ok (.iload_n 3, 1) := dcs_at ok24_read_0_11 12 rfl
theorem dX10_keep_22 : decode cX10_keep 22 = .ok (.if_icmp .ge 30, 3) := dcs_at ok24_read_0_11 13 rfl
theorem dX10_keep_25 : decode cX10_keep 25 = .ok (.aload_n 0, 1) := dcs_at ok24_read_0_11 14 rfl
theorem dX10_keep_26 : decode cX10_keep 26 = .ok (.getfield 35, 3) := dcs_at ok24_read_0_11 15 rfl
theorem dX10_keep_29 : decode cX10_keep 29 = .ok (.iload_n 2, 1) := dcs_at ok24_read_0_11 16 rfl
theorem dX10_keep_30 : decode cX10_keep 30 = .ok (.iload_n 3, 1) := dcs_at ok24_read_0_11 17 rfl
theorem dX10_keep_31 : decode cX10_keep 31 = .ok (.iload 5, 2) := dcs_at ok24_read_0_11 18 rfl
theorem dX10_keep_33 : decode cX10_keep 33 = .ok (.imul, 1) := dcs_at ok24_read_0_11 19 rfl
theorem dX10_keep_34 : decode cX10_keep 34 = .ok (.iadd, 1) := dcs_at ok24_read_0_11 20 rfl
theorem dX10_keep_35 : decode cX10_keep 35 = .ok (.iload 6, 2) := dcs_at ok24_read_0_11 21 rfl
theorem dX10_keep_37 : decode cX10_keep 37 = .ok (.iadd, 1) := dcs_at ok24_read_0_11 22 rfl
theorem dX10_keep_38 : decode cX10_keep 38 = .ok (.aload_n 0, 1) := dcs_at ok24_read_0_11 23 rfl
theorem dX10_keep_39 : decode cX10_keep 39 = .ok (.getfield 38, 3) := dcs_at ok24_read_0_11 24 rfl
theorem dX10_keep_42 : decode cX10_keep 42 = .ok (.iload 6, 2) := dcs_at ok24_read_0_11 25 rfl
theorem dX10_keep_44 : decode cX10_keep 44 = .ok (.iaload, 1) := dcs_at ok24_read_0_11 26 rfl
theorem dX10_keep_45 : decode cX10_keep 45 = .ok (.iastore, 1) := dcs_at ok24_read_0_11 27 rfl
theorem dX10_keep_46 : decode cX10_keep 46 = .ok (.iinc 6 1, 3) := dcs_at ok24_read_0_11 28 rfl
theorem dX10_keep_49 : decode cX10_keep 49 = .ok (.goto (-30), 3) := dcs_at ok24_read_0_11 29 rfl
theorem dX10_keep_52 : decode cX10_keep 52 = .ok (.aload_n 0, 1) := dcs_at ok24_read_0_11 30 rfl
theorem dX10_keep_53 : decode cX10_keep 53 = .ok (.getfield 35, 3) := dcs_at ok24_read_0_11 31 rfl
theorem dX10_keep_56 : decode cX10_keep 56 = .ok (.iload_n 1, 1) := dcs_at ok24_read_0_11 32 rfl
theorem dX10_keep_57 : decode cX10_keep 57 = .ok (.dup2, 1) := dcs_at ok24_read_0_11 33 rfl
theorem dX10_keep_58 : decode cX10_keep 58 = .ok (.iaload, 1) := dcs_at ok24_read_0_11 34 rfl
theorem dX10_keep_59 : decode cX10_keep 59 = .ok (.iconst 1, 1) := dcs_at ok24_read_0_11 35 rfl
theorem dX10_keep_60 : decode cX10_keep 60 = .ok (.iadd, 1) := dcs_at ok24_read_0_11 36 rfl
theorem dX10_keep_61 : decode cX10_keep 61 = .ok (.iastore, 1) := dcs_at ok24_read_0_11 37 rfl
theorem dX10_keep_62 : decode cX10_keep 62 = .ok (.return_, 1) := dcs_at ok24_read_0_11 38 rfl
def tb24_read_0_12 : List (Nat × (Instr × Nat)) := [(0, (.lload_n 1, 1)), (1, (.ldc2_w 147, 3)), (4, (.lcmp, 1)), (5, (.ifCond .ne 7, 3)), (8, (.iconst 2, 1)), (9, (.goto 28, 3)), (12, (.lload_n 1, 1)), (13, (.ldc2_w 149, 3)), (16, (.lcmp, 1)), (17, (.ifCond .ne 7, 3)), (20, (.iconst 3, 1)), (21, (.goto 16, 3)), (24, (.lload_n 1, 1)), (25, (.ldc2_w 151, 3)), (28, (.lcmp, 1)), (29, (.ifCond .ne 7, 3)), (32, (.iconst 5, 1)), (33, (.goto 4, 3)), (36, (.iconst (-1), 1)), (37, (.istore 4, 2)), (39, (.iload 4, 2)), (41, (.iconst (-1), 1)), (42, (.if_icmp .ne 32, 3)), (45, (.lload_n 1, 1)), (46, (.ldc2_w 153, 3)), (49, (.lcmp, 1)), (50, (.ifCond .eq 24, 3)), (53, (.lload_n 1, 1)), (54, (.ldc2_w 155, 3)), (57, (.lcmp, 1)), (58, (.ifCond .eq 16, 3)), (61, (.lload_n 1, 1)), (62, (.ldc2_w 157, 3)), (65, (.lcmp, 1)), (66, (.ifCond .eq 8, 3)), (69, (.aload_n 0, 1)), (70, (.invokevirtual 132, 3)), (73, (.ireturn, 1)), (74, (.iload 4, 2)), (76, (.iconst (-1), 1))]
theorem ok24_read_0_12 : dcs cX10_theatreLine tb24_read_0_12 = true := by decide +kernel
theorem dX10_theatreLine_0 : decode cX10_theatreLine 0 = .ok (.lload_n 1, 1) := dcs_at ok24_read_0_12 0 rfl
theorem dX10_theatreLine_1 : decode cX10_theatreLine 1 = .ok (.ldc2_w 147, 3) := dcs_at ok24_read_0_12 1 rfl
theorem dX10_theatreLine_4 : decode cX10_theatreLine 4 = .ok (.lcmp, 1) := dcs_at ok24_read_0_12 2 rfl
theorem dX10_theatreLine_5 : decode cX10_theatreLine 5 = .ok (.ifCond .ne 7, 3) := dcs_at ok24_read_0_12 3 rfl
theorem dX10_theatreLine_8 : decode cX10_theatreLine 8 = .ok (.iconst 2, 1) := dcs_at ok24_read_0_12 4 rfl
theorem dX10_theatreLine_9 : decode cX10_theatreLine 9 = .ok (.goto 28, 3) := dcs_at ok24_read_0_12 5 rfl
theorem dX10_theatreLine_12 : decode cX10_theatreLine 12 = .ok (.lload_n 1, 1) := dcs_at ok24_read_0_12 6 rfl
theorem dX10_theatreLine_13 : decode cX10_theatreLine 13 = .ok (.ldc2_w 149, 3) := dcs_at ok24_read_0_12 7 rfl
theorem dX10_theatreLine_16 : decode cX10_theatreLine 16 = .ok (.lcmp, 1) := dcs_at ok24_read_0_12 8 rfl
theorem dX10_theatreLine_17 : decode cX10_theatreLine 17 = .ok (.ifCond .ne 7, 3) := dcs_at ok24_read_0_12 9 rfl
theorem dX10_theatreLine_20 : decode cX10_theatreLine 20 = .ok (.iconst 3, 1) := dcs_at ok24_read_0_12 10 rfl
theorem dX10_theatreLine_21 : decode cX10_theatreLine 21 = .ok (.goto 16, 3) := dcs_at ok24_read_0_12 11 rfl
theorem dX10_theatreLine_24 : decode cX10_theatreLine 24 = .ok (.lload_n 1, 1) := dcs_at ok24_read_0_12 12 rfl
theorem dX10_theatreLine_25 : decode cX10_theatreLine 25 = .ok (.ldc2_w 151, 3) := dcs_at ok24_read_0_12 13 rfl
theorem dX10_theatreLine_28 : decode cX10_theatreLine 28 = .ok (.lcmp, 1) := dcs_at ok24_read_0_12 14 rfl
theorem dX10_theatreLine_29 : decode cX10_theatreLine 29 = .ok (.ifCond .ne 7, 3) := dcs_at ok24_read_0_12 15 rfl
theorem dX10_theatreLine_32 : decode cX10_theatreLine 32 = .ok (.iconst 5, 1) := dcs_at ok24_read_0_12 16 rfl
theorem dX10_theatreLine_33 : decode cX10_theatreLine 33 = .ok (.goto 4, 3) := dcs_at ok24_read_0_12 17 rfl
theorem dX10_theatreLine_36 : decode cX10_theatreLine 36 = .ok (.iconst (-1), 1) := dcs_at ok24_read_0_12 18 rfl
theorem dX10_theatreLine_37 : decode cX10_theatreLine 37 = .ok (.istore 4, 2) := dcs_at ok24_read_0_12 19 rfl
theorem dX10_theatreLine_39 : decode cX10_theatreLine 39 = .ok (.iload 4, 2) := dcs_at ok24_read_0_12 20 rfl
theorem dX10_theatreLine_41 : decode cX10_theatreLine 41 = .ok (.iconst (-1), 1) := dcs_at ok24_read_0_12 21 rfl
theorem dX10_theatreLine_42 : decode cX10_theatreLine 42 = .ok (.if_icmp .ne 32, 3) := dcs_at ok24_read_0_12 22 rfl
theorem dX10_theatreLine_45 : decode cX10_theatreLine 45 = .ok (.lload_n 1, 1) := dcs_at ok24_read_0_12 23 rfl
theorem dX10_theatreLine_46 : decode cX10_theatreLine 46 = .ok (.ldc2_w 153, 3) := dcs_at ok24_read_0_12 24 rfl
theorem dX10_theatreLine_49 : decode cX10_theatreLine 49 = .ok (.lcmp, 1) := dcs_at ok24_read_0_12 25 rfl
theorem dX10_theatreLine_50 : decode cX10_theatreLine 50 = .ok (.ifCond .eq 24, 3) := dcs_at ok24_read_0_12 26 rfl
theorem dX10_theatreLine_53 : decode cX10_theatreLine 53 = .ok (.lload_n 1, 1) := dcs_at ok24_read_0_12 27 rfl
theorem dX10_theatreLine_54 : decode cX10_theatreLine 54 = .ok (.ldc2_w 155, 3) := dcs_at ok24_read_0_12 28 rfl
theorem dX10_theatreLine_57 : decode cX10_theatreLine 57 = .ok (.lcmp, 1) := dcs_at ok24_read_0_12 29 rfl
theorem dX10_theatreLine_58 : decode cX10_theatreLine 58 = .ok (.ifCond .eq 16, 3) := dcs_at ok24_read_0_12 30 rfl
theorem dX10_theatreLine_61 : decode cX10_theatreLine 61 = .ok (.lload_n 1, 1) := dcs_at ok24_read_0_12 31 rfl
theorem dX10_theatreLine_62 : decode cX10_theatreLine 62 = .ok (.ldc2_w 157, 3) := dcs_at ok24_read_0_12 32 rfl
theorem dX10_theatreLine_65 : decode cX10_theatreLine 65 = .ok (.lcmp, 1) := dcs_at ok24_read_0_12 33 rfl
theorem dX10_theatreLine_66 : decode cX10_theatreLine 66 = .ok (.ifCond .eq 8, 3) := dcs_at ok24_read_0_12 34 rfl
theorem dX10_theatreLine_69 : decode cX10_theatreLine 69 = .ok (.aload_n 0, 1) := dcs_at ok24_read_0_12 35 rfl
theorem dX10_theatreLine_70 : decode cX10_theatreLine 70 = .ok (.invokevirtual 132, 3) := dcs_at ok24_read_0_12 36 rfl
theorem dX10_theatreLine_73 : decode cX10_theatreLine 73 = .ok (.ireturn, 1) := dcs_at ok24_read_0_12 37 rfl
theorem dX10_theatreLine_74 : decode cX10_theatreLine 74 = .ok (.iload 4, 2) := dcs_at ok24_read_0_12 38 rfl
theorem dX10_theatreLine_76 : decode cX10_theatreLine 76 = .ok (.iconst (-1), 1) := dcs_at ok24_read_0_12 39 rfl
def tb24_read_0_13 : List (Nat × (Instr × Nat)) := [(77, (.if_icmp .ne 59, 3)), (80, (.aload_n 0, 1)), (81, (.lload_n 1, 1)), (82, (.ldc2_w 153, 3)), (85, (.lcmp, 1)), (86, (.ifCond .ne 7, 3)), (89, (.iconst 0, 1)), (90, (.goto 16, 3)), (93, (.lload_n 1, 1)), (94, (.ldc2_w 155, 3)), (97, (.lcmp, 1)), (98, (.ifCond .ne 7, 3)), (101, (.iconst 1, 1)), (102, (.goto 4, 3)), (105, (.iconst 4, 1)), (106, (.lload_n 1, 1)), (107, (.ldc2_w 153, 3)), (110, (.lcmp, 1)), (111, (.ifCond .ne 7, 3)), (114, (.iconst 5, 1)), (115, (.goto 17, 3)), (118, (.lload_n 1, 1)), (119, (.ldc2_w 155, 3)), (122, (.lcmp, 1)), (123, (.ifCond .ne 8, 3)), (126, (.bipush 6, 2)), (128, (.goto 4, 3)), (131, (.iconst 4, 1)), (132, (.iload_n 3, 1)), (133, (.invokevirtual 159, 3)), (136, (.aload_n 0, 1)), (137, (.invokevirtual 140, 3)), (140, (.iload 4, 2)), (142, (.iconst (-1), 1)), (143, (.if_icmp .eq 54, 3)), (146, (.aload_n 0, 1)), (147, (.iconst 0, 1)), (148, (.iconst 0, 1)), (149, (.iload 4, 2)), (151, (.iconst 2, 1))]
theorem ok24_read_0_13 : dcs cX10_theatreLine tb24_read_0_13 = true := by decide +kernel
theorem dX10_theatreLine_77 : decode cX10_theatreLine 77 = .ok (.if_icmp .ne 59, 3) := dcs_at ok24_read_0_13 0 rfl
theorem dX10_theatreLine_80 : decode cX10_theatreLine 80 = .ok (.aload_n 0, 1) := dcs_at ok24_read_0_13 1 rfl
theorem dX10_theatreLine_81 : decode cX10_theatreLine 81 = .ok (.lload_n 1, 1) := dcs_at ok24_read_0_13 2 rfl
theorem dX10_theatreLine_82 : decode cX10_theatreLine 82 = .ok (.ldc2_w 153, 3) := dcs_at ok24_read_0_13 3 rfl
theorem dX10_theatreLine_85 : decode cX10_theatreLine 85 = .ok (.lcmp, 1) := dcs_at ok24_read_0_13 4 rfl
theorem dX10_theatreLine_86 : decode cX10_theatreLine 86 = .ok (.ifCond .ne 7, 3) := dcs_at ok24_read_0_13 5 rfl
theorem dX10_theatreLine_89 : decode cX10_theatreLine 89 = .ok (.iconst 0, 1) := dcs_at ok24_read_0_13 6 rfl
theorem dX10_theatreLine_90 : decode cX10_theatreLine 90 = .ok (.goto 16, 3) := dcs_at ok24_read_0_13 7 rfl
theorem dX10_theatreLine_93 : decode cX10_theatreLine 93 = .ok (.lload_n 1, 1) := dcs_at ok24_read_0_13 8 rfl
theorem dX10_theatreLine_94 : decode cX10_theatreLine 94 = .ok (.ldc2_w 155, 3) := dcs_at ok24_read_0_13 9 rfl
theorem dX10_theatreLine_97 : decode cX10_theatreLine 97 = .ok (.lcmp, 1) := dcs_at ok24_read_0_13 10 rfl
theorem dX10_theatreLine_98 : decode cX10_theatreLine 98 = .ok (.ifCond .ne 7, 3) := dcs_at ok24_read_0_13 11 rfl
theorem dX10_theatreLine_101 : decode cX10_theatreLine 101 = .ok (.iconst 1, 1) := dcs_at ok24_read_0_13 12 rfl
theorem dX10_theatreLine_102 : decode cX10_theatreLine 102 = .ok (.goto 4, 3) := dcs_at ok24_read_0_13 13 rfl
theorem dX10_theatreLine_105 : decode cX10_theatreLine 105 = .ok (.iconst 4, 1) := dcs_at ok24_read_0_13 14 rfl
theorem dX10_theatreLine_106 : decode cX10_theatreLine 106 = .ok (.lload_n 1, 1) := dcs_at ok24_read_0_13 15 rfl
theorem dX10_theatreLine_107 : decode cX10_theatreLine 107 = .ok (.ldc2_w 153, 3) := dcs_at ok24_read_0_13 16 rfl
theorem dX10_theatreLine_110 : decode cX10_theatreLine 110 = .ok (.lcmp, 1) := dcs_at ok24_read_0_13 17 rfl
theorem dX10_theatreLine_111 : decode cX10_theatreLine 111 = .ok (.ifCond .ne 7, 3) := dcs_at ok24_read_0_13 18 rfl
theorem dX10_theatreLine_114 : decode cX10_theatreLine 114 = .ok (.iconst 5, 1) := dcs_at ok24_read_0_13 19 rfl
theorem dX10_theatreLine_115 : decode cX10_theatreLine 115 = .ok (.goto 17, 3) := dcs_at ok24_read_0_13 20 rfl
theorem dX10_theatreLine_118 : decode cX10_theatreLine 118 = .ok (.lload_n 1, 1) := dcs_at ok24_read_0_13 21 rfl
theorem dX10_theatreLine_119 : decode cX10_theatreLine 119 = .ok (.ldc2_w 155, 3) := dcs_at ok24_read_0_13 22 rfl
theorem dX10_theatreLine_122 : decode cX10_theatreLine 122 = .ok (.lcmp, 1) := dcs_at ok24_read_0_13 23 rfl
theorem dX10_theatreLine_123 : decode cX10_theatreLine 123 = .ok (.ifCond .ne 8, 3) := dcs_at ok24_read_0_13 24 rfl
theorem dX10_theatreLine_126 : decode cX10_theatreLine 126 = .ok (.bipush 6, 2) := dcs_at ok24_read_0_13 25 rfl
theorem dX10_theatreLine_128 : decode cX10_theatreLine 128 = .ok (.goto 4, 3) := dcs_at ok24_read_0_13 26 rfl
theorem dX10_theatreLine_131 : decode cX10_theatreLine 131 = .ok (.iconst 4, 1) := dcs_at ok24_read_0_13 27 rfl
theorem dX10_theatreLine_132 : decode cX10_theatreLine 132 = .ok (.iload_n 3, 1) := dcs_at ok24_read_0_13 28 rfl
theorem dX10_theatreLine_133 : decode cX10_theatreLine 133 = .ok (.invokevirtual 159, 3) := dcs_at ok24_read_0_13 29 rfl
theorem dX10_theatreLine_136 : decode cX10_theatreLine 136 = .ok (.aload_n 0, 1) := dcs_at ok24_read_0_13 30 rfl
theorem dX10_theatreLine_137 : decode cX10_theatreLine 137 = .ok (.invokevirtual 140, 3) := dcs_at ok24_read_0_13 31 rfl
theorem dX10_theatreLine_140 : decode cX10_theatreLine 140 = .ok (.iload 4, 2) := dcs_at ok24_read_0_13 32 rfl
theorem dX10_theatreLine_142 : decode cX10_theatreLine 142 = .ok (.iconst (-1), 1) := dcs_at ok24_read_0_13 33 rfl
theorem dX10_theatreLine_143 : decode cX10_theatreLine 143 = .ok (.if_icmp .eq 54, 3) := dcs_at ok24_read_0_13 34 rfl
theorem dX10_theatreLine_146 : decode cX10_theatreLine 146 = .ok (.aload_n 0, 1) := dcs_at ok24_read_0_13 35 rfl
theorem dX10_theatreLine_147 : decode cX10_theatreLine 147 = .ok (.iconst 0, 1) := dcs_at ok24_read_0_13 36 rfl
theorem dX10_theatreLine_148 : decode cX10_theatreLine 148 = .ok (.iconst 0, 1) := dcs_at ok24_read_0_13 37 rfl
theorem dX10_theatreLine_149 : decode cX10_theatreLine 149 = .ok (.iload 4, 2) := dcs_at ok24_read_0_13 38 rfl
theorem dX10_theatreLine_151 : decode cX10_theatreLine 151 = .ok (.iconst 2, 1) := dcs_at ok24_read_0_13 39 rfl
def tb24_read_0_14 : List (Nat × (Instr × Nat)) := [(152, (.if_icmp .ne 8, 3)), (155, (.bipush 50, 2)), (157, (.goto 17, 3)), (160, (.iload 4, 2)), (162, (.iconst 3, 1)), (163, (.if_icmp .ne 9, 3)), (166, (.sipush 999, 3)), (169, (.goto 5, 3)), (172, (.bipush 20, 2)), (174, (.invokevirtual 163, 3)), (177, (.ifCond .ne 5, 3)), (180, (.iconst 0, 1)), (181, (.ireturn, 1)), (182, (.aload_n 0, 1)), (183, (.getfield 35, 3)), (186, (.iload 4, 2)), (188, (.aload_n 0, 1)), (189, (.getfield 38, 3)), (192, (.iconst 0, 1)), (193, (.iaload, 1)), (194, (.iastore, 1)), (195, (.iconst 1, 1)), (196, (.ireturn, 1)), (197, (.lload_n 1, 1)), (198, (.ldc2_w 153, 3)), (201, (.lcmp, 1)), (202, (.ifCond .ne 38, 3)), (205, (.aload_n 0, 1)), (206, (.iconst 0, 1)), (207, (.iconst 0, 1)), (208, (.bipush 99, 2)), (210, (.invokevirtual 163, 3)), (213, (.ifCond .eq 13, 3)), (216, (.aload_n 0, 1)), (217, (.iconst 1, 1)), (218, (.iconst 1, 1)), (219, (.iconst 2, 1)), (220, (.invokevirtual 163, 3)), (223, (.ifCond .ne 5, 3)), (226, (.iconst 0, 1))]
theorem ok24_read_0_14 : dcs cX10_theatreLine tb24_read_0_14 = true := by decide +kernel
theorem dX10_theatreLine_152 : decode cX10_theatreLine 152 = .ok (.if_icmp .ne 8, 3) := dcs_at ok24_read_0_14 0 rfl
theorem dX10_theatreLine_155 : decode cX10_theatreLine 155 = .ok (.bipush 50, 2) := dcs_at ok24_read_0_14 1 rfl
theorem dX10_theatreLine_157 : decode cX10_theatreLine 157 = .ok (.goto 17, 3) := dcs_at ok24_read_0_14 2 rfl
theorem dX10_theatreLine_160 : decode cX10_theatreLine 160 = .ok (.iload 4, 2) := dcs_at ok24_read_0_14 3 rfl
theorem dX10_theatreLine_162 : decode cX10_theatreLine 162 = .ok (.iconst 3, 1) := dcs_at ok24_read_0_14 4 rfl
theorem dX10_theatreLine_163 : decode cX10_theatreLine 163 = .ok (.if_icmp .ne 9, 3) := dcs_at ok24_read_0_14 5 rfl
theorem dX10_theatreLine_166 : decode cX10_theatreLine 166 = .ok (.sipush 999, 3) := dcs_at ok24_read_0_14 6 rfl
theorem dX10_theatreLine_169 : decode cX10_theatreLine 169 = .ok (.goto 5, 3) := dcs_at ok24_read_0_14 7 rfl
theorem dX10_theatreLine_172 : decode cX10_theatreLine 172 = .ok (.bipush 20, 2) := dcs_at ok24_read_0_14 8 rfl
theorem dX10_theatreLine_174 : decode cX10_theatreLine 174 = .ok (.invokevirtual 163, 3) := dcs_at ok24_read_0_14 9 rfl
theorem dX10_theatreLine_177 : decode cX10_theatreLine 177 = .ok (.ifCond .ne 5, 3) := dcs_at ok24_read_0_14 10 rfl
theorem dX10_theatreLine_180 : decode cX10_theatreLine 180 = .ok (.iconst 0, 1) := dcs_at ok24_read_0_14 11 rfl
theorem dX10_theatreLine_181 : decode cX10_theatreLine 181 = .ok (.ireturn, 1) := dcs_at ok24_read_0_14 12 rfl
theorem dX10_theatreLine_182 : decode cX10_theatreLine 182 = .ok (.aload_n 0, 1) := dcs_at ok24_read_0_14 13 rfl
theorem dX10_theatreLine_183 : decode cX10_theatreLine 183 = .ok (.getfield 35, 3) := dcs_at ok24_read_0_14 14 rfl
theorem dX10_theatreLine_186 : decode cX10_theatreLine 186 = .ok (.iload 4, 2) := dcs_at ok24_read_0_14 15 rfl
theorem dX10_theatreLine_188 : decode cX10_theatreLine 188 = .ok (.aload_n 0, 1) := dcs_at ok24_read_0_14 16 rfl
theorem dX10_theatreLine_189 : decode cX10_theatreLine 189 = .ok (.getfield 38, 3) := dcs_at ok24_read_0_14 17 rfl
theorem dX10_theatreLine_192 : decode cX10_theatreLine 192 = .ok (.iconst 0, 1) := dcs_at ok24_read_0_14 18 rfl
theorem dX10_theatreLine_193 : decode cX10_theatreLine 193 = .ok (.iaload, 1) := dcs_at ok24_read_0_14 19 rfl
theorem dX10_theatreLine_194 : decode cX10_theatreLine 194 = .ok (.iastore, 1) := dcs_at ok24_read_0_14 20 rfl
theorem dX10_theatreLine_195 : decode cX10_theatreLine 195 = .ok (.iconst 1, 1) := dcs_at ok24_read_0_14 21 rfl
theorem dX10_theatreLine_196 : decode cX10_theatreLine 196 = .ok (.ireturn, 1) := dcs_at ok24_read_0_14 22 rfl
theorem dX10_theatreLine_197 : decode cX10_theatreLine 197 = .ok (.lload_n 1, 1) := dcs_at ok24_read_0_14 23 rfl
theorem dX10_theatreLine_198 : decode cX10_theatreLine 198 = .ok (.ldc2_w 153, 3) := dcs_at ok24_read_0_14 24 rfl
theorem dX10_theatreLine_201 : decode cX10_theatreLine 201 = .ok (.lcmp, 1) := dcs_at ok24_read_0_14 25 rfl
theorem dX10_theatreLine_202 : decode cX10_theatreLine 202 = .ok (.ifCond .ne 38, 3) := dcs_at ok24_read_0_14 26 rfl
theorem dX10_theatreLine_205 : decode cX10_theatreLine 205 = .ok (.aload_n 0, 1) := dcs_at ok24_read_0_14 27 rfl
theorem dX10_theatreLine_206 : decode cX10_theatreLine 206 = .ok (.iconst 0, 1) := dcs_at ok24_read_0_14 28 rfl
theorem dX10_theatreLine_207 : decode cX10_theatreLine 207 = .ok (.iconst 0, 1) := dcs_at ok24_read_0_14 29 rfl
theorem dX10_theatreLine_208 : decode cX10_theatreLine 208 = .ok (.bipush 99, 2) := dcs_at ok24_read_0_14 30 rfl
theorem dX10_theatreLine_210 : decode cX10_theatreLine 210 = .ok (.invokevirtual 163, 3) := dcs_at ok24_read_0_14 31 rfl
theorem dX10_theatreLine_213 : decode cX10_theatreLine 213 = .ok (.ifCond .eq 13, 3) := dcs_at ok24_read_0_14 32 rfl
theorem dX10_theatreLine_216 : decode cX10_theatreLine 216 = .ok (.aload_n 0, 1) := dcs_at ok24_read_0_14 33 rfl
theorem dX10_theatreLine_217 : decode cX10_theatreLine 217 = .ok (.iconst 1, 1) := dcs_at ok24_read_0_14 34 rfl
theorem dX10_theatreLine_218 : decode cX10_theatreLine 218 = .ok (.iconst 1, 1) := dcs_at ok24_read_0_14 35 rfl
theorem dX10_theatreLine_219 : decode cX10_theatreLine 219 = .ok (.iconst 2, 1) := dcs_at ok24_read_0_14 36 rfl
theorem dX10_theatreLine_220 : decode cX10_theatreLine 220 = .ok (.invokevirtual 163, 3) := dcs_at ok24_read_0_14 37 rfl
theorem dX10_theatreLine_223 : decode cX10_theatreLine 223 = .ok (.ifCond .ne 5, 3) := dcs_at ok24_read_0_14 38 rfl
theorem dX10_theatreLine_226 : decode cX10_theatreLine 226 = .ok (.iconst 0, 1) := dcs_at ok24_read_0_14 39 rfl
def tb24_read_0_15 : List (Nat × (Instr × Nat)) := [(227, (.ireturn, 1)), (228, (.aload_n 0, 1)), (229, (.iconst 0, 1)), (230, (.bipush 6, 2)), (232, (.iconst 2, 1)), (233, (.iconst 5, 1)), (234, (.invokevirtual 166, 3)), (237, (.goto 91, 3)), (240, (.lload_n 1, 1)), (241, (.ldc2_w 155, 3)), (244, (.lcmp, 1)), (245, (.ifCond .ne 41, 3)), (248, (.aload_n 0, 1)), (249, (.iconst 0, 1)), (250, (.iconst 0, 1)), (251, (.bipush 40, 2)), (253, (.invokevirtual 163, 3)), (256, (.ifCond .eq 15, 3)), (259, (.aload_n 0, 1)), (260, (.iconst 1, 1)), (261, (.iconst 0, 1)), (262, (.sipush 400, 3)), (265, (.invokevirtual 163, 3)), (268, (.ifCond .ne 5, 3)), (271, (.iconst 0, 1)), (272, (.ireturn, 1)), (273, (.aload_n 0, 1)), (274, (.iconst 1, 1)), (275, (.bipush 16, 2)), (277, (.iconst 2, 1)), (278, (.bipush 6, 2)), (280, (.invokevirtual 166, 3)), (283, (.goto 45, 3)), (286, (.aload_n 0, 1)), (287, (.iconst 0, 1)), (288, (.iconst 0, 1)), (289, (.bipush 30, 2)), (291, (.invokevirtual 163, 3)), (294, (.ifCond .eq 23, 3)), (297, (.aload_n 0, 1))]
theorem ok24_read_0_15 : dcs cX10_theatreLine tb24_read_0_15 = true := by decide +kernel
theorem dX10_theatreLine_227 : decode cX10_theatreLine 227 = .ok (.ireturn, 1) := dcs_at ok24_read_0_15 0 rfl
theorem dX10_theatreLine_228 : decode cX10_theatreLine 228 = .ok (.aload_n 0, 1) := dcs_at ok24_read_0_15 1 rfl
theorem dX10_theatreLine_229 : decode cX10_theatreLine 229 = .ok (.iconst 0, 1) := dcs_at ok24_read_0_15 2 rfl
theorem dX10_theatreLine_230 : decode cX10_theatreLine 230 = .ok (.bipush 6, 2) := dcs_at ok24_read_0_15 3 rfl
theorem dX10_theatreLine_232 : decode cX10_theatreLine 232 = .ok (.iconst 2, 1) := dcs_at ok24_read_0_15 4 rfl
theorem dX10_theatreLine_233 : decode cX10_theatreLine 233 = .ok (.iconst 5, 1) := dcs_at ok24_read_0_15 5 rfl
theorem dX10_theatreLine_234 : decode cX10_theatreLine 234 = .ok (.invokevirtual 166, 3) := dcs_at ok24_read_0_15 6 rfl
theorem dX10_theatreLine_237 : decode cX10_theatreLine 237 = .ok (.goto 91, 3) := dcs_at ok24_read_0_15 7 rfl
theorem dX10_theatreLine_240 : decode cX10_theatreLine 240 = .ok (.lload_n 1, 1) := dcs_at ok24_read_0_15 8 rfl
theorem dX10_theatreLine_241 : decode cX10_theatreLine 241 = .ok (.ldc2_w 155, 3) := dcs_at ok24_read_0_15 9 rfl
theorem dX10_theatreLine_244 : decode cX10_theatreLine 244 = .ok (.lcmp, 1) := dcs_at ok24_read_0_15 10 rfl
theorem dX10_theatreLine_245 : decode cX10_theatreLine 245 = .ok (.ifCond .ne 41, 3) := dcs_at ok24_read_0_15 11 rfl
theorem dX10_theatreLine_248 : decode cX10_theatreLine 248 = .ok (.aload_n 0, 1) := dcs_at ok24_read_0_15 12 rfl
theorem dX10_theatreLine_249 : decode cX10_theatreLine 249 = .ok (.iconst 0, 1) := dcs_at ok24_read_0_15 13 rfl
theorem dX10_theatreLine_250 : decode cX10_theatreLine 250 = .ok (.iconst 0, 1) := dcs_at ok24_read_0_15 14 rfl
theorem dX10_theatreLine_251 : decode cX10_theatreLine 251 = .ok (.bipush 40, 2) := dcs_at ok24_read_0_15 15 rfl
theorem dX10_theatreLine_253 : decode cX10_theatreLine 253 = .ok (.invokevirtual 163, 3) := dcs_at ok24_read_0_15 16 rfl
theorem dX10_theatreLine_256 : decode cX10_theatreLine 256 = .ok (.ifCond .eq 15, 3) := dcs_at ok24_read_0_15 17 rfl
theorem dX10_theatreLine_259 : decode cX10_theatreLine 259 = .ok (.aload_n 0, 1) := dcs_at ok24_read_0_15 18 rfl
theorem dX10_theatreLine_260 : decode cX10_theatreLine 260 = .ok (.iconst 1, 1) := dcs_at ok24_read_0_15 19 rfl
theorem dX10_theatreLine_261 : decode cX10_theatreLine 261 = .ok (.iconst 0, 1) := dcs_at ok24_read_0_15 20 rfl
theorem dX10_theatreLine_262 : decode cX10_theatreLine 262 = .ok (.sipush 400, 3) := dcs_at ok24_read_0_15 21 rfl
theorem dX10_theatreLine_265 : decode cX10_theatreLine 265 = .ok (.invokevirtual 163, 3) := dcs_at ok24_read_0_15 22 rfl
theorem dX10_theatreLine_268 : decode cX10_theatreLine 268 = .ok (.ifCond .ne 5, 3) := dcs_at ok24_read_0_15 23 rfl
theorem dX10_theatreLine_271 : decode cX10_theatreLine 271 = .ok (.iconst 0, 1) := dcs_at ok24_read_0_15 24 rfl
theorem dX10_theatreLine_272 : decode cX10_theatreLine 272 = .ok (.ireturn, 1) := dcs_at ok24_read_0_15 25 rfl
theorem dX10_theatreLine_273 : decode cX10_theatreLine 273 = .ok (.aload_n 0, 1) := dcs_at ok24_read_0_15 26 rfl
theorem dX10_theatreLine_274 : decode cX10_theatreLine 274 = .ok (.iconst 1, 1) := dcs_at ok24_read_0_15 27 rfl
theorem dX10_theatreLine_275 : decode cX10_theatreLine 275 = .ok (.bipush 16, 2) := dcs_at ok24_read_0_15 28 rfl
theorem dX10_theatreLine_277 : decode cX10_theatreLine 277 = .ok (.iconst 2, 1) := dcs_at ok24_read_0_15 29 rfl
theorem dX10_theatreLine_278 : decode cX10_theatreLine 278 = .ok (.bipush 6, 2) := dcs_at ok24_read_0_15 30 rfl
theorem dX10_theatreLine_280 : decode cX10_theatreLine 280 = .ok (.invokevirtual 166, 3) := dcs_at ok24_read_0_15 31 rfl
theorem dX10_theatreLine_283 : decode cX10_theatreLine 283 = .ok (.goto 45, 3) := dcs_at ok24_read_0_15 32 rfl
theorem dX10_theatreLine_286 : decode cX10_theatreLine 286 = .ok (.aload_n 0, 1) := dcs_at ok24_read_0_15 33 rfl
theorem dX10_theatreLine_287 : decode cX10_theatreLine 287 = .ok (.iconst 0, 1) := dcs_at ok24_read_0_15 34 rfl
theorem dX10_theatreLine_288 : decode cX10_theatreLine 288 = .ok (.iconst 0, 1) := dcs_at ok24_read_0_15 35 rfl
theorem dX10_theatreLine_289 : decode cX10_theatreLine 289 = .ok (.bipush 30, 2) := dcs_at ok24_read_0_15 36 rfl
theorem dX10_theatreLine_291 : decode cX10_theatreLine 291 = .ok (.invokevirtual 163, 3) := dcs_at ok24_read_0_15 37 rfl
theorem dX10_theatreLine_294 : decode cX10_theatreLine 294 = .ok (.ifCond .eq 23, 3) := dcs_at ok24_read_0_15 38 rfl
theorem dX10_theatreLine_297 : decode cX10_theatreLine 297 = .ok (.aload_n 0, 1) := dcs_at ok24_read_0_15 39 rfl
def tb24_read_0_16 : List (Nat × (Instr × Nat)) := [(298, (.iconst 1, 1)), (299, (.iconst 0, 1)), (300, (.bipush 30, 2)), (302, (.aload_n 0, 1)), (303, (.getfield 38, 3)), (306, (.iconst 0, 1)), (307, (.iaload, 1)), (308, (.invokestatic 170, 3)), (311, (.invokevirtual 163, 3)), (314, (.ifCond .ne 5, 3)), (317, (.iconst 0, 1)), (318, (.ireturn, 1)), (319, (.aload_n 0, 1)), (320, (.iconst 4, 1)), (321, (.bipush 28, 2)), (323, (.iconst 2, 1)), (324, (.iconst 4, 1)), (325, (.invokevirtual 166, 3)), (328, (.iconst 1, 1)), (329, (.ireturn, 1))]
theorem ok24_read_0_16 : dcs cX10_theatreLine tb24_read_0_16 = true := by decide +kernel
theorem dX10_theatreLine_298 : decode cX10_theatreLine 298 = .ok (.iconst 1, 1) := dcs_at ok24_read_0_16 0 rfl
theorem dX10_theatreLine_299 : decode cX10_theatreLine 299 = .ok (.iconst 0, 1) := dcs_at ok24_read_0_16 1 rfl
theorem dX10_theatreLine_300 : decode cX10_theatreLine 300 = .ok (.bipush 30, 2) := dcs_at ok24_read_0_16 2 rfl
theorem dX10_theatreLine_302 : decode cX10_theatreLine 302 = .ok (.aload_n 0, 1) := dcs_at ok24_read_0_16 3 rfl
theorem dX10_theatreLine_303 : decode cX10_theatreLine 303 = .ok (.getfield 38, 3) := dcs_at ok24_read_0_16 4 rfl
theorem dX10_theatreLine_306 : decode cX10_theatreLine 306 = .ok (.iconst 0, 1) := dcs_at ok24_read_0_16 5 rfl
theorem dX10_theatreLine_307 : decode cX10_theatreLine 307 = .ok (.iaload, 1) := dcs_at ok24_read_0_16 6 rfl
theorem dX10_theatreLine_308 : decode cX10_theatreLine 308 = .ok (.invokestatic 170, 3) := dcs_at ok24_read_0_16 7 rfl
theorem dX10_theatreLine_311 : decode cX10_theatreLine 311 = .ok (.invokevirtual 163, 3) := dcs_at ok24_read_0_16 8 rfl
theorem dX10_theatreLine_314 : decode cX10_theatreLine 314 = .ok (.ifCond .ne 5, 3) := dcs_at ok24_read_0_16 9 rfl
theorem dX10_theatreLine_317 : decode cX10_theatreLine 317 = .ok (.iconst 0, 1) := dcs_at ok24_read_0_16 10 rfl
theorem dX10_theatreLine_318 : decode cX10_theatreLine 318 = .ok (.ireturn, 1) := dcs_at ok24_read_0_16 11 rfl
theorem dX10_theatreLine_319 : decode cX10_theatreLine 319 = .ok (.aload_n 0, 1) := dcs_at ok24_read_0_16 12 rfl
theorem dX10_theatreLine_320 : decode cX10_theatreLine 320 = .ok (.iconst 4, 1) := dcs_at ok24_read_0_16 13 rfl
theorem dX10_theatreLine_321 : decode cX10_theatreLine 321 = .ok (.bipush 28, 2) := dcs_at ok24_read_0_16 14 rfl
theorem dX10_theatreLine_323 : decode cX10_theatreLine 323 = .ok (.iconst 2, 1) := dcs_at ok24_read_0_16 15 rfl
theorem dX10_theatreLine_324 : decode cX10_theatreLine 324 = .ok (.iconst 4, 1) := dcs_at ok24_read_0_16 16 rfl
theorem dX10_theatreLine_325 : decode cX10_theatreLine 325 = .ok (.invokevirtual 166, 3) := dcs_at ok24_read_0_16 17 rfl
theorem dX10_theatreLine_328 : decode cX10_theatreLine 328 = .ok (.iconst 1, 1) := dcs_at ok24_read_0_16 18 rfl
theorem dX10_theatreLine_329 : decode cX10_theatreLine 329 = .ok (.ireturn, 1) := dcs_at ok24_read_0_16 19 rfl
def tb24_read_0_17 : List (Nat × (Instr × Nat)) := [(0, (.lload_n 0, 1)), (1, (.ldc2_w 174, 3)), (4, (.lcmp, 1)), (5, (.ifCond .ne 7, 3)), (8, (.iconst 0, 1)), (9, (.goto 77, 3)), (12, (.lload_n 0, 1)), (13, (.ldc2_w 176, 3)), (16, (.lcmp, 1)), (17, (.ifCond .ne 7, 3)), (20, (.iconst 1, 1)), (21, (.goto 65, 3)), (24, (.lload_n 0, 1)), (25, (.ldc2_w 178, 3)), (28, (.lcmp, 1)), (29, (.ifCond .ne 7, 3)), (32, (.iconst 2, 1)), (33, (.goto 53, 3)), (36, (.lload_n 0, 1)), (37, (.ldc2_w 180, 3)), (40, (.lcmp, 1)), (41, (.ifCond .ne 7, 3)), (44, (.iconst 3, 1)), (45, (.goto 41, 3)), (48, (.lload_n 0, 1)), (49, (.ldc2_w 182, 3)), (52, (.lcmp, 1)), (53, (.ifCond .ne 7, 3)), (56, (.iconst 4, 1)), (57, (.goto 29, 3)), (60, (.lload_n 0, 1)), (61, (.ldc2_w 184, 3)), (64, (.lcmp, 1)), (65, (.ifCond .ne 7, 3)), (68, (.iconst 5, 1)), (69, (.goto 17, 3)), (72, (.lload_n 0, 1)), (73, (.ldc2_w 186, 3)), (76, (.lcmp, 1)), (77, (.ifCond .ne 8, 3))]
theorem ok24_read_0_17 : dcs cX10_deedBy tb24_read_0_17 = true := by decide +kernel
theorem dX10_deedBy_0 : decode cX10_deedBy 0 = .ok (.lload_n 0, 1) := dcs_at ok24_read_0_17 0 rfl
theorem dX10_deedBy_1 : decode cX10_deedBy 1 = .ok (.ldc2_w 174, 3) := dcs_at ok24_read_0_17 1 rfl
theorem dX10_deedBy_4 : decode cX10_deedBy 4 = .ok (.lcmp, 1) := dcs_at ok24_read_0_17 2 rfl
theorem dX10_deedBy_5 : decode cX10_deedBy 5 = .ok (.ifCond .ne 7, 3) := dcs_at ok24_read_0_17 3 rfl
theorem dX10_deedBy_8 : decode cX10_deedBy 8 = .ok (.iconst 0, 1) := dcs_at ok24_read_0_17 4 rfl
theorem dX10_deedBy_9 : decode cX10_deedBy 9 = .ok (.goto 77, 3) := dcs_at ok24_read_0_17 5 rfl
theorem dX10_deedBy_12 : decode cX10_deedBy 12 = .ok (.lload_n 0, 1) := dcs_at ok24_read_0_17 6 rfl
theorem dX10_deedBy_13 : decode cX10_deedBy 13 = .ok (.ldc2_w 176, 3) := dcs_at ok24_read_0_17 7 rfl
theorem dX10_deedBy_16 : decode cX10_deedBy 16 = .ok (.lcmp, 1) := dcs_at ok24_read_0_17 8 rfl
theorem dX10_deedBy_17 : decode cX10_deedBy 17 = .ok (.ifCond .ne 7, 3) := dcs_at ok24_read_0_17 9 rfl
theorem dX10_deedBy_20 : decode cX10_deedBy 20 = .ok (.iconst 1, 1) := dcs_at ok24_read_0_17 10 rfl
theorem dX10_deedBy_21 : decode cX10_deedBy 21 = .ok (.goto 65, 3) := dcs_at ok24_read_0_17 11 rfl
theorem dX10_deedBy_24 : decode cX10_deedBy 24 = .ok (.lload_n 0, 1) := dcs_at ok24_read_0_17 12 rfl
theorem dX10_deedBy_25 : decode cX10_deedBy 25 = .ok (.ldc2_w 178, 3) := dcs_at ok24_read_0_17 13 rfl
theorem dX10_deedBy_28 : decode cX10_deedBy 28 = .ok (.lcmp, 1) := dcs_at ok24_read_0_17 14 rfl
theorem dX10_deedBy_29 : decode cX10_deedBy 29 = .ok (.ifCond .ne 7, 3) := dcs_at ok24_read_0_17 15 rfl
theorem dX10_deedBy_32 : decode cX10_deedBy 32 = .ok (.iconst 2, 1) := dcs_at ok24_read_0_17 16 rfl
theorem dX10_deedBy_33 : decode cX10_deedBy 33 = .ok (.goto 53, 3) := dcs_at ok24_read_0_17 17 rfl
theorem dX10_deedBy_36 : decode cX10_deedBy 36 = .ok (.lload_n 0, 1) := dcs_at ok24_read_0_17 18 rfl
theorem dX10_deedBy_37 : decode cX10_deedBy 37 = .ok (.ldc2_w 180, 3) := dcs_at ok24_read_0_17 19 rfl
theorem dX10_deedBy_40 : decode cX10_deedBy 40 = .ok (.lcmp, 1) := dcs_at ok24_read_0_17 20 rfl
theorem dX10_deedBy_41 : decode cX10_deedBy 41 = .ok (.ifCond .ne 7, 3) := dcs_at ok24_read_0_17 21 rfl
theorem dX10_deedBy_44 : decode cX10_deedBy 44 = .ok (.iconst 3, 1) := dcs_at ok24_read_0_17 22 rfl
theorem dX10_deedBy_45 : decode cX10_deedBy 45 = .ok (.goto 41, 3) := dcs_at ok24_read_0_17 23 rfl
theorem dX10_deedBy_48 : decode cX10_deedBy 48 = .ok (.lload_n 0, 1) := dcs_at ok24_read_0_17 24 rfl
theorem dX10_deedBy_49 : decode cX10_deedBy 49 = .ok (.ldc2_w 182, 3) := dcs_at ok24_read_0_17 25 rfl
theorem dX10_deedBy_52 : decode cX10_deedBy 52 = .ok (.lcmp, 1) := dcs_at ok24_read_0_17 26 rfl
theorem dX10_deedBy_53 : decode cX10_deedBy 53 = .ok (.ifCond .ne 7, 3) := dcs_at ok24_read_0_17 27 rfl
theorem dX10_deedBy_56 : decode cX10_deedBy 56 = .ok (.iconst 4, 1) := dcs_at ok24_read_0_17 28 rfl
theorem dX10_deedBy_57 : decode cX10_deedBy 57 = .ok (.goto 29, 3) := dcs_at ok24_read_0_17 29 rfl
theorem dX10_deedBy_60 : decode cX10_deedBy 60 = .ok (.lload_n 0, 1) := dcs_at ok24_read_0_17 30 rfl
theorem dX10_deedBy_61 : decode cX10_deedBy 61 = .ok (.ldc2_w 184, 3) := dcs_at ok24_read_0_17 31 rfl
theorem dX10_deedBy_64 : decode cX10_deedBy 64 = .ok (.lcmp, 1) := dcs_at ok24_read_0_17 32 rfl
theorem dX10_deedBy_65 : decode cX10_deedBy 65 = .ok (.ifCond .ne 7, 3) := dcs_at ok24_read_0_17 33 rfl
theorem dX10_deedBy_68 : decode cX10_deedBy 68 = .ok (.iconst 5, 1) := dcs_at ok24_read_0_17 34 rfl
theorem dX10_deedBy_69 : decode cX10_deedBy 69 = .ok (.goto 17, 3) := dcs_at ok24_read_0_17 35 rfl
theorem dX10_deedBy_72 : decode cX10_deedBy 72 = .ok (.lload_n 0, 1) := dcs_at ok24_read_0_17 36 rfl
theorem dX10_deedBy_73 : decode cX10_deedBy 73 = .ok (.ldc2_w 186, 3) := dcs_at ok24_read_0_17 37 rfl
theorem dX10_deedBy_76 : decode cX10_deedBy 76 = .ok (.lcmp, 1) := dcs_at ok24_read_0_17 38 rfl
theorem dX10_deedBy_77 : decode cX10_deedBy 77 = .ok (.ifCond .ne 8, 3) := dcs_at ok24_read_0_17 39 rfl
def tb24_read_0_18 : List (Nat × (Instr × Nat)) := [(80, (.bipush 6, 2)), (82, (.goto 4, 3)), (85, (.iconst (-1), 1)), (86, (.ireturn, 1))]
theorem ok24_read_0_18 : dcs cX10_deedBy tb24_read_0_18 = true := by decide +kernel
theorem dX10_deedBy_80 : decode cX10_deedBy 80 = .ok (.bipush 6, 2) := dcs_at ok24_read_0_18 0 rfl
theorem dX10_deedBy_82 : decode cX10_deedBy 82 = .ok (.goto 4, 3) := dcs_at ok24_read_0_18 1 rfl
theorem dX10_deedBy_85 : decode cX10_deedBy 85 = .ok (.iconst (-1), 1) := dcs_at ok24_read_0_18 2 rfl
theorem dX10_deedBy_86 : decode cX10_deedBy 86 = .ok (.ireturn, 1) := dcs_at ok24_read_0_18 3 rfl
def tb24_read_0_19 : List (Nat × (Instr × Nat)) := [(0, (.iload_n 1, 1)), (1, (.tableswitch 179 0 4 #[35, 72, 72, 115, 152], 35)), (36, (.aload_n 0, 1)), (37, (.iconst 1, 1)), (38, (.iconst 0, 1)), (39, (.iconst 4, 1)), (40, (.invokevirtual 163, 3)), (43, (.ifCond .eq 28, 3)), (46, (.aload_n 0, 1)), (47, (.iconst 2, 1)), (48, (.iconst 0, 1)), (49, (.iconst 5, 1)), (50, (.invokevirtual 163, 3)), (53, (.ifCond .eq 18, 3)), (56, (.aload_n 0, 1)), (57, (.iconst 3, 1)), (58, (.iconst 1, 1)), (59, (.bipush 99, 2)), (61, (.invokevirtual 163, 3)), (64, (.ifCond .eq 7, 3)), (67, (.iconst 1, 1)), (68, (.goto 4, 3)), (71, (.iconst 0, 1)), (72, (.ireturn, 1)), (73, (.aload_n 0, 1)), (74, (.iconst 1, 1)), (75, (.iconst 0, 1)), (76, (.iconst 4, 1)), (77, (.invokevirtual 163, 3)), (80, (.ifCond .eq 34, 3)), (83, (.aload_n 0, 1)), (84, (.iconst 2, 1)), (85, (.iconst 0, 1)), (86, (.iconst 4, 1)), (87, (.aload_n 0, 1)), (88, (.getfield 38, 3)), (91, (.iconst 1, 1)), (92, (.iaload, 1)), (93, (.invokevirtual 143, 3)), (96, (.ifCond .eq 18, 3))]
theorem ok24_read_0_19 : dcs cX10_deedNumbers tb24_read_0_19 = true := by decide +kernel
theorem dX10_deedNumbers_0 : decode cX10_deedNumbers 0 = .ok (.iload_n 1, 1) := dcs_at ok24_read_0_19 0 rfl
theorem dX10_deedNumbers_1 : decode cX10_deedNumbers 1 = .ok (.tableswitch 179 0 4 #[35, 72, 72, 115, 152], 35) := dcs_at ok24_read_0_19 1 rfl
theorem dX10_deedNumbers_36 : decode cX10_deedNumbers 36 = .ok (.aload_n 0, 1) := dcs_at ok24_read_0_19 2 rfl
theorem dX10_deedNumbers_37 : decode cX10_deedNumbers 37 = .ok (.iconst 1, 1) := dcs_at ok24_read_0_19 3 rfl
theorem dX10_deedNumbers_38 : decode cX10_deedNumbers 38 = .ok (.iconst 0, 1) := dcs_at ok24_read_0_19 4 rfl
theorem dX10_deedNumbers_39 : decode cX10_deedNumbers 39 = .ok (.iconst 4, 1) := dcs_at ok24_read_0_19 5 rfl
theorem dX10_deedNumbers_40 : decode cX10_deedNumbers 40 = .ok (.invokevirtual 163, 3) := dcs_at ok24_read_0_19 6 rfl
theorem dX10_deedNumbers_43 : decode cX10_deedNumbers 43 = .ok (.ifCond .eq 28, 3) := dcs_at ok24_read_0_19 7 rfl
theorem dX10_deedNumbers_46 : decode cX10_deedNumbers 46 = .ok (.aload_n 0, 1) := dcs_at ok24_read_0_19 8 rfl
theorem dX10_deedNumbers_47 : decode cX10_deedNumbers 47 = .ok (.iconst 2, 1) := dcs_at ok24_read_0_19 9 rfl
theorem dX10_deedNumbers_48 : decode cX10_deedNumbers 48 = .ok (.iconst 0, 1) := dcs_at ok24_read_0_19 10 rfl
theorem dX10_deedNumbers_49 : decode cX10_deedNumbers 49 = .ok (.iconst 5, 1) := dcs_at ok24_read_0_19 11 rfl
theorem dX10_deedNumbers_50 : decode cX10_deedNumbers 50 = .ok (.invokevirtual 163, 3) := dcs_at ok24_read_0_19 12 rfl
theorem dX10_deedNumbers_53 : decode cX10_deedNumbers 53 = .ok (.ifCond .eq 18, 3) := dcs_at ok24_read_0_19 13 rfl
theorem dX10_deedNumbers_56 : decode cX10_deedNumbers 56 = .ok (.aload_n 0, 1) := dcs_at ok24_read_0_19 14 rfl
theorem dX10_deedNumbers_57 : decode cX10_deedNumbers 57 = .ok (.iconst 3, 1) := dcs_at ok24_read_0_19 15 rfl
theorem dX10_deedNumbers_58 : decode cX10_deedNumbers 58 = .ok (.iconst 1, 1) := dcs_at ok24_read_0_19 16 rfl
theorem dX10_deedNumbers_59 : decode cX10_deedNumbers 59 = .ok (.bipush 99, 2) := dcs_at ok24_read_0_19 17 rfl
theorem dX10_deedNumbers_61 : decode cX10_deedNumbers 61 = .ok (.invokevirtual 163, 3) := dcs_at ok24_read_0_19 18 rfl
theorem dX10_deedNumbers_64 : decode cX10_deedNumbers 64 = .ok (.ifCond .eq 7, 3) := dcs_at ok24_read_0_19 19 rfl
theorem dX10_deedNumbers_67 : decode cX10_deedNumbers 67 = .ok (.iconst 1, 1) := dcs_at ok24_read_0_19 20 rfl
theorem dX10_deedNumbers_68 : decode cX10_deedNumbers 68 = .ok (.goto 4, 3) := dcs_at ok24_read_0_19 21 rfl
theorem dX10_deedNumbers_71 : decode cX10_deedNumbers 71 = .ok (.iconst 0, 1) := dcs_at ok24_read_0_19 22 rfl
theorem dX10_deedNumbers_72 : decode cX10_deedNumbers 72 = .ok (.ireturn, 1) := dcs_at ok24_read_0_19 23 rfl
theorem dX10_deedNumbers_73 : decode cX10_deedNumbers 73 = .ok (.aload_n 0, 1) := dcs_at ok24_read_0_19 24 rfl
theorem dX10_deedNumbers_74 : decode cX10_deedNumbers 74 = .ok (.iconst 1, 1) := dcs_at ok24_read_0_19 25 rfl
theorem dX10_deedNumbers_75 : decode cX10_deedNumbers 75 = .ok (.iconst 0, 1) := dcs_at ok24_read_0_19 26 rfl
theorem dX10_deedNumbers_76 : decode cX10_deedNumbers 76 = .ok (.iconst 4, 1) := dcs_at ok24_read_0_19 27 rfl
theorem dX10_deedNumbers_77 : decode cX10_deedNumbers 77 = .ok (.invokevirtual 163, 3) := dcs_at ok24_read_0_19 28 rfl
theorem dX10_deedNumbers_80 : decode cX10_deedNumbers 80 = .ok (.ifCond .eq 34, 3) := dcs_at ok24_read_0_19 29 rfl
theorem dX10_deedNumbers_83 : decode cX10_deedNumbers 83 = .ok (.aload_n 0, 1) := dcs_at ok24_read_0_19 30 rfl
theorem dX10_deedNumbers_84 : decode cX10_deedNumbers 84 = .ok (.iconst 2, 1) := dcs_at ok24_read_0_19 31 rfl
theorem dX10_deedNumbers_85 : decode cX10_deedNumbers 85 = .ok (.iconst 0, 1) := dcs_at ok24_read_0_19 32 rfl
theorem dX10_deedNumbers_86 : decode cX10_deedNumbers 86 = .ok (.iconst 4, 1) := dcs_at ok24_read_0_19 33 rfl
theorem dX10_deedNumbers_87 : decode cX10_deedNumbers 87 = .ok (.aload_n 0, 1) := dcs_at ok24_read_0_19 34 rfl
theorem dX10_deedNumbers_88 : decode cX10_deedNumbers 88 = .ok (.getfield 38, 3) := dcs_at ok24_read_0_19 35 rfl
theorem dX10_deedNumbers_91 : decode cX10_deedNumbers 91 = .ok (.iconst 1, 1) := dcs_at ok24_read_0_19 36 rfl
theorem dX10_deedNumbers_92 : decode cX10_deedNumbers 92 = .ok (.iaload, 1) := dcs_at ok24_read_0_19 37 rfl
theorem dX10_deedNumbers_93 : decode cX10_deedNumbers 93 = .ok (.invokevirtual 143, 3) := dcs_at ok24_read_0_19 38 rfl
theorem dX10_deedNumbers_96 : decode cX10_deedNumbers 96 = .ok (.ifCond .eq 18, 3) := dcs_at ok24_read_0_19 39 rfl
def tb24_read_0_20 : List (Nat × (Instr × Nat)) := [(99, (.aload_n 0, 1)), (100, (.iconst 3, 1)), (101, (.iconst 1, 1)), (102, (.bipush 99, 2)), (104, (.invokevirtual 163, 3)), (107, (.ifCond .eq 7, 3)), (110, (.iconst 1, 1)), (111, (.goto 4, 3)), (114, (.iconst 0, 1)), (115, (.ireturn, 1)), (116, (.aload_n 0, 1)), (117, (.iconst 1, 1)), (118, (.iconst 0, 1)), (119, (.iconst 5, 1)), (120, (.invokevirtual 163, 3)), (123, (.ifCond .eq 28, 3)), (126, (.aload_n 0, 1)), (127, (.iconst 2, 1)), (128, (.iconst 0, 1)), (129, (.iconst 4, 1)), (130, (.invokevirtual 163, 3)), (133, (.ifCond .eq 18, 3)), (136, (.aload_n 0, 1)), (137, (.iconst 3, 1)), (138, (.iconst 1, 1)), (139, (.bipush 99, 2)), (141, (.invokevirtual 163, 3)), (144, (.ifCond .eq 7, 3)), (147, (.iconst 1, 1)), (148, (.goto 4, 3)), (151, (.iconst 0, 1)), (152, (.ireturn, 1)), (153, (.aload_n 0, 1)), (154, (.iconst 1, 1)), (155, (.iconst 0, 1)), (156, (.iconst 5, 1)), (157, (.invokevirtual 163, 3)), (160, (.ifCond .eq 18, 3)), (163, (.aload_n 0, 1)), (164, (.iconst 2, 1))]
theorem ok24_read_0_20 : dcs cX10_deedNumbers tb24_read_0_20 = true := by decide +kernel
theorem dX10_deedNumbers_99 : decode cX10_deedNumbers 99 = .ok (.aload_n 0, 1) := dcs_at ok24_read_0_20 0 rfl
theorem dX10_deedNumbers_100 : decode cX10_deedNumbers 100 = .ok (.iconst 3, 1) := dcs_at ok24_read_0_20 1 rfl
theorem dX10_deedNumbers_101 : decode cX10_deedNumbers 101 = .ok (.iconst 1, 1) := dcs_at ok24_read_0_20 2 rfl
theorem dX10_deedNumbers_102 : decode cX10_deedNumbers 102 = .ok (.bipush 99, 2) := dcs_at ok24_read_0_20 3 rfl
theorem dX10_deedNumbers_104 : decode cX10_deedNumbers 104 = .ok (.invokevirtual 163, 3) := dcs_at ok24_read_0_20 4 rfl
theorem dX10_deedNumbers_107 : decode cX10_deedNumbers 107 = .ok (.ifCond .eq 7, 3) := dcs_at ok24_read_0_20 5 rfl
theorem dX10_deedNumbers_110 : decode cX10_deedNumbers 110 = .ok (.iconst 1, 1) := dcs_at ok24_read_0_20 6 rfl
theorem dX10_deedNumbers_111 : decode cX10_deedNumbers 111 = .ok (.goto 4, 3) := dcs_at ok24_read_0_20 7 rfl
theorem dX10_deedNumbers_114 : decode cX10_deedNumbers 114 = .ok (.iconst 0, 1) := dcs_at ok24_read_0_20 8 rfl
theorem dX10_deedNumbers_115 : decode cX10_deedNumbers 115 = .ok (.ireturn, 1) := dcs_at ok24_read_0_20 9 rfl
theorem dX10_deedNumbers_116 : decode cX10_deedNumbers 116 = .ok (.aload_n 0, 1) := dcs_at ok24_read_0_20 10 rfl
theorem dX10_deedNumbers_117 : decode cX10_deedNumbers 117 = .ok (.iconst 1, 1) := dcs_at ok24_read_0_20 11 rfl
theorem dX10_deedNumbers_118 : decode cX10_deedNumbers 118 = .ok (.iconst 0, 1) := dcs_at ok24_read_0_20 12 rfl
theorem dX10_deedNumbers_119 : decode cX10_deedNumbers 119 = .ok (.iconst 5, 1) := dcs_at ok24_read_0_20 13 rfl
theorem dX10_deedNumbers_120 : decode cX10_deedNumbers 120 = .ok (.invokevirtual 163, 3) := dcs_at ok24_read_0_20 14 rfl
theorem dX10_deedNumbers_123 : decode cX10_deedNumbers 123 = .ok (.ifCond .eq 28, 3) := dcs_at ok24_read_0_20 15 rfl
theorem dX10_deedNumbers_126 : decode cX10_deedNumbers 126 = .ok (.aload_n 0, 1) := dcs_at ok24_read_0_20 16 rfl
theorem dX10_deedNumbers_127 : decode cX10_deedNumbers 127 = .ok (.iconst 2, 1) := dcs_at ok24_read_0_20 17 rfl
theorem dX10_deedNumbers_128 : decode cX10_deedNumbers 128 = .ok (.iconst 0, 1) := dcs_at ok24_read_0_20 18 rfl
theorem dX10_deedNumbers_129 : decode cX10_deedNumbers 129 = .ok (.iconst 4, 1) := dcs_at ok24_read_0_20 19 rfl
theorem dX10_deedNumbers_130 : decode cX10_deedNumbers 130 = .ok (.invokevirtual 163, 3) := dcs_at ok24_read_0_20 20 rfl
theorem dX10_deedNumbers_133 : decode cX10_deedNumbers 133 = .ok (.ifCond .eq 18, 3) := dcs_at ok24_read_0_20 21 rfl
theorem dX10_deedNumbers_136 : decode cX10_deedNumbers 136 = .ok (.aload_n 0, 1) := dcs_at ok24_read_0_20 22 rfl
theorem dX10_deedNumbers_137 : decode cX10_deedNumbers 137 = .ok (.iconst 3, 1) := dcs_at ok24_read_0_20 23 rfl
theorem dX10_deedNumbers_138 : decode cX10_deedNumbers 138 = .ok (.iconst 1, 1) := dcs_at ok24_read_0_20 24 rfl
theorem dX10_deedNumbers_139 : decode cX10_deedNumbers 139 = .ok (.bipush 99, 2) := dcs_at ok24_read_0_20 25 rfl
theorem dX10_deedNumbers_141 : decode cX10_deedNumbers 141 = .ok (.invokevirtual 163, 3) := dcs_at ok24_read_0_20 26 rfl
theorem dX10_deedNumbers_144 : decode cX10_deedNumbers 144 = .ok (.ifCond .eq 7, 3) := dcs_at ok24_read_0_20 27 rfl
theorem dX10_deedNumbers_147 : decode cX10_deedNumbers 147 = .ok (.iconst 1, 1) := dcs_at ok24_read_0_20 28 rfl
theorem dX10_deedNumbers_148 : decode cX10_deedNumbers 148 = .ok (.goto 4, 3) := dcs_at ok24_read_0_20 29 rfl
theorem dX10_deedNumbers_151 : decode cX10_deedNumbers 151 = .ok (.iconst 0, 1) := dcs_at ok24_read_0_20 30 rfl
theorem dX10_deedNumbers_152 : decode cX10_deedNumbers 152 = .ok (.ireturn, 1) := dcs_at ok24_read_0_20 31 rfl
theorem dX10_deedNumbers_153 : decode cX10_deedNumbers 153 = .ok (.aload_n 0, 1) := dcs_at ok24_read_0_20 32 rfl
theorem dX10_deedNumbers_154 : decode cX10_deedNumbers 154 = .ok (.iconst 1, 1) := dcs_at ok24_read_0_20 33 rfl
theorem dX10_deedNumbers_155 : decode cX10_deedNumbers 155 = .ok (.iconst 0, 1) := dcs_at ok24_read_0_20 34 rfl
theorem dX10_deedNumbers_156 : decode cX10_deedNumbers 156 = .ok (.iconst 5, 1) := dcs_at ok24_read_0_20 35 rfl
theorem dX10_deedNumbers_157 : decode cX10_deedNumbers 157 = .ok (.invokevirtual 163, 3) := dcs_at ok24_read_0_20 36 rfl
theorem dX10_deedNumbers_160 : decode cX10_deedNumbers 160 = .ok (.ifCond .eq 18, 3) := dcs_at ok24_read_0_20 37 rfl
theorem dX10_deedNumbers_163 : decode cX10_deedNumbers 163 = .ok (.aload_n 0, 1) := dcs_at ok24_read_0_20 38 rfl
theorem dX10_deedNumbers_164 : decode cX10_deedNumbers 164 = .ok (.iconst 2, 1) := dcs_at ok24_read_0_20 39 rfl
def tb24_read_0_21 : List (Nat × (Instr × Nat)) := [(165, (.iconst 1, 1)), (166, (.bipush 99, 2)), (168, (.invokevirtual 163, 3)), (171, (.ifCond .eq 7, 3)), (174, (.iconst 1, 1)), (175, (.goto 4, 3)), (178, (.iconst 0, 1)), (179, (.ireturn, 1)), (180, (.iconst 1, 1)), (181, (.ireturn, 1))]
theorem ok24_read_0_21 : dcs cX10_deedNumbers tb24_read_0_21 = true := by decide +kernel
theorem dX10_deedNumbers_165 : decode cX10_deedNumbers 165 = .ok (.iconst 1, 1) := dcs_at ok24_read_0_21 0 rfl
theorem dX10_deedNumbers_166 : decode cX10_deedNumbers 166 = .ok (.bipush 99, 2) := dcs_at ok24_read_0_21 1 rfl
theorem dX10_deedNumbers_168 : decode cX10_deedNumbers 168 = .ok (.invokevirtual 163, 3) := dcs_at ok24_read_0_21 2 rfl
theorem dX10_deedNumbers_171 : decode cX10_deedNumbers 171 = .ok (.ifCond .eq 7, 3) := dcs_at ok24_read_0_21 3 rfl
theorem dX10_deedNumbers_174 : decode cX10_deedNumbers 174 = .ok (.iconst 1, 1) := dcs_at ok24_read_0_21 4 rfl
theorem dX10_deedNumbers_175 : decode cX10_deedNumbers 175 = .ok (.goto 4, 3) := dcs_at ok24_read_0_21 5 rfl
theorem dX10_deedNumbers_178 : decode cX10_deedNumbers 178 = .ok (.iconst 0, 1) := dcs_at ok24_read_0_21 6 rfl
theorem dX10_deedNumbers_179 : decode cX10_deedNumbers 179 = .ok (.ireturn, 1) := dcs_at ok24_read_0_21 7 rfl
theorem dX10_deedNumbers_180 : decode cX10_deedNumbers 180 = .ok (.iconst 1, 1) := dcs_at ok24_read_0_21 8 rfl
theorem dX10_deedNumbers_181 : decode cX10_deedNumbers 181 = .ok (.ireturn, 1) := dcs_at ok24_read_0_21 9 rfl
def tb24_read_0_22 : List (Nat × (Instr × Nat)) := [(0, (.lload_n 1, 1)), (1, (.invokestatic 188, 3)), (4, (.istore 4, 2)), (6, (.iload 4, 2)), (8, (.iconst (-1), 1)), (9, (.if_icmp .ne 8, 3)), (12, (.aload_n 0, 1)), (13, (.invokevirtual 132, 3)), (16, (.ireturn, 1)), (17, (.aload_n 0, 1)), (18, (.iconst 0, 1)), (19, (.bipush 30, 2)), (21, (.iload_n 3, 1)), (22, (.invokevirtual 159, 3)), (25, (.aload_n 0, 1)), (26, (.invokevirtual 140, 3)), (29, (.aload_n 0, 1)), (30, (.getfield 38, 3)), (33, (.iconst 0, 1)), (34, (.iload 4, 2)), (36, (.iastore, 1)), (37, (.aload_n 0, 1)), (38, (.getfield 38, 3)), (41, (.iconst 1, 1)), (42, (.iconst (-1), 1)), (43, (.iastore, 1)), (44, (.aload_n 0, 1)), (45, (.getfield 38, 3)), (48, (.iconst 2, 1)), (49, (.iconst (-1), 1)), (50, (.iastore, 1)), (51, (.aload_n 0, 1)), (52, (.getfield 38, 3)), (55, (.iconst 3, 1)), (56, (.iconst (-1), 1)), (57, (.iastore, 1)), (58, (.aload_n 0, 1)), (59, (.iload 4, 2)), (61, (.invokevirtual 192, 3)), (64, (.ifCond .ne 5, 3))]
theorem ok24_read_0_22 : dcs cX10_bookLine tb24_read_0_22 = true := by decide +kernel
theorem dX10_bookLine_0 : decode cX10_bookLine 0 = .ok (.lload_n 1, 1) := dcs_at ok24_read_0_22 0 rfl
theorem dX10_bookLine_1 : decode cX10_bookLine 1 = .ok (.invokestatic 188, 3) := dcs_at ok24_read_0_22 1 rfl
theorem dX10_bookLine_4 : decode cX10_bookLine 4 = .ok (.istore 4, 2) := dcs_at ok24_read_0_22 2 rfl
theorem dX10_bookLine_6 : decode cX10_bookLine 6 = .ok (.iload 4, 2) := dcs_at ok24_read_0_22 3 rfl
theorem dX10_bookLine_8 : decode cX10_bookLine 8 = .ok (.iconst (-1), 1) := dcs_at ok24_read_0_22 4 rfl
theorem dX10_bookLine_9 : decode cX10_bookLine 9 = .ok (.if_icmp .ne 8, 3) := dcs_at ok24_read_0_22 5 rfl
theorem dX10_bookLine_12 : decode cX10_bookLine 12 = .ok (.aload_n 0, 1) := dcs_at ok24_read_0_22 6 rfl
theorem dX10_bookLine_13 : decode cX10_bookLine 13 = .ok (.invokevirtual 132, 3) := dcs_at ok24_read_0_22 7 rfl
theorem dX10_bookLine_16 : decode cX10_bookLine 16 = .ok (.ireturn, 1) := dcs_at ok24_read_0_22 8 rfl
theorem dX10_bookLine_17 : decode cX10_bookLine 17 = .ok (.aload_n 0, 1) := dcs_at ok24_read_0_22 9 rfl
theorem dX10_bookLine_18 : decode cX10_bookLine 18 = .ok (.iconst 0, 1) := dcs_at ok24_read_0_22 10 rfl
theorem dX10_bookLine_19 : decode cX10_bookLine 19 = .ok (.bipush 30, 2) := dcs_at ok24_read_0_22 11 rfl
theorem dX10_bookLine_21 : decode cX10_bookLine 21 = .ok (.iload_n 3, 1) := dcs_at ok24_read_0_22 12 rfl
theorem dX10_bookLine_22 : decode cX10_bookLine 22 = .ok (.invokevirtual 159, 3) := dcs_at ok24_read_0_22 13 rfl
theorem dX10_bookLine_25 : decode cX10_bookLine 25 = .ok (.aload_n 0, 1) := dcs_at ok24_read_0_22 14 rfl
theorem dX10_bookLine_26 : decode cX10_bookLine 26 = .ok (.invokevirtual 140, 3) := dcs_at ok24_read_0_22 15 rfl
theorem dX10_bookLine_29 : decode cX10_bookLine 29 = .ok (.aload_n 0, 1) := dcs_at ok24_read_0_22 16 rfl
theorem dX10_bookLine_30 : decode cX10_bookLine 30 = .ok (.getfield 38, 3) := dcs_at ok24_read_0_22 17 rfl
theorem dX10_bookLine_33 : decode cX10_bookLine 33 = .ok (.iconst 0, 1) := dcs_at ok24_read_0_22 18 rfl
theorem dX10_bookLine_34 : decode cX10_bookLine 34 = .ok (.iload 4, 2) := dcs_at ok24_read_0_22 19 rfl
theorem dX10_bookLine_36 : decode cX10_bookLine 36 = .ok (.iastore, 1) := dcs_at ok24_read_0_22 20 rfl
theorem dX10_bookLine_37 : decode cX10_bookLine 37 = .ok (.aload_n 0, 1) := dcs_at ok24_read_0_22 21 rfl
theorem dX10_bookLine_38 : decode cX10_bookLine 38 = .ok (.getfield 38, 3) := dcs_at ok24_read_0_22 22 rfl
theorem dX10_bookLine_41 : decode cX10_bookLine 41 = .ok (.iconst 1, 1) := dcs_at ok24_read_0_22 23 rfl
theorem dX10_bookLine_42 : decode cX10_bookLine 42 = .ok (.iconst (-1), 1) := dcs_at ok24_read_0_22 24 rfl
theorem dX10_bookLine_43 : decode cX10_bookLine 43 = .ok (.iastore, 1) := dcs_at ok24_read_0_22 25 rfl
theorem dX10_bookLine_44 : decode cX10_bookLine 44 = .ok (.aload_n 0, 1) := dcs_at ok24_read_0_22 26 rfl
theorem dX10_bookLine_45 : decode cX10_bookLine 45 = .ok (.getfield 38, 3) := dcs_at ok24_read_0_22 27 rfl
theorem dX10_bookLine_48 : decode cX10_bookLine 48 = .ok (.iconst 2, 1) := dcs_at ok24_read_0_22 28 rfl
theorem dX10_bookLine_49 : decode cX10_bookLine 49 = .ok (.iconst (-1), 1) := dcs_at ok24_read_0_22 29 rfl
theorem dX10_bookLine_50 : decode cX10_bookLine 50 = .ok (.iastore, 1) := dcs_at ok24_read_0_22 30 rfl
theorem dX10_bookLine_51 : decode cX10_bookLine 51 = .ok (.aload_n 0, 1) := dcs_at ok24_read_0_22 31 rfl
theorem dX10_bookLine_52 : decode cX10_bookLine 52 = .ok (.getfield 38, 3) := dcs_at ok24_read_0_22 32 rfl
theorem dX10_bookLine_55 : decode cX10_bookLine 55 = .ok (.iconst 3, 1) := dcs_at ok24_read_0_22 33 rfl
theorem dX10_bookLine_56 : decode cX10_bookLine 56 = .ok (.iconst (-1), 1) := dcs_at ok24_read_0_22 34 rfl
theorem dX10_bookLine_57 : decode cX10_bookLine 57 = .ok (.iastore, 1) := dcs_at ok24_read_0_22 35 rfl
theorem dX10_bookLine_58 : decode cX10_bookLine 58 = .ok (.aload_n 0, 1) := dcs_at ok24_read_0_22 36 rfl
theorem dX10_bookLine_59 : decode cX10_bookLine 59 = .ok (.iload 4, 2) := dcs_at ok24_read_0_22 37 rfl
theorem dX10_bookLine_61 : decode cX10_bookLine 61 = .ok (.invokevirtual 192, 3) := dcs_at ok24_read_0_22 38 rfl
theorem dX10_bookLine_64 : decode cX10_bookLine 64 = .ok (.ifCond .ne 5, 3) := dcs_at ok24_read_0_22 39 rfl
def tb24_read_0_23 : List (Nat × (Instr × Nat)) := [(67, (.iconst 0, 1)), (68, (.ireturn, 1)), (69, (.aload_n 0, 1)), (70, (.iconst 0, 1)), (71, (.iconst 1, 1)), (72, (.iconst 4, 1)), (73, (.bipush 30, 2)), (75, (.invokevirtual 166, 3)), (78, (.iconst 1, 1)), (79, (.ireturn, 1))]
theorem ok24_read_0_23 : dcs cX10_bookLine tb24_read_0_23 = true := by decide +kernel
theorem dX10_bookLine_67 : decode cX10_bookLine 67 = .ok (.iconst 0, 1) := dcs_at ok24_read_0_23 0 rfl
theorem dX10_bookLine_68 : decode cX10_bookLine 68 = .ok (.ireturn, 1) := dcs_at ok24_read_0_23 1 rfl
theorem dX10_bookLine_69 : decode cX10_bookLine 69 = .ok (.aload_n 0, 1) := dcs_at ok24_read_0_23 2 rfl
theorem dX10_bookLine_70 : decode cX10_bookLine 70 = .ok (.iconst 0, 1) := dcs_at ok24_read_0_23 3 rfl
theorem dX10_bookLine_71 : decode cX10_bookLine 71 = .ok (.iconst 1, 1) := dcs_at ok24_read_0_23 4 rfl
theorem dX10_bookLine_72 : decode cX10_bookLine 72 = .ok (.iconst 4, 1) := dcs_at ok24_read_0_23 5 rfl
theorem dX10_bookLine_73 : decode cX10_bookLine 73 = .ok (.bipush 30, 2) := dcs_at ok24_read_0_23 6 rfl
theorem dX10_bookLine_75 : decode cX10_bookLine 75 = .ok (.invokevirtual 166, 3) := dcs_at ok24_read_0_23 7 rfl
theorem dX10_bookLine_78 : decode cX10_bookLine 78 = .ok (.iconst 1, 1) := dcs_at ok24_read_0_23 8 rfl
theorem dX10_bookLine_79 : decode cX10_bookLine 79 = .ok (.ireturn, 1) := dcs_at ok24_read_0_23 9 rfl
def tb24_read_0_24 : List (Nat × (Instr × Nat)) := [(0, (.lload_n 1, 1)), (1, (.ldc2_w 196, 3)), (4, (.lcmp, 1)), (5, (.ifCond .eq 8, 3)), (8, (.aload_n 0, 1)), (9, (.invokevirtual 132, 3)), (12, (.ireturn, 1)), (13, (.aload_n 0, 1)), (14, (.iconst 0, 1)), (15, (.bipush 6, 2)), (17, (.iload_n 3, 1)), (18, (.invokevirtual 159, 3)), (21, (.aload_n 0, 1)), (22, (.invokevirtual 140, 3)), (25, (.aload_n 0, 1)), (26, (.iconst 0, 1)), (27, (.iconst 0, 1)), (28, (.bipush 10, 2)), (30, (.invokevirtual 163, 3)), (33, (.ifCond .ne 5, 3)), (36, (.iconst 0, 1)), (37, (.ireturn, 1)), (38, (.aload_n 0, 1)), (39, (.iconst 0, 1)), (40, (.iconst 1, 1)), (41, (.iconst 1, 1)), (42, (.bipush 6, 2)), (44, (.invokevirtual 166, 3)), (47, (.iconst 1, 1)), (48, (.ireturn, 1))]
theorem ok24_read_0_24 : dcs cX10_darkLine tb24_read_0_24 = true := by decide +kernel
theorem dX10_darkLine_0 : decode cX10_darkLine 0 = .ok (.lload_n 1, 1) := dcs_at ok24_read_0_24 0 rfl
theorem dX10_darkLine_1 : decode cX10_darkLine 1 = .ok (.ldc2_w 196, 3) := dcs_at ok24_read_0_24 1 rfl
theorem dX10_darkLine_4 : decode cX10_darkLine 4 = .ok (.lcmp, 1) := dcs_at ok24_read_0_24 2 rfl
theorem dX10_darkLine_5 : decode cX10_darkLine 5 = .ok (.ifCond .eq 8, 3) := dcs_at ok24_read_0_24 3 rfl
theorem dX10_darkLine_8 : decode cX10_darkLine 8 = .ok (.aload_n 0, 1) := dcs_at ok24_read_0_24 4 rfl
theorem dX10_darkLine_9 : decode cX10_darkLine 9 = .ok (.invokevirtual 132, 3) := dcs_at ok24_read_0_24 5 rfl
theorem dX10_darkLine_12 : decode cX10_darkLine 12 = .ok (.ireturn, 1) := dcs_at ok24_read_0_24 6 rfl
theorem dX10_darkLine_13 : decode cX10_darkLine 13 = .ok (.aload_n 0, 1) := dcs_at ok24_read_0_24 7 rfl
theorem dX10_darkLine_14 : decode cX10_darkLine 14 = .ok (.iconst 0, 1) := dcs_at ok24_read_0_24 8 rfl
theorem dX10_darkLine_15 : decode cX10_darkLine 15 = .ok (.bipush 6, 2) := dcs_at ok24_read_0_24 9 rfl
theorem dX10_darkLine_17 : decode cX10_darkLine 17 = .ok (.iload_n 3, 1) := dcs_at ok24_read_0_24 10 rfl
theorem dX10_darkLine_18 : decode cX10_darkLine 18 = .ok (.invokevirtual 159, 3) := dcs_at ok24_read_0_24 11 rfl
theorem dX10_darkLine_21 : decode cX10_darkLine 21 = .ok (.aload_n 0, 1) := dcs_at ok24_read_0_24 12 rfl
theorem dX10_darkLine_22 : decode cX10_darkLine 22 = .ok (.invokevirtual 140, 3) := dcs_at ok24_read_0_24 13 rfl
theorem dX10_darkLine_25 : decode cX10_darkLine 25 = .ok (.aload_n 0, 1) := dcs_at ok24_read_0_24 14 rfl
theorem dX10_darkLine_26 : decode cX10_darkLine 26 = .ok (.iconst 0, 1) := dcs_at ok24_read_0_24 15 rfl
theorem dX10_darkLine_27 : decode cX10_darkLine 27 = .ok (.iconst 0, 1) := dcs_at ok24_read_0_24 16 rfl
theorem dX10_darkLine_28 : decode cX10_darkLine 28 = .ok (.bipush 10, 2) := dcs_at ok24_read_0_24 17 rfl
theorem dX10_darkLine_30 : decode cX10_darkLine 30 = .ok (.invokevirtual 163, 3) := dcs_at ok24_read_0_24 18 rfl
theorem dX10_darkLine_33 : decode cX10_darkLine 33 = .ok (.ifCond .ne 5, 3) := dcs_at ok24_read_0_24 19 rfl
theorem dX10_darkLine_36 : decode cX10_darkLine 36 = .ok (.iconst 0, 1) := dcs_at ok24_read_0_24 20 rfl
theorem dX10_darkLine_37 : decode cX10_darkLine 37 = .ok (.ireturn, 1) := dcs_at ok24_read_0_24 21 rfl
theorem dX10_darkLine_38 : decode cX10_darkLine 38 = .ok (.aload_n 0, 1) := dcs_at ok24_read_0_24 22 rfl
theorem dX10_darkLine_39 : decode cX10_darkLine 39 = .ok (.iconst 0, 1) := dcs_at ok24_read_0_24 23 rfl
theorem dX10_darkLine_40 : decode cX10_darkLine 40 = .ok (.iconst 1, 1) := dcs_at ok24_read_0_24 24 rfl
theorem dX10_darkLine_41 : decode cX10_darkLine 41 = .ok (.iconst 1, 1) := dcs_at ok24_read_0_24 25 rfl
theorem dX10_darkLine_42 : decode cX10_darkLine 42 = .ok (.bipush 6, 2) := dcs_at ok24_read_0_24 26 rfl
theorem dX10_darkLine_44 : decode cX10_darkLine 44 = .ok (.invokevirtual 166, 3) := dcs_at ok24_read_0_24 27 rfl
theorem dX10_darkLine_47 : decode cX10_darkLine 47 = .ok (.iconst 1, 1) := dcs_at ok24_read_0_24 28 rfl
theorem dX10_darkLine_48 : decode cX10_darkLine 48 = .ok (.ireturn, 1) := dcs_at ok24_read_0_24 29 rfl
def tb24_read_0_25 : List (Nat × (Instr × Nat)) := [(0, (.iconst 1, 1)), (1, (.istore_n 2, 1)), (2, (.iload_n 2, 1)), (3, (.ifCond .eq 98, 3)), (6, (.aload_n 0, 1)), (7, (.getfield 117, 3)), (10, (.ifCond .eq 91, 3)), (13, (.aload_n 0, 1)), (14, (.getfield 110, 3)), (17, (.istore_n 3, 1)), (18, (.aload_n 0, 1)), (19, (.getfield 117, 3)), (22, (.iconst 2, 1)), (23, (.if_icmp .ne 10, 3)), (26, (.aload_n 0, 1)), (27, (.getfield 113, 3)), (30, (.goto 4, 3)), (33, (.lconst 0, 1)), (34, (.lstore 4, 2)), (36, (.iload_n 1, 1)), (37, (.ifCond .ne 13, 3)), (40, (.aload_n 0, 1)), (41, (.lload 4, 2)), (43, (.iload_n 3, 1)), (44, (.invokevirtual 198, 3)), (47, (.goto 25, 3)), (50, (.iload_n 1, 1)), (51, (.iconst 1, 1)), (52, (.if_icmp .ne 13, 3)), (55, (.aload_n 0, 1)), (56, (.lload 4, 2)), (58, (.iload_n 3, 1)), (59, (.invokevirtual 202, 3)), (62, (.goto 10, 3)), (65, (.aload_n 0, 1)), (66, (.lload 4, 2)), (68, (.iload_n 3, 1)), (69, (.invokevirtual 205, 3)), (72, (.istore_n 2, 1)), (73, (.iload_n 2, 1))]
theorem ok24_read_0_25 : dcs cX10_lines tb24_read_0_25 = true := by decide +kernel
theorem dX10_lines_0 : decode cX10_lines 0 = .ok (.iconst 1, 1) := dcs_at ok24_read_0_25 0 rfl
theorem dX10_lines_1 : decode cX10_lines 1 = .ok (.istore_n 2, 1) := dcs_at ok24_read_0_25 1 rfl
theorem dX10_lines_2 : decode cX10_lines 2 = .ok (.iload_n 2, 1) := dcs_at ok24_read_0_25 2 rfl
theorem dX10_lines_3 : decode cX10_lines 3 = .ok (.ifCond .eq 98, 3) := dcs_at ok24_read_0_25 3 rfl
theorem dX10_lines_6 : decode cX10_lines 6 = .ok (.aload_n 0, 1) := dcs_at ok24_read_0_25 4 rfl
theorem dX10_lines_7 : decode cX10_lines 7 = .ok (.getfield 117, 3) := dcs_at ok24_read_0_25 5 rfl
theorem dX10_lines_10 : decode cX10_lines 10 = .ok (.ifCond .eq 91, 3) := dcs_at ok24_read_0_25 6 rfl
theorem dX10_lines_13 : decode cX10_lines 13 = .ok (.aload_n 0, 1) := dcs_at ok24_read_0_25 7 rfl
theorem dX10_lines_14 : decode cX10_lines 14 = .ok (.getfield 110, 3) := dcs_at ok24_read_0_25 8 rfl
theorem dX10_lines_17 : decode cX10_lines 17 = .ok (.istore_n 3, 1) := dcs_at ok24_read_0_25 9 rfl
theorem dX10_lines_18 : decode cX10_lines 18 = .ok (.aload_n 0, 1) := dcs_at ok24_read_0_25 10 rfl
theorem dX10_lines_19 : decode cX10_lines 19 = .ok (.getfield 117, 3) := dcs_at ok24_read_0_25 11 rfl
theorem dX10_lines_22 : decode cX10_lines 22 = .ok (.iconst 2, 1) := dcs_at ok24_read_0_25 12 rfl
theorem dX10_lines_23 : decode cX10_lines 23 = .ok (.if_icmp .ne 10, 3) := dcs_at ok24_read_0_25 13 rfl
theorem dX10_lines_26 : decode cX10_lines 26 = .ok (.aload_n 0, 1) := dcs_at ok24_read_0_25 14 rfl
theorem dX10_lines_27 : decode cX10_lines 27 = .ok (.getfield 113, 3) := dcs_at ok24_read_0_25 15 rfl
theorem dX10_lines_30 : decode cX10_lines 30 = .ok (.goto 4, 3) := dcs_at ok24_read_0_25 16 rfl
theorem dX10_lines_33 : decode cX10_lines 33 = .ok (.lconst 0, 1) := dcs_at ok24_read_0_25 17 rfl
theorem dX10_lines_34 : decode cX10_lines 34 = .ok (.lstore 4, 2) := dcs_at ok24_read_0_25 18 rfl
theorem dX10_lines_36 : decode cX10_lines 36 = .ok (.iload_n 1, 1) := dcs_at ok24_read_0_25 19 rfl
theorem dX10_lines_37 : decode cX10_lines 37 = .ok (.ifCond .ne 13, 3) := dcs_at ok24_read_0_25 20 rfl
theorem dX10_lines_40 : decode cX10_lines 40 = .ok (.aload_n 0, 1) := dcs_at ok24_read_0_25 21 rfl
theorem dX10_lines_41 : decode cX10_lines 41 = .ok (.lload 4, 2) := dcs_at ok24_read_0_25 22 rfl
theorem dX10_lines_43 : decode cX10_lines 43 = .ok (.iload_n 3, 1) := dcs_at ok24_read_0_25 23 rfl
theorem dX10_lines_44 : decode cX10_lines 44 = .ok (.invokevirtual 198, 3) := dcs_at ok24_read_0_25 24 rfl
theorem dX10_lines_47 : decode cX10_lines 47 = .ok (.goto 25, 3) := dcs_at ok24_read_0_25 25 rfl
theorem dX10_lines_50 : decode cX10_lines 50 = .ok (.iload_n 1, 1) := dcs_at ok24_read_0_25 26 rfl
theorem dX10_lines_51 : decode cX10_lines 51 = .ok (.iconst 1, 1) := dcs_at ok24_read_0_25 27 rfl
theorem dX10_lines_52 : decode cX10_lines 52 = .ok (.if_icmp .ne 13, 3) := dcs_at ok24_read_0_25 28 rfl
theorem dX10_lines_55 : decode cX10_lines 55 = .ok (.aload_n 0, 1) := dcs_at ok24_read_0_25 29 rfl
theorem dX10_lines_56 : decode cX10_lines 56 = .ok (.lload 4, 2) := dcs_at ok24_read_0_25 30 rfl
theorem dX10_lines_58 : decode cX10_lines 58 = .ok (.iload_n 3, 1) := dcs_at ok24_read_0_25 31 rfl
theorem dX10_lines_59 : decode cX10_lines 59 = .ok (.invokevirtual 202, 3) := dcs_at ok24_read_0_25 32 rfl
theorem dX10_lines_62 : decode cX10_lines 62 = .ok (.goto 10, 3) := dcs_at ok24_read_0_25 33 rfl
theorem dX10_lines_65 : decode cX10_lines 65 = .ok (.aload_n 0, 1) := dcs_at ok24_read_0_25 34 rfl
theorem dX10_lines_66 : decode cX10_lines 66 = .ok (.lload 4, 2) := dcs_at ok24_read_0_25 35 rfl
theorem dX10_lines_68 : decode cX10_lines 68 = .ok (.iload_n 3, 1) := dcs_at ok24_read_0_25 36 rfl
theorem dX10_lines_69 : decode cX10_lines 69 = .ok (.invokevirtual 205, 3) := dcs_at ok24_read_0_25 37 rfl
theorem dX10_lines_72 : decode cX10_lines 72 = .ok (.istore_n 2, 1) := dcs_at ok24_read_0_25 38 rfl
theorem dX10_lines_73 : decode cX10_lines 73 = .ok (.iload_n 2, 1) := dcs_at ok24_read_0_25 39 rfl
def tb24_read_0_26 : List (Nat × (Instr × Nat)) := [(74, (.ifCond .eq 16, 3)), (77, (.aload_n 0, 1)), (78, (.getfield 117, 3)), (81, (.iconst 4, 1)), (82, (.if_icmp .eq 8, 3)), (85, (.aload_n 0, 1)), (86, (.invokevirtual 132, 3)), (89, (.istore_n 2, 1)), (90, (.iload_n 2, 1)), (91, (.ifCond .eq 7, 3)), (94, (.aload_n 0, 1)), (95, (.invokevirtual 140, 3)), (98, (.goto (-96), 3)), (101, (.iload_n 2, 1)), (102, (.ireturn, 1))]
theorem ok24_read_0_26 : dcs cX10_lines tb24_read_0_26 = true := by decide +kernel
theorem dX10_lines_74 : decode cX10_lines 74 = .ok (.ifCond .eq 16, 3) := dcs_at ok24_read_0_26 0 rfl
theorem dX10_lines_77 : decode cX10_lines 77 = .ok (.aload_n 0, 1) := dcs_at ok24_read_0_26 1 rfl
theorem dX10_lines_78 : decode cX10_lines 78 = .ok (.getfield 117, 3) := dcs_at ok24_read_0_26 2 rfl
theorem dX10_lines_81 : decode cX10_lines 81 = .ok (.iconst 4, 1) := dcs_at ok24_read_0_26 3 rfl
theorem dX10_lines_82 : decode cX10_lines 82 = .ok (.if_icmp .eq 8, 3) := dcs_at ok24_read_0_26 4 rfl
theorem dX10_lines_85 : decode cX10_lines 85 = .ok (.aload_n 0, 1) := dcs_at ok24_read_0_26 5 rfl
theorem dX10_lines_86 : decode cX10_lines 86 = .ok (.invokevirtual 132, 3) := dcs_at ok24_read_0_26 6 rfl
theorem dX10_lines_89 : decode cX10_lines 89 = .ok (.istore_n 2, 1) := dcs_at ok24_read_0_26 7 rfl
theorem dX10_lines_90 : decode cX10_lines 90 = .ok (.iload_n 2, 1) := dcs_at ok24_read_0_26 8 rfl
theorem dX10_lines_91 : decode cX10_lines 91 = .ok (.ifCond .eq 7, 3) := dcs_at ok24_read_0_26 9 rfl
theorem dX10_lines_94 : decode cX10_lines 94 = .ok (.aload_n 0, 1) := dcs_at ok24_read_0_26 10 rfl
theorem dX10_lines_95 : decode cX10_lines 95 = .ok (.invokevirtual 140, 3) := dcs_at ok24_read_0_26 11 rfl
theorem dX10_lines_98 : decode cX10_lines 98 = .ok (.goto (-96), 3) := dcs_at ok24_read_0_26 12 rfl
theorem dX10_lines_101 : decode cX10_lines 101 = .ok (.iload_n 2, 1) := dcs_at ok24_read_0_26 13 rfl
theorem dX10_lines_102 : decode cX10_lines 102 = .ok (.ireturn, 1) := dcs_at ok24_read_0_26 14 rfl
def tb24_read_0_27 : List (Nat × (Instr × Nat)) := [(0, (.iconst 0, 1)), (1, (.istore_n 2, 1)), (2, (.iload_n 2, 1)), (3, (.bipush 121, 2)), (5, (.if_icmp .ge 16, 3)), (8, (.aload_n 0, 1)), (9, (.getfield 35, 3)), (12, (.iload_n 2, 1)), (13, (.iconst 0, 1)), (14, (.iastore, 1)), (15, (.iinc 2 1, 3)), (18, (.goto (-16), 3)), (21, (.aload_n 0, 1)), (22, (.getfield 35, 3)), (25, (.iconst 3, 1)), (26, (.iload_n 1, 1)), (27, (.ifCond .ne 9, 3)), (30, (.sipush 999, 3)), (33, (.goto 4, 3)), (36, (.iconst 0, 1)), (37, (.iastore, 1)), (38, (.aload_n 0, 1)), (39, (.iconst 0, 1)), (40, (.putfield 100, 3)), (43, (.aload_n 0, 1)), (44, (.iconst 0, 1)), (45, (.putfield 126, 3)), (48, (.aload_n 0, 1)), (49, (.invokevirtual 140, 3)), (52, (.aload_n 0, 1)), (53, (.iload_n 1, 1)), (54, (.invokevirtual 208, 3)), (57, (.istore_n 2, 1)), (58, (.aload_n 0, 1)), (59, (.getfield 17, 3)), (62, (.iconst 0, 1)), (63, (.iload_n 2, 1)), (64, (.ifCond .eq 10, 3)), (67, (.aload_n 0, 1)), (68, (.getfield 126, 3))]
theorem ok24_read_0_27 : dcs cX10_readText tb24_read_0_27 = true := by decide +kernel
theorem dX10_readText_0 : decode cX10_readText 0 = .ok (.iconst 0, 1) := dcs_at ok24_read_0_27 0 rfl
theorem dX10_readText_1 : decode cX10_readText 1 = .ok (.istore_n 2, 1) := dcs_at ok24_read_0_27 1 rfl
theorem dX10_readText_2 : decode cX10_readText 2 = .ok (.iload_n 2, 1) := dcs_at ok24_read_0_27 2 rfl
theorem dX10_readText_3 : decode cX10_readText 3 = .ok (.bipush 121, 2) := dcs_at ok24_read_0_27 3 rfl
theorem dX10_readText_5 : decode cX10_readText 5 = .ok (.if_icmp .ge 16, 3) := dcs_at ok24_read_0_27 4 rfl
theorem dX10_readText_8 : decode cX10_readText 8 = .ok (.aload_n 0, 1) := dcs_at ok24_read_0_27 5 rfl
theorem dX10_readText_9 : decode cX10_readText 9 = .ok (.getfield 35, 3) := dcs_at ok24_read_0_27 6 rfl
theorem dX10_readText_12 : decode cX10_readText 12 = .ok (.iload_n 2, 1) := dcs_at ok24_read_0_27 7 rfl
theorem dX10_readText_13 : decode cX10_readText 13 = .ok (.iconst 0, 1) := dcs_at ok24_read_0_27 8 rfl
theorem dX10_readText_14 : decode cX10_readText 14 = .ok (.iastore, 1) := dcs_at ok24_read_0_27 9 rfl
theorem dX10_readText_15 : decode cX10_readText 15 = .ok (.iinc 2 1, 3) := dcs_at ok24_read_0_27 10 rfl
theorem dX10_readText_18 : decode cX10_readText 18 = .ok (.goto (-16), 3) := dcs_at ok24_read_0_27 11 rfl
theorem dX10_readText_21 : decode cX10_readText 21 = .ok (.aload_n 0, 1) := dcs_at ok24_read_0_27 12 rfl
theorem dX10_readText_22 : decode cX10_readText 22 = .ok (.getfield 35, 3) := dcs_at ok24_read_0_27 13 rfl
theorem dX10_readText_25 : decode cX10_readText 25 = .ok (.iconst 3, 1) := dcs_at ok24_read_0_27 14 rfl
theorem dX10_readText_26 : decode cX10_readText 26 = .ok (.iload_n 1, 1) := dcs_at ok24_read_0_27 15 rfl
theorem dX10_readText_27 : decode cX10_readText 27 = .ok (.ifCond .ne 9, 3) := dcs_at ok24_read_0_27 16 rfl
theorem dX10_readText_30 : decode cX10_readText 30 = .ok (.sipush 999, 3) := dcs_at ok24_read_0_27 17 rfl
theorem dX10_readText_33 : decode cX10_readText 33 = .ok (.goto 4, 3) := dcs_at ok24_read_0_27 18 rfl
theorem dX10_readText_36 : decode cX10_readText 36 = .ok (.iconst 0, 1) := dcs_at ok24_read_0_27 19 rfl
theorem dX10_readText_37 : decode cX10_readText 37 = .ok (.iastore, 1) := dcs_at ok24_read_0_27 20 rfl
theorem dX10_readText_38 : decode cX10_readText 38 = .ok (.aload_n 0, 1) := dcs_at ok24_read_0_27 21 rfl
theorem dX10_readText_39 : decode cX10_readText 39 = .ok (.iconst 0, 1) := dcs_at ok24_read_0_27 22 rfl
theorem dX10_readText_40 : decode cX10_readText 40 = .ok (.putfield 100, 3) := dcs_at ok24_read_0_27 23 rfl
theorem dX10_readText_43 : decode cX10_readText 43 = .ok (.aload_n 0, 1) := dcs_at ok24_read_0_27 24 rfl
theorem dX10_readText_44 : decode cX10_readText 44 = .ok (.iconst 0, 1) := dcs_at ok24_read_0_27 25 rfl
theorem dX10_readText_45 : decode cX10_readText 45 = .ok (.putfield 126, 3) := dcs_at ok24_read_0_27 26 rfl
theorem dX10_readText_48 : decode cX10_readText 48 = .ok (.aload_n 0, 1) := dcs_at ok24_read_0_27 27 rfl
theorem dX10_readText_49 : decode cX10_readText 49 = .ok (.invokevirtual 140, 3) := dcs_at ok24_read_0_27 28 rfl
theorem dX10_readText_52 : decode cX10_readText 52 = .ok (.aload_n 0, 1) := dcs_at ok24_read_0_27 29 rfl
theorem dX10_readText_53 : decode cX10_readText 53 = .ok (.iload_n 1, 1) := dcs_at ok24_read_0_27 30 rfl
theorem dX10_readText_54 : decode cX10_readText 54 = .ok (.invokevirtual 208, 3) := dcs_at ok24_read_0_27 31 rfl
theorem dX10_readText_57 : decode cX10_readText 57 = .ok (.istore_n 2, 1) := dcs_at ok24_read_0_27 32 rfl
theorem dX10_readText_58 : decode cX10_readText 58 = .ok (.aload_n 0, 1) := dcs_at ok24_read_0_27 33 rfl
theorem dX10_readText_59 : decode cX10_readText 59 = .ok (.getfield 17, 3) := dcs_at ok24_read_0_27 34 rfl
theorem dX10_readText_62 : decode cX10_readText 62 = .ok (.iconst 0, 1) := dcs_at ok24_read_0_27 35 rfl
theorem dX10_readText_63 : decode cX10_readText 63 = .ok (.iload_n 2, 1) := dcs_at ok24_read_0_27 36 rfl
theorem dX10_readText_64 : decode cX10_readText 64 = .ok (.ifCond .eq 10, 3) := dcs_at ok24_read_0_27 37 rfl
theorem dX10_readText_67 : decode cX10_readText 67 = .ok (.aload_n 0, 1) := dcs_at ok24_read_0_27 38 rfl
theorem dX10_readText_68 : decode cX10_readText 68 = .ok (.getfield 126, 3) := dcs_at ok24_read_0_27 39 rfl
def tb24_read_0_28 : List (Nat × (Instr × Nat)) := [(71, (.goto 4, 3)), (74, (.iconst 1, 1)), (75, (.iastore, 1)), (76, (.aload_n 0, 1)), (77, (.getfield 20, 3)), (80, (.iconst 0, 1)), (81, (.iload_n 2, 1)), (82, (.ifCond .ne 10, 3)), (85, (.aload_n 0, 1)), (86, (.getfield 123, 3)), (89, (.goto 18, 3)), (92, (.aload_n 0, 1)), (93, (.getfield 126, 3)), (96, (.ifCond .le 10, 3)), (99, (.aload_n 0, 1)), (100, (.getfield 129, 3)), (103, (.goto 4, 3)), (106, (.iconst (-1), 1)), (107, (.iastore, 1)), (108, (.aload_n 0, 1)), (109, (.getfield 17, 3)), (112, (.iconst 0, 1)), (113, (.iaload, 1)), (114, (.ifCond .ne 7, 3)), (117, (.iconst 1, 1)), (118, (.goto 4, 3)), (121, (.iconst 0, 1)), (122, (.ireturn, 1))]
theorem ok24_read_0_28 : dcs cX10_readText tb24_read_0_28 = true := by decide +kernel
theorem dX10_readText_71 : decode cX10_readText 71 = .ok (.goto 4, 3) := dcs_at ok24_read_0_28 0 rfl
theorem dX10_readText_74 : decode cX10_readText 74 = .ok (.iconst 1, 1) := dcs_at ok24_read_0_28 1 rfl
theorem dX10_readText_75 : decode cX10_readText 75 = .ok (.iastore, 1) := dcs_at ok24_read_0_28 2 rfl
theorem dX10_readText_76 : decode cX10_readText 76 = .ok (.aload_n 0, 1) := dcs_at ok24_read_0_28 3 rfl
theorem dX10_readText_77 : decode cX10_readText 77 = .ok (.getfield 20, 3) := dcs_at ok24_read_0_28 4 rfl
theorem dX10_readText_80 : decode cX10_readText 80 = .ok (.iconst 0, 1) := dcs_at ok24_read_0_28 5 rfl
theorem dX10_readText_81 : decode cX10_readText 81 = .ok (.iload_n 2, 1) := dcs_at ok24_read_0_28 6 rfl
theorem dX10_readText_82 : decode cX10_readText 82 = .ok (.ifCond .ne 10, 3) := dcs_at ok24_read_0_28 7 rfl
theorem dX10_readText_85 : decode cX10_readText 85 = .ok (.aload_n 0, 1) := dcs_at ok24_read_0_28 8 rfl
theorem dX10_readText_86 : decode cX10_readText 86 = .ok (.getfield 123, 3) := dcs_at ok24_read_0_28 9 rfl
theorem dX10_readText_89 : decode cX10_readText 89 = .ok (.goto 18, 3) := dcs_at ok24_read_0_28 10 rfl
theorem dX10_readText_92 : decode cX10_readText 92 = .ok (.aload_n 0, 1) := dcs_at ok24_read_0_28 11 rfl
theorem dX10_readText_93 : decode cX10_readText 93 = .ok (.getfield 126, 3) := dcs_at ok24_read_0_28 12 rfl
theorem dX10_readText_96 : decode cX10_readText 96 = .ok (.ifCond .le 10, 3) := dcs_at ok24_read_0_28 13 rfl
theorem dX10_readText_99 : decode cX10_readText 99 = .ok (.aload_n 0, 1) := dcs_at ok24_read_0_28 14 rfl
theorem dX10_readText_100 : decode cX10_readText 100 = .ok (.getfield 129, 3) := dcs_at ok24_read_0_28 15 rfl
theorem dX10_readText_103 : decode cX10_readText 103 = .ok (.goto 4, 3) := dcs_at ok24_read_0_28 16 rfl
theorem dX10_readText_106 : decode cX10_readText 106 = .ok (.iconst (-1), 1) := dcs_at ok24_read_0_28 17 rfl
theorem dX10_readText_107 : decode cX10_readText 107 = .ok (.iastore, 1) := dcs_at ok24_read_0_28 18 rfl
theorem dX10_readText_108 : decode cX10_readText 108 = .ok (.aload_n 0, 1) := dcs_at ok24_read_0_28 19 rfl
theorem dX10_readText_109 : decode cX10_readText 109 = .ok (.getfield 17, 3) := dcs_at ok24_read_0_28 20 rfl
theorem dX10_readText_112 : decode cX10_readText 112 = .ok (.iconst 0, 1) := dcs_at ok24_read_0_28 21 rfl
theorem dX10_readText_113 : decode cX10_readText 113 = .ok (.iaload, 1) := dcs_at ok24_read_0_28 22 rfl
theorem dX10_readText_114 : decode cX10_readText 114 = .ok (.ifCond .ne 7, 3) := dcs_at ok24_read_0_28 23 rfl
theorem dX10_readText_117 : decode cX10_readText 117 = .ok (.iconst 1, 1) := dcs_at ok24_read_0_28 24 rfl
theorem dX10_readText_118 : decode cX10_readText 118 = .ok (.goto 4, 3) := dcs_at ok24_read_0_28 25 rfl
theorem dX10_readText_121 : decode cX10_readText 121 = .ok (.iconst 0, 1) := dcs_at ok24_read_0_28 26 rfl
theorem dX10_readText_122 : decode cX10_readText 122 = .ok (.ireturn, 1) := dcs_at ok24_read_0_28 27 rfl
def tb24_read_0_29 : List (Nat × (Instr × Nat)) := [(0, (.iconst 0, 1)), (1, (.istore 4, 2)), (3, (.iload 4, 2)), (5, (.iload_n 2, 1)), (6, (.if_icmp .ge 24, 3)), (9, (.aload_n 1, 1)), (10, (.iload_n 2, 1)), (11, (.iload_n 3, 1)), (12, (.imul, 1)), (13, (.iload 4, 2)), (15, (.iadd, 1)), (16, (.aload_n 0, 1)), (17, (.getfield 35, 3)), (20, (.iload 4, 2)), (22, (.iaload, 1)), (23, (.iastore, 1)), (24, (.iinc 4 1, 3)), (27, (.goto (-24), 3)), (30, (.return_, 1))]
theorem ok24_read_0_29 : dcs cX10_store tb24_read_0_29 = true := by decide +kernel
theorem dX10_store_0 : decode cX10_store 0 = .ok (.iconst 0, 1) := dcs_at ok24_read_0_29 0 rfl
theorem dX10_store_1 : decode cX10_store 1 = .ok (.istore 4, 2) := dcs_at ok24_read_0_29 1 rfl
theorem dX10_store_3 : decode cX10_store 3 = .ok (.iload 4, 2) := dcs_at ok24_read_0_29 2 rfl
theorem dX10_store_5 : decode cX10_store 5 = .ok (.iload_n 2, 1) := dcs_at ok24_read_0_29 3 rfl
theorem dX10_store_6 : decode cX10_store 6 = .ok (.if_icmp .ge 24, 3) := dcs_at ok24_read_0_29 4 rfl
theorem dX10_store_9 : decode cX10_store 9 = .ok (.aload_n 1, 1) := dcs_at ok24_read_0_29 5 rfl
theorem dX10_store_10 : decode cX10_store 10 = .ok (.iload_n 2, 1) := dcs_at ok24_read_0_29 6 rfl
theorem dX10_store_11 : decode cX10_store 11 = .ok (.iload_n 3, 1) := dcs_at ok24_read_0_29 7 rfl
theorem dX10_store_12 : decode cX10_store 12 = .ok (.imul, 1) := dcs_at ok24_read_0_29 8 rfl
theorem dX10_store_13 : decode cX10_store 13 = .ok (.iload 4, 2) := dcs_at ok24_read_0_29 9 rfl
theorem dX10_store_15 : decode cX10_store 15 = .ok (.iadd, 1) := dcs_at ok24_read_0_29 10 rfl
theorem dX10_store_16 : decode cX10_store 16 = .ok (.aload_n 0, 1) := dcs_at ok24_read_0_29 11 rfl
theorem dX10_store_17 : decode cX10_store 17 = .ok (.getfield 35, 3) := dcs_at ok24_read_0_29 12 rfl
theorem dX10_store_20 : decode cX10_store 20 = .ok (.iload 4, 2) := dcs_at ok24_read_0_29 13 rfl
theorem dX10_store_22 : decode cX10_store 22 = .ok (.iaload, 1) := dcs_at ok24_read_0_29 14 rfl
theorem dX10_store_23 : decode cX10_store 23 = .ok (.iastore, 1) := dcs_at ok24_read_0_29 15 rfl
theorem dX10_store_24 : decode cX10_store 24 = .ok (.iinc 4 1, 3) := dcs_at ok24_read_0_29 16 rfl
theorem dX10_store_27 : decode cX10_store 27 = .ok (.goto (-24), 3) := dcs_at ok24_read_0_29 17 rfl
theorem dX10_store_30 : decode cX10_store 30 = .ok (.return_, 1) := dcs_at ok24_read_0_29 18 rfl
def tb24_read_0_30 : List (Nat × (Instr × Nat)) := [(0, (.aload_n 0, 1)), (1, (.iconst 0, 1)), (2, (.putfield 80, 3)), (5, (.aload_n 0, 1)), (6, (.aload_n 0, 1)), (7, (.getfield 13, 3)), (10, (.iconst 0, 1)), (11, (.iaload, 1)), (12, (.putfield 103, 3)), (15, (.aload_n 0, 1)), (16, (.getfield 13, 3)), (19, (.iconst 0, 1)), (20, (.iconst 0, 1)), (21, (.iastore, 1)), (22, (.aload_n 0, 1)), (23, (.getfield 17, 3)), (26, (.iconst 0, 1)), (27, (.iconst 0, 1)), (28, (.iastore, 1)), (29, (.aload_n 0, 1)), (30, (.getfield 20, 3)), (33, (.iconst 0, 1)), (34, (.iconst (-1), 1)), (35, (.iastore, 1)), (36, (.iload_n 1, 1)), (37, (.iconst 0, 1)), (38, (.iconst 2, 1)), (39, (.invokestatic 92, 3)), (42, (.ifCond .eq 30, 3)), (45, (.iload_n 2, 1)), (46, (.iconst (-1), 1)), (47, (.if_icmp .ne 16, 3)), (50, (.aload_n 0, 1)), (51, (.getfield 23, 3)), (54, (.iload_n 1, 1)), (55, (.iaload, 1)), (56, (.iconst 2, 1)), (57, (.if_icmp .ne 18, 3)), (60, (.goto 12, 3)), (63, (.aload_n 0, 1))]
theorem ok24_read_0_30 : dcs cX10_text tb24_read_0_30 = true := by decide +kernel
theorem dX10_text_0 : decode cX10_text 0 = .ok (.aload_n 0, 1) := dcs_at ok24_read_0_30 0 rfl
theorem dX10_text_1 : decode cX10_text 1 = .ok (.iconst 0, 1) := dcs_at ok24_read_0_30 1 rfl
theorem dX10_text_2 : decode cX10_text 2 = .ok (.putfield 80, 3) := dcs_at ok24_read_0_30 2 rfl
theorem dX10_text_5 : decode cX10_text 5 = .ok (.aload_n 0, 1) := dcs_at ok24_read_0_30 3 rfl
theorem dX10_text_6 : decode cX10_text 6 = .ok (.aload_n 0, 1) := dcs_at ok24_read_0_30 4 rfl
theorem dX10_text_7 : decode cX10_text 7 = .ok (.getfield 13, 3) := dcs_at ok24_read_0_30 5 rfl
theorem dX10_text_10 : decode cX10_text 10 = .ok (.iconst 0, 1) := dcs_at ok24_read_0_30 6 rfl
theorem dX10_text_11 : decode cX10_text 11 = .ok (.iaload, 1) := dcs_at ok24_read_0_30 7 rfl
theorem dX10_text_12 : decode cX10_text 12 = .ok (.putfield 103, 3) := dcs_at ok24_read_0_30 8 rfl
theorem dX10_text_15 : decode cX10_text 15 = .ok (.aload_n 0, 1) := dcs_at ok24_read_0_30 9 rfl
theorem dX10_text_16 : decode cX10_text 16 = .ok (.getfield 13, 3) := dcs_at ok24_read_0_30 10 rfl
theorem dX10_text_19 : decode cX10_text 19 = .ok (.iconst 0, 1) := dcs_at ok24_read_0_30 11 rfl
theorem dX10_text_20 : decode cX10_text 20 = .ok (.iconst 0, 1) := dcs_at ok24_read_0_30 12 rfl
theorem dX10_text_21 : decode cX10_text 21 = .ok (.iastore, 1) := dcs_at ok24_read_0_30 13 rfl
theorem dX10_text_22 : decode cX10_text 22 = .ok (.aload_n 0, 1) := dcs_at ok24_read_0_30 14 rfl
theorem dX10_text_23 : decode cX10_text 23 = .ok (.getfield 17, 3) := dcs_at ok24_read_0_30 15 rfl
theorem dX10_text_26 : decode cX10_text 26 = .ok (.iconst 0, 1) := dcs_at ok24_read_0_30 16 rfl
theorem dX10_text_27 : decode cX10_text 27 = .ok (.iconst 0, 1) := dcs_at ok24_read_0_30 17 rfl
theorem dX10_text_28 : decode cX10_text 28 = .ok (.iastore, 1) := dcs_at ok24_read_0_30 18 rfl
theorem dX10_text_29 : decode cX10_text 29 = .ok (.aload_n 0, 1) := dcs_at ok24_read_0_30 19 rfl
theorem dX10_text_30 : decode cX10_text 30 = .ok (.getfield 20, 3) := dcs_at ok24_read_0_30 20 rfl
theorem dX10_text_33 : decode cX10_text 33 = .ok (.iconst 0, 1) := dcs_at ok24_read_0_30 21 rfl
theorem dX10_text_34 : decode cX10_text 34 = .ok (.iconst (-1), 1) := dcs_at ok24_read_0_30 22 rfl
theorem dX10_text_35 : decode cX10_text 35 = .ok (.iastore, 1) := dcs_at ok24_read_0_30 23 rfl
theorem dX10_text_36 : decode cX10_text 36 = .ok (.iload_n 1, 1) := dcs_at ok24_read_0_30 24 rfl
theorem dX10_text_37 : decode cX10_text 37 = .ok (.iconst 0, 1) := dcs_at ok24_read_0_30 25 rfl
theorem dX10_text_38 : decode cX10_text 38 = .ok (.iconst 2, 1) := dcs_at ok24_read_0_30 26 rfl
theorem dX10_text_39 : decode cX10_text 39 = .ok (.invokestatic 92, 3) := dcs_at ok24_read_0_30 27 rfl
theorem dX10_text_42 : decode cX10_text 42 = .ok (.ifCond .eq 30, 3) := dcs_at ok24_read_0_30 28 rfl
theorem dX10_text_45 : decode cX10_text 45 = .ok (.iload_n 2, 1) := dcs_at ok24_read_0_30 29 rfl
theorem dX10_text_46 : decode cX10_text 46 = .ok (.iconst (-1), 1) := dcs_at ok24_read_0_30 30 rfl
theorem dX10_text_47 : decode cX10_text 47 = .ok (.if_icmp .ne 16, 3) := dcs_at ok24_read_0_30 31 rfl
theorem dX10_text_50 : decode cX10_text 50 = .ok (.aload_n 0, 1) := dcs_at ok24_read_0_30 32 rfl
theorem dX10_text_51 : decode cX10_text 51 = .ok (.getfield 23, 3) := dcs_at ok24_read_0_30 33 rfl
theorem dX10_text_54 : decode cX10_text 54 = .ok (.iload_n 1, 1) := dcs_at ok24_read_0_30 34 rfl
theorem dX10_text_55 : decode cX10_text 55 = .ok (.iaload, 1) := dcs_at ok24_read_0_30 35 rfl
theorem dX10_text_56 : decode cX10_text 56 = .ok (.iconst 2, 1) := dcs_at ok24_read_0_30 36 rfl
theorem dX10_text_57 : decode cX10_text 57 = .ok (.if_icmp .ne 18, 3) := dcs_at ok24_read_0_30 37 rfl
theorem dX10_text_60 : decode cX10_text 60 = .ok (.goto 12, 3) := dcs_at ok24_read_0_30 38 rfl
theorem dX10_text_63 : decode cX10_text 63 = .ok (.aload_n 0, 1) := dcs_at ok24_read_0_30 39 rfl
def tb24_read_0_31 : List (Nat × (Instr × Nat)) := [(64, (.iload_n 1, 1)), (65, (.iload_n 2, 1)), (66, (.invokevirtual 211, 3)), (69, (.ifCond .ne 6, 3)), (72, (.bipush (-2), 2)), (74, (.ireturn, 1)), (75, (.aload_n 0, 1)), (76, (.iload_n 1, 1)), (77, (.invokevirtual 214, 3)), (80, (.ifCond .ne 5, 3)), (83, (.iconst (-1), 1)), (84, (.ireturn, 1)), (85, (.iload_n 2, 1)), (86, (.iconst (-1), 1)), (87, (.if_icmp .ne 12, 3)), (90, (.aload_n 0, 1)), (91, (.getfield 23, 3)), (94, (.iload_n 1, 1)), (95, (.iaload, 1)), (96, (.goto 4, 3)), (99, (.iload_n 2, 1)), (100, (.istore_n 3, 1)), (101, (.aload_n 0, 1)), (102, (.getfield 23, 3)), (105, (.iload_n 1, 1)), (106, (.dup2, 1)), (107, (.iaload, 1)), (108, (.iload_n 2, 1)), (109, (.iconst (-1), 1)), (110, (.if_icmp .ne 7, 3)), (113, (.iconst 1, 1)), (114, (.goto 4, 3)), (117, (.iconst 0, 1)), (118, (.iadd, 1)), (119, (.iastore, 1)), (120, (.iload_n 1, 1)), (121, (.ifCond .ne 17, 3)), (124, (.aload_n 0, 1)), (125, (.aload_n 0, 1)), (126, (.getfield 26, 3))]
theorem ok24_read_0_31 : dcs cX10_text tb24_read_0_31 = true := by decide +kernel
theorem dX10_text_64 : decode cX10_text 64 = .ok (.iload_n 1, 1) := dcs_at ok24_read_0_31 0 rfl
theorem dX10_text_65 : decode cX10_text 65 = .ok (.iload_n 2, 1) := dcs_at ok24_read_0_31 1 rfl
theorem dX10_text_66 : decode cX10_text 66 = .ok (.invokevirtual 211, 3) := dcs_at ok24_read_0_31 2 rfl
theorem dX10_text_69 : decode cX10_text 69 = .ok (.ifCond .ne 6, 3) := dcs_at ok24_read_0_31 3 rfl
theorem dX10_text_72 : decode cX10_text 72 = .ok (.bipush (-2), 2) := dcs_at ok24_read_0_31 4 rfl
theorem dX10_text_74 : decode cX10_text 74 = .ok (.ireturn, 1) := dcs_at ok24_read_0_31 5 rfl
theorem dX10_text_75 : decode cX10_text 75 = .ok (.aload_n 0, 1) := dcs_at ok24_read_0_31 6 rfl
theorem dX10_text_76 : decode cX10_text 76 = .ok (.iload_n 1, 1) := dcs_at ok24_read_0_31 7 rfl
theorem dX10_text_77 : decode cX10_text 77 = .ok (.invokevirtual 214, 3) := dcs_at ok24_read_0_31 8 rfl
theorem dX10_text_80 : decode cX10_text 80 = .ok (.ifCond .ne 5, 3) := dcs_at ok24_read_0_31 9 rfl
theorem dX10_text_83 : decode cX10_text 83 = .ok (.iconst (-1), 1) := dcs_at ok24_read_0_31 10 rfl
theorem dX10_text_84 : decode cX10_text 84 = .ok (.ireturn, 1) := dcs_at ok24_read_0_31 11 rfl
theorem dX10_text_85 : decode cX10_text 85 = .ok (.iload_n 2, 1) := dcs_at ok24_read_0_31 12 rfl
theorem dX10_text_86 : decode cX10_text 86 = .ok (.iconst (-1), 1) := dcs_at ok24_read_0_31 13 rfl
theorem dX10_text_87 : decode cX10_text 87 = .ok (.if_icmp .ne 12, 3) := dcs_at ok24_read_0_31 14 rfl
theorem dX10_text_90 : decode cX10_text 90 = .ok (.aload_n 0, 1) := dcs_at ok24_read_0_31 15 rfl
theorem dX10_text_91 : decode cX10_text 91 = .ok (.getfield 23, 3) := dcs_at ok24_read_0_31 16 rfl
theorem dX10_text_94 : decode cX10_text 94 = .ok (.iload_n 1, 1) := dcs_at ok24_read_0_31 17 rfl
theorem dX10_text_95 : decode cX10_text 95 = .ok (.iaload, 1) := dcs_at ok24_read_0_31 18 rfl
theorem dX10_text_96 : decode cX10_text 96 = .ok (.goto 4, 3) := dcs_at ok24_read_0_31 19 rfl
theorem dX10_text_99 : decode cX10_text 99 = .ok (.iload_n 2, 1) := dcs_at ok24_read_0_31 20 rfl
theorem dX10_text_100 : decode cX10_text 100 = .ok (.istore_n 3, 1) := dcs_at ok24_read_0_31 21 rfl
theorem dX10_text_101 : decode cX10_text 101 = .ok (.aload_n 0, 1) := dcs_at ok24_read_0_31 22 rfl
theorem dX10_text_102 : decode cX10_text 102 = .ok (.getfield 23, 3) := dcs_at ok24_read_0_31 23 rfl
theorem dX10_text_105 : decode cX10_text 105 = .ok (.iload_n 1, 1) := dcs_at ok24_read_0_31 24 rfl
theorem dX10_text_106 : decode cX10_text 106 = .ok (.dup2, 1) := dcs_at ok24_read_0_31 25 rfl
theorem dX10_text_107 : decode cX10_text 107 = .ok (.iaload, 1) := dcs_at ok24_read_0_31 26 rfl
theorem dX10_text_108 : decode cX10_text 108 = .ok (.iload_n 2, 1) := dcs_at ok24_read_0_31 27 rfl
theorem dX10_text_109 : decode cX10_text 109 = .ok (.iconst (-1), 1) := dcs_at ok24_read_0_31 28 rfl
theorem dX10_text_110 : decode cX10_text 110 = .ok (.if_icmp .ne 7, 3) := dcs_at ok24_read_0_31 29 rfl
theorem dX10_text_113 : decode cX10_text 113 = .ok (.iconst 1, 1) := dcs_at ok24_read_0_31 30 rfl
theorem dX10_text_114 : decode cX10_text 114 = .ok (.goto 4, 3) := dcs_at ok24_read_0_31 31 rfl
theorem dX10_text_117 : decode cX10_text 117 = .ok (.iconst 0, 1) := dcs_at ok24_read_0_31 32 rfl
theorem dX10_text_118 : decode cX10_text 118 = .ok (.iadd, 1) := dcs_at ok24_read_0_31 33 rfl
theorem dX10_text_119 : decode cX10_text 119 = .ok (.iastore, 1) := dcs_at ok24_read_0_31 34 rfl
theorem dX10_text_120 : decode cX10_text 120 = .ok (.iload_n 1, 1) := dcs_at ok24_read_0_31 35 rfl
theorem dX10_text_121 : decode cX10_text 121 = .ok (.ifCond .ne 17, 3) := dcs_at ok24_read_0_31 36 rfl
theorem dX10_text_124 : decode cX10_text 124 = .ok (.aload_n 0, 1) := dcs_at ok24_read_0_31 37 rfl
theorem dX10_text_125 : decode cX10_text 125 = .ok (.aload_n 0, 1) := dcs_at ok24_read_0_31 38 rfl
theorem dX10_text_126 : decode cX10_text 126 = .ok (.getfield 26, 3) := dcs_at ok24_read_0_31 39 rfl
def tb24_read_0_32 : List (Nat × (Instr × Nat)) := [(129, (.bipush 36, 2)), (131, (.iload_n 3, 1)), (132, (.invokevirtual 217, 3)), (135, (.goto 33, 3)), (138, (.iload_n 1, 1)), (139, (.iconst 1, 1)), (140, (.if_icmp .ne 17, 3)), (143, (.aload_n 0, 1)), (144, (.aload_n 0, 1)), (145, (.getfield 29, 3)), (148, (.bipush 121, 2)), (150, (.iload_n 3, 1)), (151, (.invokevirtual 217, 3)), (154, (.goto 14, 3)), (157, (.aload_n 0, 1)), (158, (.aload_n 0, 1)), (159, (.getfield 32, 3)), (162, (.bipush 7, 2)), (164, (.iload_n 3, 1)), (165, (.invokevirtual 217, 3)), (168, (.iload_n 3, 1)), (169, (.ireturn, 1))]
theorem ok24_read_0_32 : dcs cX10_text tb24_read_0_32 = true := by decide +kernel
theorem dX10_text_129 : decode cX10_text 129 = .ok (.bipush 36, 2) := dcs_at ok24_read_0_32 0 rfl
theorem dX10_text_131 : decode cX10_text 131 = .ok (.iload_n 3, 1) := dcs_at ok24_read_0_32 1 rfl
theorem dX10_text_132 : decode cX10_text 132 = .ok (.invokevirtual 217, 3) := dcs_at ok24_read_0_32 2 rfl
theorem dX10_text_135 : decode cX10_text 135 = .ok (.goto 33, 3) := dcs_at ok24_read_0_32 3 rfl
theorem dX10_text_138 : decode cX10_text 138 = .ok (.iload_n 1, 1) := dcs_at ok24_read_0_32 4 rfl
theorem dX10_text_139 : decode cX10_text 139 = .ok (.iconst 1, 1) := dcs_at ok24_read_0_32 5 rfl
theorem dX10_text_140 : decode cX10_text 140 = .ok (.if_icmp .ne 17, 3) := dcs_at ok24_read_0_32 6 rfl
theorem dX10_text_143 : decode cX10_text 143 = .ok (.aload_n 0, 1) := dcs_at ok24_read_0_32 7 rfl
theorem dX10_text_144 : decode cX10_text 144 = .ok (.aload_n 0, 1) := dcs_at ok24_read_0_32 8 rfl
theorem dX10_text_145 : decode cX10_text 145 = .ok (.getfield 29, 3) := dcs_at ok24_read_0_32 9 rfl
theorem dX10_text_148 : decode cX10_text 148 = .ok (.bipush 121, 2) := dcs_at ok24_read_0_32 10 rfl
theorem dX10_text_150 : decode cX10_text 150 = .ok (.iload_n 3, 1) := dcs_at ok24_read_0_32 11 rfl
theorem dX10_text_151 : decode cX10_text 151 = .ok (.invokevirtual 217, 3) := dcs_at ok24_read_0_32 12 rfl
theorem dX10_text_154 : decode cX10_text 154 = .ok (.goto 14, 3) := dcs_at ok24_read_0_32 13 rfl
theorem dX10_text_157 : decode cX10_text 157 = .ok (.aload_n 0, 1) := dcs_at ok24_read_0_32 14 rfl
theorem dX10_text_158 : decode cX10_text 158 = .ok (.aload_n 0, 1) := dcs_at ok24_read_0_32 15 rfl
theorem dX10_text_159 : decode cX10_text 159 = .ok (.getfield 32, 3) := dcs_at ok24_read_0_32 16 rfl
theorem dX10_text_162 : decode cX10_text 162 = .ok (.bipush 7, 2) := dcs_at ok24_read_0_32 17 rfl
theorem dX10_text_164 : decode cX10_text 164 = .ok (.iload_n 3, 1) := dcs_at ok24_read_0_32 18 rfl
theorem dX10_text_165 : decode cX10_text 165 = .ok (.invokevirtual 217, 3) := dcs_at ok24_read_0_32 19 rfl
theorem dX10_text_168 : decode cX10_text 168 = .ok (.iload_n 3, 1) := dcs_at ok24_read_0_32 20 rfl
theorem dX10_text_169 : decode cX10_text 169 = .ok (.ireturn, 1) := dcs_at ok24_read_0_32 21 rfl
