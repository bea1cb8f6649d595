def tb21_b_model_0_1 : List (Nat × (Instr × Nat)) := [(0, (.aload_n 0, 1)), (1, (.iload_n 1, 1)), (2, (.invokevirtual 240, 3)), (5, (.ifCond .eq 32, 3)), (8, (.aload_n 0, 1)), (9, (.iload_n 2, 1)), (10, (.invokevirtual 285, 3)), (13, (.ifCond .eq 24, 3)), (16, (.aload_n 0, 1)), (17, (.getfield 279, 3)), (20, (.iload_n 1, 1)), (21, (.invokestatic 84, 3)), (24, (.ifCond .ne 13, 3)), (27, (.aload_n 0, 1)), (28, (.getfield 41, 3)), (31, (.iload_n 1, 1)), (32, (.iaload, 1)), (33, (.iload_n 3, 1)), (34, (.if_icmp .ge 5, 3)), (37, (.iconst 0, 1)), (38, (.ireturn, 1)), (39, (.aload_n 0, 1)), (40, (.getfield 41, 3)), (43, (.iload_n 1, 1)), (44, (.dup2, 1)), (45, (.iaload, 1)), (46, (.iload_n 3, 1)), (47, (.isub, 1)), (48, (.iastore, 1)), (49, (.iload_n 3, 1)), (50, (.aload_n 0, 1)), (51, (.iload_n 1, 1)), (52, (.invokevirtual 288, 3)), (55, (.imul, 1)), (56, (.aload_n 0, 1)), (57, (.getfield 273, 3)), (60, (.iload_n 2, 1)), (61, (.if_icmp .ne 7, 3)), (64, (.iconst 2, 1)), (65, (.goto 4, 3))]
theorem ok21_b_model_0_1 : dcs cX10_clapsFor tb21_b_model_0_1 = true := by decide +kernel
theorem dX10_clapsFor_0 : decode cX10_clapsFor 0 = .ok (.aload_n 0, 1) := dcs_at ok21_b_model_0_1 0 rfl
theorem dX10_clapsFor_1 : decode cX10_clapsFor 1 = .ok (.iload_n 1, 1) := dcs_at ok21_b_model_0_1 1 rfl
theorem dX10_clapsFor_2 : decode cX10_clapsFor 2 = .ok (.invokevirtual 240, 3) := dcs_at ok21_b_model_0_1 2 rfl
theorem dX10_clapsFor_5 : decode cX10_clapsFor 5 = .ok (.ifCond .eq 32, 3) := dcs_at ok21_b_model_0_1 3 rfl
theorem dX10_clapsFor_8 : decode cX10_clapsFor 8 = .ok (.aload_n 0, 1) := dcs_at ok21_b_model_0_1 4 rfl
theorem dX10_clapsFor_9 : decode cX10_clapsFor 9 = .ok (.iload_n 2, 1) := dcs_at ok21_b_model_0_1 5 rfl
theorem dX10_clapsFor_10 : decode cX10_clapsFor 10 = .ok (.invokevirtual 285, 3) := dcs_at ok21_b_model_0_1 6 rfl
theorem dX10_clapsFor_13 : decode cX10_clapsFor 13 = .ok (.ifCond .eq 24, 3) := dcs_at ok21_b_model_0_1 7 rfl
theorem dX10_clapsFor_16 : decode cX10_clapsFor 16 = .ok (.aload_n 0, 1) := dcs_at ok21_b_model_0_1 8 rfl
theorem dX10_clapsFor_17 : decode cX10_clapsFor 17 = .ok (.getfield 279, 3) := dcs_at ok21_b_model_0_1 9 rfl
theorem dX10_clapsFor_20 : decode cX10_clapsFor 20 = .ok (.iload_n 1, 1) := dcs_at ok21_b_model_0_1 10 rfl
theorem dX10_clapsFor_21 : decode cX10_clapsFor 21 = .ok (.invokestatic 84, 3) := dcs_at ok21_b_model_0_1 11 rfl
theorem dX10_clapsFor_24 : decode cX10_clapsFor 24 = .ok (.ifCond .ne 13, 3) := dcs_at ok21_b_model_0_1 12 rfl
theorem dX10_clapsFor_27 : decode cX10_clapsFor 27 = .ok (.aload_n 0, 1) := dcs_at ok21_b_model_0_1 13 rfl
theorem dX10_clapsFor_28 : decode cX10_clapsFor 28 = .ok (.getfield 41, 3) := dcs_at ok21_b_model_0_1 14 rfl
theorem dX10_clapsFor_31 : decode cX10_clapsFor 31 = .ok (.iload_n 1, 1) := dcs_at ok21_b_model_0_1 15 rfl
theorem dX10_clapsFor_32 : decode cX10_clapsFor 32 = .ok (.iaload, 1) := dcs_at ok21_b_model_0_1 16 rfl
theorem dX10_clapsFor_33 : decode cX10_clapsFor 33 = .ok (.iload_n 3, 1) := dcs_at ok21_b_model_0_1 17 rfl
theorem dX10_clapsFor_34 : decode cX10_clapsFor 34 = .ok (.if_icmp .ge 5, 3) := dcs_at ok21_b_model_0_1 18 rfl
theorem dX10_clapsFor_37 : decode cX10_clapsFor 37 = .ok (.iconst 0, 1) := dcs_at ok21_b_model_0_1 19 rfl
theorem dX10_clapsFor_38 : decode cX10_clapsFor 38 = .ok (.ireturn, 1) := dcs_at ok21_b_model_0_1 20 rfl
theorem dX10_clapsFor_39 : decode cX10_clapsFor 39 = .ok (.aload_n 0, 1) := dcs_at ok21_b_model_0_1 21 rfl
theorem dX10_clapsFor_40 : decode cX10_clapsFor 40 = .ok (.getfield 41, 3) := dcs_at ok21_b_model_0_1 22 rfl
theorem dX10_clapsFor_43 : decode cX10_clapsFor 43 = .ok (.iload_n 1, 1) := dcs_at ok21_b_model_0_1 23 rfl
theorem dX10_clapsFor_44 : decode cX10_clapsFor 44 = .ok (.dup2, 1) := dcs_at ok21_b_model_0_1 24 rfl
theorem dX10_clapsFor_45 : decode cX10_clapsFor 45 = .ok (.iaload, 1) := dcs_at ok21_b_model_0_1 25 rfl
theorem dX10_clapsFor_46 : decode cX10_clapsFor 46 = .ok (.iload_n 3, 1) := dcs_at ok21_b_model_0_1 26 rfl
theorem dX10_clapsFor_47 : decode cX10_clapsFor 47 = .ok (.isub, 1) := dcs_at ok21_b_model_0_1 27 rfl
theorem dX10_clapsFor_48 : decode cX10_clapsFor 48 = .ok (.iastore, 1) := dcs_at ok21_b_model_0_1 28 rfl
theorem dX10_clapsFor_49 : decode cX10_clapsFor 49 = .ok (.iload_n 3, 1) := dcs_at ok21_b_model_0_1 29 rfl
theorem dX10_clapsFor_50 : decode cX10_clapsFor 50 = .ok (.aload_n 0, 1) := dcs_at ok21_b_model_0_1 30 rfl
theorem dX10_clapsFor_51 : decode cX10_clapsFor 51 = .ok (.iload_n 1, 1) := dcs_at ok21_b_model_0_1 31 rfl
theorem dX10_clapsFor_52 : decode cX10_clapsFor 52 = .ok (.invokevirtual 288, 3) := dcs_at ok21_b_model_0_1 32 rfl
theorem dX10_clapsFor_55 : decode cX10_clapsFor 55 = .ok (.imul, 1) := dcs_at ok21_b_model_0_1 33 rfl
theorem dX10_clapsFor_56 : decode cX10_clapsFor 56 = .ok (.aload_n 0, 1) := dcs_at ok21_b_model_0_1 34 rfl
theorem dX10_clapsFor_57 : decode cX10_clapsFor 57 = .ok (.getfield 273, 3) := dcs_at ok21_b_model_0_1 35 rfl
theorem dX10_clapsFor_60 : decode cX10_clapsFor 60 = .ok (.iload_n 2, 1) := dcs_at ok21_b_model_0_1 36 rfl
theorem dX10_clapsFor_61 : decode cX10_clapsFor 61 = .ok (.if_icmp .ne 7, 3) := dcs_at ok21_b_model_0_1 37 rfl
theorem dX10_clapsFor_64 : decode cX10_clapsFor 64 = .ok (.iconst 2, 1) := dcs_at ok21_b_model_0_1 38 rfl
theorem dX10_clapsFor_65 : decode cX10_clapsFor 65 = .ok (.goto 4, 3) := dcs_at ok21_b_model_0_1 39 rfl
def tb21_b_model_0_2 : List (Nat × (Instr × Nat)) := [(68, (.iconst 1, 1)), (69, (.imul, 1)), (70, (.istore 4, 2)), (72, (.aload_n 0, 1)), (73, (.iload_n 2, 1)), (74, (.iload 4, 2)), (76, (.invokevirtual 291, 3)), (79, (.aload_n 0, 1)), (80, (.getfield 47, 3)), (83, (.bipush 6, 2)), (85, (.iload_n 1, 1)), (86, (.imul, 1)), (87, (.iload_n 2, 1)), (88, (.iadd, 1)), (89, (.dup2, 1)), (90, (.iaload, 1)), (91, (.iload 4, 2)), (93, (.iadd, 1)), (94, (.iastore, 1)), (95, (.aload_n 0, 1)), (96, (.dup, 1)), (97, (.getfield 270, 3)), (100, (.iload_n 3, 1)), (101, (.iadd, 1)), (102, (.putfield 270, 3)), (105, (.iconst 1, 1)), (106, (.ireturn, 1))]
theorem ok21_b_model_0_2 : dcs cX10_clapsFor tb21_b_model_0_2 = true := by decide +kernel
theorem dX10_clapsFor_68 : decode cX10_clapsFor 68 = .ok (.iconst 1, 1) := dcs_at ok21_b_model_0_2 0 rfl
theorem dX10_clapsFor_69 : decode cX10_clapsFor 69 = .ok (.imul, 1) := dcs_at ok21_b_model_0_2 1 rfl
theorem dX10_clapsFor_70 : decode cX10_clapsFor 70 = .ok (.istore 4, 2) := dcs_at ok21_b_model_0_2 2 rfl
theorem dX10_clapsFor_72 : decode cX10_clapsFor 72 = .ok (.aload_n 0, 1) := dcs_at ok21_b_model_0_2 3 rfl
theorem dX10_clapsFor_73 : decode cX10_clapsFor 73 = .ok (.iload_n 2, 1) := dcs_at ok21_b_model_0_2 4 rfl
theorem dX10_clapsFor_74 : decode cX10_clapsFor 74 = .ok (.iload 4, 2) := dcs_at ok21_b_model_0_2 5 rfl
theorem dX10_clapsFor_76 : decode cX10_clapsFor 76 = .ok (.invokevirtual 291, 3) := dcs_at ok21_b_model_0_2 6 rfl
theorem dX10_clapsFor_79 : decode cX10_clapsFor 79 = .ok (.aload_n 0, 1) := dcs_at ok21_b_model_0_2 7 rfl
theorem dX10_clapsFor_80 : decode cX10_clapsFor 80 = .ok (.getfield 47, 3) := dcs_at ok21_b_model_0_2 8 rfl
theorem dX10_clapsFor_83 : decode cX10_clapsFor 83 = .ok (.bipush 6, 2) := dcs_at ok21_b_model_0_2 9 rfl
theorem dX10_clapsFor_85 : decode cX10_clapsFor 85 = .ok (.iload_n 1, 1) := dcs_at ok21_b_model_0_2 10 rfl
theorem dX10_clapsFor_86 : decode cX10_clapsFor 86 = .ok (.imul, 1) := dcs_at ok21_b_model_0_2 11 rfl
theorem dX10_clapsFor_87 : decode cX10_clapsFor 87 = .ok (.iload_n 2, 1) := dcs_at ok21_b_model_0_2 12 rfl
theorem dX10_clapsFor_88 : decode cX10_clapsFor 88 = .ok (.iadd, 1) := dcs_at ok21_b_model_0_2 13 rfl
theorem dX10_clapsFor_89 : decode cX10_clapsFor 89 = .ok (.dup2, 1) := dcs_at ok21_b_model_0_2 14 rfl
theorem dX10_clapsFor_90 : decode cX10_clapsFor 90 = .ok (.iaload, 1) := dcs_at ok21_b_model_0_2 15 rfl
theorem dX10_clapsFor_91 : decode cX10_clapsFor 91 = .ok (.iload 4, 2) := dcs_at ok21_b_model_0_2 16 rfl
theorem dX10_clapsFor_93 : decode cX10_clapsFor 93 = .ok (.iadd, 1) := dcs_at ok21_b_model_0_2 17 rfl
theorem dX10_clapsFor_94 : decode cX10_clapsFor 94 = .ok (.iastore, 1) := dcs_at ok21_b_model_0_2 18 rfl
theorem dX10_clapsFor_95 : decode cX10_clapsFor 95 = .ok (.aload_n 0, 1) := dcs_at ok21_b_model_0_2 19 rfl
theorem dX10_clapsFor_96 : decode cX10_clapsFor 96 = .ok (.dup, 1) := dcs_at ok21_b_model_0_2 20 rfl
theorem dX10_clapsFor_97 : decode cX10_clapsFor 97 = .ok (.getfield 270, 3) := dcs_at ok21_b_model_0_2 21 rfl
theorem dX10_clapsFor_100 : decode cX10_clapsFor 100 = .ok (.iload_n 3, 1) := dcs_at ok21_b_model_0_2 22 rfl
theorem dX10_clapsFor_101 : decode cX10_clapsFor 101 = .ok (.iadd, 1) := dcs_at ok21_b_model_0_2 23 rfl
theorem dX10_clapsFor_102 : decode cX10_clapsFor 102 = .ok (.putfield 270, 3) := dcs_at ok21_b_model_0_2 24 rfl
theorem dX10_clapsFor_105 : decode cX10_clapsFor 105 = .ok (.iconst 1, 1) := dcs_at ok21_b_model_0_2 25 rfl
theorem dX10_clapsFor_106 : decode cX10_clapsFor 106 = .ok (.ireturn, 1) := dcs_at ok21_b_model_0_2 26 rfl
def tb21_b_model_0_3 : List (Nat × (Instr × Nat)) := [(0, (.aload_n 0, 1)), (1, (.iload_n 1, 1)), (2, (.invokevirtual 240, 3)), (5, (.ifCond .eq 51, 3)), (8, (.aload_n 0, 1)), (9, (.iload_n 2, 1)), (10, (.invokevirtual 240, 3)), (13, (.ifCond .eq 43, 3)), (16, (.aload_n 0, 1)), (17, (.getfield 279, 3)), (20, (.iload_n 1, 1)), (21, (.invokestatic 84, 3)), (24, (.ifCond .ne 32, 3)), (27, (.aload_n 0, 1)), (28, (.getfield 41, 3)), (31, (.iload_n 1, 1)), (32, (.iaload, 1)), (33, (.iload_n 3, 1)), (34, (.if_icmp .lt 22, 3)), (37, (.iload 4, 2)), (39, (.ifCond .eq 19, 3)), (42, (.aload_n 0, 1)), (43, (.getfield 44, 3)), (46, (.iconst 5, 1)), (47, (.iload_n 1, 1)), (48, (.imul, 1)), (49, (.iload_n 2, 1)), (50, (.iadd, 1)), (51, (.iaload, 1)), (52, (.iload_n 3, 1)), (53, (.if_icmp .ge 5, 3)), (56, (.iconst 0, 1)), (57, (.ireturn, 1)), (58, (.aload_n 0, 1)), (59, (.getfield 41, 3)), (62, (.iload_n 1, 1)), (63, (.dup2, 1)), (64, (.iaload, 1)), (65, (.iload_n 3, 1)), (66, (.isub, 1))]
theorem ok21_b_model_0_3 : dcs cX10_gives tb21_b_model_0_3 = true := by decide +kernel
theorem dX10_gives_0 : decode cX10_gives 0 = .ok (.aload_n 0, 1) := dcs_at ok21_b_model_0_3 0 rfl
theorem dX10_gives_1 : decode cX10_gives 1 = .ok (.iload_n 1, 1) := dcs_at ok21_b_model_0_3 1 rfl
theorem dX10_gives_2 : decode cX10_gives 2 = .ok (.invokevirtual 240, 3) := dcs_at ok21_b_model_0_3 2 rfl
theorem dX10_gives_5 : decode cX10_gives 5 = .ok (.ifCond .eq 51, 3) := dcs_at ok21_b_model_0_3 3 rfl
theorem dX10_gives_8 : decode cX10_gives 8 = .ok (.aload_n 0, 1) := dcs_at ok21_b_model_0_3 4 rfl
theorem dX10_gives_9 : decode cX10_gives 9 = .ok (.iload_n 2, 1) := dcs_at ok21_b_model_0_3 5 rfl
theorem dX10_gives_10 : decode cX10_gives 10 = .ok (.invokevirtual 240, 3) := dcs_at ok21_b_model_0_3 6 rfl
theorem dX10_gives_13 : decode cX10_gives 13 = .ok (.ifCond .eq 43, 3) := dcs_at ok21_b_model_0_3 7 rfl
theorem dX10_gives_16 : decode cX10_gives 16 = .ok (.aload_n 0, 1) := dcs_at ok21_b_model_0_3 8 rfl
theorem dX10_gives_17 : decode cX10_gives 17 = .ok (.getfield 279, 3) := dcs_at ok21_b_model_0_3 9 rfl
theorem dX10_gives_20 : decode cX10_gives 20 = .ok (.iload_n 1, 1) := dcs_at ok21_b_model_0_3 10 rfl
theorem dX10_gives_21 : decode cX10_gives 21 = .ok (.invokestatic 84, 3) := dcs_at ok21_b_model_0_3 11 rfl
theorem dX10_gives_24 : decode cX10_gives 24 = .ok (.ifCond .ne 32, 3) := dcs_at ok21_b_model_0_3 12 rfl
theorem dX10_gives_27 : decode cX10_gives 27 = .ok (.aload_n 0, 1) := dcs_at ok21_b_model_0_3 13 rfl
theorem dX10_gives_28 : decode cX10_gives 28 = .ok (.getfield 41, 3) := dcs_at ok21_b_model_0_3 14 rfl
theorem dX10_gives_31 : decode cX10_gives 31 = .ok (.iload_n 1, 1) := dcs_at ok21_b_model_0_3 15 rfl
theorem dX10_gives_32 : decode cX10_gives 32 = .ok (.iaload, 1) := dcs_at ok21_b_model_0_3 16 rfl
theorem dX10_gives_33 : decode cX10_gives 33 = .ok (.iload_n 3, 1) := dcs_at ok21_b_model_0_3 17 rfl
theorem dX10_gives_34 : decode cX10_gives 34 = .ok (.if_icmp .lt 22, 3) := dcs_at ok21_b_model_0_3 18 rfl
theorem dX10_gives_37 : decode cX10_gives 37 = .ok (.iload 4, 2) := dcs_at ok21_b_model_0_3 19 rfl
theorem dX10_gives_39 : decode cX10_gives 39 = .ok (.ifCond .eq 19, 3) := dcs_at ok21_b_model_0_3 20 rfl
theorem dX10_gives_42 : decode cX10_gives 42 = .ok (.aload_n 0, 1) := dcs_at ok21_b_model_0_3 21 rfl
theorem dX10_gives_43 : decode cX10_gives 43 = .ok (.getfield 44, 3) := dcs_at ok21_b_model_0_3 22 rfl
theorem dX10_gives_46 : decode cX10_gives 46 = .ok (.iconst 5, 1) := dcs_at ok21_b_model_0_3 23 rfl
theorem dX10_gives_47 : decode cX10_gives 47 = .ok (.iload_n 1, 1) := dcs_at ok21_b_model_0_3 24 rfl
theorem dX10_gives_48 : decode cX10_gives 48 = .ok (.imul, 1) := dcs_at ok21_b_model_0_3 25 rfl
theorem dX10_gives_49 : decode cX10_gives 49 = .ok (.iload_n 2, 1) := dcs_at ok21_b_model_0_3 26 rfl
theorem dX10_gives_50 : decode cX10_gives 50 = .ok (.iadd, 1) := dcs_at ok21_b_model_0_3 27 rfl
theorem dX10_gives_51 : decode cX10_gives 51 = .ok (.iaload, 1) := dcs_at ok21_b_model_0_3 28 rfl
theorem dX10_gives_52 : decode cX10_gives 52 = .ok (.iload_n 3, 1) := dcs_at ok21_b_model_0_3 29 rfl
theorem dX10_gives_53 : decode cX10_gives 53 = .ok (.if_icmp .ge 5, 3) := dcs_at ok21_b_model_0_3 30 rfl
theorem dX10_gives_56 : decode cX10_gives 56 = .ok (.iconst 0, 1) := dcs_at ok21_b_model_0_3 31 rfl
theorem dX10_gives_57 : decode cX10_gives 57 = .ok (.ireturn, 1) := dcs_at ok21_b_model_0_3 32 rfl
theorem dX10_gives_58 : decode cX10_gives 58 = .ok (.aload_n 0, 1) := dcs_at ok21_b_model_0_3 33 rfl
theorem dX10_gives_59 : decode cX10_gives 59 = .ok (.getfield 41, 3) := dcs_at ok21_b_model_0_3 34 rfl
theorem dX10_gives_62 : decode cX10_gives 62 = .ok (.iload_n 1, 1) := dcs_at ok21_b_model_0_3 35 rfl
theorem dX10_gives_63 : decode cX10_gives 63 = .ok (.dup2, 1) := dcs_at ok21_b_model_0_3 36 rfl
theorem dX10_gives_64 : decode cX10_gives 64 = .ok (.iaload, 1) := dcs_at ok21_b_model_0_3 37 rfl
theorem dX10_gives_65 : decode cX10_gives 65 = .ok (.iload_n 3, 1) := dcs_at ok21_b_model_0_3 38 rfl
theorem dX10_gives_66 : decode cX10_gives 66 = .ok (.isub, 1) := dcs_at ok21_b_model_0_3 39 rfl
def tb21_b_model_0_4 : List (Nat × (Instr × Nat)) := [(67, (.iastore, 1)), (68, (.aload_n 0, 1)), (69, (.getfield 41, 3)), (72, (.iload_n 2, 1)), (73, (.dup2, 1)), (74, (.iaload, 1)), (75, (.iload_n 3, 1)), (76, (.iadd, 1)), (77, (.iastore, 1)), (78, (.iload 4, 2)), (80, (.ifCond .eq 20, 3)), (83, (.aload_n 0, 1)), (84, (.getfield 44, 3)), (87, (.iconst 5, 1)), (88, (.iload_n 1, 1)), (89, (.imul, 1)), (90, (.iload_n 2, 1)), (91, (.iadd, 1)), (92, (.dup2, 1)), (93, (.iaload, 1)), (94, (.iload_n 3, 1)), (95, (.isub, 1)), (96, (.iastore, 1)), (97, (.goto 17, 3)), (100, (.aload_n 0, 1)), (101, (.getfield 44, 3)), (104, (.iconst 5, 1)), (105, (.iload_n 2, 1)), (106, (.imul, 1)), (107, (.iload_n 1, 1)), (108, (.iadd, 1)), (109, (.dup2, 1)), (110, (.iaload, 1)), (111, (.iload_n 3, 1)), (112, (.iadd, 1)), (113, (.iastore, 1)), (114, (.iconst 1, 1)), (115, (.ireturn, 1))]
theorem ok21_b_model_0_4 : dcs cX10_gives tb21_b_model_0_4 = true := by decide +kernel
theorem dX10_gives_67 : decode cX10_gives 67 = .ok (.iastore, 1) := dcs_at ok21_b_model_0_4 0 rfl
theorem dX10_gives_68 : decode cX10_gives 68 = .ok (.aload_n 0, 1) := dcs_at ok21_b_model_0_4 1 rfl
theorem dX10_gives_69 : decode cX10_gives 69 = .ok (.getfield 41, 3) := dcs_at ok21_b_model_0_4 2 rfl
theorem dX10_gives_72 : decode cX10_gives 72 = .ok (.iload_n 2, 1) := dcs_at ok21_b_model_0_4 3 rfl
theorem dX10_gives_73 : decode cX10_gives 73 = .ok (.dup2, 1) := dcs_at ok21_b_model_0_4 4 rfl
theorem dX10_gives_74 : decode cX10_gives 74 = .ok (.iaload, 1) := dcs_at ok21_b_model_0_4 5 rfl
theorem dX10_gives_75 : decode cX10_gives 75 = .ok (.iload_n 3, 1) := dcs_at ok21_b_model_0_4 6 rfl
theorem dX10_gives_76 : decode cX10_gives 76 = .ok (.iadd, 1) := dcs_at ok21_b_model_0_4 7 rfl
theorem dX10_gives_77 : decode cX10_gives 77 = .ok (.iastore, 1) := dcs_at ok21_b_model_0_4 8 rfl
theorem dX10_gives_78 : decode cX10_gives 78 = .ok (.iload 4, 2) := dcs_at ok21_b_model_0_4 9 rfl
theorem dX10_gives_80 : decode cX10_gives 80 = .ok (.ifCond .eq 20, 3) := dcs_at ok21_b_model_0_4 10 rfl
theorem dX10_gives_83 : decode cX10_gives 83 = .ok (.aload_n 0, 1) := dcs_at ok21_b_model_0_4 11 rfl
theorem dX10_gives_84 : decode cX10_gives 84 = .ok (.getfield 44, 3) := dcs_at ok21_b_model_0_4 12 rfl
theorem dX10_gives_87 : decode cX10_gives 87 = .ok (.iconst 5, 1) := dcs_at ok21_b_model_0_4 13 rfl
theorem dX10_gives_88 : decode cX10_gives 88 = .ok (.iload_n 1, 1) := dcs_at ok21_b_model_0_4 14 rfl
theorem dX10_gives_89 : decode cX10_gives 89 = .ok (.imul, 1) := dcs_at ok21_b_model_0_4 15 rfl
theorem dX10_gives_90 : decode cX10_gives 90 = .ok (.iload_n 2, 1) := dcs_at ok21_b_model_0_4 16 rfl
theorem dX10_gives_91 : decode cX10_gives 91 = .ok (.iadd, 1) := dcs_at ok21_b_model_0_4 17 rfl
theorem dX10_gives_92 : decode cX10_gives 92 = .ok (.dup2, 1) := dcs_at ok21_b_model_0_4 18 rfl
theorem dX10_gives_93 : decode cX10_gives 93 = .ok (.iaload, 1) := dcs_at ok21_b_model_0_4 19 rfl
theorem dX10_gives_94 : decode cX10_gives 94 = .ok (.iload_n 3, 1) := dcs_at ok21_b_model_0_4 20 rfl
theorem dX10_gives_95 : decode cX10_gives 95 = .ok (.isub, 1) := dcs_at ok21_b_model_0_4 21 rfl
theorem dX10_gives_96 : decode cX10_gives 96 = .ok (.iastore, 1) := dcs_at ok21_b_model_0_4 22 rfl
theorem dX10_gives_97 : decode cX10_gives 97 = .ok (.goto 17, 3) := dcs_at ok21_b_model_0_4 23 rfl
theorem dX10_gives_100 : decode cX10_gives 100 = .ok (.aload_n 0, 1) := dcs_at ok21_b_model_0_4 24 rfl
theorem dX10_gives_101 : decode cX10_gives 101 = .ok (.getfield 44, 3) := dcs_at ok21_b_model_0_4 25 rfl
theorem dX10_gives_104 : decode cX10_gives 104 = .ok (.iconst 5, 1) := dcs_at ok21_b_model_0_4 26 rfl
theorem dX10_gives_105 : decode cX10_gives 105 = .ok (.iload_n 2, 1) := dcs_at ok21_b_model_0_4 27 rfl
theorem dX10_gives_106 : decode cX10_gives 106 = .ok (.imul, 1) := dcs_at ok21_b_model_0_4 28 rfl
theorem dX10_gives_107 : decode cX10_gives 107 = .ok (.iload_n 1, 1) := dcs_at ok21_b_model_0_4 29 rfl
theorem dX10_gives_108 : decode cX10_gives 108 = .ok (.iadd, 1) := dcs_at ok21_b_model_0_4 30 rfl
theorem dX10_gives_109 : decode cX10_gives 109 = .ok (.dup2, 1) := dcs_at ok21_b_model_0_4 31 rfl
theorem dX10_gives_110 : decode cX10_gives 110 = .ok (.iaload, 1) := dcs_at ok21_b_model_0_4 32 rfl
theorem dX10_gives_111 : decode cX10_gives 111 = .ok (.iload_n 3, 1) := dcs_at ok21_b_model_0_4 33 rfl
theorem dX10_gives_112 : decode cX10_gives 112 = .ok (.iadd, 1) := dcs_at ok21_b_model_0_4 34 rfl
theorem dX10_gives_113 : decode cX10_gives 113 = .ok (.iastore, 1) := dcs_at ok21_b_model_0_4 35 rfl
theorem dX10_gives_114 : decode cX10_gives 114 = .ok (.iconst 1, 1) := dcs_at ok21_b_model_0_4 36 rfl
theorem dX10_gives_115 : decode cX10_gives 115 = .ok (.ireturn, 1) := dcs_at ok21_b_model_0_4 37 rfl
def tb21_b_model_0_5 : List (Nat × (Instr × Nat)) := [(0, (.aload_n 0, 1)), (1, (.iload_n 1, 1)), (2, (.invokevirtual 285, 3)), (5, (.ifCond .eq 29, 3)), (8, (.aload_n 0, 1)), (9, (.iload_n 2, 1)), (10, (.invokevirtual 240, 3)), (13, (.ifCond .eq 21, 3)), (16, (.aload_n 0, 1)), (17, (.getfield 50, 3)), (20, (.iload_n 1, 1)), (21, (.iaload, 1)), (22, (.iload_n 3, 1)), (23, (.if_icmp .lt 11, 3)), (26, (.aload_n 0, 1)), (27, (.getfield 258, 3)), (30, (.iload_n 3, 1)), (31, (.if_icmp .ge 5, 3)), (34, (.iconst 0, 1)), (35, (.ireturn, 1)), (36, (.aload_n 0, 1)), (37, (.iload_n 1, 1)), (38, (.iload_n 3, 1)), (39, (.ineg, 1)), (40, (.invokevirtual 291, 3)), (43, (.aload_n 0, 1)), (44, (.dup, 1)), (45, (.getfield 279, 3)), (48, (.iconst 1, 1)), (49, (.iload_n 2, 1)), (50, (.ishl, 1)), (51, (.ior, 1)), (52, (.putfield 279, 3)), (55, (.iconst 1, 1)), (56, (.ireturn, 1))]
theorem ok21_b_model_0_5 : dcs cX10_hushes tb21_b_model_0_5 = true := by decide +kernel
theorem dX10_hushes_0 : decode cX10_hushes 0 = .ok (.aload_n 0, 1) := dcs_at ok21_b_model_0_5 0 rfl
theorem dX10_hushes_1 : decode cX10_hushes 1 = .ok (.iload_n 1, 1) := dcs_at ok21_b_model_0_5 1 rfl
theorem dX10_hushes_2 : decode cX10_hushes 2 = .ok (.invokevirtual 285, 3) := dcs_at ok21_b_model_0_5 2 rfl
theorem dX10_hushes_5 : decode cX10_hushes 5 = .ok (.ifCond .eq 29, 3) := dcs_at ok21_b_model_0_5 3 rfl
theorem dX10_hushes_8 : decode cX10_hushes 8 = .ok (.aload_n 0, 1) := dcs_at ok21_b_model_0_5 4 rfl
theorem dX10_hushes_9 : decode cX10_hushes 9 = .ok (.iload_n 2, 1) := dcs_at ok21_b_model_0_5 5 rfl
theorem dX10_hushes_10 : decode cX10_hushes 10 = .ok (.invokevirtual 240, 3) := dcs_at ok21_b_model_0_5 6 rfl
theorem dX10_hushes_13 : decode cX10_hushes 13 = .ok (.ifCond .eq 21, 3) := dcs_at ok21_b_model_0_5 7 rfl
theorem dX10_hushes_16 : decode cX10_hushes 16 = .ok (.aload_n 0, 1) := dcs_at ok21_b_model_0_5 8 rfl
theorem dX10_hushes_17 : decode cX10_hushes 17 = .ok (.getfield 50, 3) := dcs_at ok21_b_model_0_5 9 rfl
theorem dX10_hushes_20 : decode cX10_hushes 20 = .ok (.iload_n 1, 1) := dcs_at ok21_b_model_0_5 10 rfl
theorem dX10_hushes_21 : decode cX10_hushes 21 = .ok (.iaload, 1) := dcs_at ok21_b_model_0_5 11 rfl
theorem dX10_hushes_22 : decode cX10_hushes 22 = .ok (.iload_n 3, 1) := dcs_at ok21_b_model_0_5 12 rfl
theorem dX10_hushes_23 : decode cX10_hushes 23 = .ok (.if_icmp .lt 11, 3) := dcs_at ok21_b_model_0_5 13 rfl
theorem dX10_hushes_26 : decode cX10_hushes 26 = .ok (.aload_n 0, 1) := dcs_at ok21_b_model_0_5 14 rfl
theorem dX10_hushes_27 : decode cX10_hushes 27 = .ok (.getfield 258, 3) := dcs_at ok21_b_model_0_5 15 rfl
theorem dX10_hushes_30 : decode cX10_hushes 30 = .ok (.iload_n 3, 1) := dcs_at ok21_b_model_0_5 16 rfl
theorem dX10_hushes_31 : decode cX10_hushes 31 = .ok (.if_icmp .ge 5, 3) := dcs_at ok21_b_model_0_5 17 rfl
theorem dX10_hushes_34 : decode cX10_hushes 34 = .ok (.iconst 0, 1) := dcs_at ok21_b_model_0_5 18 rfl
theorem dX10_hushes_35 : decode cX10_hushes 35 = .ok (.ireturn, 1) := dcs_at ok21_b_model_0_5 19 rfl
theorem dX10_hushes_36 : decode cX10_hushes 36 = .ok (.aload_n 0, 1) := dcs_at ok21_b_model_0_5 20 rfl
theorem dX10_hushes_37 : decode cX10_hushes 37 = .ok (.iload_n 1, 1) := dcs_at ok21_b_model_0_5 21 rfl
theorem dX10_hushes_38 : decode cX10_hushes 38 = .ok (.iload_n 3, 1) := dcs_at ok21_b_model_0_5 22 rfl
theorem dX10_hushes_39 : decode cX10_hushes 39 = .ok (.ineg, 1) := dcs_at ok21_b_model_0_5 23 rfl
theorem dX10_hushes_40 : decode cX10_hushes 40 = .ok (.invokevirtual 291, 3) := dcs_at ok21_b_model_0_5 24 rfl
theorem dX10_hushes_43 : decode cX10_hushes 43 = .ok (.aload_n 0, 1) := dcs_at ok21_b_model_0_5 25 rfl
theorem dX10_hushes_44 : decode cX10_hushes 44 = .ok (.dup, 1) := dcs_at ok21_b_model_0_5 26 rfl
theorem dX10_hushes_45 : decode cX10_hushes 45 = .ok (.getfield 279, 3) := dcs_at ok21_b_model_0_5 27 rfl
theorem dX10_hushes_48 : decode cX10_hushes 48 = .ok (.iconst 1, 1) := dcs_at ok21_b_model_0_5 28 rfl
theorem dX10_hushes_49 : decode cX10_hushes 49 = .ok (.iload_n 2, 1) := dcs_at ok21_b_model_0_5 29 rfl
theorem dX10_hushes_50 : decode cX10_hushes 50 = .ok (.ishl, 1) := dcs_at ok21_b_model_0_5 30 rfl
theorem dX10_hushes_51 : decode cX10_hushes 51 = .ok (.ior, 1) := dcs_at ok21_b_model_0_5 31 rfl
theorem dX10_hushes_52 : decode cX10_hushes 52 = .ok (.putfield 279, 3) := dcs_at ok21_b_model_0_5 32 rfl
theorem dX10_hushes_55 : decode cX10_hushes 55 = .ok (.iconst 1, 1) := dcs_at ok21_b_model_0_5 33 rfl
theorem dX10_hushes_56 : decode cX10_hushes 56 = .ok (.ireturn, 1) := dcs_at ok21_b_model_0_5 34 rfl
def tb21_b_model_0_6 : List (Nat × (Instr × Nat)) := [(0, (.aload_n 0, 1)), (1, (.iload_n 1, 1)), (2, (.iconst 0, 1)), (3, (.invokevirtual 294, 3)), (6, (.istore_n 2, 1)), (7, (.aload_n 0, 1)), (8, (.getfield 50, 3)), (11, (.iload_n 1, 1)), (12, (.iaload, 1)), (13, (.iload_n 2, 1)), (14, (.if_icmp .lt 11, 3)), (17, (.aload_n 0, 1)), (18, (.getfield 258, 3)), (21, (.iload_n 2, 1)), (22, (.if_icmp .ge 5, 3)), (25, (.iconst 0, 1)), (26, (.ireturn, 1)), (27, (.aload_n 0, 1)), (28, (.iload_n 1, 1)), (29, (.iload_n 2, 1)), (30, (.ineg, 1)), (31, (.invokevirtual 291, 3)), (34, (.iconst 1, 1)), (35, (.ireturn, 1))]
theorem ok21_b_model_0_6 : dcs cX10_eatsNow tb21_b_model_0_6 = true := by decide +kernel
theorem dX10_eatsNow_0 : decode cX10_eatsNow 0 = .ok (.aload_n 0, 1) := dcs_at ok21_b_model_0_6 0 rfl
theorem dX10_eatsNow_1 : decode cX10_eatsNow 1 = .ok (.iload_n 1, 1) := dcs_at ok21_b_model_0_6 1 rfl
theorem dX10_eatsNow_2 : decode cX10_eatsNow 2 = .ok (.iconst 0, 1) := dcs_at ok21_b_model_0_6 2 rfl
theorem dX10_eatsNow_3 : decode cX10_eatsNow 3 = .ok (.invokevirtual 294, 3) := dcs_at ok21_b_model_0_6 3 rfl
theorem dX10_eatsNow_6 : decode cX10_eatsNow 6 = .ok (.istore_n 2, 1) := dcs_at ok21_b_model_0_6 4 rfl
theorem dX10_eatsNow_7 : decode cX10_eatsNow 7 = .ok (.aload_n 0, 1) := dcs_at ok21_b_model_0_6 5 rfl
theorem dX10_eatsNow_8 : decode cX10_eatsNow 8 = .ok (.getfield 50, 3) := dcs_at ok21_b_model_0_6 6 rfl
theorem dX10_eatsNow_11 : decode cX10_eatsNow 11 = .ok (.iload_n 1, 1) := dcs_at ok21_b_model_0_6 7 rfl
theorem dX10_eatsNow_12 : decode cX10_eatsNow 12 = .ok (.iaload, 1) := dcs_at ok21_b_model_0_6 8 rfl
theorem dX10_eatsNow_13 : decode cX10_eatsNow 13 = .ok (.iload_n 2, 1) := dcs_at ok21_b_model_0_6 9 rfl
theorem dX10_eatsNow_14 : decode cX10_eatsNow 14 = .ok (.if_icmp .lt 11, 3) := dcs_at ok21_b_model_0_6 10 rfl
theorem dX10_eatsNow_17 : decode cX10_eatsNow 17 = .ok (.aload_n 0, 1) := dcs_at ok21_b_model_0_6 11 rfl
theorem dX10_eatsNow_18 : decode cX10_eatsNow 18 = .ok (.getfield 258, 3) := dcs_at ok21_b_model_0_6 12 rfl
theorem dX10_eatsNow_21 : decode cX10_eatsNow 21 = .ok (.iload_n 2, 1) := dcs_at ok21_b_model_0_6 13 rfl
theorem dX10_eatsNow_22 : decode cX10_eatsNow 22 = .ok (.if_icmp .ge 5, 3) := dcs_at ok21_b_model_0_6 14 rfl
theorem dX10_eatsNow_25 : decode cX10_eatsNow 25 = .ok (.iconst 0, 1) := dcs_at ok21_b_model_0_6 15 rfl
theorem dX10_eatsNow_26 : decode cX10_eatsNow 26 = .ok (.ireturn, 1) := dcs_at ok21_b_model_0_6 16 rfl
theorem dX10_eatsNow_27 : decode cX10_eatsNow 27 = .ok (.aload_n 0, 1) := dcs_at ok21_b_model_0_6 17 rfl
theorem dX10_eatsNow_28 : decode cX10_eatsNow 28 = .ok (.iload_n 1, 1) := dcs_at ok21_b_model_0_6 18 rfl
theorem dX10_eatsNow_29 : decode cX10_eatsNow 29 = .ok (.iload_n 2, 1) := dcs_at ok21_b_model_0_6 19 rfl
theorem dX10_eatsNow_30 : decode cX10_eatsNow 30 = .ok (.ineg, 1) := dcs_at ok21_b_model_0_6 20 rfl
theorem dX10_eatsNow_31 : decode cX10_eatsNow 31 = .ok (.invokevirtual 291, 3) := dcs_at ok21_b_model_0_6 21 rfl
theorem dX10_eatsNow_34 : decode cX10_eatsNow 34 = .ok (.iconst 1, 1) := dcs_at ok21_b_model_0_6 22 rfl
theorem dX10_eatsNow_35 : decode cX10_eatsNow 35 = .ok (.ireturn, 1) := dcs_at ok21_b_model_0_6 23 rfl
def tb21_b_model_0_7 : List (Nat × (Instr × Nat)) := [(0, (.iconst 0, 1)), (1, (.istore_n 1, 1)), (2, (.iload_n 1, 1)), (3, (.aload_n 0, 1)), (4, (.getfield 231, 3)), (7, (.if_icmp .ge 52, 3)), (10, (.aload_n 0, 1)), (11, (.getfield 267, 3)), (14, (.iload_n 1, 1)), (15, (.invokestatic 84, 3)), (18, (.ifCond .eq 35, 3)), (21, (.aload_n 0, 1)), (22, (.iload_n 1, 1)), (23, (.invokevirtual 297, 3)), (26, (.ifCond .ne 27, 3)), (29, (.aload_n 0, 1)), (30, (.dup, 1)), (31, (.getfield 267, 3)), (34, (.iconst 1, 1)), (35, (.iload_n 1, 1)), (36, (.ishl, 1)), (37, (.iconst (-1), 1)), (38, (.ixor, 1)), (39, (.iand, 1)), (40, (.putfield 267, 3)), (43, (.aload_n 0, 1)), (44, (.getfield 56, 3)), (47, (.iload_n 1, 1)), (48, (.aload_n 0, 1)), (49, (.getfield 264, 3)), (52, (.iastore, 1)), (53, (.iinc 1 1, 3)), (56, (.goto (-54), 3)), (59, (.iconst 0, 1)), (60, (.istore_n 1, 1)), (61, (.iload_n 1, 1)), (62, (.aload_n 0, 1)), (63, (.getfield 231, 3)), (66, (.if_icmp .ge 85, 3)), (69, (.aload_n 0, 1))]
theorem ok21_b_model_0_7 : dcs cX10_night tb21_b_model_0_7 = true := by decide +kernel
theorem dX10_night_0 : decode cX10_night 0 = .ok (.iconst 0, 1) := dcs_at ok21_b_model_0_7 0 rfl
theorem dX10_night_1 : decode cX10_night 1 = .ok (.istore_n 1, 1) := dcs_at ok21_b_model_0_7 1 rfl
theorem dX10_night_2 : decode cX10_night 2 = .ok (.iload_n 1, 1) := dcs_at ok21_b_model_0_7 2 rfl
theorem dX10_night_3 : decode cX10_night 3 = .ok (.aload_n 0, 1) := dcs_at ok21_b_model_0_7 3 rfl
theorem dX10_night_4 : decode cX10_night 4 = .ok (.getfield 231, 3) := dcs_at ok21_b_model_0_7 4 rfl
theorem dX10_night_7 : decode cX10_night 7 = .ok (.if_icmp .ge 52, 3) := dcs_at ok21_b_model_0_7 5 rfl
theorem dX10_night_10 : decode cX10_night 10 = .ok (.aload_n 0, 1) := dcs_at ok21_b_model_0_7 6 rfl
theorem dX10_night_11 : decode cX10_night 11 = .ok (.getfield 267, 3) := dcs_at ok21_b_model_0_7 7 rfl
theorem dX10_night_14 : decode cX10_night 14 = .ok (.iload_n 1, 1) := dcs_at ok21_b_model_0_7 8 rfl
theorem dX10_night_15 : decode cX10_night 15 = .ok (.invokestatic 84, 3) := dcs_at ok21_b_model_0_7 9 rfl
theorem dX10_night_18 : decode cX10_night 18 = .ok (.ifCond .eq 35, 3) := dcs_at ok21_b_model_0_7 10 rfl
theorem dX10_night_21 : decode cX10_night 21 = .ok (.aload_n 0, 1) := dcs_at ok21_b_model_0_7 11 rfl
theorem dX10_night_22 : decode cX10_night 22 = .ok (.iload_n 1, 1) := dcs_at ok21_b_model_0_7 12 rfl
theorem dX10_night_23 : decode cX10_night 23 = .ok (.invokevirtual 297, 3) := dcs_at ok21_b_model_0_7 13 rfl
theorem dX10_night_26 : decode cX10_night 26 = .ok (.ifCond .ne 27, 3) := dcs_at ok21_b_model_0_7 14 rfl
theorem dX10_night_29 : decode cX10_night 29 = .ok (.aload_n 0, 1) := dcs_at ok21_b_model_0_7 15 rfl
theorem dX10_night_30 : decode cX10_night 30 = .ok (.dup, 1) := dcs_at ok21_b_model_0_7 16 rfl
theorem dX10_night_31 : decode cX10_night 31 = .ok (.getfield 267, 3) := dcs_at ok21_b_model_0_7 17 rfl
theorem dX10_night_34 : decode cX10_night 34 = .ok (.iconst 1, 1) := dcs_at ok21_b_model_0_7 18 rfl
theorem dX10_night_35 : decode cX10_night 35 = .ok (.iload_n 1, 1) := dcs_at ok21_b_model_0_7 19 rfl
theorem dX10_night_36 : decode cX10_night 36 = .ok (.ishl, 1) := dcs_at ok21_b_model_0_7 20 rfl
theorem dX10_night_37 : decode cX10_night 37 = .ok (.iconst (-1), 1) := dcs_at ok21_b_model_0_7 21 rfl
theorem dX10_night_38 : decode cX10_night 38 = .ok (.ixor, 1) := dcs_at ok21_b_model_0_7 22 rfl
theorem dX10_night_39 : decode cX10_night 39 = .ok (.iand, 1) := dcs_at ok21_b_model_0_7 23 rfl
theorem dX10_night_40 : decode cX10_night 40 = .ok (.putfield 267, 3) := dcs_at ok21_b_model_0_7 24 rfl
theorem dX10_night_43 : decode cX10_night 43 = .ok (.aload_n 0, 1) := dcs_at ok21_b_model_0_7 25 rfl
theorem dX10_night_44 : decode cX10_night 44 = .ok (.getfield 56, 3) := dcs_at ok21_b_model_0_7 26 rfl
theorem dX10_night_47 : decode cX10_night 47 = .ok (.iload_n 1, 1) := dcs_at ok21_b_model_0_7 27 rfl
theorem dX10_night_48 : decode cX10_night 48 = .ok (.aload_n 0, 1) := dcs_at ok21_b_model_0_7 28 rfl
theorem dX10_night_49 : decode cX10_night 49 = .ok (.getfield 264, 3) := dcs_at ok21_b_model_0_7 29 rfl
theorem dX10_night_52 : decode cX10_night 52 = .ok (.iastore, 1) := dcs_at ok21_b_model_0_7 30 rfl
theorem dX10_night_53 : decode cX10_night 53 = .ok (.iinc 1 1, 3) := dcs_at ok21_b_model_0_7 31 rfl
theorem dX10_night_56 : decode cX10_night 56 = .ok (.goto (-54), 3) := dcs_at ok21_b_model_0_7 32 rfl
theorem dX10_night_59 : decode cX10_night 59 = .ok (.iconst 0, 1) := dcs_at ok21_b_model_0_7 33 rfl
theorem dX10_night_60 : decode cX10_night 60 = .ok (.istore_n 1, 1) := dcs_at ok21_b_model_0_7 34 rfl
theorem dX10_night_61 : decode cX10_night 61 = .ok (.iload_n 1, 1) := dcs_at ok21_b_model_0_7 35 rfl
theorem dX10_night_62 : decode cX10_night 62 = .ok (.aload_n 0, 1) := dcs_at ok21_b_model_0_7 36 rfl
theorem dX10_night_63 : decode cX10_night 63 = .ok (.getfield 231, 3) := dcs_at ok21_b_model_0_7 37 rfl
theorem dX10_night_66 : decode cX10_night 66 = .ok (.if_icmp .ge 85, 3) := dcs_at ok21_b_model_0_7 38 rfl
theorem dX10_night_69 : decode cX10_night 69 = .ok (.aload_n 0, 1) := dcs_at ok21_b_model_0_7 39 rfl
def tb21_b_model_0_8 : List (Nat × (Instr × Nat)) := [(70, (.getfield 50, 3)), (73, (.iload_n 1, 1)), (74, (.dup2, 1)), (75, (.iaload, 1)), (76, (.aload_n 0, 1)), (77, (.getfield 267, 3)), (80, (.iload_n 1, 1)), (81, (.invokestatic 84, 3)), (84, (.ifCond .eq 24, 3)), (87, (.aload_n 0, 1)), (88, (.getfield 50, 3)), (91, (.iload_n 1, 1)), (92, (.iaload, 1)), (93, (.i2l, 1)), (94, (.aload_n 0, 1)), (95, (.getfield 234, 3)), (98, (.i2l, 1)), (99, (.lmul, 1)), (100, (.ldc2_w 300, 3)), (103, (.ldiv, 1)), (104, (.l2i, 1)), (105, (.goto 4, 3)), (108, (.iconst 0, 1)), (109, (.iadd, 1)), (110, (.iastore, 1)), (111, (.aload_n 0, 1)), (112, (.getfield 50, 3)), (115, (.iload_n 1, 1)), (116, (.aload_n 0, 1)), (117, (.getfield 302, 3)), (120, (.ifCond .eq 18, 3)), (123, (.aload_n 0, 1)), (124, (.getfield 50, 3)), (127, (.iload_n 1, 1)), (128, (.iaload, 1)), (129, (.ldc_w 306, 3)), (132, (.invokestatic 170, 3)), (135, (.goto 9, 3)), (138, (.aload_n 0, 1)), (139, (.getfield 50, 3))]
theorem ok21_b_model_0_8 : dcs cX10_night tb21_b_model_0_8 = true := by decide +kernel
theorem dX10_night_70 : decode cX10_night 70 = .ok (.getfield 50, 3) := dcs_at ok21_b_model_0_8 0 rfl
theorem dX10_night_73 : decode cX10_night 73 = .ok (.iload_n 1, 1) := dcs_at ok21_b_model_0_8 1 rfl
theorem dX10_night_74 : decode cX10_night 74 = .ok (.dup2, 1) := dcs_at ok21_b_model_0_8 2 rfl
theorem dX10_night_75 : decode cX10_night 75 = .ok (.iaload, 1) := dcs_at ok21_b_model_0_8 3 rfl
theorem dX10_night_76 : decode cX10_night 76 = .ok (.aload_n 0, 1) := dcs_at ok21_b_model_0_8 4 rfl
theorem dX10_night_77 : decode cX10_night 77 = .ok (.getfield 267, 3) := dcs_at ok21_b_model_0_8 5 rfl
theorem dX10_night_80 : decode cX10_night 80 = .ok (.iload_n 1, 1) := dcs_at ok21_b_model_0_8 6 rfl
theorem dX10_night_81 : decode cX10_night 81 = .ok (.invokestatic 84, 3) := dcs_at ok21_b_model_0_8 7 rfl
theorem dX10_night_84 : decode cX10_night 84 = .ok (.ifCond .eq 24, 3) := dcs_at ok21_b_model_0_8 8 rfl
theorem dX10_night_87 : decode cX10_night 87 = .ok (.aload_n 0, 1) := dcs_at ok21_b_model_0_8 9 rfl
theorem dX10_night_88 : decode cX10_night 88 = .ok (.getfield 50, 3) := dcs_at ok21_b_model_0_8 10 rfl
theorem dX10_night_91 : decode cX10_night 91 = .ok (.iload_n 1, 1) := dcs_at ok21_b_model_0_8 11 rfl
theorem dX10_night_92 : decode cX10_night 92 = .ok (.iaload, 1) := dcs_at ok21_b_model_0_8 12 rfl
theorem dX10_night_93 : decode cX10_night 93 = .ok (.i2l, 1) := dcs_at ok21_b_model_0_8 13 rfl
theorem dX10_night_94 : decode cX10_night 94 = .ok (.aload_n 0, 1) := dcs_at ok21_b_model_0_8 14 rfl
theorem dX10_night_95 : decode cX10_night 95 = .ok (.getfield 234, 3) := dcs_at ok21_b_model_0_8 15 rfl
theorem dX10_night_98 : decode cX10_night 98 = .ok (.i2l, 1) := dcs_at ok21_b_model_0_8 16 rfl
theorem dX10_night_99 : decode cX10_night 99 = .ok (.lmul, 1) := dcs_at ok21_b_model_0_8 17 rfl
theorem dX10_night_100 : decode cX10_night 100 = .ok (.ldc2_w 300, 3) := dcs_at ok21_b_model_0_8 18 rfl
theorem dX10_night_103 : decode cX10_night 103 = .ok (.ldiv, 1) := dcs_at ok21_b_model_0_8 19 rfl
theorem dX10_night_104 : decode cX10_night 104 = .ok (.l2i, 1) := dcs_at ok21_b_model_0_8 20 rfl
theorem dX10_night_105 : decode cX10_night 105 = .ok (.goto 4, 3) := dcs_at ok21_b_model_0_8 21 rfl
theorem dX10_night_108 : decode cX10_night 108 = .ok (.iconst 0, 1) := dcs_at ok21_b_model_0_8 22 rfl
theorem dX10_night_109 : decode cX10_night 109 = .ok (.iadd, 1) := dcs_at ok21_b_model_0_8 23 rfl
theorem dX10_night_110 : decode cX10_night 110 = .ok (.iastore, 1) := dcs_at ok21_b_model_0_8 24 rfl
theorem dX10_night_111 : decode cX10_night 111 = .ok (.aload_n 0, 1) := dcs_at ok21_b_model_0_8 25 rfl
theorem dX10_night_112 : decode cX10_night 112 = .ok (.getfield 50, 3) := dcs_at ok21_b_model_0_8 26 rfl
theorem dX10_night_115 : decode cX10_night 115 = .ok (.iload_n 1, 1) := dcs_at ok21_b_model_0_8 27 rfl
theorem dX10_night_116 : decode cX10_night 116 = .ok (.aload_n 0, 1) := dcs_at ok21_b_model_0_8 28 rfl
theorem dX10_night_117 : decode cX10_night 117 = .ok (.getfield 302, 3) := dcs_at ok21_b_model_0_8 29 rfl
theorem dX10_night_120 : decode cX10_night 120 = .ok (.ifCond .eq 18, 3) := dcs_at ok21_b_model_0_8 30 rfl
theorem dX10_night_123 : decode cX10_night 123 = .ok (.aload_n 0, 1) := dcs_at ok21_b_model_0_8 31 rfl
theorem dX10_night_124 : decode cX10_night 124 = .ok (.getfield 50, 3) := dcs_at ok21_b_model_0_8 32 rfl
theorem dX10_night_127 : decode cX10_night 127 = .ok (.iload_n 1, 1) := dcs_at ok21_b_model_0_8 33 rfl
theorem dX10_night_128 : decode cX10_night 128 = .ok (.iaload, 1) := dcs_at ok21_b_model_0_8 34 rfl
theorem dX10_night_129 : decode cX10_night 129 = .ok (.ldc_w 306, 3) := dcs_at ok21_b_model_0_8 35 rfl
theorem dX10_night_132 : decode cX10_night 132 = .ok (.invokestatic 170, 3) := dcs_at ok21_b_model_0_8 36 rfl
theorem dX10_night_135 : decode cX10_night 135 = .ok (.goto 9, 3) := dcs_at ok21_b_model_0_8 37 rfl
theorem dX10_night_138 : decode cX10_night 138 = .ok (.aload_n 0, 1) := dcs_at ok21_b_model_0_8 38 rfl
theorem dX10_night_139 : decode cX10_night 139 = .ok (.getfield 50, 3) := dcs_at ok21_b_model_0_8 39 rfl
def tb21_b_model_0_9 : List (Nat × (Instr × Nat)) := [(142, (.iload_n 1, 1)), (143, (.iaload, 1)), (144, (.iastore, 1)), (145, (.iinc 1 1, 3)), (148, (.goto (-87), 3)), (151, (.iconst 0, 1)), (152, (.istore_n 1, 1)), (153, (.iload_n 1, 1)), (154, (.bipush 25, 2)), (156, (.if_icmp .ge 32, 3)), (159, (.aload_n 0, 1)), (160, (.getfield 44, 3)), (163, (.iload_n 1, 1)), (164, (.dup2, 1)), (165, (.iaload, 1)), (166, (.aload_n 0, 1)), (167, (.getfield 44, 3)), (170, (.iload_n 1, 1)), (171, (.iaload, 1)), (172, (.aload_n 0, 1)), (173, (.getfield 234, 3)), (176, (.imul, 1)), (177, (.bipush 100, 2)), (179, (.idiv, 1)), (180, (.iadd, 1)), (181, (.iastore, 1)), (182, (.iinc 1 1, 3)), (185, (.goto (-32), 3)), (188, (.aload_n 0, 1)), (189, (.invokevirtual 276, 3)), (192, (.aload_n 0, 1)), (193, (.dup, 1)), (194, (.getfield 264, 3)), (197, (.iconst 1, 1)), (198, (.iadd, 1)), (199, (.putfield 264, 3)), (202, (.return_, 1))]
theorem ok21_b_model_0_9 : dcs cX10_night tb21_b_model_0_9 = true := by decide +kernel
theorem dX10_night_142 : decode cX10_night 142 = .ok (.iload_n 1, 1) := dcs_at ok21_b_model_0_9 0 rfl
theorem dX10_night_143 : decode cX10_night 143 = .ok (.iaload, 1) := dcs_at ok21_b_model_0_9 1 rfl
theorem dX10_night_144 : decode cX10_night 144 = .ok (.iastore, 1) := dcs_at ok21_b_model_0_9 2 rfl
theorem dX10_night_145 : decode cX10_night 145 = .ok (.iinc 1 1, 3) := dcs_at ok21_b_model_0_9 3 rfl
theorem dX10_night_148 : decode cX10_night 148 = .ok (.goto (-87), 3) := dcs_at ok21_b_model_0_9 4 rfl
theorem dX10_night_151 : decode cX10_night 151 = .ok (.iconst 0, 1) := dcs_at ok21_b_model_0_9 5 rfl
theorem dX10_night_152 : decode cX10_night 152 = .ok (.istore_n 1, 1) := dcs_at ok21_b_model_0_9 6 rfl
theorem dX10_night_153 : decode cX10_night 153 = .ok (.iload_n 1, 1) := dcs_at ok21_b_model_0_9 7 rfl
theorem dX10_night_154 : decode cX10_night 154 = .ok (.bipush 25, 2) := dcs_at ok21_b_model_0_9 8 rfl
theorem dX10_night_156 : decode cX10_night 156 = .ok (.if_icmp .ge 32, 3) := dcs_at ok21_b_model_0_9 9 rfl
theorem dX10_night_159 : decode cX10_night 159 = .ok (.aload_n 0, 1) := dcs_at ok21_b_model_0_9 10 rfl
theorem dX10_night_160 : decode cX10_night 160 = .ok (.getfield 44, 3) := dcs_at ok21_b_model_0_9 11 rfl
theorem dX10_night_163 : decode cX10_night 163 = .ok (.iload_n 1, 1) := dcs_at ok21_b_model_0_9 12 rfl
theorem dX10_night_164 : decode cX10_night 164 = .ok (.dup2, 1) := dcs_at ok21_b_model_0_9 13 rfl
theorem dX10_night_165 : decode cX10_night 165 = .ok (.iaload, 1) := dcs_at ok21_b_model_0_9 14 rfl
theorem dX10_night_166 : decode cX10_night 166 = .ok (.aload_n 0, 1) := dcs_at ok21_b_model_0_9 15 rfl
theorem dX10_night_167 : decode cX10_night 167 = .ok (.getfield 44, 3) := dcs_at ok21_b_model_0_9 16 rfl
theorem dX10_night_170 : decode cX10_night 170 = .ok (.iload_n 1, 1) := dcs_at ok21_b_model_0_9 17 rfl
theorem dX10_night_171 : decode cX10_night 171 = .ok (.iaload, 1) := dcs_at ok21_b_model_0_9 18 rfl
theorem dX10_night_172 : decode cX10_night 172 = .ok (.aload_n 0, 1) := dcs_at ok21_b_model_0_9 19 rfl
theorem dX10_night_173 : decode cX10_night 173 = .ok (.getfield 234, 3) := dcs_at ok21_b_model_0_9 20 rfl
theorem dX10_night_176 : decode cX10_night 176 = .ok (.imul, 1) := dcs_at ok21_b_model_0_9 21 rfl
theorem dX10_night_177 : decode cX10_night 177 = .ok (.bipush 100, 2) := dcs_at ok21_b_model_0_9 22 rfl
theorem dX10_night_179 : decode cX10_night 179 = .ok (.idiv, 1) := dcs_at ok21_b_model_0_9 23 rfl
theorem dX10_night_180 : decode cX10_night 180 = .ok (.iadd, 1) := dcs_at ok21_b_model_0_9 24 rfl
theorem dX10_night_181 : decode cX10_night 181 = .ok (.iastore, 1) := dcs_at ok21_b_model_0_9 25 rfl
theorem dX10_night_182 : decode cX10_night 182 = .ok (.iinc 1 1, 3) := dcs_at ok21_b_model_0_9 26 rfl
theorem dX10_night_185 : decode cX10_night 185 = .ok (.goto (-32), 3) := dcs_at ok21_b_model_0_9 27 rfl
theorem dX10_night_188 : decode cX10_night 188 = .ok (.aload_n 0, 1) := dcs_at ok21_b_model_0_9 28 rfl
theorem dX10_night_189 : decode cX10_night 189 = .ok (.invokevirtual 276, 3) := dcs_at ok21_b_model_0_9 29 rfl
theorem dX10_night_192 : decode cX10_night 192 = .ok (.aload_n 0, 1) := dcs_at ok21_b_model_0_9 30 rfl
theorem dX10_night_193 : decode cX10_night 193 = .ok (.dup, 1) := dcs_at ok21_b_model_0_9 31 rfl
theorem dX10_night_194 : decode cX10_night 194 = .ok (.getfield 264, 3) := dcs_at ok21_b_model_0_9 32 rfl
theorem dX10_night_197 : decode cX10_night 197 = .ok (.iconst 1, 1) := dcs_at ok21_b_model_0_9 33 rfl
theorem dX10_night_198 : decode cX10_night 198 = .ok (.iadd, 1) := dcs_at ok21_b_model_0_9 34 rfl
theorem dX10_night_199 : decode cX10_night 199 = .ok (.putfield 264, 3) := dcs_at ok21_b_model_0_9 35 rfl
theorem dX10_night_202 : decode cX10_night 202 = .ok (.return_, 1) := dcs_at ok21_b_model_0_9 36 rfl
def tb21_b_model_0_10 : List (Nat × (Instr × Nat)) := [(0, (.aload_n 0, 1)), (1, (.iload_n 1, 1)), (2, (.iconst 1, 1)), (3, (.invokevirtual 255, 3)), (6, (.istore_n 2, 1)), (7, (.aload_n 0, 1)), (8, (.iload_n 1, 1)), (9, (.iconst 2, 1)), (10, (.invokevirtual 255, 3)), (13, (.istore_n 3, 1)), (14, (.aload_n 0, 1)), (15, (.iload_n 1, 1)), (16, (.iconst 3, 1)), (17, (.invokevirtual 255, 3)), (20, (.istore 4, 2)), (22, (.aload_n 0, 1)), (23, (.iload_n 1, 1)), (24, (.iconst 0, 1)), (25, (.invokevirtual 255, 3)), (28, (.tableswitch 122 0 5 #[40, 49, 59, 69, 78, 110], 40)), (68, (.aload_n 0, 1)), (69, (.iload_n 2, 1)), (70, (.iload_n 3, 1)), (71, (.iload 4, 2)), (73, (.invokevirtual 307, 3)), (76, (.ireturn, 1)), (77, (.aload_n 0, 1)), (78, (.iload_n 2, 1)), (79, (.iload_n 3, 1)), (80, (.iload 4, 2)), (82, (.iconst 0, 1)), (83, (.invokevirtual 310, 3)), (86, (.ireturn, 1)), (87, (.aload_n 0, 1)), (88, (.iload_n 2, 1)), (89, (.iload_n 3, 1)), (90, (.iload 4, 2)), (92, (.iconst 1, 1)), (93, (.invokevirtual 310, 3)), (96, (.ireturn, 1))]
theorem ok21_b_model_0_10 : dcs cX10_does tb21_b_model_0_10 = true := by decide +kernel
theorem dX10_does_0 : decode cX10_does 0 = .ok (.aload_n 0, 1) := dcs_at ok21_b_model_0_10 0 rfl
theorem dX10_does_1 : decode cX10_does 1 = .ok (.iload_n 1, 1) := dcs_at ok21_b_model_0_10 1 rfl
theorem dX10_does_2 : decode cX10_does 2 = .ok (.iconst 1, 1) := dcs_at ok21_b_model_0_10 2 rfl
theorem dX10_does_3 : decode cX10_does 3 = .ok (.invokevirtual 255, 3) := dcs_at ok21_b_model_0_10 3 rfl
theorem dX10_does_6 : decode cX10_does 6 = .ok (.istore_n 2, 1) := dcs_at ok21_b_model_0_10 4 rfl
theorem dX10_does_7 : decode cX10_does 7 = .ok (.aload_n 0, 1) := dcs_at ok21_b_model_0_10 5 rfl
theorem dX10_does_8 : decode cX10_does 8 = .ok (.iload_n 1, 1) := dcs_at ok21_b_model_0_10 6 rfl
theorem dX10_does_9 : decode cX10_does 9 = .ok (.iconst 2, 1) := dcs_at ok21_b_model_0_10 7 rfl
theorem dX10_does_10 : decode cX10_does 10 = .ok (.invokevirtual 255, 3) := dcs_at ok21_b_model_0_10 8 rfl
theorem dX10_does_13 : decode cX10_does 13 = .ok (.istore_n 3, 1) := dcs_at ok21_b_model_0_10 9 rfl
theorem dX10_does_14 : decode cX10_does 14 = .ok (.aload_n 0, 1) := dcs_at ok21_b_model_0_10 10 rfl
theorem dX10_does_15 : decode cX10_does 15 = .ok (.iload_n 1, 1) := dcs_at ok21_b_model_0_10 11 rfl
theorem dX10_does_16 : decode cX10_does 16 = .ok (.iconst 3, 1) := dcs_at ok21_b_model_0_10 12 rfl
theorem dX10_does_17 : decode cX10_does 17 = .ok (.invokevirtual 255, 3) := dcs_at ok21_b_model_0_10 13 rfl
theorem dX10_does_20 : decode cX10_does 20 = .ok (.istore 4, 2) := dcs_at ok21_b_model_0_10 14 rfl
theorem dX10_does_22 : decode cX10_does 22 = .ok (.aload_n 0, 1) := dcs_at ok21_b_model_0_10 15 rfl
theorem dX10_does_23 : decode cX10_does 23 = .ok (.iload_n 1, 1) := dcs_at ok21_b_model_0_10 16 rfl
theorem dX10_does_24 : decode cX10_does 24 = .ok (.iconst 0, 1) := dcs_at ok21_b_model_0_10 17 rfl
theorem dX10_does_25 : decode cX10_does 25 = .ok (.invokevirtual 255, 3) := dcs_at ok21_b_model_0_10 18 rfl
theorem dX10_does_28 : decode cX10_does 28 = .ok (.tableswitch 122 0 5 #[40, 49, 59, 69, 78, 110], 40) := dcs_at ok21_b_model_0_10 19 rfl
theorem dX10_does_68 : decode cX10_does 68 = .ok (.aload_n 0, 1) := dcs_at ok21_b_model_0_10 20 rfl
theorem dX10_does_69 : decode cX10_does 69 = .ok (.iload_n 2, 1) := dcs_at ok21_b_model_0_10 21 rfl
theorem dX10_does_70 : decode cX10_does 70 = .ok (.iload_n 3, 1) := dcs_at ok21_b_model_0_10 22 rfl
theorem dX10_does_71 : decode cX10_does 71 = .ok (.iload 4, 2) := dcs_at ok21_b_model_0_10 23 rfl
theorem dX10_does_73 : decode cX10_does 73 = .ok (.invokevirtual 307, 3) := dcs_at ok21_b_model_0_10 24 rfl
theorem dX10_does_76 : decode cX10_does 76 = .ok (.ireturn, 1) := dcs_at ok21_b_model_0_10 25 rfl
theorem dX10_does_77 : decode cX10_does 77 = .ok (.aload_n 0, 1) := dcs_at ok21_b_model_0_10 26 rfl
theorem dX10_does_78 : decode cX10_does 78 = .ok (.iload_n 2, 1) := dcs_at ok21_b_model_0_10 27 rfl
theorem dX10_does_79 : decode cX10_does 79 = .ok (.iload_n 3, 1) := dcs_at ok21_b_model_0_10 28 rfl
theorem dX10_does_80 : decode cX10_does 80 = .ok (.iload 4, 2) := dcs_at ok21_b_model_0_10 29 rfl
theorem dX10_does_82 : decode cX10_does 82 = .ok (.iconst 0, 1) := dcs_at ok21_b_model_0_10 30 rfl
theorem dX10_does_83 : decode cX10_does 83 = .ok (.invokevirtual 310, 3) := dcs_at ok21_b_model_0_10 31 rfl
theorem dX10_does_86 : decode cX10_does 86 = .ok (.ireturn, 1) := dcs_at ok21_b_model_0_10 32 rfl
theorem dX10_does_87 : decode cX10_does 87 = .ok (.aload_n 0, 1) := dcs_at ok21_b_model_0_10 33 rfl
theorem dX10_does_88 : decode cX10_does 88 = .ok (.iload_n 2, 1) := dcs_at ok21_b_model_0_10 34 rfl
theorem dX10_does_89 : decode cX10_does 89 = .ok (.iload_n 3, 1) := dcs_at ok21_b_model_0_10 35 rfl
theorem dX10_does_90 : decode cX10_does 90 = .ok (.iload 4, 2) := dcs_at ok21_b_model_0_10 36 rfl
theorem dX10_does_92 : decode cX10_does 92 = .ok (.iconst 1, 1) := dcs_at ok21_b_model_0_10 37 rfl
theorem dX10_does_93 : decode cX10_does 93 = .ok (.invokevirtual 310, 3) := dcs_at ok21_b_model_0_10 38 rfl
theorem dX10_does_96 : decode cX10_does 96 = .ok (.ireturn, 1) := dcs_at ok21_b_model_0_10 39 rfl
def tb21_b_model_0_11 : List (Nat × (Instr × Nat)) := [(97, (.aload_n 0, 1)), (98, (.iload_n 2, 1)), (99, (.iload_n 3, 1)), (100, (.iload 4, 2)), (102, (.invokevirtual 314, 3)), (105, (.ireturn, 1)), (106, (.aload_n 0, 1)), (107, (.iload_n 2, 1)), (108, (.invokevirtual 285, 3)), (111, (.ifCond .ne 5, 3)), (114, (.iconst 0, 1)), (115, (.ireturn, 1)), (116, (.aload_n 0, 1)), (117, (.iload_n 2, 1)), (118, (.iconst 2, 1)), (119, (.iload_n 3, 1)), (120, (.imul, 1)), (121, (.invokevirtual 291, 3)), (124, (.aload_n 0, 1)), (125, (.getfield 53, 3)), (128, (.iload_n 2, 1)), (129, (.dup2, 1)), (130, (.iaload, 1)), (131, (.iconst 2, 1)), (132, (.iload_n 3, 1)), (133, (.imul, 1)), (134, (.iadd, 1)), (135, (.iastore, 1)), (136, (.iconst 1, 1)), (137, (.ireturn, 1)), (138, (.aload_n 0, 1)), (139, (.dup, 1)), (140, (.getfield 261, 3)), (143, (.iconst 1, 1)), (144, (.iadd, 1)), (145, (.putfield 261, 3)), (148, (.iconst 1, 1)), (149, (.ireturn, 1)), (150, (.aload_n 0, 1)), (151, (.invokevirtual 317, 3))]
theorem ok21_b_model_0_11 : dcs cX10_does tb21_b_model_0_11 = true := by decide +kernel
theorem dX10_does_97 : decode cX10_does 97 = .ok (.aload_n 0, 1) := dcs_at ok21_b_model_0_11 0 rfl
theorem dX10_does_98 : decode cX10_does 98 = .ok (.iload_n 2, 1) := dcs_at ok21_b_model_0_11 1 rfl
theorem dX10_does_99 : decode cX10_does 99 = .ok (.iload_n 3, 1) := dcs_at ok21_b_model_0_11 2 rfl
theorem dX10_does_100 : decode cX10_does 100 = .ok (.iload 4, 2) := dcs_at ok21_b_model_0_11 3 rfl
theorem dX10_does_102 : decode cX10_does 102 = .ok (.invokevirtual 314, 3) := dcs_at ok21_b_model_0_11 4 rfl
theorem dX10_does_105 : decode cX10_does 105 = .ok (.ireturn, 1) := dcs_at ok21_b_model_0_11 5 rfl
theorem dX10_does_106 : decode cX10_does 106 = .ok (.aload_n 0, 1) := dcs_at ok21_b_model_0_11 6 rfl
theorem dX10_does_107 : decode cX10_does 107 = .ok (.iload_n 2, 1) := dcs_at ok21_b_model_0_11 7 rfl
theorem dX10_does_108 : decode cX10_does 108 = .ok (.invokevirtual 285, 3) := dcs_at ok21_b_model_0_11 8 rfl
theorem dX10_does_111 : decode cX10_does 111 = .ok (.ifCond .ne 5, 3) := dcs_at ok21_b_model_0_11 9 rfl
theorem dX10_does_114 : decode cX10_does 114 = .ok (.iconst 0, 1) := dcs_at ok21_b_model_0_11 10 rfl
theorem dX10_does_115 : decode cX10_does 115 = .ok (.ireturn, 1) := dcs_at ok21_b_model_0_11 11 rfl
theorem dX10_does_116 : decode cX10_does 116 = .ok (.aload_n 0, 1) := dcs_at ok21_b_model_0_11 12 rfl
theorem dX10_does_117 : decode cX10_does 117 = .ok (.iload_n 2, 1) := dcs_at ok21_b_model_0_11 13 rfl
theorem dX10_does_118 : decode cX10_does 118 = .ok (.iconst 2, 1) := dcs_at ok21_b_model_0_11 14 rfl
theorem dX10_does_119 : decode cX10_does 119 = .ok (.iload_n 3, 1) := dcs_at ok21_b_model_0_11 15 rfl
theorem dX10_does_120 : decode cX10_does 120 = .ok (.imul, 1) := dcs_at ok21_b_model_0_11 16 rfl
theorem dX10_does_121 : decode cX10_does 121 = .ok (.invokevirtual 291, 3) := dcs_at ok21_b_model_0_11 17 rfl
theorem dX10_does_124 : decode cX10_does 124 = .ok (.aload_n 0, 1) := dcs_at ok21_b_model_0_11 18 rfl
theorem dX10_does_125 : decode cX10_does 125 = .ok (.getfield 53, 3) := dcs_at ok21_b_model_0_11 19 rfl
theorem dX10_does_128 : decode cX10_does 128 = .ok (.iload_n 2, 1) := dcs_at ok21_b_model_0_11 20 rfl
theorem dX10_does_129 : decode cX10_does 129 = .ok (.dup2, 1) := dcs_at ok21_b_model_0_11 21 rfl
theorem dX10_does_130 : decode cX10_does 130 = .ok (.iaload, 1) := dcs_at ok21_b_model_0_11 22 rfl
theorem dX10_does_131 : decode cX10_does 131 = .ok (.iconst 2, 1) := dcs_at ok21_b_model_0_11 23 rfl
theorem dX10_does_132 : decode cX10_does 132 = .ok (.iload_n 3, 1) := dcs_at ok21_b_model_0_11 24 rfl
theorem dX10_does_133 : decode cX10_does 133 = .ok (.imul, 1) := dcs_at ok21_b_model_0_11 25 rfl
theorem dX10_does_134 : decode cX10_does 134 = .ok (.iadd, 1) := dcs_at ok21_b_model_0_11 26 rfl
theorem dX10_does_135 : decode cX10_does 135 = .ok (.iastore, 1) := dcs_at ok21_b_model_0_11 27 rfl
theorem dX10_does_136 : decode cX10_does 136 = .ok (.iconst 1, 1) := dcs_at ok21_b_model_0_11 28 rfl
theorem dX10_does_137 : decode cX10_does 137 = .ok (.ireturn, 1) := dcs_at ok21_b_model_0_11 29 rfl
theorem dX10_does_138 : decode cX10_does 138 = .ok (.aload_n 0, 1) := dcs_at ok21_b_model_0_11 30 rfl
theorem dX10_does_139 : decode cX10_does 139 = .ok (.dup, 1) := dcs_at ok21_b_model_0_11 31 rfl
theorem dX10_does_140 : decode cX10_does 140 = .ok (.getfield 261, 3) := dcs_at ok21_b_model_0_11 32 rfl
theorem dX10_does_143 : decode cX10_does 143 = .ok (.iconst 1, 1) := dcs_at ok21_b_model_0_11 33 rfl
theorem dX10_does_144 : decode cX10_does 144 = .ok (.iadd, 1) := dcs_at ok21_b_model_0_11 34 rfl
theorem dX10_does_145 : decode cX10_does 145 = .ok (.putfield 261, 3) := dcs_at ok21_b_model_0_11 35 rfl
theorem dX10_does_148 : decode cX10_does 148 = .ok (.iconst 1, 1) := dcs_at ok21_b_model_0_11 36 rfl
theorem dX10_does_149 : decode cX10_does 149 = .ok (.ireturn, 1) := dcs_at ok21_b_model_0_11 37 rfl
theorem dX10_does_150 : decode cX10_does 150 = .ok (.aload_n 0, 1) := dcs_at ok21_b_model_0_11 38 rfl
theorem dX10_does_151 : decode cX10_does 151 = .ok (.invokevirtual 317, 3) := dcs_at ok21_b_model_0_11 39 rfl
def tb21_b_model_0_12 : List (Nat × (Instr × Nat)) := [(154, (.iconst 1, 1)), (155, (.ireturn, 1))]
theorem ok21_b_model_0_12 : dcs cX10_does tb21_b_model_0_12 = true := by decide +kernel
theorem dX10_does_154 : decode cX10_does 154 = .ok (.iconst 1, 1) := dcs_at ok21_b_model_0_12 0 rfl
theorem dX10_does_155 : decode cX10_does 155 = .ok (.ireturn, 1) := dcs_at ok21_b_model_0_12 1 rfl
def tb21_b_model_0_13 : List (Nat × (Instr × Nat)) := [(0, (.aload_n 0, 1)), (1, (.iload_n 1, 1)), (2, (.invokevirtual 320, 3)), (5, (.ifCond .ne 5, 3)), (8, (.iconst 0, 1)), (9, (.ireturn, 1)), (10, (.aload_n 0, 1)), (11, (.aload_n 0, 1)), (12, (.iload_n 1, 1)), (13, (.iconst 0, 1)), (14, (.invokevirtual 255, 3)), (17, (.ifCond .ne 12, 3)), (20, (.aload_n 0, 1)), (21, (.iload_n 1, 1)), (22, (.iconst 2, 1)), (23, (.invokevirtual 255, 3)), (26, (.goto 4, 3)), (29, (.iconst (-1), 1)), (30, (.putfield 273, 3)), (33, (.iconst 1, 1)), (34, (.ireturn, 1))]
theorem ok21_b_model_0_13 : dcs cX10_doesNext tb21_b_model_0_13 = true := by decide +kernel
theorem dX10_doesNext_0 : decode cX10_doesNext 0 = .ok (.aload_n 0, 1) := dcs_at ok21_b_model_0_13 0 rfl
theorem dX10_doesNext_1 : decode cX10_doesNext 1 = .ok (.iload_n 1, 1) := dcs_at ok21_b_model_0_13 1 rfl
theorem dX10_doesNext_2 : decode cX10_doesNext 2 = .ok (.invokevirtual 320, 3) := dcs_at ok21_b_model_0_13 2 rfl
theorem dX10_doesNext_5 : decode cX10_doesNext 5 = .ok (.ifCond .ne 5, 3) := dcs_at ok21_b_model_0_13 3 rfl
theorem dX10_doesNext_8 : decode cX10_doesNext 8 = .ok (.iconst 0, 1) := dcs_at ok21_b_model_0_13 4 rfl
theorem dX10_doesNext_9 : decode cX10_doesNext 9 = .ok (.ireturn, 1) := dcs_at ok21_b_model_0_13 5 rfl
theorem dX10_doesNext_10 : decode cX10_doesNext 10 = .ok (.aload_n 0, 1) := dcs_at ok21_b_model_0_13 6 rfl
theorem dX10_doesNext_11 : decode cX10_doesNext 11 = .ok (.aload_n 0, 1) := dcs_at ok21_b_model_0_13 7 rfl
theorem dX10_doesNext_12 : decode cX10_doesNext 12 = .ok (.iload_n 1, 1) := dcs_at ok21_b_model_0_13 8 rfl
theorem dX10_doesNext_13 : decode cX10_doesNext 13 = .ok (.iconst 0, 1) := dcs_at ok21_b_model_0_13 9 rfl
theorem dX10_doesNext_14 : decode cX10_doesNext 14 = .ok (.invokevirtual 255, 3) := dcs_at ok21_b_model_0_13 10 rfl
theorem dX10_doesNext_17 : decode cX10_doesNext 17 = .ok (.ifCond .ne 12, 3) := dcs_at ok21_b_model_0_13 11 rfl
theorem dX10_doesNext_20 : decode cX10_doesNext 20 = .ok (.aload_n 0, 1) := dcs_at ok21_b_model_0_13 12 rfl
theorem dX10_doesNext_21 : decode cX10_doesNext 21 = .ok (.iload_n 1, 1) := dcs_at ok21_b_model_0_13 13 rfl
theorem dX10_doesNext_22 : decode cX10_doesNext 22 = .ok (.iconst 2, 1) := dcs_at ok21_b_model_0_13 14 rfl
theorem dX10_doesNext_23 : decode cX10_doesNext 23 = .ok (.invokevirtual 255, 3) := dcs_at ok21_b_model_0_13 15 rfl
theorem dX10_doesNext_26 : decode cX10_doesNext 26 = .ok (.goto 4, 3) := dcs_at ok21_b_model_0_13 16 rfl
theorem dX10_doesNext_29 : decode cX10_doesNext 29 = .ok (.iconst (-1), 1) := dcs_at ok21_b_model_0_13 17 rfl
theorem dX10_doesNext_30 : decode cX10_doesNext 30 = .ok (.putfield 273, 3) := dcs_at ok21_b_model_0_13 18 rfl
theorem dX10_doesNext_33 : decode cX10_doesNext 33 = .ok (.iconst 1, 1) := dcs_at ok21_b_model_0_13 19 rfl
theorem dX10_doesNext_34 : decode cX10_doesNext 34 = .ok (.ireturn, 1) := dcs_at ok21_b_model_0_13 20 rfl
def tb21_b_model_0_14 : List (Nat × (Instr × Nat)) := [(0, (.aload_n 0, 1)), (1, (.invokevirtual 323, 3)), (4, (.iconst 0, 1)), (5, (.istore_n 2, 1)), (6, (.iload_n 2, 1)), (7, (.iload_n 1, 1)), (8, (.if_icmp .ge 17, 3)), (11, (.aload_n 0, 1)), (12, (.iload_n 2, 1)), (13, (.invokevirtual 326, 3)), (16, (.ifCond .eq 9, 3)), (19, (.iinc 2 1, 3)), (22, (.goto (-16), 3)), (25, (.iload_n 2, 1)), (26, (.ireturn, 1))]
theorem ok21_b_model_0_14 : dcs cX10_play tb21_b_model_0_14 = true := by decide +kernel
theorem dX10_play_0 : decode cX10_play 0 = .ok (.aload_n 0, 1) := dcs_at ok21_b_model_0_14 0 rfl
theorem dX10_play_1 : decode cX10_play 1 = .ok (.invokevirtual 323, 3) := dcs_at ok21_b_model_0_14 1 rfl
theorem dX10_play_4 : decode cX10_play 4 = .ok (.iconst 0, 1) := dcs_at ok21_b_model_0_14 2 rfl
theorem dX10_play_5 : decode cX10_play 5 = .ok (.istore_n 2, 1) := dcs_at ok21_b_model_0_14 3 rfl
theorem dX10_play_6 : decode cX10_play 6 = .ok (.iload_n 2, 1) := dcs_at ok21_b_model_0_14 4 rfl
theorem dX10_play_7 : decode cX10_play 7 = .ok (.iload_n 1, 1) := dcs_at ok21_b_model_0_14 5 rfl
theorem dX10_play_8 : decode cX10_play 8 = .ok (.if_icmp .ge 17, 3) := dcs_at ok21_b_model_0_14 6 rfl
theorem dX10_play_11 : decode cX10_play 11 = .ok (.aload_n 0, 1) := dcs_at ok21_b_model_0_14 7 rfl
theorem dX10_play_12 : decode cX10_play 12 = .ok (.iload_n 2, 1) := dcs_at ok21_b_model_0_14 8 rfl
theorem dX10_play_13 : decode cX10_play 13 = .ok (.invokevirtual 326, 3) := dcs_at ok21_b_model_0_14 9 rfl
theorem dX10_play_16 : decode cX10_play 16 = .ok (.ifCond .eq 9, 3) := dcs_at ok21_b_model_0_14 10 rfl
theorem dX10_play_19 : decode cX10_play 19 = .ok (.iinc 2 1, 3) := dcs_at ok21_b_model_0_14 11 rfl
theorem dX10_play_22 : decode cX10_play 22 = .ok (.goto (-16), 3) := dcs_at ok21_b_model_0_14 12 rfl
theorem dX10_play_25 : decode cX10_play 25 = .ok (.iload_n 2, 1) := dcs_at ok21_b_model_0_14 13 rfl
theorem dX10_play_26 : decode cX10_play 26 = .ok (.ireturn, 1) := dcs_at ok21_b_model_0_14 14 rfl
