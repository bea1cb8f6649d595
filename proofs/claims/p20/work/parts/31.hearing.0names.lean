theorem nmX4 : ∀ a, a < 9 → ∀ b, b < 9 → a ≠ b → (TX4 a).2.1 ≠ (TX4 b).2.1 := nm_of [448546567013, 1684107883, 435426585721, 1818326117, 7521412108449435494, 122519904669542, 1936028787, 6385273, 6384748] (by decide +kernel) (by decide +kernel)
theorem tyX4_ok : ∀ k, k < 9 → parseFieldDescriptor (TX4 k).2.2.1 = some (tyX4 k) := by decide +kernel
def tb31_hearing_0_1 : List (Nat × (Instr × Nat)) := [(0, (.aload_n 0, 1)), (1, (.aload_n 1, 1)), (2, (.putfield 12, 3)), (5, (.aload_n 0, 1)), (6, (.aload_n 2, 1)), (7, (.putfield 21, 3)), (10, (.aload_n 0, 1)), (11, (.iconst 1, 1)), (12, (.putfield 38, 3)), (15, (.aload_n 0, 1)), (16, (.getfield 32, 3)), (19, (.iconst 0, 1)), (20, (.iconst 0, 1)), (21, (.iastore, 1)), (22, (.aload_n 0, 1)), (23, (.getfield 35, 3)), (26, (.iconst 0, 1)), (27, (.iconst 0, 1)), (28, (.iastore, 1)), (29, (.iconst 0, 1)), (30, (.istore_n 3, 1)), (31, (.iload_n 3, 1)), (32, (.aload_n 1, 1)), (33, (.getfield 42, 3)), (36, (.if_icmp .ge 88, 3)), (39, (.iconst 0, 1)), (40, (.istore 4, 2)), (42, (.iload 4, 2)), (44, (.aload_n 0, 1)), (45, (.getfield 38, 3)), (48, (.if_icmp .ge 60, 3)), (51, (.aload_n 0, 1)), (52, (.getfield 32, 3)), (55, (.iload 4, 2)), (57, (.aload_n 0, 1)), (58, (.getfield 38, 3)), (61, (.iadd, 1)), (62, (.aload_n 0, 1)), (63, (.getfield 32, 3)), (66, (.iload 4, 2))]
theorem ok31_hearing_0_1 : dcs cX4_listen tb31_hearing_0_1 = true := by decide +kernel
theorem dX4_listen_0 : decode cX4_listen 0 = .ok (.aload_n 0, 1) := dcs_at ok31_hearing_0_1 0 rfl
theorem dX4_listen_1 : decode cX4_listen 1 = .ok (.aload_n 1, 1) := dcs_at ok31_hearing_0_1 1 rfl
theorem dX4_listen_2 : decode cX4_listen 2 = .ok (.putfield 12, 3) := dcs_at ok31_hearing_0_1 2 rfl
theorem dX4_listen_5 : decode cX4_listen 5 = .ok (.aload_n 0, 1) := dcs_at ok31_hearing_0_1 3 rfl
theorem dX4_listen_6 : decode cX4_listen 6 = .ok (.aload_n 2, 1) := dcs_at ok31_hearing_0_1 4 rfl
theorem dX4_listen_7 : decode cX4_listen 7 = .ok (.putfield 21, 3) := dcs_at ok31_hearing_0_1 5 rfl
theorem dX4_listen_10 : decode cX4_listen 10 = .ok (.aload_n 0, 1) := dcs_at ok31_hearing_0_1 6 rfl
theorem dX4_listen_11 : decode cX4_listen 11 = .ok (.iconst 1, 1) := dcs_at ok31_hearing_0_1 7 rfl
theorem dX4_listen_12 : decode cX4_listen 12 = .ok (.putfield 38, 3) := dcs_at ok31_hearing_0_1 8 rfl
theorem dX4_listen_15 : decode cX4_listen 15 = .ok (.aload_n 0, 1) := dcs_at ok31_hearing_0_1 9 rfl
theorem dX4_listen_16 : decode cX4_listen 16 = .ok (.getfield 32, 3) := dcs_at ok31_hearing_0_1 10 rfl
theorem dX4_listen_19 : decode cX4_listen 19 = .ok (.iconst 0, 1) := dcs_at ok31_hearing_0_1 11 rfl
theorem dX4_listen_20 : decode cX4_listen 20 = .ok (.iconst 0, 1) := dcs_at ok31_hearing_0_1 12 rfl
theorem dX4_listen_21 : decode cX4_listen 21 = .ok (.iastore, 1) := dcs_at ok31_hearing_0_1 13 rfl
theorem dX4_listen_22 : decode cX4_listen 22 = .ok (.aload_n 0, 1) := dcs_at ok31_hearing_0_1 14 rfl
theorem dX4_listen_23 : decode cX4_listen 23 = .ok (.getfield 35, 3) := dcs_at ok31_hearing_0_1 15 rfl
theorem dX4_listen_26 : decode cX4_listen 26 = .ok (.iconst 0, 1) := dcs_at ok31_hearing_0_1 16 rfl
theorem dX4_listen_27 : decode cX4_listen 27 = .ok (.iconst 0, 1) := dcs_at ok31_hearing_0_1 17 rfl
theorem dX4_listen_28 : decode cX4_listen 28 = .ok (.iastore, 1) := dcs_at ok31_hearing_0_1 18 rfl
theorem dX4_listen_29 : decode cX4_listen 29 = .ok (.iconst 0, 1) := dcs_at ok31_hearing_0_1 19 rfl
theorem dX4_listen_30 : decode cX4_listen 30 = .ok (.istore_n 3, 1) := dcs_at ok31_hearing_0_1 20 rfl
theorem dX4_listen_31 : decode cX4_listen 31 = .ok (.iload_n 3, 1) := dcs_at ok31_hearing_0_1 21 rfl
theorem dX4_listen_32 : decode cX4_listen 32 = .ok (.aload_n 1, 1) := dcs_at ok31_hearing_0_1 22 rfl
theorem dX4_listen_33 : decode cX4_listen 33 = .ok (.getfield 42, 3) := dcs_at ok31_hearing_0_1 23 rfl
theorem dX4_listen_36 : decode cX4_listen 36 = .ok (.if_icmp .ge 88, 3) := dcs_at ok31_hearing_0_1 24 rfl
theorem dX4_listen_39 : decode cX4_listen 39 = .ok (.iconst 0, 1) := dcs_at ok31_hearing_0_1 25 rfl
theorem dX4_listen_40 : decode cX4_listen 40 = .ok (.istore 4, 2) := dcs_at ok31_hearing_0_1 26 rfl
theorem dX4_listen_42 : decode cX4_listen 42 = .ok (.iload 4, 2) := dcs_at ok31_hearing_0_1 27 rfl
theorem dX4_listen_44 : decode cX4_listen 44 = .ok (.aload_n 0, 1) := dcs_at ok31_hearing_0_1 28 rfl
theorem dX4_listen_45 : decode cX4_listen 45 = .ok (.getfield 38, 3) := dcs_at ok31_hearing_0_1 29 rfl
theorem dX4_listen_48 : decode cX4_listen 48 = .ok (.if_icmp .ge 60, 3) := dcs_at ok31_hearing_0_1 30 rfl
theorem dX4_listen_51 : decode cX4_listen 51 = .ok (.aload_n 0, 1) := dcs_at ok31_hearing_0_1 31 rfl
theorem dX4_listen_52 : decode cX4_listen 52 = .ok (.getfield 32, 3) := dcs_at ok31_hearing_0_1 32 rfl
theorem dX4_listen_55 : decode cX4_listen 55 = .ok (.iload 4, 2) := dcs_at ok31_hearing_0_1 33 rfl
theorem dX4_listen_57 : decode cX4_listen 57 = .ok (.aload_n 0, 1) := dcs_at ok31_hearing_0_1 34 rfl
theorem dX4_listen_58 : decode cX4_listen 58 = .ok (.getfield 38, 3) := dcs_at ok31_hearing_0_1 35 rfl
theorem dX4_listen_61 : decode cX4_listen 61 = .ok (.iadd, 1) := dcs_at ok31_hearing_0_1 36 rfl
theorem dX4_listen_62 : decode cX4_listen 62 = .ok (.aload_n 0, 1) := dcs_at ok31_hearing_0_1 37 rfl
theorem dX4_listen_63 : decode cX4_listen 63 = .ok (.getfield 32, 3) := dcs_at ok31_hearing_0_1 38 rfl
theorem dX4_listen_66 : decode cX4_listen 66 = .ok (.iload 4, 2) := dcs_at ok31_hearing_0_1 39 rfl
def tb31_hearing_0_2 : List (Nat × (Instr × Nat)) := [(68, (.iaload, 1)), (69, (.aload_n 1, 1)), (70, (.getfield 45, 3)), (73, (.iload_n 3, 1)), (74, (.iaload, 1)), (75, (.iadd, 1)), (76, (.iastore, 1)), (77, (.aload_n 0, 1)), (78, (.getfield 35, 3)), (81, (.iload 4, 2)), (83, (.aload_n 0, 1)), (84, (.getfield 38, 3)), (87, (.iadd, 1)), (88, (.aload_n 0, 1)), (89, (.getfield 35, 3)), (92, (.iload 4, 2)), (94, (.iaload, 1)), (95, (.iconst 1, 1)), (96, (.iconst 2, 1)), (97, (.iload_n 3, 1)), (98, (.imul, 1)), (99, (.ishl, 1)), (100, (.iadd, 1)), (101, (.iastore, 1)), (102, (.iinc 4 1, 3)), (105, (.goto (-63), 3)), (108, (.aload_n 0, 1)), (109, (.dup, 1)), (110, (.getfield 38, 3)), (113, (.iconst 2, 1)), (114, (.imul, 1)), (115, (.putfield 38, 3)), (118, (.iinc 3 1, 3)), (121, (.goto (-90), 3)), (124, (.return_, 1))]
theorem ok31_hearing_0_2 : dcs cX4_listen tb31_hearing_0_2 = true := by decide +kernel
theorem dX4_listen_68 : decode cX4_listen 68 = .ok (.iaload, 1) := dcs_at ok31_hearing_0_2 0 rfl
theorem dX4_listen_69 : decode cX4_listen 69 = .ok (.aload_n 1, 1) := dcs_at ok31_hearing_0_2 1 rfl
theorem dX4_listen_70 : decode cX4_listen 70 = .ok (.getfield 45, 3) := dcs_at ok31_hearing_0_2 2 rfl
theorem dX4_listen_73 : decode cX4_listen 73 = .ok (.iload_n 3, 1) := dcs_at ok31_hearing_0_2 3 rfl
theorem dX4_listen_74 : decode cX4_listen 74 = .ok (.iaload, 1) := dcs_at ok31_hearing_0_2 4 rfl
theorem dX4_listen_75 : decode cX4_listen 75 = .ok (.iadd, 1) := dcs_at ok31_hearing_0_2 5 rfl
theorem dX4_listen_76 : decode cX4_listen 76 = .ok (.iastore, 1) := dcs_at ok31_hearing_0_2 6 rfl
theorem dX4_listen_77 : decode cX4_listen 77 = .ok (.aload_n 0, 1) := dcs_at ok31_hearing_0_2 7 rfl
theorem dX4_listen_78 : decode cX4_listen 78 = .ok (.getfield 35, 3) := dcs_at ok31_hearing_0_2 8 rfl
theorem dX4_listen_81 : decode cX4_listen 81 = .ok (.iload 4, 2) := dcs_at ok31_hearing_0_2 9 rfl
theorem dX4_listen_83 : decode cX4_listen 83 = .ok (.aload_n 0, 1) := dcs_at ok31_hearing_0_2 10 rfl
theorem dX4_listen_84 : decode cX4_listen 84 = .ok (.getfield 38, 3) := dcs_at ok31_hearing_0_2 11 rfl
theorem dX4_listen_87 : decode cX4_listen 87 = .ok (.iadd, 1) := dcs_at ok31_hearing_0_2 12 rfl
theorem dX4_listen_88 : decode cX4_listen 88 = .ok (.aload_n 0, 1) := dcs_at ok31_hearing_0_2 13 rfl
theorem dX4_listen_89 : decode cX4_listen 89 = .ok (.getfield 35, 3) := dcs_at ok31_hearing_0_2 14 rfl
theorem dX4_listen_92 : decode cX4_listen 92 = .ok (.iload 4, 2) := dcs_at ok31_hearing_0_2 15 rfl
theorem dX4_listen_94 : decode cX4_listen 94 = .ok (.iaload, 1) := dcs_at ok31_hearing_0_2 16 rfl
theorem dX4_listen_95 : decode cX4_listen 95 = .ok (.iconst 1, 1) := dcs_at ok31_hearing_0_2 17 rfl
theorem dX4_listen_96 : decode cX4_listen 96 = .ok (.iconst 2, 1) := dcs_at ok31_hearing_0_2 18 rfl
theorem dX4_listen_97 : decode cX4_listen 97 = .ok (.iload_n 3, 1) := dcs_at ok31_hearing_0_2 19 rfl
theorem dX4_listen_98 : decode cX4_listen 98 = .ok (.imul, 1) := dcs_at ok31_hearing_0_2 20 rfl
theorem dX4_listen_99 : decode cX4_listen 99 = .ok (.ishl, 1) := dcs_at ok31_hearing_0_2 21 rfl
theorem dX4_listen_100 : decode cX4_listen 100 = .ok (.iadd, 1) := dcs_at ok31_hearing_0_2 22 rfl
theorem dX4_listen_101 : decode cX4_listen 101 = .ok (.iastore, 1) := dcs_at ok31_hearing_0_2 23 rfl
theorem dX4_listen_102 : decode cX4_listen 102 = .ok (.iinc 4 1, 3) := dcs_at ok31_hearing_0_2 24 rfl
theorem dX4_listen_105 : decode cX4_listen 105 = .ok (.goto (-63), 3) := dcs_at ok31_hearing_0_2 25 rfl
theorem dX4_listen_108 : decode cX4_listen 108 = .ok (.aload_n 0, 1) := dcs_at ok31_hearing_0_2 26 rfl
theorem dX4_listen_109 : decode cX4_listen 109 = .ok (.dup, 1) := dcs_at ok31_hearing_0_2 27 rfl
theorem dX4_listen_110 : decode cX4_listen 110 = .ok (.getfield 38, 3) := dcs_at ok31_hearing_0_2 28 rfl
theorem dX4_listen_113 : decode cX4_listen 113 = .ok (.iconst 2, 1) := dcs_at ok31_hearing_0_2 29 rfl
theorem dX4_listen_114 : decode cX4_listen 114 = .ok (.imul, 1) := dcs_at ok31_hearing_0_2 30 rfl
theorem dX4_listen_115 : decode cX4_listen 115 = .ok (.putfield 38, 3) := dcs_at ok31_hearing_0_2 31 rfl
theorem dX4_listen_118 : decode cX4_listen 118 = .ok (.iinc 3 1, 3) := dcs_at ok31_hearing_0_2 32 rfl
theorem dX4_listen_121 : decode cX4_listen 121 = .ok (.goto (-90), 3) := dcs_at ok31_hearing_0_2 33 rfl
theorem dX4_listen_124 : decode cX4_listen 124 = .ok (.return_, 1) := dcs_at ok31_hearing_0_2 34 rfl
def tb31_hearing_0_3 : List (Nat × (Instr × Nat)) := [(0, (.aload_n 0, 1)), (1, (.aload_n 0, 1)), (2, (.getfield 25, 3)), (5, (.iconst 0, 1)), (6, (.iconst 3, 1)), (7, (.aload_n 0, 1)), (8, (.getfield 21, 3)), (11, (.getfield 48, 3)), (14, (.invokestatic 51, 3)), (17, (.iload_n 1, 1)), (18, (.iload_n 2, 1)), (19, (.invokevirtual 57, 3)), (22, (.aload_n 0, 1)), (23, (.aload_n 0, 1)), (24, (.getfield 29, 3)), (27, (.iconst 3, 1)), (28, (.aload_n 0, 1)), (29, (.getfield 21, 3)), (32, (.getfield 48, 3)), (35, (.iload_n 1, 1)), (36, (.iload_n 2, 1)), (37, (.invokevirtual 57, 3)), (40, (.aload_n 0, 1)), (41, (.getfield 29, 3)), (44, (.invokestatic 61, 3)), (47, (.lconst 0, 1)), (48, (.lstore_n 3, 1)), (49, (.iconst 0, 1)), (50, (.istore 5, 2)), (52, (.iload 5, 2)), (54, (.sipush 1024, 3)), (57, (.if_icmp .ge 57, 3)), (60, (.aload_n 0, 1)), (61, (.getfield 25, 3)), (64, (.iload 5, 2)), (66, (.iaload, 1)), (67, (.ifCond .ne 7, 3)), (70, (.iconst (-1), 1)), (71, (.goto 9, 3)), (74, (.aload_n 0, 1))]
theorem ok31_hearing_0_3 : dcs cX4_tally tb31_hearing_0_3 = true := by decide +kernel
theorem dX4_tally_0 : decode cX4_tally 0 = .ok (.aload_n 0, 1) := dcs_at ok31_hearing_0_3 0 rfl
theorem dX4_tally_1 : decode cX4_tally 1 = .ok (.aload_n 0, 1) := dcs_at ok31_hearing_0_3 1 rfl
theorem dX4_tally_2 : decode cX4_tally 2 = .ok (.getfield 25, 3) := dcs_at ok31_hearing_0_3 2 rfl
theorem dX4_tally_5 : decode cX4_tally 5 = .ok (.iconst 0, 1) := dcs_at ok31_hearing_0_3 3 rfl
theorem dX4_tally_6 : decode cX4_tally 6 = .ok (.iconst 3, 1) := dcs_at ok31_hearing_0_3 4 rfl
theorem dX4_tally_7 : decode cX4_tally 7 = .ok (.aload_n 0, 1) := dcs_at ok31_hearing_0_3 5 rfl
theorem dX4_tally_8 : decode cX4_tally 8 = .ok (.getfield 21, 3) := dcs_at ok31_hearing_0_3 6 rfl
theorem dX4_tally_11 : decode cX4_tally 11 = .ok (.getfield 48, 3) := dcs_at ok31_hearing_0_3 7 rfl
theorem dX4_tally_14 : decode cX4_tally 14 = .ok (.invokestatic 51, 3) := dcs_at ok31_hearing_0_3 8 rfl
theorem dX4_tally_17 : decode cX4_tally 17 = .ok (.iload_n 1, 1) := dcs_at ok31_hearing_0_3 9 rfl
theorem dX4_tally_18 : decode cX4_tally 18 = .ok (.iload_n 2, 1) := dcs_at ok31_hearing_0_3 10 rfl
theorem dX4_tally_19 : decode cX4_tally 19 = .ok (.invokevirtual 57, 3) := dcs_at ok31_hearing_0_3 11 rfl
theorem dX4_tally_22 : decode cX4_tally 22 = .ok (.aload_n 0, 1) := dcs_at ok31_hearing_0_3 12 rfl
theorem dX4_tally_23 : decode cX4_tally 23 = .ok (.aload_n 0, 1) := dcs_at ok31_hearing_0_3 13 rfl
theorem dX4_tally_24 : decode cX4_tally 24 = .ok (.getfield 29, 3) := dcs_at ok31_hearing_0_3 14 rfl
theorem dX4_tally_27 : decode cX4_tally 27 = .ok (.iconst 3, 1) := dcs_at ok31_hearing_0_3 15 rfl
theorem dX4_tally_28 : decode cX4_tally 28 = .ok (.aload_n 0, 1) := dcs_at ok31_hearing_0_3 16 rfl
theorem dX4_tally_29 : decode cX4_tally 29 = .ok (.getfield 21, 3) := dcs_at ok31_hearing_0_3 17 rfl
theorem dX4_tally_32 : decode cX4_tally 32 = .ok (.getfield 48, 3) := dcs_at ok31_hearing_0_3 18 rfl
theorem dX4_tally_35 : decode cX4_tally 35 = .ok (.iload_n 1, 1) := dcs_at ok31_hearing_0_3 19 rfl
theorem dX4_tally_36 : decode cX4_tally 36 = .ok (.iload_n 2, 1) := dcs_at ok31_hearing_0_3 20 rfl
theorem dX4_tally_37 : decode cX4_tally 37 = .ok (.invokevirtual 57, 3) := dcs_at ok31_hearing_0_3 21 rfl
theorem dX4_tally_40 : decode cX4_tally 40 = .ok (.aload_n 0, 1) := dcs_at ok31_hearing_0_3 22 rfl
theorem dX4_tally_41 : decode cX4_tally 41 = .ok (.getfield 29, 3) := dcs_at ok31_hearing_0_3 23 rfl
theorem dX4_tally_44 : decode cX4_tally 44 = .ok (.invokestatic 61, 3) := dcs_at ok31_hearing_0_3 24 rfl
theorem dX4_tally_47 : decode cX4_tally 47 = .ok (.lconst 0, 1) := dcs_at ok31_hearing_0_3 25 rfl
theorem dX4_tally_48 : decode cX4_tally 48 = .ok (.lstore_n 3, 1) := dcs_at ok31_hearing_0_3 26 rfl
theorem dX4_tally_49 : decode cX4_tally 49 = .ok (.iconst 0, 1) := dcs_at ok31_hearing_0_3 27 rfl
theorem dX4_tally_50 : decode cX4_tally 50 = .ok (.istore 5, 2) := dcs_at ok31_hearing_0_3 28 rfl
theorem dX4_tally_52 : decode cX4_tally 52 = .ok (.iload 5, 2) := dcs_at ok31_hearing_0_3 29 rfl
theorem dX4_tally_54 : decode cX4_tally 54 = .ok (.sipush 1024, 3) := dcs_at ok31_hearing_0_3 30 rfl
theorem dX4_tally_57 : decode cX4_tally 57 = .ok (.if_icmp .ge 57, 3) := dcs_at ok31_hearing_0_3 31 rfl
theorem dX4_tally_60 : decode cX4_tally 60 = .ok (.aload_n 0, 1) := dcs_at ok31_hearing_0_3 32 rfl
theorem dX4_tally_61 : decode cX4_tally 61 = .ok (.getfield 25, 3) := dcs_at ok31_hearing_0_3 33 rfl
theorem dX4_tally_64 : decode cX4_tally 64 = .ok (.iload 5, 2) := dcs_at ok31_hearing_0_3 34 rfl
theorem dX4_tally_66 : decode cX4_tally 66 = .ok (.iaload, 1) := dcs_at ok31_hearing_0_3 35 rfl
theorem dX4_tally_67 : decode cX4_tally 67 = .ok (.ifCond .ne 7, 3) := dcs_at ok31_hearing_0_3 36 rfl
theorem dX4_tally_70 : decode cX4_tally 70 = .ok (.iconst (-1), 1) := dcs_at ok31_hearing_0_3 37 rfl
theorem dX4_tally_71 : decode cX4_tally 71 = .ok (.goto 9, 3) := dcs_at ok31_hearing_0_3 38 rfl
theorem dX4_tally_74 : decode cX4_tally 74 = .ok (.aload_n 0, 1) := dcs_at ok31_hearing_0_3 39 rfl
def tb31_hearing_0_4 : List (Nat × (Instr × Nat)) := [(75, (.iload 5, 2)), (77, (.invokevirtual 65, 3)), (80, (.istore 6, 2)), (82, (.iload 6, 2)), (84, (.iconst (-1), 1)), (85, (.if_icmp .eq 23, 3)), (88, (.lload_n 3, 1)), (89, (.aload_n 0, 1)), (90, (.getfield 25, 3)), (93, (.iload 5, 2)), (95, (.iaload, 1)), (96, (.i2l, 1)), (97, (.aload_n 0, 1)), (98, (.getfield 29, 3)), (101, (.iload 6, 2)), (103, (.iaload, 1)), (104, (.i2l, 1)), (105, (.lmul, 1)), (106, (.ladd, 1)), (107, (.lstore_n 3, 1)), (108, (.iinc 5 1, 3)), (111, (.goto (-59), 3)), (114, (.lload_n 3, 1)), (115, (.lreturn, 1))]
theorem ok31_hearing_0_4 : dcs cX4_tally tb31_hearing_0_4 = true := by decide +kernel
theorem dX4_tally_75 : decode cX4_tally 75 = .ok (.iload 5, 2) := dcs_at ok31_hearing_0_4 0 rfl
theorem dX4_tally_77 : decode cX4_tally 77 = .ok (.invokevirtual 65, 3) := dcs_at ok31_hearing_0_4 1 rfl
theorem dX4_tally_80 : decode cX4_tally 80 = .ok (.istore 6, 2) := dcs_at ok31_hearing_0_4 2 rfl
theorem dX4_tally_82 : decode cX4_tally 82 = .ok (.iload 6, 2) := dcs_at ok31_hearing_0_4 3 rfl
theorem dX4_tally_84 : decode cX4_tally 84 = .ok (.iconst (-1), 1) := dcs_at ok31_hearing_0_4 4 rfl
theorem dX4_tally_85 : decode cX4_tally 85 = .ok (.if_icmp .eq 23, 3) := dcs_at ok31_hearing_0_4 5 rfl
theorem dX4_tally_88 : decode cX4_tally 88 = .ok (.lload_n 3, 1) := dcs_at ok31_hearing_0_4 6 rfl
theorem dX4_tally_89 : decode cX4_tally 89 = .ok (.aload_n 0, 1) := dcs_at ok31_hearing_0_4 7 rfl
theorem dX4_tally_90 : decode cX4_tally 90 = .ok (.getfield 25, 3) := dcs_at ok31_hearing_0_4 8 rfl
theorem dX4_tally_93 : decode cX4_tally 93 = .ok (.iload 5, 2) := dcs_at ok31_hearing_0_4 9 rfl
theorem dX4_tally_95 : decode cX4_tally 95 = .ok (.iaload, 1) := dcs_at ok31_hearing_0_4 10 rfl
theorem dX4_tally_96 : decode cX4_tally 96 = .ok (.i2l, 1) := dcs_at ok31_hearing_0_4 11 rfl
theorem dX4_tally_97 : decode cX4_tally 97 = .ok (.aload_n 0, 1) := dcs_at ok31_hearing_0_4 12 rfl
theorem dX4_tally_98 : decode cX4_tally 98 = .ok (.getfield 29, 3) := dcs_at ok31_hearing_0_4 13 rfl
theorem dX4_tally_101 : decode cX4_tally 101 = .ok (.iload 6, 2) := dcs_at ok31_hearing_0_4 14 rfl
theorem dX4_tally_103 : decode cX4_tally 103 = .ok (.iaload, 1) := dcs_at ok31_hearing_0_4 15 rfl
theorem dX4_tally_104 : decode cX4_tally 104 = .ok (.i2l, 1) := dcs_at ok31_hearing_0_4 16 rfl
theorem dX4_tally_105 : decode cX4_tally 105 = .ok (.lmul, 1) := dcs_at ok31_hearing_0_4 17 rfl
theorem dX4_tally_106 : decode cX4_tally 106 = .ok (.ladd, 1) := dcs_at ok31_hearing_0_4 18 rfl
theorem dX4_tally_107 : decode cX4_tally 107 = .ok (.lstore_n 3, 1) := dcs_at ok31_hearing_0_4 19 rfl
theorem dX4_tally_108 : decode cX4_tally 108 = .ok (.iinc 5 1, 3) := dcs_at ok31_hearing_0_4 20 rfl
theorem dX4_tally_111 : decode cX4_tally 111 = .ok (.goto (-59), 3) := dcs_at ok31_hearing_0_4 21 rfl
theorem dX4_tally_114 : decode cX4_tally 114 = .ok (.lload_n 3, 1) := dcs_at ok31_hearing_0_4 22 rfl
theorem dX4_tally_115 : decode cX4_tally 115 = .ok (.lreturn, 1) := dcs_at ok31_hearing_0_4 23 rfl
def tb31_hearing_0_5 : List (Nat × (Instr × Nat)) := [(0, (.aload_n 1, 1)), (1, (.iconst 0, 1)), (2, (.invokestatic 69, 3)), (5, (.aload_n 1, 1)), (6, (.iconst 0, 1)), (7, (.iconst 1, 1)), (8, (.iastore, 1)), (9, (.iload_n 2, 1)), (10, (.istore 6, 2)), (12, (.iload 6, 2)), (14, (.iload_n 3, 1)), (15, (.if_icmp .ge 62, 3)), (18, (.sipush 1023, 3)), (21, (.istore 7, 2)), (23, (.iload 7, 2)), (25, (.ifCond .lt 46, 3)), (28, (.aload_n 1, 1)), (29, (.iload 7, 2)), (31, (.iaload, 1)), (32, (.ifCond .eq 33, 3)), (35, (.aload_n 0, 1)), (36, (.aload_n 1, 1)), (37, (.iload 7, 2)), (39, (.aload_n 0, 1)), (40, (.getfield 21, 3)), (43, (.getfield 74, 3)), (46, (.iload 6, 2)), (48, (.iaload, 1)), (49, (.iload 6, 2)), (51, (.iload 4, 2)), (53, (.if_icmp .ne 8, 3)), (56, (.iload 5, 2)), (58, (.goto 4, 3)), (61, (.iconst (-1), 1)), (62, (.invokevirtual 77, 3)), (65, (.iinc 7 (-1), 3)), (68, (.goto (-45), 3)), (71, (.iinc 6 1, 3)), (74, (.goto (-62), 3)), (77, (.return_, 1))]
theorem ok31_hearing_0_5 : dcs cX4_fill tb31_hearing_0_5 = true := by decide +kernel
theorem dX4_fill_0 : decode cX4_fill 0 = .ok (.aload_n 1, 1) := dcs_at ok31_hearing_0_5 0 rfl
theorem dX4_fill_1 : decode cX4_fill 1 = .ok (.iconst 0, 1) := dcs_at ok31_hearing_0_5 1 rfl
theorem dX4_fill_2 : decode cX4_fill 2 = .ok (.invokestatic 69, 3) := dcs_at ok31_hearing_0_5 2 rfl
theorem dX4_fill_5 : decode cX4_fill 5 = .ok (.aload_n 1, 1) := dcs_at ok31_hearing_0_5 3 rfl
theorem dX4_fill_6 : decode cX4_fill 6 = .ok (.iconst 0, 1) := dcs_at ok31_hearing_0_5 4 rfl
theorem dX4_fill_7 : decode cX4_fill 7 = .ok (.iconst 1, 1) := dcs_at ok31_hearing_0_5 5 rfl
theorem dX4_fill_8 : decode cX4_fill 8 = .ok (.iastore, 1) := dcs_at ok31_hearing_0_5 6 rfl
theorem dX4_fill_9 : decode cX4_fill 9 = .ok (.iload_n 2, 1) := dcs_at ok31_hearing_0_5 7 rfl
theorem dX4_fill_10 : decode cX4_fill 10 = .ok (.istore 6, 2) := dcs_at ok31_hearing_0_5 8 rfl
theorem dX4_fill_12 : decode cX4_fill 12 = .ok (.iload 6, 2) := dcs_at ok31_hearing_0_5 9 rfl
theorem dX4_fill_14 : decode cX4_fill 14 = .ok (.iload_n 3, 1) := dcs_at ok31_hearing_0_5 10 rfl
theorem dX4_fill_15 : decode cX4_fill 15 = .ok (.if_icmp .ge 62, 3) := dcs_at ok31_hearing_0_5 11 rfl
theorem dX4_fill_18 : decode cX4_fill 18 = .ok (.sipush 1023, 3) := dcs_at ok31_hearing_0_5 12 rfl
theorem dX4_fill_21 : decode cX4_fill 21 = .ok (.istore 7, 2) := dcs_at ok31_hearing_0_5 13 rfl
theorem dX4_fill_23 : decode cX4_fill 23 = .ok (.iload 7, 2) := dcs_at ok31_hearing_0_5 14 rfl
theorem dX4_fill_25 : decode cX4_fill 25 = .ok (.ifCond .lt 46, 3) := dcs_at ok31_hearing_0_5 15 rfl
theorem dX4_fill_28 : decode cX4_fill 28 = .ok (.aload_n 1, 1) := dcs_at ok31_hearing_0_5 16 rfl
theorem dX4_fill_29 : decode cX4_fill 29 = .ok (.iload 7, 2) := dcs_at ok31_hearing_0_5 17 rfl
theorem dX4_fill_31 : decode cX4_fill 31 = .ok (.iaload, 1) := dcs_at ok31_hearing_0_5 18 rfl
theorem dX4_fill_32 : decode cX4_fill 32 = .ok (.ifCond .eq 33, 3) := dcs_at ok31_hearing_0_5 19 rfl
theorem dX4_fill_35 : decode cX4_fill 35 = .ok (.aload_n 0, 1) := dcs_at ok31_hearing_0_5 20 rfl
theorem dX4_fill_36 : decode cX4_fill 36 = .ok (.aload_n 1, 1) := dcs_at ok31_hearing_0_5 21 rfl
theorem dX4_fill_37 : decode cX4_fill 37 = .ok (.iload 7, 2) := dcs_at ok31_hearing_0_5 22 rfl
theorem dX4_fill_39 : decode cX4_fill 39 = .ok (.aload_n 0, 1) := dcs_at ok31_hearing_0_5 23 rfl
theorem dX4_fill_40 : decode cX4_fill 40 = .ok (.getfield 21, 3) := dcs_at ok31_hearing_0_5 24 rfl
theorem dX4_fill_43 : decode cX4_fill 43 = .ok (.getfield 74, 3) := dcs_at ok31_hearing_0_5 25 rfl
theorem dX4_fill_46 : decode cX4_fill 46 = .ok (.iload 6, 2) := dcs_at ok31_hearing_0_5 26 rfl
theorem dX4_fill_48 : decode cX4_fill 48 = .ok (.iaload, 1) := dcs_at ok31_hearing_0_5 27 rfl
theorem dX4_fill_49 : decode cX4_fill 49 = .ok (.iload 6, 2) := dcs_at ok31_hearing_0_5 28 rfl
theorem dX4_fill_51 : decode cX4_fill 51 = .ok (.iload 4, 2) := dcs_at ok31_hearing_0_5 29 rfl
theorem dX4_fill_53 : decode cX4_fill 53 = .ok (.if_icmp .ne 8, 3) := dcs_at ok31_hearing_0_5 30 rfl
theorem dX4_fill_56 : decode cX4_fill 56 = .ok (.iload 5, 2) := dcs_at ok31_hearing_0_5 31 rfl
theorem dX4_fill_58 : decode cX4_fill 58 = .ok (.goto 4, 3) := dcs_at ok31_hearing_0_5 32 rfl
theorem dX4_fill_61 : decode cX4_fill 61 = .ok (.iconst (-1), 1) := dcs_at ok31_hearing_0_5 33 rfl
theorem dX4_fill_62 : decode cX4_fill 62 = .ok (.invokevirtual 77, 3) := dcs_at ok31_hearing_0_5 34 rfl
theorem dX4_fill_65 : decode cX4_fill 65 = .ok (.iinc 7 (-1), 3) := dcs_at ok31_hearing_0_5 35 rfl
theorem dX4_fill_68 : decode cX4_fill 68 = .ok (.goto (-45), 3) := dcs_at ok31_hearing_0_5 36 rfl
theorem dX4_fill_71 : decode cX4_fill 71 = .ok (.iinc 6 1, 3) := dcs_at ok31_hearing_0_5 37 rfl
theorem dX4_fill_74 : decode cX4_fill 74 = .ok (.goto (-62), 3) := dcs_at ok31_hearing_0_5 38 rfl
theorem dX4_fill_77 : decode cX4_fill 77 = .ok (.return_, 1) := dcs_at ok31_hearing_0_5 39 rfl
def tb31_hearing_0_6 : List (Nat × (Instr × Nat)) := [(0, (.aload_n 1, 1)), (1, (.iload_n 2, 1)), (2, (.iaload, 1)), (3, (.istore 5, 2)), (5, (.aload_n 1, 1)), (6, (.iload_n 2, 1)), (7, (.iconst 0, 1)), (8, (.iastore, 1)), (9, (.iconst 0, 1)), (10, (.istore 6, 2)), (12, (.iload 6, 2)), (14, (.aload_n 0, 1)), (15, (.getfield 38, 3)), (18, (.if_icmp .ge 61, 3)), (21, (.iload_n 2, 1)), (22, (.aload_n 0, 1)), (23, (.getfield 35, 3)), (26, (.iload 6, 2)), (28, (.iaload, 1)), (29, (.iadd, 1)), (30, (.istore 7, 2)), (32, (.aload_n 0, 1)), (33, (.getfield 32, 3)), (36, (.iload 6, 2)), (38, (.iaload, 1)), (39, (.iload_n 3, 1)), (40, (.if_icmp .ne 33, 3)), (43, (.iload 4, 2)), (45, (.iconst (-1), 1)), (46, (.if_icmp .eq 10, 3)), (49, (.iload 4, 2)), (51, (.iload 6, 2)), (53, (.if_icmp .ne 20, 3)), (56, (.iload 7, 2)), (58, (.sipush 1024, 3)), (61, (.if_icmp .ge 12, 3)), (64, (.aload_n 1, 1)), (65, (.iload 7, 2)), (67, (.dup2, 1)), (68, (.iaload, 1))]
theorem ok31_hearing_0_6 : dcs cX4_spread tb31_hearing_0_6 = true := by decide +kernel
theorem dX4_spread_0 : decode cX4_spread 0 = .ok (.aload_n 1, 1) := dcs_at ok31_hearing_0_6 0 rfl
theorem dX4_spread_1 : decode cX4_spread 1 = .ok (.iload_n 2, 1) := dcs_at ok31_hearing_0_6 1 rfl
theorem dX4_spread_2 : decode cX4_spread 2 = .ok (.iaload, 1) := dcs_at ok31_hearing_0_6 2 rfl
theorem dX4_spread_3 : decode cX4_spread 3 = .ok (.istore 5, 2) := dcs_at ok31_hearing_0_6 3 rfl
theorem dX4_spread_5 : decode cX4_spread 5 = .ok (.aload_n 1, 1) := dcs_at ok31_hearing_0_6 4 rfl
theorem dX4_spread_6 : decode cX4_spread 6 = .ok (.iload_n 2, 1) := dcs_at ok31_hearing_0_6 5 rfl
theorem dX4_spread_7 : decode cX4_spread 7 = .ok (.iconst 0, 1) := dcs_at ok31_hearing_0_6 6 rfl
theorem dX4_spread_8 : decode cX4_spread 8 = .ok (.iastore, 1) := dcs_at ok31_hearing_0_6 7 rfl
theorem dX4_spread_9 : decode cX4_spread 9 = .ok (.iconst 0, 1) := dcs_at ok31_hearing_0_6 8 rfl
theorem dX4_spread_10 : decode cX4_spread 10 = .ok (.istore 6, 2) := dcs_at ok31_hearing_0_6 9 rfl
theorem dX4_spread_12 : decode cX4_spread 12 = .ok (.iload 6, 2) := dcs_at ok31_hearing_0_6 10 rfl
theorem dX4_spread_14 : decode cX4_spread 14 = .ok (.aload_n 0, 1) := dcs_at ok31_hearing_0_6 11 rfl
theorem dX4_spread_15 : decode cX4_spread 15 = .ok (.getfield 38, 3) := dcs_at ok31_hearing_0_6 12 rfl
theorem dX4_spread_18 : decode cX4_spread 18 = .ok (.if_icmp .ge 61, 3) := dcs_at ok31_hearing_0_6 13 rfl
theorem dX4_spread_21 : decode cX4_spread 21 = .ok (.iload_n 2, 1) := dcs_at ok31_hearing_0_6 14 rfl
theorem dX4_spread_22 : decode cX4_spread 22 = .ok (.aload_n 0, 1) := dcs_at ok31_hearing_0_6 15 rfl
theorem dX4_spread_23 : decode cX4_spread 23 = .ok (.getfield 35, 3) := dcs_at ok31_hearing_0_6 16 rfl
theorem dX4_spread_26 : decode cX4_spread 26 = .ok (.iload 6, 2) := dcs_at ok31_hearing_0_6 17 rfl
theorem dX4_spread_28 : decode cX4_spread 28 = .ok (.iaload, 1) := dcs_at ok31_hearing_0_6 18 rfl
theorem dX4_spread_29 : decode cX4_spread 29 = .ok (.iadd, 1) := dcs_at ok31_hearing_0_6 19 rfl
theorem dX4_spread_30 : decode cX4_spread 30 = .ok (.istore 7, 2) := dcs_at ok31_hearing_0_6 20 rfl
theorem dX4_spread_32 : decode cX4_spread 32 = .ok (.aload_n 0, 1) := dcs_at ok31_hearing_0_6 21 rfl
theorem dX4_spread_33 : decode cX4_spread 33 = .ok (.getfield 32, 3) := dcs_at ok31_hearing_0_6 22 rfl
theorem dX4_spread_36 : decode cX4_spread 36 = .ok (.iload 6, 2) := dcs_at ok31_hearing_0_6 23 rfl
theorem dX4_spread_38 : decode cX4_spread 38 = .ok (.iaload, 1) := dcs_at ok31_hearing_0_6 24 rfl
theorem dX4_spread_39 : decode cX4_spread 39 = .ok (.iload_n 3, 1) := dcs_at ok31_hearing_0_6 25 rfl
theorem dX4_spread_40 : decode cX4_spread 40 = .ok (.if_icmp .ne 33, 3) := dcs_at ok31_hearing_0_6 26 rfl
theorem dX4_spread_43 : decode cX4_spread 43 = .ok (.iload 4, 2) := dcs_at ok31_hearing_0_6 27 rfl
theorem dX4_spread_45 : decode cX4_spread 45 = .ok (.iconst (-1), 1) := dcs_at ok31_hearing_0_6 28 rfl
theorem dX4_spread_46 : decode cX4_spread 46 = .ok (.if_icmp .eq 10, 3) := dcs_at ok31_hearing_0_6 29 rfl
theorem dX4_spread_49 : decode cX4_spread 49 = .ok (.iload 4, 2) := dcs_at ok31_hearing_0_6 30 rfl
theorem dX4_spread_51 : decode cX4_spread 51 = .ok (.iload 6, 2) := dcs_at ok31_hearing_0_6 31 rfl
theorem dX4_spread_53 : decode cX4_spread 53 = .ok (.if_icmp .ne 20, 3) := dcs_at ok31_hearing_0_6 32 rfl
theorem dX4_spread_56 : decode cX4_spread 56 = .ok (.iload 7, 2) := dcs_at ok31_hearing_0_6 33 rfl
theorem dX4_spread_58 : decode cX4_spread 58 = .ok (.sipush 1024, 3) := dcs_at ok31_hearing_0_6 34 rfl
theorem dX4_spread_61 : decode cX4_spread 61 = .ok (.if_icmp .ge 12, 3) := dcs_at ok31_hearing_0_6 35 rfl
theorem dX4_spread_64 : decode cX4_spread 64 = .ok (.aload_n 1, 1) := dcs_at ok31_hearing_0_6 36 rfl
theorem dX4_spread_65 : decode cX4_spread 65 = .ok (.iload 7, 2) := dcs_at ok31_hearing_0_6 37 rfl
theorem dX4_spread_67 : decode cX4_spread 67 = .ok (.dup2, 1) := dcs_at ok31_hearing_0_6 38 rfl
theorem dX4_spread_68 : decode cX4_spread 68 = .ok (.iaload, 1) := dcs_at ok31_hearing_0_6 39 rfl
def tb31_hearing_0_7 : List (Nat × (Instr × Nat)) := [(69, (.iload 5, 2)), (71, (.iadd, 1)), (72, (.iastore, 1)), (73, (.iinc 6 1, 3)), (76, (.goto (-64), 3)), (79, (.return_, 1))]
theorem ok31_hearing_0_7 : dcs cX4_spread tb31_hearing_0_7 = true := by decide +kernel
theorem dX4_spread_69 : decode cX4_spread 69 = .ok (.iload 5, 2) := dcs_at ok31_hearing_0_7 0 rfl
theorem dX4_spread_71 : decode cX4_spread 71 = .ok (.iadd, 1) := dcs_at ok31_hearing_0_7 1 rfl
theorem dX4_spread_72 : decode cX4_spread 72 = .ok (.iastore, 1) := dcs_at ok31_hearing_0_7 2 rfl
theorem dX4_spread_73 : decode cX4_spread 73 = .ok (.iinc 6 1, 3) := dcs_at ok31_hearing_0_7 3 rfl
theorem dX4_spread_76 : decode cX4_spread 76 = .ok (.goto (-64), 3) := dcs_at ok31_hearing_0_7 4 rfl
theorem dX4_spread_79 : decode cX4_spread 79 = .ok (.return_, 1) := dcs_at ok31_hearing_0_7 5 rfl
def tb31_hearing_0_8 : List (Nat × (Instr × Nat)) := [(0, (.iconst 0, 1)), (1, (.istore_n 1, 1)), (2, (.iload_n 1, 1)), (3, (.iconst 5, 1)), (4, (.if_icmp .ge 49, 3)), (7, (.iconst 0, 1)), (8, (.istore_n 2, 1)), (9, (.iload_n 2, 1)), (10, (.sipush 1024, 3)), (13, (.if_icmp .ge 34, 3)), (16, (.iload_n 2, 1)), (17, (.iconst 2, 1)), (18, (.iload_n 1, 1)), (19, (.imul, 1)), (20, (.ishr, 1)), (21, (.iconst 3, 1)), (22, (.iand, 1)), (23, (.ifCond .eq 18, 3)), (26, (.aload_n 0, 1)), (27, (.iload_n 2, 1)), (28, (.dup2, 1)), (29, (.iaload, 1)), (30, (.aload_n 0, 1)), (31, (.iload_n 2, 1)), (32, (.iconst 1, 1)), (33, (.iconst 2, 1)), (34, (.iload_n 1, 1)), (35, (.imul, 1)), (36, (.ishl, 1)), (37, (.isub, 1)), (38, (.iaload, 1)), (39, (.iadd, 1)), (40, (.iastore, 1)), (41, (.iinc 2 1, 3)), (44, (.goto (-35), 3)), (47, (.iinc 1 1, 3)), (50, (.goto (-48), 3)), (53, (.return_, 1))]
theorem ok31_hearing_0_8 : dcs cX4_addUp tb31_hearing_0_8 = true := by decide +kernel
theorem dX4_addUp_0 : decode cX4_addUp 0 = .ok (.iconst 0, 1) := dcs_at ok31_hearing_0_8 0 rfl
theorem dX4_addUp_1 : decode cX4_addUp 1 = .ok (.istore_n 1, 1) := dcs_at ok31_hearing_0_8 1 rfl
theorem dX4_addUp_2 : decode cX4_addUp 2 = .ok (.iload_n 1, 1) := dcs_at ok31_hearing_0_8 2 rfl
theorem dX4_addUp_3 : decode cX4_addUp 3 = .ok (.iconst 5, 1) := dcs_at ok31_hearing_0_8 3 rfl
theorem dX4_addUp_4 : decode cX4_addUp 4 = .ok (.if_icmp .ge 49, 3) := dcs_at ok31_hearing_0_8 4 rfl
theorem dX4_addUp_7 : decode cX4_addUp 7 = .ok (.iconst 0, 1) := dcs_at ok31_hearing_0_8 5 rfl
theorem dX4_addUp_8 : decode cX4_addUp 8 = .ok (.istore_n 2, 1) := dcs_at ok31_hearing_0_8 6 rfl
theorem dX4_addUp_9 : decode cX4_addUp 9 = .ok (.iload_n 2, 1) := dcs_at ok31_hearing_0_8 7 rfl
theorem dX4_addUp_10 : decode cX4_addUp 10 = .ok (.sipush 1024, 3) := dcs_at ok31_hearing_0_8 8 rfl
theorem dX4_addUp_13 : decode cX4_addUp 13 = .ok (.if_icmp .ge 34, 3) := dcs_at ok31_hearing_0_8 9 rfl
theorem dX4_addUp_16 : decode cX4_addUp 16 = .ok (.iload_n 2, 1) := dcs_at ok31_hearing_0_8 10 rfl
theorem dX4_addUp_17 : decode cX4_addUp 17 = .ok (.iconst 2, 1) := dcs_at ok31_hearing_0_8 11 rfl
theorem dX4_addUp_18 : decode cX4_addUp 18 = .ok (.iload_n 1, 1) := dcs_at ok31_hearing_0_8 12 rfl
theorem dX4_addUp_19 : decode cX4_addUp 19 = .ok (.imul, 1) := dcs_at ok31_hearing_0_8 13 rfl
theorem dX4_addUp_20 : decode cX4_addUp 20 = .ok (.ishr, 1) := dcs_at ok31_hearing_0_8 14 rfl
theorem dX4_addUp_21 : decode cX4_addUp 21 = .ok (.iconst 3, 1) := dcs_at ok31_hearing_0_8 15 rfl
theorem dX4_addUp_22 : decode cX4_addUp 22 = .ok (.iand, 1) := dcs_at ok31_hearing_0_8 16 rfl
theorem dX4_addUp_23 : decode cX4_addUp 23 = .ok (.ifCond .eq 18, 3) := dcs_at ok31_hearing_0_8 17 rfl
theorem dX4_addUp_26 : decode cX4_addUp 26 = .ok (.aload_n 0, 1) := dcs_at ok31_hearing_0_8 18 rfl
theorem dX4_addUp_27 : decode cX4_addUp 27 = .ok (.iload_n 2, 1) := dcs_at ok31_hearing_0_8 19 rfl
theorem dX4_addUp_28 : decode cX4_addUp 28 = .ok (.dup2, 1) := dcs_at ok31_hearing_0_8 20 rfl
theorem dX4_addUp_29 : decode cX4_addUp 29 = .ok (.iaload, 1) := dcs_at ok31_hearing_0_8 21 rfl
theorem dX4_addUp_30 : decode cX4_addUp 30 = .ok (.aload_n 0, 1) := dcs_at ok31_hearing_0_8 22 rfl
theorem dX4_addUp_31 : decode cX4_addUp 31 = .ok (.iload_n 2, 1) := dcs_at ok31_hearing_0_8 23 rfl
theorem dX4_addUp_32 : decode cX4_addUp 32 = .ok (.iconst 1, 1) := dcs_at ok31_hearing_0_8 24 rfl
theorem dX4_addUp_33 : decode cX4_addUp 33 = .ok (.iconst 2, 1) := dcs_at ok31_hearing_0_8 25 rfl
theorem dX4_addUp_34 : decode cX4_addUp 34 = .ok (.iload_n 1, 1) := dcs_at ok31_hearing_0_8 26 rfl
theorem dX4_addUp_35 : decode cX4_addUp 35 = .ok (.imul, 1) := dcs_at ok31_hearing_0_8 27 rfl
theorem dX4_addUp_36 : decode cX4_addUp 36 = .ok (.ishl, 1) := dcs_at ok31_hearing_0_8 28 rfl
theorem dX4_addUp_37 : decode cX4_addUp 37 = .ok (.isub, 1) := dcs_at ok31_hearing_0_8 29 rfl
theorem dX4_addUp_38 : decode cX4_addUp 38 = .ok (.iaload, 1) := dcs_at ok31_hearing_0_8 30 rfl
theorem dX4_addUp_39 : decode cX4_addUp 39 = .ok (.iadd, 1) := dcs_at ok31_hearing_0_8 31 rfl
theorem dX4_addUp_40 : decode cX4_addUp 40 = .ok (.iastore, 1) := dcs_at ok31_hearing_0_8 32 rfl
theorem dX4_addUp_41 : decode cX4_addUp 41 = .ok (.iinc 2 1, 3) := dcs_at ok31_hearing_0_8 33 rfl
theorem dX4_addUp_44 : decode cX4_addUp 44 = .ok (.goto (-35), 3) := dcs_at ok31_hearing_0_8 34 rfl
theorem dX4_addUp_47 : decode cX4_addUp 47 = .ok (.iinc 1 1, 3) := dcs_at ok31_hearing_0_8 35 rfl
theorem dX4_addUp_50 : decode cX4_addUp 50 = .ok (.goto (-48), 3) := dcs_at ok31_hearing_0_8 36 rfl
theorem dX4_addUp_53 : decode cX4_addUp 53 = .ok (.return_, 1) := dcs_at ok31_hearing_0_8 37 rfl
def tb31_hearing_0_9 : List (Nat × (Instr × Nat)) := [(0, (.iconst 0, 1)), (1, (.istore_n 2, 1)), (2, (.iconst 0, 1)), (3, (.istore_n 3, 1)), (4, (.iload_n 3, 1)), (5, (.aload_n 0, 1)), (6, (.getfield 12, 3)), (9, (.getfield 42, 3)), (12, (.if_icmp .ge 48, 3)), (15, (.aload_n 0, 1)), (16, (.getfield 12, 3)), (19, (.getfield 81, 3)), (22, (.iload_n 3, 1)), (23, (.iaload, 1)), (24, (.iload_n 1, 1)), (25, (.iconst 2, 1)), (26, (.iload_n 3, 1)), (27, (.imul, 1)), (28, (.ishr, 1)), (29, (.iconst 3, 1)), (30, (.iand, 1)), (31, (.isub, 1)), (32, (.istore 4, 2)), (34, (.iload 4, 2)), (36, (.ifCond .ge 5, 3)), (39, (.iconst (-1), 1)), (40, (.ireturn, 1)), (41, (.iload_n 2, 1)), (42, (.iconst 3, 1)), (43, (.iload 4, 2)), (45, (.invokestatic 51, 3)), (48, (.iconst 2, 1)), (49, (.iload_n 3, 1)), (50, (.imul, 1)), (51, (.ishl, 1)), (52, (.iadd, 1)), (53, (.istore_n 2, 1)), (54, (.iinc 3 1, 3)), (57, (.goto (-53), 3)), (60, (.iload_n 2, 1))]
theorem ok31_hearing_0_9 : dcs cX4_roomBehind tb31_hearing_0_9 = true := by decide +kernel
theorem dX4_roomBehind_0 : decode cX4_roomBehind 0 = .ok (.iconst 0, 1) := dcs_at ok31_hearing_0_9 0 rfl
theorem dX4_roomBehind_1 : decode cX4_roomBehind 1 = .ok (.istore_n 2, 1) := dcs_at ok31_hearing_0_9 1 rfl
theorem dX4_roomBehind_2 : decode cX4_roomBehind 2 = .ok (.iconst 0, 1) := dcs_at ok31_hearing_0_9 2 rfl
theorem dX4_roomBehind_3 : decode cX4_roomBehind 3 = .ok (.istore_n 3, 1) := dcs_at ok31_hearing_0_9 3 rfl
theorem dX4_roomBehind_4 : decode cX4_roomBehind 4 = .ok (.iload_n 3, 1) := dcs_at ok31_hearing_0_9 4 rfl
theorem dX4_roomBehind_5 : decode cX4_roomBehind 5 = .ok (.aload_n 0, 1) := dcs_at ok31_hearing_0_9 5 rfl
theorem dX4_roomBehind_6 : decode cX4_roomBehind 6 = .ok (.getfield 12, 3) := dcs_at ok31_hearing_0_9 6 rfl
theorem dX4_roomBehind_9 : decode cX4_roomBehind 9 = .ok (.getfield 42, 3) := dcs_at ok31_hearing_0_9 7 rfl
theorem dX4_roomBehind_12 : decode cX4_roomBehind 12 = .ok (.if_icmp .ge 48, 3) := dcs_at ok31_hearing_0_9 8 rfl
theorem dX4_roomBehind_15 : decode cX4_roomBehind 15 = .ok (.aload_n 0, 1) := dcs_at ok31_hearing_0_9 9 rfl
theorem dX4_roomBehind_16 : decode cX4_roomBehind 16 = .ok (.getfield 12, 3) := dcs_at ok31_hearing_0_9 10 rfl
theorem dX4_roomBehind_19 : decode cX4_roomBehind 19 = .ok (.getfield 81, 3) := dcs_at ok31_hearing_0_9 11 rfl
theorem dX4_roomBehind_22 : decode cX4_roomBehind 22 = .ok (.iload_n 3, 1) := dcs_at ok31_hearing_0_9 12 rfl
theorem dX4_roomBehind_23 : decode cX4_roomBehind 23 = .ok (.iaload, 1) := dcs_at ok31_hearing_0_9 13 rfl
theorem dX4_roomBehind_24 : decode cX4_roomBehind 24 = .ok (.iload_n 1, 1) := dcs_at ok31_hearing_0_9 14 rfl
theorem dX4_roomBehind_25 : decode cX4_roomBehind 25 = .ok (.iconst 2, 1) := dcs_at ok31_hearing_0_9 15 rfl
theorem dX4_roomBehind_26 : decode cX4_roomBehind 26 = .ok (.iload_n 3, 1) := dcs_at ok31_hearing_0_9 16 rfl
theorem dX4_roomBehind_27 : decode cX4_roomBehind 27 = .ok (.imul, 1) := dcs_at ok31_hearing_0_9 17 rfl
theorem dX4_roomBehind_28 : decode cX4_roomBehind 28 = .ok (.ishr, 1) := dcs_at ok31_hearing_0_9 18 rfl
theorem dX4_roomBehind_29 : decode cX4_roomBehind 29 = .ok (.iconst 3, 1) := dcs_at ok31_hearing_0_9 19 rfl
theorem dX4_roomBehind_30 : decode cX4_roomBehind 30 = .ok (.iand, 1) := dcs_at ok31_hearing_0_9 20 rfl
theorem dX4_roomBehind_31 : decode cX4_roomBehind 31 = .ok (.isub, 1) := dcs_at ok31_hearing_0_9 21 rfl
theorem dX4_roomBehind_32 : decode cX4_roomBehind 32 = .ok (.istore 4, 2) := dcs_at ok31_hearing_0_9 22 rfl
theorem dX4_roomBehind_34 : decode cX4_roomBehind 34 = .ok (.iload 4, 2) := dcs_at ok31_hearing_0_9 23 rfl
theorem dX4_roomBehind_36 : decode cX4_roomBehind 36 = .ok (.ifCond .ge 5, 3) := dcs_at ok31_hearing_0_9 24 rfl
theorem dX4_roomBehind_39 : decode cX4_roomBehind 39 = .ok (.iconst (-1), 1) := dcs_at ok31_hearing_0_9 25 rfl
theorem dX4_roomBehind_40 : decode cX4_roomBehind 40 = .ok (.ireturn, 1) := dcs_at ok31_hearing_0_9 26 rfl
theorem dX4_roomBehind_41 : decode cX4_roomBehind 41 = .ok (.iload_n 2, 1) := dcs_at ok31_hearing_0_9 27 rfl
theorem dX4_roomBehind_42 : decode cX4_roomBehind 42 = .ok (.iconst 3, 1) := dcs_at ok31_hearing_0_9 28 rfl
theorem dX4_roomBehind_43 : decode cX4_roomBehind 43 = .ok (.iload 4, 2) := dcs_at ok31_hearing_0_9 29 rfl
theorem dX4_roomBehind_45 : decode cX4_roomBehind 45 = .ok (.invokestatic 51, 3) := dcs_at ok31_hearing_0_9 30 rfl
theorem dX4_roomBehind_48 : decode cX4_roomBehind 48 = .ok (.iconst 2, 1) := dcs_at ok31_hearing_0_9 31 rfl
theorem dX4_roomBehind_49 : decode cX4_roomBehind 49 = .ok (.iload_n 3, 1) := dcs_at ok31_hearing_0_9 32 rfl
theorem dX4_roomBehind_50 : decode cX4_roomBehind 50 = .ok (.imul, 1) := dcs_at ok31_hearing_0_9 33 rfl
theorem dX4_roomBehind_51 : decode cX4_roomBehind 51 = .ok (.ishl, 1) := dcs_at ok31_hearing_0_9 34 rfl
theorem dX4_roomBehind_52 : decode cX4_roomBehind 52 = .ok (.iadd, 1) := dcs_at ok31_hearing_0_9 35 rfl
theorem dX4_roomBehind_53 : decode cX4_roomBehind 53 = .ok (.istore_n 2, 1) := dcs_at ok31_hearing_0_9 36 rfl
theorem dX4_roomBehind_54 : decode cX4_roomBehind 54 = .ok (.iinc 3 1, 3) := dcs_at ok31_hearing_0_9 37 rfl
theorem dX4_roomBehind_57 : decode cX4_roomBehind 57 = .ok (.goto (-53), 3) := dcs_at ok31_hearing_0_9 38 rfl
theorem dX4_roomBehind_60 : decode cX4_roomBehind 60 = .ok (.iload_n 2, 1) := dcs_at ok31_hearing_0_9 39 rfl
def tb31_hearing_0_10 : List (Nat × (Instr × Nat)) := [(61, (.ireturn, 1))]
theorem ok31_hearing_0_10 : dcs cX4_roomBehind tb31_hearing_0_10 = true := by decide +kernel
theorem dX4_roomBehind_61 : decode cX4_roomBehind 61 = .ok (.ireturn, 1) := dcs_at ok31_hearing_0_10 0 rfl
def tb31_hearing_0_11 : List (Nat × (Instr × Nat)) := [(0, (.aload_n 0, 1)), (1, (.iconst 0, 1)), (2, (.putfield 84, 3)), (5, (.aload_n 0, 1)), (6, (.iconst (-1), 1)), (7, (.putfield 87, 3)), (10, (.iconst 0, 1)), (11, (.istore_n 2, 1)), (12, (.iload_n 2, 1)), (13, (.aload_n 0, 1)), (14, (.getfield 38, 3)), (17, (.if_icmp .ge 58, 3)), (20, (.aload_n 0, 1)), (21, (.getfield 32, 3)), (24, (.iload_n 2, 1)), (25, (.iaload, 1)), (26, (.aload_n 0, 1)), (27, (.getfield 21, 3)), (30, (.getfield 74, 3)), (33, (.iload_n 1, 1)), (34, (.iaload, 1)), (35, (.if_icmp .ne 34, 3)), (38, (.aload_n 0, 1)), (39, (.iload_n 1, 1)), (40, (.iload_n 2, 1)), (41, (.invokevirtual 90, 3)), (44, (.lconst 0, 1)), (45, (.lcmp, 1)), (46, (.ifCond .le 23, 3)), (49, (.aload_n 0, 1)), (50, (.dup, 1)), (51, (.getfield 84, 3)), (54, (.iload_n 2, 1)), (55, (.ior, 1)), (56, (.putfield 84, 3)), (59, (.aload_n 0, 1)), (60, (.dup, 1)), (61, (.getfield 87, 3)), (64, (.iload_n 2, 1)), (65, (.iand, 1))]
theorem ok31_hearing_0_11 : dcs cX4_compareMinute tb31_hearing_0_11 = true := by decide +kernel
theorem dX4_compareMinute_0 : decode cX4_compareMinute 0 = .ok (.aload_n 0, 1) := dcs_at ok31_hearing_0_11 0 rfl
theorem dX4_compareMinute_1 : decode cX4_compareMinute 1 = .ok (.iconst 0, 1) := dcs_at ok31_hearing_0_11 1 rfl
theorem dX4_compareMinute_2 : decode cX4_compareMinute 2 = .ok (.putfield 84, 3) := dcs_at ok31_hearing_0_11 2 rfl
theorem dX4_compareMinute_5 : decode cX4_compareMinute 5 = .ok (.aload_n 0, 1) := dcs_at ok31_hearing_0_11 3 rfl
theorem dX4_compareMinute_6 : decode cX4_compareMinute 6 = .ok (.iconst (-1), 1) := dcs_at ok31_hearing_0_11 4 rfl
theorem dX4_compareMinute_7 : decode cX4_compareMinute 7 = .ok (.putfield 87, 3) := dcs_at ok31_hearing_0_11 5 rfl
theorem dX4_compareMinute_10 : decode cX4_compareMinute 10 = .ok (.iconst 0, 1) := dcs_at ok31_hearing_0_11 6 rfl
theorem dX4_compareMinute_11 : decode cX4_compareMinute 11 = .ok (.istore_n 2, 1) := dcs_at ok31_hearing_0_11 7 rfl
theorem dX4_compareMinute_12 : decode cX4_compareMinute 12 = .ok (.iload_n 2, 1) := dcs_at ok31_hearing_0_11 8 rfl
theorem dX4_compareMinute_13 : decode cX4_compareMinute 13 = .ok (.aload_n 0, 1) := dcs_at ok31_hearing_0_11 9 rfl
theorem dX4_compareMinute_14 : decode cX4_compareMinute 14 = .ok (.getfield 38, 3) := dcs_at ok31_hearing_0_11 10 rfl
theorem dX4_compareMinute_17 : decode cX4_compareMinute 17 = .ok (.if_icmp .ge 58, 3) := dcs_at ok31_hearing_0_11 11 rfl
theorem dX4_compareMinute_20 : decode cX4_compareMinute 20 = .ok (.aload_n 0, 1) := dcs_at ok31_hearing_0_11 12 rfl
theorem dX4_compareMinute_21 : decode cX4_compareMinute 21 = .ok (.getfield 32, 3) := dcs_at ok31_hearing_0_11 13 rfl
theorem dX4_compareMinute_24 : decode cX4_compareMinute 24 = .ok (.iload_n 2, 1) := dcs_at ok31_hearing_0_11 14 rfl
theorem dX4_compareMinute_25 : decode cX4_compareMinute 25 = .ok (.iaload, 1) := dcs_at ok31_hearing_0_11 15 rfl
theorem dX4_compareMinute_26 : decode cX4_compareMinute 26 = .ok (.aload_n 0, 1) := dcs_at ok31_hearing_0_11 16 rfl
theorem dX4_compareMinute_27 : decode cX4_compareMinute 27 = .ok (.getfield 21, 3) := dcs_at ok31_hearing_0_11 17 rfl
theorem dX4_compareMinute_30 : decode cX4_compareMinute 30 = .ok (.getfield 74, 3) := dcs_at ok31_hearing_0_11 18 rfl
theorem dX4_compareMinute_33 : decode cX4_compareMinute 33 = .ok (.iload_n 1, 1) := dcs_at ok31_hearing_0_11 19 rfl
theorem dX4_compareMinute_34 : decode cX4_compareMinute 34 = .ok (.iaload, 1) := dcs_at ok31_hearing_0_11 20 rfl
theorem dX4_compareMinute_35 : decode cX4_compareMinute 35 = .ok (.if_icmp .ne 34, 3) := dcs_at ok31_hearing_0_11 21 rfl
theorem dX4_compareMinute_38 : decode cX4_compareMinute 38 = .ok (.aload_n 0, 1) := dcs_at ok31_hearing_0_11 22 rfl
theorem dX4_compareMinute_39 : decode cX4_compareMinute 39 = .ok (.iload_n 1, 1) := dcs_at ok31_hearing_0_11 23 rfl
theorem dX4_compareMinute_40 : decode cX4_compareMinute 40 = .ok (.iload_n 2, 1) := dcs_at ok31_hearing_0_11 24 rfl
theorem dX4_compareMinute_41 : decode cX4_compareMinute 41 = .ok (.invokevirtual 90, 3) := dcs_at ok31_hearing_0_11 25 rfl
theorem dX4_compareMinute_44 : decode cX4_compareMinute 44 = .ok (.lconst 0, 1) := dcs_at ok31_hearing_0_11 26 rfl
theorem dX4_compareMinute_45 : decode cX4_compareMinute 45 = .ok (.lcmp, 1) := dcs_at ok31_hearing_0_11 27 rfl
theorem dX4_compareMinute_46 : decode cX4_compareMinute 46 = .ok (.ifCond .le 23, 3) := dcs_at ok31_hearing_0_11 28 rfl
theorem dX4_compareMinute_49 : decode cX4_compareMinute 49 = .ok (.aload_n 0, 1) := dcs_at ok31_hearing_0_11 29 rfl
theorem dX4_compareMinute_50 : decode cX4_compareMinute 50 = .ok (.dup, 1) := dcs_at ok31_hearing_0_11 30 rfl
theorem dX4_compareMinute_51 : decode cX4_compareMinute 51 = .ok (.getfield 84, 3) := dcs_at ok31_hearing_0_11 31 rfl
theorem dX4_compareMinute_54 : decode cX4_compareMinute 54 = .ok (.iload_n 2, 1) := dcs_at ok31_hearing_0_11 32 rfl
theorem dX4_compareMinute_55 : decode cX4_compareMinute 55 = .ok (.ior, 1) := dcs_at ok31_hearing_0_11 33 rfl
theorem dX4_compareMinute_56 : decode cX4_compareMinute 56 = .ok (.putfield 84, 3) := dcs_at ok31_hearing_0_11 34 rfl
theorem dX4_compareMinute_59 : decode cX4_compareMinute 59 = .ok (.aload_n 0, 1) := dcs_at ok31_hearing_0_11 35 rfl
theorem dX4_compareMinute_60 : decode cX4_compareMinute 60 = .ok (.dup, 1) := dcs_at ok31_hearing_0_11 36 rfl
theorem dX4_compareMinute_61 : decode cX4_compareMinute 61 = .ok (.getfield 87, 3) := dcs_at ok31_hearing_0_11 37 rfl
theorem dX4_compareMinute_64 : decode cX4_compareMinute 64 = .ok (.iload_n 2, 1) := dcs_at ok31_hearing_0_11 38 rfl
theorem dX4_compareMinute_65 : decode cX4_compareMinute 65 = .ok (.iand, 1) := dcs_at ok31_hearing_0_11 39 rfl
def tb31_hearing_0_12 : List (Nat × (Instr × Nat)) := [(66, (.putfield 87, 3)), (69, (.iinc 2 1, 3)), (72, (.goto (-60), 3)), (75, (.return_, 1))]
theorem ok31_hearing_0_12 : dcs cX4_compareMinute tb31_hearing_0_12 = true := by decide +kernel
theorem dX4_compareMinute_66 : decode cX4_compareMinute 66 = .ok (.putfield 87, 3) := dcs_at ok31_hearing_0_12 0 rfl
theorem dX4_compareMinute_69 : decode cX4_compareMinute 69 = .ok (.iinc 2 1, 3) := dcs_at ok31_hearing_0_12 1 rfl
theorem dX4_compareMinute_72 : decode cX4_compareMinute 72 = .ok (.goto (-60), 3) := dcs_at ok31_hearing_0_12 2 rfl
theorem dX4_compareMinute_75 : decode cX4_compareMinute 75 = .ok (.return_, 1) := dcs_at ok31_hearing_0_12 3 rfl
