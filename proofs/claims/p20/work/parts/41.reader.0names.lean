theorem nmX5 : ∀ a, a < 10 → ∀ b, b < 10 → a ≠ b → (TX5 a).2.1 ≠ (TX5 b).2.1 := nm_of [32765881934443109, 1651470187, 1684107883, 31091360100872819, 439721749620, 482854658917, 500085515630, 1718775661, 29807, 508440638821] (by decide +kernel) (by decide +kernel)
theorem tyX5_ok : ∀ k, k < 10 → parseFieldDescriptor (TX5 k).2.2.1 = some (tyX5 k) := by decide +kernel
def tb41_reader_0_1 : List (Nat × (Instr × Nat)) := [(0, (.aload_n 0, 1)), (1, (.getfield 12, 3)), (4, (.invokevirtual 36, 3)), (7, (.aload_n 0, 1)), (8, (.getfield 21, 3)), (11, (.iconst 0, 1)), (12, (.putfield 39, 3)), (15, (.aload_n 0, 1)), (16, (.getfield 28, 3)), (19, (.iconst 0, 1)), (20, (.putfield 43, 3)), (23, (.aload_n 0, 1)), (24, (.iconst 0, 1)), (25, (.putfield 46, 3)), (28, (.aload_n 0, 1)), (29, (.iconst (-1), 1)), (30, (.putfield 49, 3)), (33, (.aload_n 0, 1)), (34, (.iconst 0, 1)), (35, (.putfield 52, 3)), (38, (.iconst 0, 1)), (39, (.istore 4, 2)), (41, (.iload 4, 2)), (43, (.sipush 600, 3)), (46, (.if_icmp .gt 33, 3)), (49, (.aload_n 0, 1)), (50, (.aload_n 1, 1)), (51, (.iload_n 2, 1)), (52, (.invokevirtual 55, 3)), (55, (.aload_n 0, 1)), (56, (.getfield 59, 3)), (59, (.ifCond .eq 13, 3)), (62, (.aload_n 0, 1)), (63, (.aload_n 1, 1)), (64, (.iload_n 2, 1)), (65, (.iload_n 3, 1)), (66, (.invokevirtual 62, 3)), (69, (.ifCond .ne 4, 3)), (72, (.return_, 1)), (73, (.iinc 4 1, 3))]
theorem ok41_reader_0_1 : dcs cX5_read tb41_reader_0_1 = true := by decide +kernel
theorem dX5_read_0 : decode cX5_read 0 = .ok (.aload_n 0, 1) := dcs_at ok41_reader_0_1 0 rfl
theorem dX5_read_1 : decode cX5_read 1 = .ok (.getfield 12, 3) := dcs_at ok41_reader_0_1 1 rfl
theorem dX5_read_4 : decode cX5_read 4 = .ok (.invokevirtual 36, 3) := dcs_at ok41_reader_0_1 2 rfl
theorem dX5_read_7 : decode cX5_read 7 = .ok (.aload_n 0, 1) := dcs_at ok41_reader_0_1 3 rfl
theorem dX5_read_8 : decode cX5_read 8 = .ok (.getfield 21, 3) := dcs_at ok41_reader_0_1 4 rfl
theorem dX5_read_11 : decode cX5_read 11 = .ok (.iconst 0, 1) := dcs_at ok41_reader_0_1 5 rfl
theorem dX5_read_12 : decode cX5_read 12 = .ok (.putfield 39, 3) := dcs_at ok41_reader_0_1 6 rfl
theorem dX5_read_15 : decode cX5_read 15 = .ok (.aload_n 0, 1) := dcs_at ok41_reader_0_1 7 rfl
theorem dX5_read_16 : decode cX5_read 16 = .ok (.getfield 28, 3) := dcs_at ok41_reader_0_1 8 rfl
theorem dX5_read_19 : decode cX5_read 19 = .ok (.iconst 0, 1) := dcs_at ok41_reader_0_1 9 rfl
theorem dX5_read_20 : decode cX5_read 20 = .ok (.putfield 43, 3) := dcs_at ok41_reader_0_1 10 rfl
theorem dX5_read_23 : decode cX5_read 23 = .ok (.aload_n 0, 1) := dcs_at ok41_reader_0_1 11 rfl
theorem dX5_read_24 : decode cX5_read 24 = .ok (.iconst 0, 1) := dcs_at ok41_reader_0_1 12 rfl
theorem dX5_read_25 : decode cX5_read 25 = .ok (.putfield 46, 3) := dcs_at ok41_reader_0_1 13 rfl
theorem dX5_read_28 : decode cX5_read 28 = .ok (.aload_n 0, 1) := dcs_at ok41_reader_0_1 14 rfl
theorem dX5_read_29 : decode cX5_read 29 = .ok (.iconst (-1), 1) := dcs_at ok41_reader_0_1 15 rfl
theorem dX5_read_30 : decode cX5_read 30 = .ok (.putfield 49, 3) := dcs_at ok41_reader_0_1 16 rfl
theorem dX5_read_33 : decode cX5_read 33 = .ok (.aload_n 0, 1) := dcs_at ok41_reader_0_1 17 rfl
theorem dX5_read_34 : decode cX5_read 34 = .ok (.iconst 0, 1) := dcs_at ok41_reader_0_1 18 rfl
theorem dX5_read_35 : decode cX5_read 35 = .ok (.putfield 52, 3) := dcs_at ok41_reader_0_1 19 rfl
theorem dX5_read_38 : decode cX5_read 38 = .ok (.iconst 0, 1) := dcs_at ok41_reader_0_1 20 rfl
theorem dX5_read_39 : decode cX5_read 39 = .ok (.istore 4, 2) := dcs_at ok41_reader_0_1 21 rfl
theorem dX5_read_41 : decode cX5_read 41 = .ok (.iload 4, 2) := dcs_at ok41_reader_0_1 22 rfl
theorem dX5_read_43 : decode cX5_read 43 = .ok (.sipush 600, 3) := dcs_at ok41_reader_0_1 23 rfl
theorem dX5_read_46 : decode cX5_read 46 = .ok (.if_icmp .gt 33, 3) := dcs_at ok41_reader_0_1 24 rfl
theorem dX5_read_49 : decode cX5_read 49 = .ok (.aload_n 0, 1) := dcs_at ok41_reader_0_1 25 rfl
theorem dX5_read_50 : decode cX5_read 50 = .ok (.aload_n 1, 1) := dcs_at ok41_reader_0_1 26 rfl
theorem dX5_read_51 : decode cX5_read 51 = .ok (.iload_n 2, 1) := dcs_at ok41_reader_0_1 27 rfl
theorem dX5_read_52 : decode cX5_read 52 = .ok (.invokevirtual 55, 3) := dcs_at ok41_reader_0_1 28 rfl
theorem dX5_read_55 : decode cX5_read 55 = .ok (.aload_n 0, 1) := dcs_at ok41_reader_0_1 29 rfl
theorem dX5_read_56 : decode cX5_read 56 = .ok (.getfield 59, 3) := dcs_at ok41_reader_0_1 30 rfl
theorem dX5_read_59 : decode cX5_read 59 = .ok (.ifCond .eq 13, 3) := dcs_at ok41_reader_0_1 31 rfl
theorem dX5_read_62 : decode cX5_read 62 = .ok (.aload_n 0, 1) := dcs_at ok41_reader_0_1 32 rfl
theorem dX5_read_63 : decode cX5_read 63 = .ok (.aload_n 1, 1) := dcs_at ok41_reader_0_1 33 rfl
theorem dX5_read_64 : decode cX5_read 64 = .ok (.iload_n 2, 1) := dcs_at ok41_reader_0_1 34 rfl
theorem dX5_read_65 : decode cX5_read 65 = .ok (.iload_n 3, 1) := dcs_at ok41_reader_0_1 35 rfl
theorem dX5_read_66 : decode cX5_read 66 = .ok (.invokevirtual 62, 3) := dcs_at ok41_reader_0_1 36 rfl
theorem dX5_read_69 : decode cX5_read 69 = .ok (.ifCond .ne 4, 3) := dcs_at ok41_reader_0_1 37 rfl
theorem dX5_read_72 : decode cX5_read 72 = .ok (.return_, 1) := dcs_at ok41_reader_0_1 38 rfl
theorem dX5_read_73 : decode cX5_read 73 = .ok (.iinc 4 1, 3) := dcs_at ok41_reader_0_1 39 rfl
def tb41_reader_0_2 : List (Nat × (Instr × Nat)) := [(76, (.goto (-35), 3)), (79, (.return_, 1))]
theorem ok41_reader_0_2 : dcs cX5_read tb41_reader_0_2 = true := by decide +kernel
theorem dX5_read_76 : decode cX5_read 76 = .ok (.goto (-35), 3) := dcs_at ok41_reader_0_2 0 rfl
theorem dX5_read_79 : decode cX5_read 79 = .ok (.return_, 1) := dcs_at ok41_reader_0_2 1 rfl
def tb41_reader_0_3 : List (Nat × (Instr × Nat)) := [(0, (.aload_n 0, 1)), (1, (.getfield 59, 3)), (4, (.iconst 1, 1)), (5, (.if_icmp .ne 12, 3)), (8, (.aload_n 0, 1)), (9, (.aload_n 1, 1)), (10, (.iload_n 3, 1)), (11, (.invokevirtual 66, 3)), (14, (.goto 4, 3)), (17, (.iconst (-1), 1)), (18, (.istore 4, 2)), (20, (.iload 4, 2)), (22, (.iconst (-1), 1)), (23, (.if_icmp .ne 8, 3)), (26, (.aload_n 0, 1)), (27, (.invokevirtual 70, 3)), (30, (.ireturn, 1)), (31, (.aload_n 0, 1)), (32, (.iload 4, 2)), (34, (.invokevirtual 74, 3)), (37, (.ifCond .eq 8, 3)), (40, (.aload_n 0, 1)), (41, (.iconst 3, 1)), (42, (.invokevirtual 78, 3)), (45, (.aload_n 0, 1)), (46, (.getfield 32, 3)), (49, (.iconst (-1), 1)), (50, (.invokestatic 82, 3)), (53, (.iconst 0, 1)), (54, (.istore 5, 2)), (56, (.iload 5, 2)), (58, (.getstatic 88, 3)), (61, (.iload 4, 2)), (63, (.iaload, 1)), (64, (.if_icmp .ge 61, 3)), (67, (.iload 5, 2)), (69, (.iconst 3, 1)), (70, (.if_icmp .ge 55, 3)), (73, (.aload_n 0, 1)), (74, (.aload_n 1, 1))]
theorem ok41_reader_0_3 : dcs cX5_readLine tb41_reader_0_3 = true := by decide +kernel
theorem dX5_readLine_0 : decode cX5_readLine 0 = .ok (.aload_n 0, 1) := dcs_at ok41_reader_0_3 0 rfl
theorem dX5_readLine_1 : decode cX5_readLine 1 = .ok (.getfield 59, 3) := dcs_at ok41_reader_0_3 1 rfl
theorem dX5_readLine_4 : decode cX5_readLine 4 = .ok (.iconst 1, 1) := dcs_at ok41_reader_0_3 2 rfl
theorem dX5_readLine_5 : decode cX5_readLine 5 = .ok (.if_icmp .ne 12, 3) := dcs_at ok41_reader_0_3 3 rfl
theorem dX5_readLine_8 : decode cX5_readLine 8 = .ok (.aload_n 0, 1) := dcs_at ok41_reader_0_3 4 rfl
theorem dX5_readLine_9 : decode cX5_readLine 9 = .ok (.aload_n 1, 1) := dcs_at ok41_reader_0_3 5 rfl
theorem dX5_readLine_10 : decode cX5_readLine 10 = .ok (.iload_n 3, 1) := dcs_at ok41_reader_0_3 6 rfl
theorem dX5_readLine_11 : decode cX5_readLine 11 = .ok (.invokevirtual 66, 3) := dcs_at ok41_reader_0_3 7 rfl
theorem dX5_readLine_14 : decode cX5_readLine 14 = .ok (.goto 4, 3) := dcs_at ok41_reader_0_3 8 rfl
theorem dX5_readLine_17 : decode cX5_readLine 17 = .ok (.iconst (-1), 1) := dcs_at ok41_reader_0_3 9 rfl
theorem dX5_readLine_18 : decode cX5_readLine 18 = .ok (.istore 4, 2) := dcs_at ok41_reader_0_3 10 rfl
theorem dX5_readLine_20 : decode cX5_readLine 20 = .ok (.iload 4, 2) := dcs_at ok41_reader_0_3 11 rfl
theorem dX5_readLine_22 : decode cX5_readLine 22 = .ok (.iconst (-1), 1) := dcs_at ok41_reader_0_3 12 rfl
theorem dX5_readLine_23 : decode cX5_readLine 23 = .ok (.if_icmp .ne 8, 3) := dcs_at ok41_reader_0_3 13 rfl
theorem dX5_readLine_26 : decode cX5_readLine 26 = .ok (.aload_n 0, 1) := dcs_at ok41_reader_0_3 14 rfl
theorem dX5_readLine_27 : decode cX5_readLine 27 = .ok (.invokevirtual 70, 3) := dcs_at ok41_reader_0_3 15 rfl
theorem dX5_readLine_30 : decode cX5_readLine 30 = .ok (.ireturn, 1) := dcs_at ok41_reader_0_3 16 rfl
theorem dX5_readLine_31 : decode cX5_readLine 31 = .ok (.aload_n 0, 1) := dcs_at ok41_reader_0_3 17 rfl
theorem dX5_readLine_32 : decode cX5_readLine 32 = .ok (.iload 4, 2) := dcs_at ok41_reader_0_3 18 rfl
theorem dX5_readLine_34 : decode cX5_readLine 34 = .ok (.invokevirtual 74, 3) := dcs_at ok41_reader_0_3 19 rfl
theorem dX5_readLine_37 : decode cX5_readLine 37 = .ok (.ifCond .eq 8, 3) := dcs_at ok41_reader_0_3 20 rfl
theorem dX5_readLine_40 : decode cX5_readLine 40 = .ok (.aload_n 0, 1) := dcs_at ok41_reader_0_3 21 rfl
theorem dX5_readLine_41 : decode cX5_readLine 41 = .ok (.iconst 3, 1) := dcs_at ok41_reader_0_3 22 rfl
theorem dX5_readLine_42 : decode cX5_readLine 42 = .ok (.invokevirtual 78, 3) := dcs_at ok41_reader_0_3 23 rfl
theorem dX5_readLine_45 : decode cX5_readLine 45 = .ok (.aload_n 0, 1) := dcs_at ok41_reader_0_3 24 rfl
theorem dX5_readLine_46 : decode cX5_readLine 46 = .ok (.getfield 32, 3) := dcs_at ok41_reader_0_3 25 rfl
theorem dX5_readLine_49 : decode cX5_readLine 49 = .ok (.iconst (-1), 1) := dcs_at ok41_reader_0_3 26 rfl
theorem dX5_readLine_50 : decode cX5_readLine 50 = .ok (.invokestatic 82, 3) := dcs_at ok41_reader_0_3 27 rfl
theorem dX5_readLine_53 : decode cX5_readLine 53 = .ok (.iconst 0, 1) := dcs_at ok41_reader_0_3 28 rfl
theorem dX5_readLine_54 : decode cX5_readLine 54 = .ok (.istore 5, 2) := dcs_at ok41_reader_0_3 29 rfl
theorem dX5_readLine_56 : decode cX5_readLine 56 = .ok (.iload 5, 2) := dcs_at ok41_reader_0_3 30 rfl
theorem dX5_readLine_58 : decode cX5_readLine 58 = .ok (.getstatic 88, 3) := dcs_at ok41_reader_0_3 31 rfl
theorem dX5_readLine_61 : decode cX5_readLine 61 = .ok (.iload 4, 2) := dcs_at ok41_reader_0_3 32 rfl
theorem dX5_readLine_63 : decode cX5_readLine 63 = .ok (.iaload, 1) := dcs_at ok41_reader_0_3 33 rfl
theorem dX5_readLine_64 : decode cX5_readLine 64 = .ok (.if_icmp .ge 61, 3) := dcs_at ok41_reader_0_3 34 rfl
theorem dX5_readLine_67 : decode cX5_readLine 67 = .ok (.iload 5, 2) := dcs_at ok41_reader_0_3 35 rfl
theorem dX5_readLine_69 : decode cX5_readLine 69 = .ok (.iconst 3, 1) := dcs_at ok41_reader_0_3 36 rfl
theorem dX5_readLine_70 : decode cX5_readLine 70 = .ok (.if_icmp .ge 55, 3) := dcs_at ok41_reader_0_3 37 rfl
theorem dX5_readLine_73 : decode cX5_readLine 73 = .ok (.aload_n 0, 1) := dcs_at ok41_reader_0_3 38 rfl
theorem dX5_readLine_74 : decode cX5_readLine 74 = .ok (.aload_n 1, 1) := dcs_at ok41_reader_0_3 39 rfl
def tb41_reader_0_4 : List (Nat × (Instr × Nat)) := [(75, (.iload_n 2, 1)), (76, (.invokevirtual 55, 3)), (79, (.aload_n 0, 1)), (80, (.getfield 59, 3)), (83, (.iconst 2, 1)), (84, (.if_icmp .eq 8, 3)), (87, (.aload_n 0, 1)), (88, (.invokevirtual 70, 3)), (91, (.ireturn, 1)), (92, (.aload_n 0, 1)), (93, (.getfield 32, 3)), (96, (.iload 5, 2)), (98, (.aload_n 0, 1)), (99, (.getfield 91, 3)), (102, (.iastore, 1)), (103, (.aload_n 0, 1)), (104, (.iload 4, 2)), (106, (.iload 5, 2)), (108, (.invokevirtual 94, 3)), (111, (.ifCond .eq 8, 3)), (114, (.aload_n 0, 1)), (115, (.iconst 2, 1)), (116, (.invokevirtual 78, 3)), (119, (.iinc 5 1, 3)), (122, (.goto (-66), 3)), (125, (.aload_n 0, 1)), (126, (.aload_n 1, 1)), (127, (.iload_n 2, 1)), (128, (.invokevirtual 55, 3)), (131, (.aload_n 0, 1)), (132, (.getfield 59, 3)), (135, (.iconst 3, 1)), (136, (.if_icmp .eq 8, 3)), (139, (.aload_n 0, 1)), (140, (.invokevirtual 70, 3)), (143, (.ireturn, 1)), (144, (.aload_n 0, 1)), (145, (.iload 4, 2)), (147, (.invokevirtual 98, 3)), (150, (.iconst 1, 1))]
theorem ok41_reader_0_4 : dcs cX5_readLine tb41_reader_0_4 = true := by decide +kernel
theorem dX5_readLine_75 : decode cX5_readLine 75 = .ok (.iload_n 2, 1) := dcs_at ok41_reader_0_4 0 rfl
theorem dX5_readLine_76 : decode cX5_readLine 76 = .ok (.invokevirtual 55, 3) := dcs_at ok41_reader_0_4 1 rfl
theorem dX5_readLine_79 : decode cX5_readLine 79 = .ok (.aload_n 0, 1) := dcs_at ok41_reader_0_4 2 rfl
theorem dX5_readLine_80 : decode cX5_readLine 80 = .ok (.getfield 59, 3) := dcs_at ok41_reader_0_4 3 rfl
theorem dX5_readLine_83 : decode cX5_readLine 83 = .ok (.iconst 2, 1) := dcs_at ok41_reader_0_4 4 rfl
theorem dX5_readLine_84 : decode cX5_readLine 84 = .ok (.if_icmp .eq 8, 3) := dcs_at ok41_reader_0_4 5 rfl
theorem dX5_readLine_87 : decode cX5_readLine 87 = .ok (.aload_n 0, 1) := dcs_at ok41_reader_0_4 6 rfl
theorem dX5_readLine_88 : decode cX5_readLine 88 = .ok (.invokevirtual 70, 3) := dcs_at ok41_reader_0_4 7 rfl
theorem dX5_readLine_91 : decode cX5_readLine 91 = .ok (.ireturn, 1) := dcs_at ok41_reader_0_4 8 rfl
theorem dX5_readLine_92 : decode cX5_readLine 92 = .ok (.aload_n 0, 1) := dcs_at ok41_reader_0_4 9 rfl
theorem dX5_readLine_93 : decode cX5_readLine 93 = .ok (.getfield 32, 3) := dcs_at ok41_reader_0_4 10 rfl
theorem dX5_readLine_96 : decode cX5_readLine 96 = .ok (.iload 5, 2) := dcs_at ok41_reader_0_4 11 rfl
theorem dX5_readLine_98 : decode cX5_readLine 98 = .ok (.aload_n 0, 1) := dcs_at ok41_reader_0_4 12 rfl
theorem dX5_readLine_99 : decode cX5_readLine 99 = .ok (.getfield 91, 3) := dcs_at ok41_reader_0_4 13 rfl
theorem dX5_readLine_102 : decode cX5_readLine 102 = .ok (.iastore, 1) := dcs_at ok41_reader_0_4 14 rfl
theorem dX5_readLine_103 : decode cX5_readLine 103 = .ok (.aload_n 0, 1) := dcs_at ok41_reader_0_4 15 rfl
theorem dX5_readLine_104 : decode cX5_readLine 104 = .ok (.iload 4, 2) := dcs_at ok41_reader_0_4 16 rfl
theorem dX5_readLine_106 : decode cX5_readLine 106 = .ok (.iload 5, 2) := dcs_at ok41_reader_0_4 17 rfl
theorem dX5_readLine_108 : decode cX5_readLine 108 = .ok (.invokevirtual 94, 3) := dcs_at ok41_reader_0_4 18 rfl
theorem dX5_readLine_111 : decode cX5_readLine 111 = .ok (.ifCond .eq 8, 3) := dcs_at ok41_reader_0_4 19 rfl
theorem dX5_readLine_114 : decode cX5_readLine 114 = .ok (.aload_n 0, 1) := dcs_at ok41_reader_0_4 20 rfl
theorem dX5_readLine_115 : decode cX5_readLine 115 = .ok (.iconst 2, 1) := dcs_at ok41_reader_0_4 21 rfl
theorem dX5_readLine_116 : decode cX5_readLine 116 = .ok (.invokevirtual 78, 3) := dcs_at ok41_reader_0_4 22 rfl
theorem dX5_readLine_119 : decode cX5_readLine 119 = .ok (.iinc 5 1, 3) := dcs_at ok41_reader_0_4 23 rfl
theorem dX5_readLine_122 : decode cX5_readLine 122 = .ok (.goto (-66), 3) := dcs_at ok41_reader_0_4 24 rfl
theorem dX5_readLine_125 : decode cX5_readLine 125 = .ok (.aload_n 0, 1) := dcs_at ok41_reader_0_4 25 rfl
theorem dX5_readLine_126 : decode cX5_readLine 126 = .ok (.aload_n 1, 1) := dcs_at ok41_reader_0_4 26 rfl
theorem dX5_readLine_127 : decode cX5_readLine 127 = .ok (.iload_n 2, 1) := dcs_at ok41_reader_0_4 27 rfl
theorem dX5_readLine_128 : decode cX5_readLine 128 = .ok (.invokevirtual 55, 3) := dcs_at ok41_reader_0_4 28 rfl
theorem dX5_readLine_131 : decode cX5_readLine 131 = .ok (.aload_n 0, 1) := dcs_at ok41_reader_0_4 29 rfl
theorem dX5_readLine_132 : decode cX5_readLine 132 = .ok (.getfield 59, 3) := dcs_at ok41_reader_0_4 30 rfl
theorem dX5_readLine_135 : decode cX5_readLine 135 = .ok (.iconst 3, 1) := dcs_at ok41_reader_0_4 31 rfl
theorem dX5_readLine_136 : decode cX5_readLine 136 = .ok (.if_icmp .eq 8, 3) := dcs_at ok41_reader_0_4 32 rfl
theorem dX5_readLine_139 : decode cX5_readLine 139 = .ok (.aload_n 0, 1) := dcs_at ok41_reader_0_4 33 rfl
theorem dX5_readLine_140 : decode cX5_readLine 140 = .ok (.invokevirtual 70, 3) := dcs_at ok41_reader_0_4 34 rfl
theorem dX5_readLine_143 : decode cX5_readLine 143 = .ok (.ireturn, 1) := dcs_at ok41_reader_0_4 35 rfl
theorem dX5_readLine_144 : decode cX5_readLine 144 = .ok (.aload_n 0, 1) := dcs_at ok41_reader_0_4 36 rfl
theorem dX5_readLine_145 : decode cX5_readLine 145 = .ok (.iload 4, 2) := dcs_at ok41_reader_0_4 37 rfl
theorem dX5_readLine_147 : decode cX5_readLine 147 = .ok (.invokevirtual 98, 3) := dcs_at ok41_reader_0_4 38 rfl
theorem dX5_readLine_150 : decode cX5_readLine 150 = .ok (.iconst 1, 1) := dcs_at ok41_reader_0_4 39 rfl
def tb41_reader_0_5 : List (Nat × (Instr × Nat)) := [(151, (.ireturn, 1))]
theorem ok41_reader_0_5 : dcs cX5_readLine tb41_reader_0_5 = true := by decide +kernel
theorem dX5_readLine_151 : decode cX5_readLine 151 = .ok (.ireturn, 1) := dcs_at ok41_reader_0_5 0 rfl
def tb41_reader_0_6 : List (Nat × (Instr × Nat)) := [(0, (.aload_n 0, 1)), (1, (.iconst 1, 1)), (2, (.putfield 46, 3)), (5, (.aload_n 0, 1)), (6, (.aload_n 0, 1)), (7, (.getfield 101, 3)), (10, (.putfield 49, 3)), (13, (.iconst 0, 1)), (14, (.ireturn, 1))]
theorem ok41_reader_0_6 : dcs cX5_refuse tb41_reader_0_6 = true := by decide +kernel
theorem dX5_refuse_0 : decode cX5_refuse 0 = .ok (.aload_n 0, 1) := dcs_at ok41_reader_0_6 0 rfl
theorem dX5_refuse_1 : decode cX5_refuse 1 = .ok (.iconst 1, 1) := dcs_at ok41_reader_0_6 1 rfl
theorem dX5_refuse_2 : decode cX5_refuse 2 = .ok (.putfield 46, 3) := dcs_at ok41_reader_0_6 2 rfl
theorem dX5_refuse_5 : decode cX5_refuse 5 = .ok (.aload_n 0, 1) := dcs_at ok41_reader_0_6 3 rfl
theorem dX5_refuse_6 : decode cX5_refuse 6 = .ok (.aload_n 0, 1) := dcs_at ok41_reader_0_6 4 rfl
theorem dX5_refuse_7 : decode cX5_refuse 7 = .ok (.getfield 101, 3) := dcs_at ok41_reader_0_6 5 rfl
theorem dX5_refuse_10 : decode cX5_refuse 10 = .ok (.putfield 49, 3) := dcs_at ok41_reader_0_6 6 rfl
theorem dX5_refuse_13 : decode cX5_refuse 13 = .ok (.iconst 0, 1) := dcs_at ok41_reader_0_6 7 rfl
theorem dX5_refuse_14 : decode cX5_refuse 14 = .ok (.ireturn, 1) := dcs_at ok41_reader_0_6 8 rfl
def tb41_reader_0_7 : List (Nat × (Instr × Nat)) := [(0, (.aload_n 0, 1)), (1, (.getfield 46, 3)), (4, (.ifCond .ne 16, 3)), (7, (.aload_n 0, 1)), (8, (.iload_n 1, 1)), (9, (.putfield 46, 3)), (12, (.aload_n 0, 1)), (13, (.aload_n 0, 1)), (14, (.getfield 101, 3)), (17, (.putfield 49, 3)), (20, (.return_, 1))]
theorem ok41_reader_0_7 : dcs cX5_note tb41_reader_0_7 = true := by decide +kernel
theorem dX5_note_0 : decode cX5_note 0 = .ok (.aload_n 0, 1) := dcs_at ok41_reader_0_7 0 rfl
theorem dX5_note_1 : decode cX5_note 1 = .ok (.getfield 46, 3) := dcs_at ok41_reader_0_7 1 rfl
theorem dX5_note_4 : decode cX5_note 4 = .ok (.ifCond .ne 16, 3) := dcs_at ok41_reader_0_7 2 rfl
theorem dX5_note_7 : decode cX5_note 7 = .ok (.aload_n 0, 1) := dcs_at ok41_reader_0_7 3 rfl
theorem dX5_note_8 : decode cX5_note 8 = .ok (.iload_n 1, 1) := dcs_at ok41_reader_0_7 4 rfl
theorem dX5_note_9 : decode cX5_note 9 = .ok (.putfield 46, 3) := dcs_at ok41_reader_0_7 5 rfl
theorem dX5_note_12 : decode cX5_note 12 = .ok (.aload_n 0, 1) := dcs_at ok41_reader_0_7 6 rfl
theorem dX5_note_13 : decode cX5_note 13 = .ok (.aload_n 0, 1) := dcs_at ok41_reader_0_7 7 rfl
theorem dX5_note_14 : decode cX5_note 14 = .ok (.getfield 101, 3) := dcs_at ok41_reader_0_7 8 rfl
theorem dX5_note_17 : decode cX5_note 17 = .ok (.putfield 49, 3) := dcs_at ok41_reader_0_7 9 rfl
theorem dX5_note_20 : decode cX5_note 20 = .ok (.return_, 1) := dcs_at ok41_reader_0_7 10 rfl
def tb41_reader_0_8 : List (Nat × (Instr × Nat)) := [(0, (.aload_n 0, 1)), (1, (.getfield 52, 3)), (4, (.istore_n 3, 1)), (5, (.iload_n 3, 1)), (6, (.iload_n 2, 1)), (7, (.if_icmp .ge 25, 3)), (10, (.aload_n 1, 1)), (11, (.iload_n 3, 1)), (12, (.baload, 1)), (13, (.bipush 32, 2)), (15, (.if_icmp .eq 11, 3)), (18, (.aload_n 1, 1)), (19, (.iload_n 3, 1)), (20, (.baload, 1)), (21, (.bipush 10, 2)), (23, (.if_icmp .ne 9, 3)), (26, (.iinc 3 1, 3)), (29, (.goto (-24), 3)), (32, (.aload_n 0, 1)), (33, (.iload_n 3, 1)), (34, (.putfield 101, 3)), (37, (.iload_n 3, 1)), (38, (.iload_n 2, 1)), (39, (.if_icmp .lt 11, 3)), (42, (.aload_n 0, 1)), (43, (.iconst 0, 1)), (44, (.putfield 59, 3)), (47, (.goto 137, 3)), (50, (.aload_n 1, 1)), (51, (.iload_n 3, 1)), (52, (.baload, 1)), (53, (.invokestatic 104, 3)), (56, (.ifCond .eq 28, 3)), (59, (.aload_n 0, 1)), (60, (.iconst 1, 1)), (61, (.putfield 59, 3)), (64, (.iload_n 3, 1)), (65, (.iload_n 2, 1)), (66, (.if_icmp .ge 118, 3)), (69, (.aload_n 1, 1))]
theorem ok41_reader_0_8 : dcs cX5_step tb41_reader_0_8 = true := by decide +kernel
theorem dX5_step_0 : decode cX5_step 0 = .ok (.aload_n 0, 1) := dcs_at ok41_reader_0_8 0 rfl
theorem dX5_step_1 : decode cX5_step 1 = .ok (.getfield 52, 3) := dcs_at ok41_reader_0_8 1 rfl
theorem dX5_step_4 : decode cX5_step 4 = .ok (.istore_n 3, 1) := dcs_at ok41_reader_0_8 2 rfl
theorem dX5_step_5 : decode cX5_step 5 = .ok (.iload_n 3, 1) := dcs_at ok41_reader_0_8 3 rfl
theorem dX5_step_6 : decode cX5_step 6 = .ok (.iload_n 2, 1) := dcs_at ok41_reader_0_8 4 rfl
theorem dX5_step_7 : decode cX5_step 7 = .ok (.if_icmp .ge 25, 3) := dcs_at ok41_reader_0_8 5 rfl
theorem dX5_step_10 : decode cX5_step 10 = .ok (.aload_n 1, 1) := dcs_at ok41_reader_0_8 6 rfl
theorem dX5_step_11 : decode cX5_step 11 = .ok (.iload_n 3, 1) := dcs_at ok41_reader_0_8 7 rfl
theorem dX5_step_12 : decode cX5_step 12 = .ok (.baload, 1) := dcs_at ok41_reader_0_8 8 rfl
theorem dX5_step_13 : decode cX5_step 13 = .ok (.bipush 32, 2) := dcs_at ok41_reader_0_8 9 rfl
theorem dX5_step_15 : decode cX5_step 15 = .ok (.if_icmp .eq 11, 3) := dcs_at ok41_reader_0_8 10 rfl
theorem dX5_step_18 : decode cX5_step 18 = .ok (.aload_n 1, 1) := dcs_at ok41_reader_0_8 11 rfl
theorem dX5_step_19 : decode cX5_step 19 = .ok (.iload_n 3, 1) := dcs_at ok41_reader_0_8 12 rfl
theorem dX5_step_20 : decode cX5_step 20 = .ok (.baload, 1) := dcs_at ok41_reader_0_8 13 rfl
theorem dX5_step_21 : decode cX5_step 21 = .ok (.bipush 10, 2) := dcs_at ok41_reader_0_8 14 rfl
theorem dX5_step_23 : decode cX5_step 23 = .ok (.if_icmp .ne 9, 3) := dcs_at ok41_reader_0_8 15 rfl
theorem dX5_step_26 : decode cX5_step 26 = .ok (.iinc 3 1, 3) := dcs_at ok41_reader_0_8 16 rfl
theorem dX5_step_29 : decode cX5_step 29 = .ok (.goto (-24), 3) := dcs_at ok41_reader_0_8 17 rfl
theorem dX5_step_32 : decode cX5_step 32 = .ok (.aload_n 0, 1) := dcs_at ok41_reader_0_8 18 rfl
theorem dX5_step_33 : decode cX5_step 33 = .ok (.iload_n 3, 1) := dcs_at ok41_reader_0_8 19 rfl
theorem dX5_step_34 : decode cX5_step 34 = .ok (.putfield 101, 3) := dcs_at ok41_reader_0_8 20 rfl
theorem dX5_step_37 : decode cX5_step 37 = .ok (.iload_n 3, 1) := dcs_at ok41_reader_0_8 21 rfl
theorem dX5_step_38 : decode cX5_step 38 = .ok (.iload_n 2, 1) := dcs_at ok41_reader_0_8 22 rfl
theorem dX5_step_39 : decode cX5_step 39 = .ok (.if_icmp .lt 11, 3) := dcs_at ok41_reader_0_8 23 rfl
theorem dX5_step_42 : decode cX5_step 42 = .ok (.aload_n 0, 1) := dcs_at ok41_reader_0_8 24 rfl
theorem dX5_step_43 : decode cX5_step 43 = .ok (.iconst 0, 1) := dcs_at ok41_reader_0_8 25 rfl
theorem dX5_step_44 : decode cX5_step 44 = .ok (.putfield 59, 3) := dcs_at ok41_reader_0_8 26 rfl
theorem dX5_step_47 : decode cX5_step 47 = .ok (.goto 137, 3) := dcs_at ok41_reader_0_8 27 rfl
theorem dX5_step_50 : decode cX5_step 50 = .ok (.aload_n 1, 1) := dcs_at ok41_reader_0_8 28 rfl
theorem dX5_step_51 : decode cX5_step 51 = .ok (.iload_n 3, 1) := dcs_at ok41_reader_0_8 29 rfl
theorem dX5_step_52 : decode cX5_step 52 = .ok (.baload, 1) := dcs_at ok41_reader_0_8 30 rfl
theorem dX5_step_53 : decode cX5_step 53 = .ok (.invokestatic 104, 3) := dcs_at ok41_reader_0_8 31 rfl
theorem dX5_step_56 : decode cX5_step 56 = .ok (.ifCond .eq 28, 3) := dcs_at ok41_reader_0_8 32 rfl
theorem dX5_step_59 : decode cX5_step 59 = .ok (.aload_n 0, 1) := dcs_at ok41_reader_0_8 33 rfl
theorem dX5_step_60 : decode cX5_step 60 = .ok (.iconst 1, 1) := dcs_at ok41_reader_0_8 34 rfl
theorem dX5_step_61 : decode cX5_step 61 = .ok (.putfield 59, 3) := dcs_at ok41_reader_0_8 35 rfl
theorem dX5_step_64 : decode cX5_step 64 = .ok (.iload_n 3, 1) := dcs_at ok41_reader_0_8 36 rfl
theorem dX5_step_65 : decode cX5_step 65 = .ok (.iload_n 2, 1) := dcs_at ok41_reader_0_8 37 rfl
theorem dX5_step_66 : decode cX5_step 66 = .ok (.if_icmp .ge 118, 3) := dcs_at ok41_reader_0_8 38 rfl
theorem dX5_step_69 : decode cX5_step 69 = .ok (.aload_n 1, 1) := dcs_at ok41_reader_0_8 39 rfl
def tb41_reader_0_9 : List (Nat × (Instr × Nat)) := [(70, (.iload_n 3, 1)), (71, (.baload, 1)), (72, (.invokestatic 104, 3)), (75, (.ifCond .eq 109, 3)), (78, (.iinc 3 1, 3)), (81, (.goto (-17), 3)), (84, (.aload_n 1, 1)), (85, (.iload_n 3, 1)), (86, (.baload, 1)), (87, (.invokestatic 108, 3)), (90, (.ifCond .eq 74, 3)), (93, (.aload_n 0, 1)), (94, (.iconst 0, 1)), (95, (.putfield 91, 3)), (98, (.iload_n 3, 1)), (99, (.iload_n 2, 1)), (100, (.if_icmp .ge 42, 3)), (103, (.aload_n 1, 1)), (104, (.iload_n 3, 1)), (105, (.baload, 1)), (106, (.invokestatic 108, 3)), (109, (.ifCond .eq 33, 3)), (112, (.aload_n 0, 1)), (113, (.sipush 9999, 3)), (116, (.aload_n 0, 1)), (117, (.getfield 91, 3)), (120, (.bipush 10, 2)), (122, (.imul, 1)), (123, (.aload_n 1, 1)), (124, (.iload_n 3, 1)), (125, (.baload, 1)), (126, (.iadd, 1)), (127, (.bipush 48, 2)), (129, (.isub, 1)), (130, (.invokestatic 111, 3)), (133, (.putfield 91, 3)), (136, (.iinc 3 1, 3)), (139, (.goto (-41), 3)), (142, (.aload_n 0, 1)), (143, (.iload_n 3, 1))]
theorem ok41_reader_0_9 : dcs cX5_step tb41_reader_0_9 = true := by decide +kernel
theorem dX5_step_70 : decode cX5_step 70 = .ok (.iload_n 3, 1) := dcs_at ok41_reader_0_9 0 rfl
theorem dX5_step_71 : decode cX5_step 71 = .ok (.baload, 1) := dcs_at ok41_reader_0_9 1 rfl
theorem dX5_step_72 : decode cX5_step 72 = .ok (.invokestatic 104, 3) := dcs_at ok41_reader_0_9 2 rfl
theorem dX5_step_75 : decode cX5_step 75 = .ok (.ifCond .eq 109, 3) := dcs_at ok41_reader_0_9 3 rfl
theorem dX5_step_78 : decode cX5_step 78 = .ok (.iinc 3 1, 3) := dcs_at ok41_reader_0_9 4 rfl
theorem dX5_step_81 : decode cX5_step 81 = .ok (.goto (-17), 3) := dcs_at ok41_reader_0_9 5 rfl
theorem dX5_step_84 : decode cX5_step 84 = .ok (.aload_n 1, 1) := dcs_at ok41_reader_0_9 6 rfl
theorem dX5_step_85 : decode cX5_step 85 = .ok (.iload_n 3, 1) := dcs_at ok41_reader_0_9 7 rfl
theorem dX5_step_86 : decode cX5_step 86 = .ok (.baload, 1) := dcs_at ok41_reader_0_9 8 rfl
theorem dX5_step_87 : decode cX5_step 87 = .ok (.invokestatic 108, 3) := dcs_at ok41_reader_0_9 9 rfl
theorem dX5_step_90 : decode cX5_step 90 = .ok (.ifCond .eq 74, 3) := dcs_at ok41_reader_0_9 10 rfl
theorem dX5_step_93 : decode cX5_step 93 = .ok (.aload_n 0, 1) := dcs_at ok41_reader_0_9 11 rfl
theorem dX5_step_94 : decode cX5_step 94 = .ok (.iconst 0, 1) := dcs_at ok41_reader_0_9 12 rfl
theorem dX5_step_95 : decode cX5_step 95 = .ok (.putfield 91, 3) := dcs_at ok41_reader_0_9 13 rfl
theorem dX5_step_98 : decode cX5_step 98 = .ok (.iload_n 3, 1) := dcs_at ok41_reader_0_9 14 rfl
theorem dX5_step_99 : decode cX5_step 99 = .ok (.iload_n 2, 1) := dcs_at ok41_reader_0_9 15 rfl
theorem dX5_step_100 : decode cX5_step 100 = .ok (.if_icmp .ge 42, 3) := dcs_at ok41_reader_0_9 16 rfl
theorem dX5_step_103 : decode cX5_step 103 = .ok (.aload_n 1, 1) := dcs_at ok41_reader_0_9 17 rfl
theorem dX5_step_104 : decode cX5_step 104 = .ok (.iload_n 3, 1) := dcs_at ok41_reader_0_9 18 rfl
theorem dX5_step_105 : decode cX5_step 105 = .ok (.baload, 1) := dcs_at ok41_reader_0_9 19 rfl
theorem dX5_step_106 : decode cX5_step 106 = .ok (.invokestatic 108, 3) := dcs_at ok41_reader_0_9 20 rfl
theorem dX5_step_109 : decode cX5_step 109 = .ok (.ifCond .eq 33, 3) := dcs_at ok41_reader_0_9 21 rfl
theorem dX5_step_112 : decode cX5_step 112 = .ok (.aload_n 0, 1) := dcs_at ok41_reader_0_9 22 rfl
theorem dX5_step_113 : decode cX5_step 113 = .ok (.sipush 9999, 3) := dcs_at ok41_reader_0_9 23 rfl
theorem dX5_step_116 : decode cX5_step 116 = .ok (.aload_n 0, 1) := dcs_at ok41_reader_0_9 24 rfl
theorem dX5_step_117 : decode cX5_step 117 = .ok (.getfield 91, 3) := dcs_at ok41_reader_0_9 25 rfl
theorem dX5_step_120 : decode cX5_step 120 = .ok (.bipush 10, 2) := dcs_at ok41_reader_0_9 26 rfl
theorem dX5_step_122 : decode cX5_step 122 = .ok (.imul, 1) := dcs_at ok41_reader_0_9 27 rfl
theorem dX5_step_123 : decode cX5_step 123 = .ok (.aload_n 1, 1) := dcs_at ok41_reader_0_9 28 rfl
theorem dX5_step_124 : decode cX5_step 124 = .ok (.iload_n 3, 1) := dcs_at ok41_reader_0_9 29 rfl
theorem dX5_step_125 : decode cX5_step 125 = .ok (.baload, 1) := dcs_at ok41_reader_0_9 30 rfl
theorem dX5_step_126 : decode cX5_step 126 = .ok (.iadd, 1) := dcs_at ok41_reader_0_9 31 rfl
theorem dX5_step_127 : decode cX5_step 127 = .ok (.bipush 48, 2) := dcs_at ok41_reader_0_9 32 rfl
theorem dX5_step_129 : decode cX5_step 129 = .ok (.isub, 1) := dcs_at ok41_reader_0_9 33 rfl
theorem dX5_step_130 : decode cX5_step 130 = .ok (.invokestatic 111, 3) := dcs_at ok41_reader_0_9 34 rfl
theorem dX5_step_133 : decode cX5_step 133 = .ok (.putfield 91, 3) := dcs_at ok41_reader_0_9 35 rfl
theorem dX5_step_136 : decode cX5_step 136 = .ok (.iinc 3 1, 3) := dcs_at ok41_reader_0_9 36 rfl
theorem dX5_step_139 : decode cX5_step 139 = .ok (.goto (-41), 3) := dcs_at ok41_reader_0_9 37 rfl
theorem dX5_step_142 : decode cX5_step 142 = .ok (.aload_n 0, 1) := dcs_at ok41_reader_0_9 38 rfl
theorem dX5_step_143 : decode cX5_step 143 = .ok (.iload_n 3, 1) := dcs_at ok41_reader_0_9 39 rfl
def tb41_reader_0_10 : List (Nat × (Instr × Nat)) := [(144, (.aload_n 0, 1)), (145, (.getfield 101, 3)), (148, (.isub, 1)), (149, (.iconst 3, 1)), (150, (.if_icmp .gt 7, 3)), (153, (.iconst 2, 1)), (154, (.goto 4, 3)), (157, (.iconst 4, 1)), (158, (.putfield 59, 3)), (161, (.goto 23, 3)), (164, (.aload_n 0, 1)), (165, (.aload_n 1, 1)), (166, (.iload_n 3, 1)), (167, (.baload, 1)), (168, (.bipush 59, 2)), (170, (.if_icmp .ne 7, 3)), (173, (.iconst 3, 1)), (174, (.goto 4, 3)), (177, (.iconst 4, 1)), (178, (.putfield 59, 3)), (181, (.iinc 3 1, 3)), (184, (.aload_n 0, 1)), (185, (.iload_n 3, 1)), (186, (.putfield 52, 3)), (189, (.return_, 1))]
theorem ok41_reader_0_10 : dcs cX5_step tb41_reader_0_10 = true := by decide +kernel
theorem dX5_step_144 : decode cX5_step 144 = .ok (.aload_n 0, 1) := dcs_at ok41_reader_0_10 0 rfl
theorem dX5_step_145 : decode cX5_step 145 = .ok (.getfield 101, 3) := dcs_at ok41_reader_0_10 1 rfl
theorem dX5_step_148 : decode cX5_step 148 = .ok (.isub, 1) := dcs_at ok41_reader_0_10 2 rfl
theorem dX5_step_149 : decode cX5_step 149 = .ok (.iconst 3, 1) := dcs_at ok41_reader_0_10 3 rfl
theorem dX5_step_150 : decode cX5_step 150 = .ok (.if_icmp .gt 7, 3) := dcs_at ok41_reader_0_10 4 rfl
theorem dX5_step_153 : decode cX5_step 153 = .ok (.iconst 2, 1) := dcs_at ok41_reader_0_10 5 rfl
theorem dX5_step_154 : decode cX5_step 154 = .ok (.goto 4, 3) := dcs_at ok41_reader_0_10 6 rfl
theorem dX5_step_157 : decode cX5_step 157 = .ok (.iconst 4, 1) := dcs_at ok41_reader_0_10 7 rfl
theorem dX5_step_158 : decode cX5_step 158 = .ok (.putfield 59, 3) := dcs_at ok41_reader_0_10 8 rfl
theorem dX5_step_161 : decode cX5_step 161 = .ok (.goto 23, 3) := dcs_at ok41_reader_0_10 9 rfl
theorem dX5_step_164 : decode cX5_step 164 = .ok (.aload_n 0, 1) := dcs_at ok41_reader_0_10 10 rfl
theorem dX5_step_165 : decode cX5_step 165 = .ok (.aload_n 1, 1) := dcs_at ok41_reader_0_10 11 rfl
theorem dX5_step_166 : decode cX5_step 166 = .ok (.iload_n 3, 1) := dcs_at ok41_reader_0_10 12 rfl
theorem dX5_step_167 : decode cX5_step 167 = .ok (.baload, 1) := dcs_at ok41_reader_0_10 13 rfl
theorem dX5_step_168 : decode cX5_step 168 = .ok (.bipush 59, 2) := dcs_at ok41_reader_0_10 14 rfl
theorem dX5_step_170 : decode cX5_step 170 = .ok (.if_icmp .ne 7, 3) := dcs_at ok41_reader_0_10 15 rfl
theorem dX5_step_173 : decode cX5_step 173 = .ok (.iconst 3, 1) := dcs_at ok41_reader_0_10 16 rfl
theorem dX5_step_174 : decode cX5_step 174 = .ok (.goto 4, 3) := dcs_at ok41_reader_0_10 17 rfl
theorem dX5_step_177 : decode cX5_step 177 = .ok (.iconst 4, 1) := dcs_at ok41_reader_0_10 18 rfl
theorem dX5_step_178 : decode cX5_step 178 = .ok (.putfield 59, 3) := dcs_at ok41_reader_0_10 19 rfl
theorem dX5_step_181 : decode cX5_step 181 = .ok (.iinc 3 1, 3) := dcs_at ok41_reader_0_10 20 rfl
theorem dX5_step_184 : decode cX5_step 184 = .ok (.aload_n 0, 1) := dcs_at ok41_reader_0_10 21 rfl
theorem dX5_step_185 : decode cX5_step 185 = .ok (.iload_n 3, 1) := dcs_at ok41_reader_0_10 22 rfl
theorem dX5_step_186 : decode cX5_step 186 = .ok (.putfield 52, 3) := dcs_at ok41_reader_0_10 23 rfl
theorem dX5_step_189 : decode cX5_step 189 = .ok (.return_, 1) := dcs_at ok41_reader_0_10 24 rfl
def tb41_reader_0_11 : List (Nat × (Instr × Nat)) := [(0, (.iload_n 0, 1)), (1, (.bipush 97, 2)), (3, (.if_icmp .lt 13, 3)), (6, (.iload_n 0, 1)), (7, (.bipush 122, 2)), (9, (.if_icmp .gt 7, 3)), (12, (.iconst 1, 1)), (13, (.goto 4, 3)), (16, (.iconst 0, 1)), (17, (.ireturn, 1))]
theorem ok41_reader_0_11 : dcs cX5_isLetter tb41_reader_0_11 = true := by decide +kernel
theorem dX5_isLetter_0 : decode cX5_isLetter 0 = .ok (.iload_n 0, 1) := dcs_at ok41_reader_0_11 0 rfl
theorem dX5_isLetter_1 : decode cX5_isLetter 1 = .ok (.bipush 97, 2) := dcs_at ok41_reader_0_11 1 rfl
theorem dX5_isLetter_3 : decode cX5_isLetter 3 = .ok (.if_icmp .lt 13, 3) := dcs_at ok41_reader_0_11 2 rfl
theorem dX5_isLetter_6 : decode cX5_isLetter 6 = .ok (.iload_n 0, 1) := dcs_at ok41_reader_0_11 3 rfl
theorem dX5_isLetter_7 : decode cX5_isLetter 7 = .ok (.bipush 122, 2) := dcs_at ok41_reader_0_11 4 rfl
theorem dX5_isLetter_9 : decode cX5_isLetter 9 = .ok (.if_icmp .gt 7, 3) := dcs_at ok41_reader_0_11 5 rfl
theorem dX5_isLetter_12 : decode cX5_isLetter 12 = .ok (.iconst 1, 1) := dcs_at ok41_reader_0_11 6 rfl
theorem dX5_isLetter_13 : decode cX5_isLetter 13 = .ok (.goto 4, 3) := dcs_at ok41_reader_0_11 7 rfl
theorem dX5_isLetter_16 : decode cX5_isLetter 16 = .ok (.iconst 0, 1) := dcs_at ok41_reader_0_11 8 rfl
theorem dX5_isLetter_17 : decode cX5_isLetter 17 = .ok (.ireturn, 1) := dcs_at ok41_reader_0_11 9 rfl
def tb41_reader_0_12 : List (Nat × (Instr × Nat)) := [(0, (.iload_n 0, 1)), (1, (.bipush 48, 2)), (3, (.if_icmp .lt 13, 3)), (6, (.iload_n 0, 1)), (7, (.bipush 57, 2)), (9, (.if_icmp .gt 7, 3)), (12, (.iconst 1, 1)), (13, (.goto 4, 3)), (16, (.iconst 0, 1)), (17, (.ireturn, 1))]
theorem ok41_reader_0_12 : dcs cX5_isDigit tb41_reader_0_12 = true := by decide +kernel
theorem dX5_isDigit_0 : decode cX5_isDigit 0 = .ok (.iload_n 0, 1) := dcs_at ok41_reader_0_12 0 rfl
theorem dX5_isDigit_1 : decode cX5_isDigit 1 = .ok (.bipush 48, 2) := dcs_at ok41_reader_0_12 1 rfl
theorem dX5_isDigit_3 : decode cX5_isDigit 3 = .ok (.if_icmp .lt 13, 3) := dcs_at ok41_reader_0_12 2 rfl
theorem dX5_isDigit_6 : decode cX5_isDigit 6 = .ok (.iload_n 0, 1) := dcs_at ok41_reader_0_12 3 rfl
theorem dX5_isDigit_7 : decode cX5_isDigit 7 = .ok (.bipush 57, 2) := dcs_at ok41_reader_0_12 4 rfl
theorem dX5_isDigit_9 : decode cX5_isDigit 9 = .ok (.if_icmp .gt 7, 3) := dcs_at ok41_reader_0_12 5 rfl
theorem dX5_isDigit_12 : decode cX5_isDigit 12 = .ok (.iconst 1, 1) := dcs_at ok41_reader_0_12 6 rfl
theorem dX5_isDigit_13 : decode cX5_isDigit 13 = .ok (.goto 4, 3) := dcs_at ok41_reader_0_12 7 rfl
theorem dX5_isDigit_16 : decode cX5_isDigit 16 = .ok (.iconst 0, 1) := dcs_at ok41_reader_0_12 8 rfl
theorem dX5_isDigit_17 : decode cX5_isDigit 17 = .ok (.ireturn, 1) := dcs_at ok41_reader_0_12 9 rfl
def tb41_reader_0_13 : List (Nat × (Instr × Nat)) := [(0, (.iload_n 2, 1)), (1, (.ifCond .lt 13, 3)), (4, (.iload_n 2, 1)), (5, (.iconst 1, 1)), (6, (.iadd, 1)), (7, (.getstatic 117, 3)), (10, (.arraylength, 1)), (11, (.if_icmp .lt 5, 3)), (16, (.getstatic 117, 3)), (19, (.iload_n 2, 1)), (20, (.iaload, 1)), (21, (.istore_n 3, 1)), (22, (.iload_n 3, 1)), (23, (.getstatic 117, 3)), (26, (.iload_n 2, 1)), (27, (.iconst 1, 1)), (28, (.iadd, 1)), (29, (.iaload, 1)), (30, (.if_icmp .ge 23, 3)), (33, (.aload_n 0, 1)), (34, (.aload_n 1, 1)), (35, (.iload_n 3, 1)), (36, (.invokestatic 120, 3)), (39, (.invokevirtual 124, 3)), (42, (.ifCond .eq 5, 3)), (45, (.iload_n 3, 1)), (46, (.ireturn, 1)), (47, (.iinc 3 1, 3)), (50, (.goto (-28), 3)), (53, (.iconst (-1), 1)), (54, (.ireturn, 1))]
theorem ok41_reader_0_13 : dcs cX5_kindOf tb41_reader_0_13 = true := by decide +kernel
theorem dX5_kindOf_0 : decode cX5_kindOf 0 = .ok (.iload_n 2, 1) := dcs_at ok41_reader_0_13 0 rfl
theorem dX5_kindOf_1 : decode cX5_kindOf 1 = .ok (.ifCond .lt 13, 3) := dcs_at ok41_reader_0_13 1 rfl
theorem dX5_kindOf_4 : decode cX5_kindOf 4 = .ok (.iload_n 2, 1) := dcs_at ok41_reader_0_13 2 rfl
theorem dX5_kindOf_5 : decode cX5_kindOf 5 = .ok (.iconst 1, 1) := dcs_at ok41_reader_0_13 3 rfl
theorem dX5_kindOf_6 : decode cX5_kindOf 6 = .ok (.iadd, 1) := dcs_at ok41_reader_0_13 4 rfl
theorem dX5_kindOf_7 : decode cX5_kindOf 7 = .ok (.getstatic 117, 3) := dcs_at ok41_reader_0_13 5 rfl
theorem dX5_kindOf_10 : decode cX5_kindOf 10 = .ok (.arraylength, 1) := dcs_at ok41_reader_0_13 6 rfl
theorem dX5_kindOf_11 : decode cX5_kindOf 11 = .ok (.if_icmp .lt 5, 3) := dcs_at ok41_reader_0_13 7 rfl
theorem dX5_kindOf_16 : decode cX5_kindOf 16 = .ok (.getstatic 117, 3) := dcs_at ok41_reader_0_13 8 rfl
theorem dX5_kindOf_19 : decode cX5_kindOf 19 = .ok (.iload_n 2, 1) := dcs_at ok41_reader_0_13 9 rfl
theorem dX5_kindOf_20 : decode cX5_kindOf 20 = .ok (.iaload, 1) := dcs_at ok41_reader_0_13 10 rfl
theorem dX5_kindOf_21 : decode cX5_kindOf 21 = .ok (.istore_n 3, 1) := dcs_at ok41_reader_0_13 11 rfl
theorem dX5_kindOf_22 : decode cX5_kindOf 22 = .ok (.iload_n 3, 1) := dcs_at ok41_reader_0_13 12 rfl
theorem dX5_kindOf_23 : decode cX5_kindOf 23 = .ok (.getstatic 117, 3) := dcs_at ok41_reader_0_13 13 rfl
theorem dX5_kindOf_26 : decode cX5_kindOf 26 = .ok (.iload_n 2, 1) := dcs_at ok41_reader_0_13 14 rfl
theorem dX5_kindOf_27 : decode cX5_kindOf 27 = .ok (.iconst 1, 1) := dcs_at ok41_reader_0_13 15 rfl
theorem dX5_kindOf_28 : decode cX5_kindOf 28 = .ok (.iadd, 1) := dcs_at ok41_reader_0_13 16 rfl
theorem dX5_kindOf_29 : decode cX5_kindOf 29 = .ok (.iaload, 1) := dcs_at ok41_reader_0_13 17 rfl
theorem dX5_kindOf_30 : decode cX5_kindOf 30 = .ok (.if_icmp .ge 23, 3) := dcs_at ok41_reader_0_13 18 rfl
theorem dX5_kindOf_33 : decode cX5_kindOf 33 = .ok (.aload_n 0, 1) := dcs_at ok41_reader_0_13 19 rfl
theorem dX5_kindOf_34 : decode cX5_kindOf 34 = .ok (.aload_n 1, 1) := dcs_at ok41_reader_0_13 20 rfl
theorem dX5_kindOf_35 : decode cX5_kindOf 35 = .ok (.iload_n 3, 1) := dcs_at ok41_reader_0_13 21 rfl
theorem dX5_kindOf_36 : decode cX5_kindOf 36 = .ok (.invokestatic 120, 3) := dcs_at ok41_reader_0_13 22 rfl
theorem dX5_kindOf_39 : decode cX5_kindOf 39 = .ok (.invokevirtual 124, 3) := dcs_at ok41_reader_0_13 23 rfl
theorem dX5_kindOf_42 : decode cX5_kindOf 42 = .ok (.ifCond .eq 5, 3) := dcs_at ok41_reader_0_13 24 rfl
theorem dX5_kindOf_45 : decode cX5_kindOf 45 = .ok (.iload_n 3, 1) := dcs_at ok41_reader_0_13 25 rfl
theorem dX5_kindOf_46 : decode cX5_kindOf 46 = .ok (.ireturn, 1) := dcs_at ok41_reader_0_13 26 rfl
theorem dX5_kindOf_47 : decode cX5_kindOf 47 = .ok (.iinc 3 1, 3) := dcs_at ok41_reader_0_13 27 rfl
theorem dX5_kindOf_50 : decode cX5_kindOf 50 = .ok (.goto (-28), 3) := dcs_at ok41_reader_0_13 28 rfl
theorem dX5_kindOf_53 : decode cX5_kindOf 53 = .ok (.iconst (-1), 1) := dcs_at ok41_reader_0_13 29 rfl
theorem dX5_kindOf_54 : decode cX5_kindOf 54 = .ok (.ireturn, 1) := dcs_at ok41_reader_0_13 30 rfl
def tb41_reader_0_14 : List (Nat × (Instr × Nat)) := [(0, (.aload_n 0, 1)), (1, (.getfield 52, 3)), (4, (.aload_n 0, 1)), (5, (.getfield 101, 3)), (8, (.isub, 1)), (9, (.aload_n 2, 1)), (10, (.invokevirtual 128, 3)), (13, (.if_icmp .eq 5, 3)), (16, (.iconst 0, 1)), (17, (.ireturn, 1)), (18, (.iconst 0, 1)), (19, (.istore_n 3, 1)), (20, (.iload_n 3, 1)), (21, (.aload_n 2, 1)), (22, (.invokevirtual 128, 3)), (25, (.if_icmp .ge 27, 3)), (28, (.aload_n 1, 1)), (29, (.aload_n 0, 1)), (30, (.getfield 101, 3)), (33, (.iload_n 3, 1)), (34, (.iadd, 1)), (35, (.baload, 1)), (36, (.aload_n 2, 1)), (37, (.iload_n 3, 1)), (38, (.invokevirtual 134, 3)), (41, (.if_icmp .eq 5, 3)), (44, (.iconst 0, 1)), (45, (.ireturn, 1)), (46, (.iinc 3 1, 3)), (49, (.goto (-29), 3)), (52, (.iconst 1, 1)), (53, (.ireturn, 1))]
theorem ok41_reader_0_14 : dcs cX5_spells tb41_reader_0_14 = true := by decide +kernel
theorem dX5_spells_0 : decode cX5_spells 0 = .ok (.aload_n 0, 1) := dcs_at ok41_reader_0_14 0 rfl
theorem dX5_spells_1 : decode cX5_spells 1 = .ok (.getfield 52, 3) := dcs_at ok41_reader_0_14 1 rfl
theorem dX5_spells_4 : decode cX5_spells 4 = .ok (.aload_n 0, 1) := dcs_at ok41_reader_0_14 2 rfl
theorem dX5_spells_5 : decode cX5_spells 5 = .ok (.getfield 101, 3) := dcs_at ok41_reader_0_14 3 rfl
theorem dX5_spells_8 : decode cX5_spells 8 = .ok (.isub, 1) := dcs_at ok41_reader_0_14 4 rfl
theorem dX5_spells_9 : decode cX5_spells 9 = .ok (.aload_n 2, 1) := dcs_at ok41_reader_0_14 5 rfl
theorem dX5_spells_10 : decode cX5_spells 10 = .ok (.invokevirtual 128, 3) := dcs_at ok41_reader_0_14 6 rfl
theorem dX5_spells_13 : decode cX5_spells 13 = .ok (.if_icmp .eq 5, 3) := dcs_at ok41_reader_0_14 7 rfl
theorem dX5_spells_16 : decode cX5_spells 16 = .ok (.iconst 0, 1) := dcs_at ok41_reader_0_14 8 rfl
theorem dX5_spells_17 : decode cX5_spells 17 = .ok (.ireturn, 1) := dcs_at ok41_reader_0_14 9 rfl
theorem dX5_spells_18 : decode cX5_spells 18 = .ok (.iconst 0, 1) := dcs_at ok41_reader_0_14 10 rfl
theorem dX5_spells_19 : decode cX5_spells 19 = .ok (.istore_n 3, 1) := dcs_at ok41_reader_0_14 11 rfl
theorem dX5_spells_20 : decode cX5_spells 20 = .ok (.iload_n 3, 1) := dcs_at ok41_reader_0_14 12 rfl
theorem dX5_spells_21 : decode cX5_spells 21 = .ok (.aload_n 2, 1) := dcs_at ok41_reader_0_14 13 rfl
theorem dX5_spells_22 : decode cX5_spells 22 = .ok (.invokevirtual 128, 3) := dcs_at ok41_reader_0_14 14 rfl
theorem dX5_spells_25 : decode cX5_spells 25 = .ok (.if_icmp .ge 27, 3) := dcs_at ok41_reader_0_14 15 rfl
theorem dX5_spells_28 : decode cX5_spells 28 = .ok (.aload_n 1, 1) := dcs_at ok41_reader_0_14 16 rfl
theorem dX5_spells_29 : decode cX5_spells 29 = .ok (.aload_n 0, 1) := dcs_at ok41_reader_0_14 17 rfl
theorem dX5_spells_30 : decode cX5_spells 30 = .ok (.getfield 101, 3) := dcs_at ok41_reader_0_14 18 rfl
theorem dX5_spells_33 : decode cX5_spells 33 = .ok (.iload_n 3, 1) := dcs_at ok41_reader_0_14 19 rfl
theorem dX5_spells_34 : decode cX5_spells 34 = .ok (.iadd, 1) := dcs_at ok41_reader_0_14 20 rfl
theorem dX5_spells_35 : decode cX5_spells 35 = .ok (.baload, 1) := dcs_at ok41_reader_0_14 21 rfl
theorem dX5_spells_36 : decode cX5_spells 36 = .ok (.aload_n 2, 1) := dcs_at ok41_reader_0_14 22 rfl
theorem dX5_spells_37 : decode cX5_spells 37 = .ok (.iload_n 3, 1) := dcs_at ok41_reader_0_14 23 rfl
theorem dX5_spells_38 : decode cX5_spells 38 = .ok (.invokevirtual 134, 3) := dcs_at ok41_reader_0_14 24 rfl
theorem dX5_spells_41 : decode cX5_spells 41 = .ok (.if_icmp .eq 5, 3) := dcs_at ok41_reader_0_14 25 rfl
theorem dX5_spells_44 : decode cX5_spells 44 = .ok (.iconst 0, 1) := dcs_at ok41_reader_0_14 26 rfl
theorem dX5_spells_45 : decode cX5_spells 45 = .ok (.ireturn, 1) := dcs_at ok41_reader_0_14 27 rfl
theorem dX5_spells_46 : decode cX5_spells 46 = .ok (.iinc 3 1, 3) := dcs_at ok41_reader_0_14 28 rfl
theorem dX5_spells_49 : decode cX5_spells 49 = .ok (.goto (-29), 3) := dcs_at ok41_reader_0_14 29 rfl
theorem dX5_spells_52 : decode cX5_spells 52 = .ok (.iconst 1, 1) := dcs_at ok41_reader_0_14 30 rfl
theorem dX5_spells_53 : decode cX5_spells 53 = .ok (.ireturn, 1) := dcs_at ok41_reader_0_14 31 rfl
def tb41_reader_0_15 : List (Nat × (Instr × Nat)) := [(0, (.iload_n 0, 1)), (1, (.tableswitch 106 0 12 #[67, 70, 73, 76, 79, 82, 85, 88, 91, 94, 97, 100, 103], 67)), (68, (.ldc 138, 2)), (70, (.areturn, 1)), (71, (.ldc 140, 2)), (73, (.areturn, 1)), (74, (.ldc 142, 2)), (76, (.areturn, 1)), (77, (.ldc 144, 2)), (79, (.areturn, 1)), (80, (.ldc 146, 2)), (82, (.areturn, 1)), (83, (.ldc 148, 2)), (85, (.areturn, 1)), (86, (.ldc 150, 2)), (88, (.areturn, 1)), (89, (.ldc 152, 2)), (91, (.areturn, 1)), (92, (.ldc 154, 2)), (94, (.areturn, 1)), (95, (.ldc 156, 2)), (97, (.areturn, 1)), (98, (.ldc 158, 2)), (100, (.areturn, 1)), (101, (.ldc 160, 2)), (103, (.areturn, 1)), (104, (.ldc 162, 2)), (106, (.areturn, 1)), (107, (.ldc 164, 2)), (109, (.areturn, 1))]
theorem ok41_reader_0_15 : dcs cX5_wordOf tb41_reader_0_15 = true := by decide +kernel
theorem dX5_wordOf_0 : decode cX5_wordOf 0 = .ok (.iload_n 0, 1) := dcs_at ok41_reader_0_15 0 rfl
theorem dX5_wordOf_1 : decode cX5_wordOf 1 = .ok (.tableswitch 106 0 12 #[67, 70, 73, 76, 79, 82, 85, 88, 91, 94, 97, 100, 103], 67) := dcs_at ok41_reader_0_15 1 rfl
theorem dX5_wordOf_68 : decode cX5_wordOf 68 = .ok (.ldc 138, 2) := dcs_at ok41_reader_0_15 2 rfl
theorem dX5_wordOf_70 : decode cX5_wordOf 70 = .ok (.areturn, 1) := dcs_at ok41_reader_0_15 3 rfl
theorem dX5_wordOf_71 : decode cX5_wordOf 71 = .ok (.ldc 140, 2) := dcs_at ok41_reader_0_15 4 rfl
theorem dX5_wordOf_73 : decode cX5_wordOf 73 = .ok (.areturn, 1) := dcs_at ok41_reader_0_15 5 rfl
theorem dX5_wordOf_74 : decode cX5_wordOf 74 = .ok (.ldc 142, 2) := dcs_at ok41_reader_0_15 6 rfl
theorem dX5_wordOf_76 : decode cX5_wordOf 76 = .ok (.areturn, 1) := dcs_at ok41_reader_0_15 7 rfl
theorem dX5_wordOf_77 : decode cX5_wordOf 77 = .ok (.ldc 144, 2) := dcs_at ok41_reader_0_15 8 rfl
theorem dX5_wordOf_79 : decode cX5_wordOf 79 = .ok (.areturn, 1) := dcs_at ok41_reader_0_15 9 rfl
theorem dX5_wordOf_80 : decode cX5_wordOf 80 = .ok (.ldc 146, 2) := dcs_at ok41_reader_0_15 10 rfl
theorem dX5_wordOf_82 : decode cX5_wordOf 82 = .ok (.areturn, 1) := dcs_at ok41_reader_0_15 11 rfl
theorem dX5_wordOf_83 : decode cX5_wordOf 83 = .ok (.ldc 148, 2) := dcs_at ok41_reader_0_15 12 rfl
theorem dX5_wordOf_85 : decode cX5_wordOf 85 = .ok (.areturn, 1) := dcs_at ok41_reader_0_15 13 rfl
theorem dX5_wordOf_86 : decode cX5_wordOf 86 = .ok (.ldc 150, 2) := dcs_at ok41_reader_0_15 14 rfl
theorem dX5_wordOf_88 : decode cX5_wordOf 88 = .ok (.areturn, 1) := dcs_at ok41_reader_0_15 15 rfl
theorem dX5_wordOf_89 : decode cX5_wordOf 89 = .ok (.ldc 152, 2) := dcs_at ok41_reader_0_15 16 rfl
theorem dX5_wordOf_91 : decode cX5_wordOf 91 = .ok (.areturn, 1) := dcs_at ok41_reader_0_15 17 rfl
theorem dX5_wordOf_92 : decode cX5_wordOf 92 = .ok (.ldc 154, 2) := dcs_at ok41_reader_0_15 18 rfl
theorem dX5_wordOf_94 : decode cX5_wordOf 94 = .ok (.areturn, 1) := dcs_at ok41_reader_0_15 19 rfl
theorem dX5_wordOf_95 : decode cX5_wordOf 95 = .ok (.ldc 156, 2) := dcs_at ok41_reader_0_15 20 rfl
theorem dX5_wordOf_97 : decode cX5_wordOf 97 = .ok (.areturn, 1) := dcs_at ok41_reader_0_15 21 rfl
theorem dX5_wordOf_98 : decode cX5_wordOf 98 = .ok (.ldc 158, 2) := dcs_at ok41_reader_0_15 22 rfl
theorem dX5_wordOf_100 : decode cX5_wordOf 100 = .ok (.areturn, 1) := dcs_at ok41_reader_0_15 23 rfl
theorem dX5_wordOf_101 : decode cX5_wordOf 101 = .ok (.ldc 160, 2) := dcs_at ok41_reader_0_15 24 rfl
theorem dX5_wordOf_103 : decode cX5_wordOf 103 = .ok (.areturn, 1) := dcs_at ok41_reader_0_15 25 rfl
theorem dX5_wordOf_104 : decode cX5_wordOf 104 = .ok (.ldc 162, 2) := dcs_at ok41_reader_0_15 26 rfl
theorem dX5_wordOf_106 : decode cX5_wordOf 106 = .ok (.areturn, 1) := dcs_at ok41_reader_0_15 27 rfl
theorem dX5_wordOf_107 : decode cX5_wordOf 107 = .ok (.ldc 164, 2) := dcs_at ok41_reader_0_15 28 rfl
theorem dX5_wordOf_109 : decode cX5_wordOf 109 = .ok (.areturn, 1) := dcs_at ok41_reader_0_15 29 rfl
def tb41_reader_0_16 : List (Nat × (Instr × Nat)) := [(0, (.iload_n 1, 1)), (1, (.tableswitch 143 0 13 #[71, 88, 106, 123, 123, 123, 143, 143, 143, 143, 143, 143, 143, 125], 71)), (72, (.aload_n 0, 1)), (73, (.getfield 12, 3)), (76, (.getfield 166, 3)), (79, (.iconst 5, 1)), (80, (.if_icmp .lt 7, 3)), (83, (.iconst 1, 1)), (84, (.goto 4, 3)), (87, (.iconst 0, 1)), (88, (.ireturn, 1)), (89, (.aload_n 0, 1)), (90, (.getfield 12, 3)), (93, (.getfield 169, 3)), (96, (.bipush 6, 2)), (98, (.if_icmp .lt 7, 3)), (101, (.iconst 1, 1)), (102, (.goto 4, 3)), (105, (.iconst 0, 1)), (106, (.ireturn, 1)), (107, (.aload_n 0, 1)), (108, (.getfield 12, 3)), (111, (.getfield 172, 3)), (114, (.iconst 4, 1)), (115, (.if_icmp .lt 7, 3)), (118, (.iconst 1, 1)), (119, (.goto 4, 3)), (122, (.iconst 0, 1)), (123, (.ireturn, 1)), (124, (.iconst 0, 1)), (125, (.ireturn, 1)), (126, (.aload_n 0, 1)), (127, (.getfield 28, 3)), (130, (.getfield 43, 3)), (133, (.bipush 6, 2)), (135, (.if_icmp .lt 7, 3)), (138, (.iconst 1, 1)), (139, (.goto 4, 3)), (142, (.iconst 0, 1)), (143, (.ireturn, 1))]
theorem ok41_reader_0_16 : dcs cX5_isFull tb41_reader_0_16 = true := by decide +kernel
theorem dX5_isFull_0 : decode cX5_isFull 0 = .ok (.iload_n 1, 1) := dcs_at ok41_reader_0_16 0 rfl
theorem dX5_isFull_1 : decode cX5_isFull 1 = .ok (.tableswitch 143 0 13 #[71, 88, 106, 123, 123, 123, 143, 143, 143, 143, 143, 143, 143, 125], 71) := dcs_at ok41_reader_0_16 1 rfl
theorem dX5_isFull_72 : decode cX5_isFull 72 = .ok (.aload_n 0, 1) := dcs_at ok41_reader_0_16 2 rfl
theorem dX5_isFull_73 : decode cX5_isFull 73 = .ok (.getfield 12, 3) := dcs_at ok41_reader_0_16 3 rfl
theorem dX5_isFull_76 : decode cX5_isFull 76 = .ok (.getfield 166, 3) := dcs_at ok41_reader_0_16 4 rfl
theorem dX5_isFull_79 : decode cX5_isFull 79 = .ok (.iconst 5, 1) := dcs_at ok41_reader_0_16 5 rfl
theorem dX5_isFull_80 : decode cX5_isFull 80 = .ok (.if_icmp .lt 7, 3) := dcs_at ok41_reader_0_16 6 rfl
theorem dX5_isFull_83 : decode cX5_isFull 83 = .ok (.iconst 1, 1) := dcs_at ok41_reader_0_16 7 rfl
theorem dX5_isFull_84 : decode cX5_isFull 84 = .ok (.goto 4, 3) := dcs_at ok41_reader_0_16 8 rfl
theorem dX5_isFull_87 : decode cX5_isFull 87 = .ok (.iconst 0, 1) := dcs_at ok41_reader_0_16 9 rfl
theorem dX5_isFull_88 : decode cX5_isFull 88 = .ok (.ireturn, 1) := dcs_at ok41_reader_0_16 10 rfl
theorem dX5_isFull_89 : decode cX5_isFull 89 = .ok (.aload_n 0, 1) := dcs_at ok41_reader_0_16 11 rfl
theorem dX5_isFull_90 : decode cX5_isFull 90 = .ok (.getfield 12, 3) := dcs_at ok41_reader_0_16 12 rfl
theorem dX5_isFull_93 : decode cX5_isFull 93 = .ok (.getfield 169, 3) := dcs_at ok41_reader_0_16 13 rfl
theorem dX5_isFull_96 : decode cX5_isFull 96 = .ok (.bipush 6, 2) := dcs_at ok41_reader_0_16 14 rfl
theorem dX5_isFull_98 : decode cX5_isFull 98 = .ok (.if_icmp .lt 7, 3) := dcs_at ok41_reader_0_16 15 rfl
theorem dX5_isFull_101 : decode cX5_isFull 101 = .ok (.iconst 1, 1) := dcs_at ok41_reader_0_16 16 rfl
theorem dX5_isFull_102 : decode cX5_isFull 102 = .ok (.goto 4, 3) := dcs_at ok41_reader_0_16 17 rfl
theorem dX5_isFull_105 : decode cX5_isFull 105 = .ok (.iconst 0, 1) := dcs_at ok41_reader_0_16 18 rfl
theorem dX5_isFull_106 : decode cX5_isFull 106 = .ok (.ireturn, 1) := dcs_at ok41_reader_0_16 19 rfl
theorem dX5_isFull_107 : decode cX5_isFull 107 = .ok (.aload_n 0, 1) := dcs_at ok41_reader_0_16 20 rfl
theorem dX5_isFull_108 : decode cX5_isFull 108 = .ok (.getfield 12, 3) := dcs_at ok41_reader_0_16 21 rfl
theorem dX5_isFull_111 : decode cX5_isFull 111 = .ok (.getfield 172, 3) := dcs_at ok41_reader_0_16 22 rfl
theorem dX5_isFull_114 : decode cX5_isFull 114 = .ok (.iconst 4, 1) := dcs_at ok41_reader_0_16 23 rfl
theorem dX5_isFull_115 : decode cX5_isFull 115 = .ok (.if_icmp .lt 7, 3) := dcs_at ok41_reader_0_16 24 rfl
theorem dX5_isFull_118 : decode cX5_isFull 118 = .ok (.iconst 1, 1) := dcs_at ok41_reader_0_16 25 rfl
theorem dX5_isFull_119 : decode cX5_isFull 119 = .ok (.goto 4, 3) := dcs_at ok41_reader_0_16 26 rfl
theorem dX5_isFull_122 : decode cX5_isFull 122 = .ok (.iconst 0, 1) := dcs_at ok41_reader_0_16 27 rfl
theorem dX5_isFull_123 : decode cX5_isFull 123 = .ok (.ireturn, 1) := dcs_at ok41_reader_0_16 28 rfl
theorem dX5_isFull_124 : decode cX5_isFull 124 = .ok (.iconst 0, 1) := dcs_at ok41_reader_0_16 29 rfl
theorem dX5_isFull_125 : decode cX5_isFull 125 = .ok (.ireturn, 1) := dcs_at ok41_reader_0_16 30 rfl
theorem dX5_isFull_126 : decode cX5_isFull 126 = .ok (.aload_n 0, 1) := dcs_at ok41_reader_0_16 31 rfl
theorem dX5_isFull_127 : decode cX5_isFull 127 = .ok (.getfield 28, 3) := dcs_at ok41_reader_0_16 32 rfl
theorem dX5_isFull_130 : decode cX5_isFull 130 = .ok (.getfield 43, 3) := dcs_at ok41_reader_0_16 33 rfl
theorem dX5_isFull_133 : decode cX5_isFull 133 = .ok (.bipush 6, 2) := dcs_at ok41_reader_0_16 34 rfl
theorem dX5_isFull_135 : decode cX5_isFull 135 = .ok (.if_icmp .lt 7, 3) := dcs_at ok41_reader_0_16 35 rfl
theorem dX5_isFull_138 : decode cX5_isFull 138 = .ok (.iconst 1, 1) := dcs_at ok41_reader_0_16 36 rfl
theorem dX5_isFull_139 : decode cX5_isFull 139 = .ok (.goto 4, 3) := dcs_at ok41_reader_0_16 37 rfl
theorem dX5_isFull_142 : decode cX5_isFull 142 = .ok (.iconst 0, 1) := dcs_at ok41_reader_0_16 38 rfl
theorem dX5_isFull_143 : decode cX5_isFull 143 = .ok (.ireturn, 1) := dcs_at ok41_reader_0_16 39 rfl
def tb41_reader_0_17 : List (Nat × (Instr × Nat)) := [(144, (.aload_n 0, 1)), (145, (.getfield 21, 3)), (148, (.getfield 39, 3)), (151, (.bipush 30, 2)), (153, (.if_icmp .lt 7, 3)), (156, (.iconst 1, 1)), (157, (.goto 4, 3)), (160, (.iconst 0, 1)), (161, (.ireturn, 1))]
theorem ok41_reader_0_17 : dcs cX5_isFull tb41_reader_0_17 = true := by decide +kernel
theorem dX5_isFull_144 : decode cX5_isFull 144 = .ok (.aload_n 0, 1) := dcs_at ok41_reader_0_17 0 rfl
theorem dX5_isFull_145 : decode cX5_isFull 145 = .ok (.getfield 21, 3) := dcs_at ok41_reader_0_17 1 rfl
theorem dX5_isFull_148 : decode cX5_isFull 148 = .ok (.getfield 39, 3) := dcs_at ok41_reader_0_17 2 rfl
theorem dX5_isFull_151 : decode cX5_isFull 151 = .ok (.bipush 30, 2) := dcs_at ok41_reader_0_17 3 rfl
theorem dX5_isFull_153 : decode cX5_isFull 153 = .ok (.if_icmp .lt 7, 3) := dcs_at ok41_reader_0_17 4 rfl
theorem dX5_isFull_156 : decode cX5_isFull 156 = .ok (.iconst 1, 1) := dcs_at ok41_reader_0_17 5 rfl
theorem dX5_isFull_157 : decode cX5_isFull 157 = .ok (.goto 4, 3) := dcs_at ok41_reader_0_17 6 rfl
theorem dX5_isFull_160 : decode cX5_isFull 160 = .ok (.iconst 0, 1) := dcs_at ok41_reader_0_17 7 rfl
theorem dX5_isFull_161 : decode cX5_isFull 161 = .ok (.ireturn, 1) := dcs_at ok41_reader_0_17 8 rfl
def tb41_reader_0_18 : List (Nat × (Instr × Nat)) := [(0, (.aload_n 0, 1)), (1, (.getfield 32, 3)), (4, (.iload_n 2, 1)), (5, (.iaload, 1)), (6, (.istore_n 3, 1)), (7, (.iload_n 3, 1)), (8, (.getstatic 175, 3)), (11, (.iload_n 1, 1)), (12, (.iconst 3, 1)), (13, (.imul, 1)), (14, (.iload_n 2, 1)), (15, (.iadd, 1)), (16, (.iaload, 1)), (17, (.if_icmp .lt 16, 3)), (20, (.iload_n 3, 1)), (21, (.getstatic 178, 3)), (24, (.iload_n 1, 1)), (25, (.iconst 3, 1)), (26, (.imul, 1)), (27, (.iload_n 2, 1)), (28, (.iadd, 1)), (29, (.iaload, 1)), (30, (.if_icmp .le 5, 3)), (33, (.iconst 1, 1)), (34, (.ireturn, 1)), (35, (.iload_n 2, 1)), (36, (.iconst 1, 1)), (37, (.if_icmp .eq 5, 3)), (40, (.iconst 0, 1)), (41, (.ireturn, 1)), (42, (.iload_n 1, 1)), (43, (.iconst 2, 1)), (44, (.if_icmp .ne 19, 3)), (47, (.iload_n 3, 1)), (48, (.aload_n 0, 1)), (49, (.getfield 32, 3)), (52, (.iconst 0, 1)), (53, (.iaload, 1)), (54, (.if_icmp .le 7, 3)), (57, (.iconst 1, 1))]
theorem ok41_reader_0_18 : dcs cX5_cannotBe tb41_reader_0_18 = true := by decide +kernel
theorem dX5_cannotBe_0 : decode cX5_cannotBe 0 = .ok (.aload_n 0, 1) := dcs_at ok41_reader_0_18 0 rfl
theorem dX5_cannotBe_1 : decode cX5_cannotBe 1 = .ok (.getfield 32, 3) := dcs_at ok41_reader_0_18 1 rfl
theorem dX5_cannotBe_4 : decode cX5_cannotBe 4 = .ok (.iload_n 2, 1) := dcs_at ok41_reader_0_18 2 rfl
theorem dX5_cannotBe_5 : decode cX5_cannotBe 5 = .ok (.iaload, 1) := dcs_at ok41_reader_0_18 3 rfl
theorem dX5_cannotBe_6 : decode cX5_cannotBe 6 = .ok (.istore_n 3, 1) := dcs_at ok41_reader_0_18 4 rfl
theorem dX5_cannotBe_7 : decode cX5_cannotBe 7 = .ok (.iload_n 3, 1) := dcs_at ok41_reader_0_18 5 rfl
theorem dX5_cannotBe_8 : decode cX5_cannotBe 8 = .ok (.getstatic 175, 3) := dcs_at ok41_reader_0_18 6 rfl
theorem dX5_cannotBe_11 : decode cX5_cannotBe 11 = .ok (.iload_n 1, 1) := dcs_at ok41_reader_0_18 7 rfl
theorem dX5_cannotBe_12 : decode cX5_cannotBe 12 = .ok (.iconst 3, 1) := dcs_at ok41_reader_0_18 8 rfl
theorem dX5_cannotBe_13 : decode cX5_cannotBe 13 = .ok (.imul, 1) := dcs_at ok41_reader_0_18 9 rfl
theorem dX5_cannotBe_14 : decode cX5_cannotBe 14 = .ok (.iload_n 2, 1) := dcs_at ok41_reader_0_18 10 rfl
theorem dX5_cannotBe_15 : decode cX5_cannotBe 15 = .ok (.iadd, 1) := dcs_at ok41_reader_0_18 11 rfl
theorem dX5_cannotBe_16 : decode cX5_cannotBe 16 = .ok (.iaload, 1) := dcs_at ok41_reader_0_18 12 rfl
theorem dX5_cannotBe_17 : decode cX5_cannotBe 17 = .ok (.if_icmp .lt 16, 3) := dcs_at ok41_reader_0_18 13 rfl
theorem dX5_cannotBe_20 : decode cX5_cannotBe 20 = .ok (.iload_n 3, 1) := dcs_at ok41_reader_0_18 14 rfl
theorem dX5_cannotBe_21 : decode cX5_cannotBe 21 = .ok (.getstatic 178, 3) := dcs_at ok41_reader_0_18 15 rfl
theorem dX5_cannotBe_24 : decode cX5_cannotBe 24 = .ok (.iload_n 1, 1) := dcs_at ok41_reader_0_18 16 rfl
theorem dX5_cannotBe_25 : decode cX5_cannotBe 25 = .ok (.iconst 3, 1) := dcs_at ok41_reader_0_18 17 rfl
theorem dX5_cannotBe_26 : decode cX5_cannotBe 26 = .ok (.imul, 1) := dcs_at ok41_reader_0_18 18 rfl
theorem dX5_cannotBe_27 : decode cX5_cannotBe 27 = .ok (.iload_n 2, 1) := dcs_at ok41_reader_0_18 19 rfl
theorem dX5_cannotBe_28 : decode cX5_cannotBe 28 = .ok (.iadd, 1) := dcs_at ok41_reader_0_18 20 rfl
theorem dX5_cannotBe_29 : decode cX5_cannotBe 29 = .ok (.iaload, 1) := dcs_at ok41_reader_0_18 21 rfl
theorem dX5_cannotBe_30 : decode cX5_cannotBe 30 = .ok (.if_icmp .le 5, 3) := dcs_at ok41_reader_0_18 22 rfl
theorem dX5_cannotBe_33 : decode cX5_cannotBe 33 = .ok (.iconst 1, 1) := dcs_at ok41_reader_0_18 23 rfl
theorem dX5_cannotBe_34 : decode cX5_cannotBe 34 = .ok (.ireturn, 1) := dcs_at ok41_reader_0_18 24 rfl
theorem dX5_cannotBe_35 : decode cX5_cannotBe 35 = .ok (.iload_n 2, 1) := dcs_at ok41_reader_0_18 25 rfl
theorem dX5_cannotBe_36 : decode cX5_cannotBe 36 = .ok (.iconst 1, 1) := dcs_at ok41_reader_0_18 26 rfl
theorem dX5_cannotBe_37 : decode cX5_cannotBe 37 = .ok (.if_icmp .eq 5, 3) := dcs_at ok41_reader_0_18 27 rfl
theorem dX5_cannotBe_40 : decode cX5_cannotBe 40 = .ok (.iconst 0, 1) := dcs_at ok41_reader_0_18 28 rfl
theorem dX5_cannotBe_41 : decode cX5_cannotBe 41 = .ok (.ireturn, 1) := dcs_at ok41_reader_0_18 29 rfl
theorem dX5_cannotBe_42 : decode cX5_cannotBe 42 = .ok (.iload_n 1, 1) := dcs_at ok41_reader_0_18 30 rfl
theorem dX5_cannotBe_43 : decode cX5_cannotBe 43 = .ok (.iconst 2, 1) := dcs_at ok41_reader_0_18 31 rfl
theorem dX5_cannotBe_44 : decode cX5_cannotBe 44 = .ok (.if_icmp .ne 19, 3) := dcs_at ok41_reader_0_18 32 rfl
theorem dX5_cannotBe_47 : decode cX5_cannotBe 47 = .ok (.iload_n 3, 1) := dcs_at ok41_reader_0_18 33 rfl
theorem dX5_cannotBe_48 : decode cX5_cannotBe 48 = .ok (.aload_n 0, 1) := dcs_at ok41_reader_0_18 34 rfl
theorem dX5_cannotBe_49 : decode cX5_cannotBe 49 = .ok (.getfield 32, 3) := dcs_at ok41_reader_0_18 35 rfl
theorem dX5_cannotBe_52 : decode cX5_cannotBe 52 = .ok (.iconst 0, 1) := dcs_at ok41_reader_0_18 36 rfl
theorem dX5_cannotBe_53 : decode cX5_cannotBe 53 = .ok (.iaload, 1) := dcs_at ok41_reader_0_18 37 rfl
theorem dX5_cannotBe_54 : decode cX5_cannotBe 54 = .ok (.if_icmp .le 7, 3) := dcs_at ok41_reader_0_18 38 rfl
theorem dX5_cannotBe_57 : decode cX5_cannotBe 57 = .ok (.iconst 1, 1) := dcs_at ok41_reader_0_18 39 rfl
def tb41_reader_0_19 : List (Nat × (Instr × Nat)) := [(58, (.goto 4, 3)), (61, (.iconst 0, 1)), (62, (.ireturn, 1)), (63, (.iload_n 1, 1)), (64, (.bipush 7, 2)), (66, (.if_icmp .eq 9, 3)), (69, (.iload_n 1, 1)), (70, (.bipush 8, 2)), (72, (.if_icmp .ne 7, 3)), (75, (.iconst 1, 1)), (76, (.goto 4, 3)), (79, (.iconst 0, 1)), (80, (.istore 4, 2)), (82, (.iload 4, 2)), (84, (.ifCond .eq 17, 3)), (87, (.iload_n 3, 1)), (88, (.aload_n 0, 1)), (89, (.getfield 32, 3)), (92, (.iconst 0, 1)), (93, (.iaload, 1)), (94, (.if_icmp .ne 7, 3)), (97, (.iconst 1, 1)), (98, (.goto 4, 3)), (101, (.iconst 0, 1)), (102, (.ireturn, 1))]
theorem ok41_reader_0_19 : dcs cX5_cannotBe tb41_reader_0_19 = true := by decide +kernel
theorem dX5_cannotBe_58 : decode cX5_cannotBe 58 = .ok (.goto 4, 3) := dcs_at ok41_reader_0_19 0 rfl
theorem dX5_cannotBe_61 : decode cX5_cannotBe 61 = .ok (.iconst 0, 1) := dcs_at ok41_reader_0_19 1 rfl
theorem dX5_cannotBe_62 : decode cX5_cannotBe 62 = .ok (.ireturn, 1) := dcs_at ok41_reader_0_19 2 rfl
theorem dX5_cannotBe_63 : decode cX5_cannotBe 63 = .ok (.iload_n 1, 1) := dcs_at ok41_reader_0_19 3 rfl
theorem dX5_cannotBe_64 : decode cX5_cannotBe 64 = .ok (.bipush 7, 2) := dcs_at ok41_reader_0_19 4 rfl
theorem dX5_cannotBe_66 : decode cX5_cannotBe 66 = .ok (.if_icmp .eq 9, 3) := dcs_at ok41_reader_0_19 5 rfl
theorem dX5_cannotBe_69 : decode cX5_cannotBe 69 = .ok (.iload_n 1, 1) := dcs_at ok41_reader_0_19 6 rfl
theorem dX5_cannotBe_70 : decode cX5_cannotBe 70 = .ok (.bipush 8, 2) := dcs_at ok41_reader_0_19 7 rfl
theorem dX5_cannotBe_72 : decode cX5_cannotBe 72 = .ok (.if_icmp .ne 7, 3) := dcs_at ok41_reader_0_19 8 rfl
theorem dX5_cannotBe_75 : decode cX5_cannotBe 75 = .ok (.iconst 1, 1) := dcs_at ok41_reader_0_19 9 rfl
theorem dX5_cannotBe_76 : decode cX5_cannotBe 76 = .ok (.goto 4, 3) := dcs_at ok41_reader_0_19 10 rfl
theorem dX5_cannotBe_79 : decode cX5_cannotBe 79 = .ok (.iconst 0, 1) := dcs_at ok41_reader_0_19 11 rfl
theorem dX5_cannotBe_80 : decode cX5_cannotBe 80 = .ok (.istore 4, 2) := dcs_at ok41_reader_0_19 12 rfl
theorem dX5_cannotBe_82 : decode cX5_cannotBe 82 = .ok (.iload 4, 2) := dcs_at ok41_reader_0_19 13 rfl
theorem dX5_cannotBe_84 : decode cX5_cannotBe 84 = .ok (.ifCond .eq 17, 3) := dcs_at ok41_reader_0_19 14 rfl
theorem dX5_cannotBe_87 : decode cX5_cannotBe 87 = .ok (.iload_n 3, 1) := dcs_at ok41_reader_0_19 15 rfl
theorem dX5_cannotBe_88 : decode cX5_cannotBe 88 = .ok (.aload_n 0, 1) := dcs_at ok41_reader_0_19 16 rfl
theorem dX5_cannotBe_89 : decode cX5_cannotBe 89 = .ok (.getfield 32, 3) := dcs_at ok41_reader_0_19 17 rfl
theorem dX5_cannotBe_92 : decode cX5_cannotBe 92 = .ok (.iconst 0, 1) := dcs_at ok41_reader_0_19 18 rfl
theorem dX5_cannotBe_93 : decode cX5_cannotBe 93 = .ok (.iaload, 1) := dcs_at ok41_reader_0_19 19 rfl
theorem dX5_cannotBe_94 : decode cX5_cannotBe 94 = .ok (.if_icmp .ne 7, 3) := dcs_at ok41_reader_0_19 20 rfl
theorem dX5_cannotBe_97 : decode cX5_cannotBe 97 = .ok (.iconst 1, 1) := dcs_at ok41_reader_0_19 21 rfl
theorem dX5_cannotBe_98 : decode cX5_cannotBe 98 = .ok (.goto 4, 3) := dcs_at ok41_reader_0_19 22 rfl
theorem dX5_cannotBe_101 : decode cX5_cannotBe 101 = .ok (.iconst 0, 1) := dcs_at ok41_reader_0_19 23 rfl
theorem dX5_cannotBe_102 : decode cX5_cannotBe 102 = .ok (.ireturn, 1) := dcs_at ok41_reader_0_19 24 rfl
def tb41_reader_0_20 : List (Nat × (Instr × Nat)) := [(0, (.iload_n 1, 1)), (1, (.tableswitch 201 0 13 #[71, 93, 115, 137, 153, 169, 201, 201, 201, 201, 201, 201, 201, 185], 71)), (72, (.aload_n 0, 1)), (73, (.getfield 12, 3)), (76, (.aload_n 0, 1)), (77, (.getfield 32, 3)), (80, (.iconst 0, 1)), (81, (.iaload, 1)), (82, (.aload_n 0, 1)), (83, (.getfield 32, 3)), (86, (.iconst 1, 1)), (87, (.iaload, 1)), (88, (.invokevirtual 181, 3)), (91, (.goto 140, 3)), (94, (.aload_n 0, 1)), (95, (.getfield 12, 3)), (98, (.aload_n 0, 1)), (99, (.getfield 32, 3)), (102, (.iconst 0, 1)), (103, (.iaload, 1)), (104, (.aload_n 0, 1)), (105, (.getfield 32, 3)), (108, (.iconst 1, 1)), (109, (.iaload, 1)), (110, (.invokevirtual 185, 3)), (113, (.goto 118, 3)), (116, (.aload_n 0, 1)), (117, (.getfield 12, 3)), (120, (.aload_n 0, 1)), (121, (.getfield 32, 3)), (124, (.iconst 0, 1)), (125, (.iaload, 1)), (126, (.aload_n 0, 1)), (127, (.getfield 32, 3)), (130, (.iconst 1, 1)), (131, (.iaload, 1)), (132, (.invokevirtual 188, 3)), (135, (.goto 96, 3)), (138, (.aload_n 0, 1)), (139, (.getfield 12, 3))]
theorem ok41_reader_0_20 : dcs cX5_keepLine tb41_reader_0_20 = true := by decide +kernel
theorem dX5_keepLine_0 : decode cX5_keepLine 0 = .ok (.iload_n 1, 1) := dcs_at ok41_reader_0_20 0 rfl
theorem dX5_keepLine_1 : decode cX5_keepLine 1 = .ok (.tableswitch 201 0 13 #[71, 93, 115, 137, 153, 169, 201, 201, 201, 201, 201, 201, 201, 185], 71) := dcs_at ok41_reader_0_20 1 rfl
theorem dX5_keepLine_72 : decode cX5_keepLine 72 = .ok (.aload_n 0, 1) := dcs_at ok41_reader_0_20 2 rfl
theorem dX5_keepLine_73 : decode cX5_keepLine 73 = .ok (.getfield 12, 3) := dcs_at ok41_reader_0_20 3 rfl
theorem dX5_keepLine_76 : decode cX5_keepLine 76 = .ok (.aload_n 0, 1) := dcs_at ok41_reader_0_20 4 rfl
theorem dX5_keepLine_77 : decode cX5_keepLine 77 = .ok (.getfield 32, 3) := dcs_at ok41_reader_0_20 5 rfl
theorem dX5_keepLine_80 : decode cX5_keepLine 80 = .ok (.iconst 0, 1) := dcs_at ok41_reader_0_20 6 rfl
theorem dX5_keepLine_81 : decode cX5_keepLine 81 = .ok (.iaload, 1) := dcs_at ok41_reader_0_20 7 rfl
theorem dX5_keepLine_82 : decode cX5_keepLine 82 = .ok (.aload_n 0, 1) := dcs_at ok41_reader_0_20 8 rfl
theorem dX5_keepLine_83 : decode cX5_keepLine 83 = .ok (.getfield 32, 3) := dcs_at ok41_reader_0_20 9 rfl
theorem dX5_keepLine_86 : decode cX5_keepLine 86 = .ok (.iconst 1, 1) := dcs_at ok41_reader_0_20 10 rfl
theorem dX5_keepLine_87 : decode cX5_keepLine 87 = .ok (.iaload, 1) := dcs_at ok41_reader_0_20 11 rfl
theorem dX5_keepLine_88 : decode cX5_keepLine 88 = .ok (.invokevirtual 181, 3) := dcs_at ok41_reader_0_20 12 rfl
theorem dX5_keepLine_91 : decode cX5_keepLine 91 = .ok (.goto 140, 3) := dcs_at ok41_reader_0_20 13 rfl
theorem dX5_keepLine_94 : decode cX5_keepLine 94 = .ok (.aload_n 0, 1) := dcs_at ok41_reader_0_20 14 rfl
theorem dX5_keepLine_95 : decode cX5_keepLine 95 = .ok (.getfield 12, 3) := dcs_at ok41_reader_0_20 15 rfl
theorem dX5_keepLine_98 : decode cX5_keepLine 98 = .ok (.aload_n 0, 1) := dcs_at ok41_reader_0_20 16 rfl
theorem dX5_keepLine_99 : decode cX5_keepLine 99 = .ok (.getfield 32, 3) := dcs_at ok41_reader_0_20 17 rfl
theorem dX5_keepLine_102 : decode cX5_keepLine 102 = .ok (.iconst 0, 1) := dcs_at ok41_reader_0_20 18 rfl
theorem dX5_keepLine_103 : decode cX5_keepLine 103 = .ok (.iaload, 1) := dcs_at ok41_reader_0_20 19 rfl
theorem dX5_keepLine_104 : decode cX5_keepLine 104 = .ok (.aload_n 0, 1) := dcs_at ok41_reader_0_20 20 rfl
theorem dX5_keepLine_105 : decode cX5_keepLine 105 = .ok (.getfield 32, 3) := dcs_at ok41_reader_0_20 21 rfl
theorem dX5_keepLine_108 : decode cX5_keepLine 108 = .ok (.iconst 1, 1) := dcs_at ok41_reader_0_20 22 rfl
theorem dX5_keepLine_109 : decode cX5_keepLine 109 = .ok (.iaload, 1) := dcs_at ok41_reader_0_20 23 rfl
theorem dX5_keepLine_110 : decode cX5_keepLine 110 = .ok (.invokevirtual 185, 3) := dcs_at ok41_reader_0_20 24 rfl
theorem dX5_keepLine_113 : decode cX5_keepLine 113 = .ok (.goto 118, 3) := dcs_at ok41_reader_0_20 25 rfl
theorem dX5_keepLine_116 : decode cX5_keepLine 116 = .ok (.aload_n 0, 1) := dcs_at ok41_reader_0_20 26 rfl
theorem dX5_keepLine_117 : decode cX5_keepLine 117 = .ok (.getfield 12, 3) := dcs_at ok41_reader_0_20 27 rfl
theorem dX5_keepLine_120 : decode cX5_keepLine 120 = .ok (.aload_n 0, 1) := dcs_at ok41_reader_0_20 28 rfl
theorem dX5_keepLine_121 : decode cX5_keepLine 121 = .ok (.getfield 32, 3) := dcs_at ok41_reader_0_20 29 rfl
theorem dX5_keepLine_124 : decode cX5_keepLine 124 = .ok (.iconst 0, 1) := dcs_at ok41_reader_0_20 30 rfl
theorem dX5_keepLine_125 : decode cX5_keepLine 125 = .ok (.iaload, 1) := dcs_at ok41_reader_0_20 31 rfl
theorem dX5_keepLine_126 : decode cX5_keepLine 126 = .ok (.aload_n 0, 1) := dcs_at ok41_reader_0_20 32 rfl
theorem dX5_keepLine_127 : decode cX5_keepLine 127 = .ok (.getfield 32, 3) := dcs_at ok41_reader_0_20 33 rfl
theorem dX5_keepLine_130 : decode cX5_keepLine 130 = .ok (.iconst 1, 1) := dcs_at ok41_reader_0_20 34 rfl
theorem dX5_keepLine_131 : decode cX5_keepLine 131 = .ok (.iaload, 1) := dcs_at ok41_reader_0_20 35 rfl
theorem dX5_keepLine_132 : decode cX5_keepLine 132 = .ok (.invokevirtual 188, 3) := dcs_at ok41_reader_0_20 36 rfl
theorem dX5_keepLine_135 : decode cX5_keepLine 135 = .ok (.goto 96, 3) := dcs_at ok41_reader_0_20 37 rfl
theorem dX5_keepLine_138 : decode cX5_keepLine 138 = .ok (.aload_n 0, 1) := dcs_at ok41_reader_0_20 38 rfl
theorem dX5_keepLine_139 : decode cX5_keepLine 139 = .ok (.getfield 12, 3) := dcs_at ok41_reader_0_20 39 rfl
def tb41_reader_0_21 : List (Nat × (Instr × Nat)) := [(142, (.aload_n 0, 1)), (143, (.getfield 32, 3)), (146, (.iconst 0, 1)), (147, (.iaload, 1)), (148, (.putfield 191, 3)), (151, (.goto 80, 3)), (154, (.aload_n 0, 1)), (155, (.getfield 12, 3)), (158, (.aload_n 0, 1)), (159, (.getfield 32, 3)), (162, (.iconst 0, 1)), (163, (.iaload, 1)), (164, (.putfield 193, 3)), (167, (.goto 64, 3)), (170, (.aload_n 0, 1)), (171, (.getfield 12, 3)), (174, (.aload_n 0, 1)), (175, (.getfield 32, 3)), (178, (.iconst 0, 1)), (179, (.iaload, 1)), (180, (.putfield 195, 3)), (183, (.goto 48, 3)), (186, (.aload_n 0, 1)), (187, (.getfield 28, 3)), (190, (.aload_n 0, 1)), (191, (.getfield 32, 3)), (194, (.iconst 0, 1)), (195, (.iaload, 1)), (196, (.invokevirtual 198, 3)), (199, (.goto 32, 3)), (202, (.aload_n 0, 1)), (203, (.getfield 21, 3)), (206, (.iload_n 1, 1)), (207, (.bipush 6, 2)), (209, (.isub, 1)), (210, (.aload_n 0, 1)), (211, (.getfield 32, 3)), (214, (.iconst 0, 1)), (215, (.iaload, 1)), (216, (.aload_n 0, 1))]
theorem ok41_reader_0_21 : dcs cX5_keepLine tb41_reader_0_21 = true := by decide +kernel
theorem dX5_keepLine_142 : decode cX5_keepLine 142 = .ok (.aload_n 0, 1) := dcs_at ok41_reader_0_21 0 rfl
theorem dX5_keepLine_143 : decode cX5_keepLine 143 = .ok (.getfield 32, 3) := dcs_at ok41_reader_0_21 1 rfl
theorem dX5_keepLine_146 : decode cX5_keepLine 146 = .ok (.iconst 0, 1) := dcs_at ok41_reader_0_21 2 rfl
theorem dX5_keepLine_147 : decode cX5_keepLine 147 = .ok (.iaload, 1) := dcs_at ok41_reader_0_21 3 rfl
theorem dX5_keepLine_148 : decode cX5_keepLine 148 = .ok (.putfield 191, 3) := dcs_at ok41_reader_0_21 4 rfl
theorem dX5_keepLine_151 : decode cX5_keepLine 151 = .ok (.goto 80, 3) := dcs_at ok41_reader_0_21 5 rfl
theorem dX5_keepLine_154 : decode cX5_keepLine 154 = .ok (.aload_n 0, 1) := dcs_at ok41_reader_0_21 6 rfl
theorem dX5_keepLine_155 : decode cX5_keepLine 155 = .ok (.getfield 12, 3) := dcs_at ok41_reader_0_21 7 rfl
theorem dX5_keepLine_158 : decode cX5_keepLine 158 = .ok (.aload_n 0, 1) := dcs_at ok41_reader_0_21 8 rfl
theorem dX5_keepLine_159 : decode cX5_keepLine 159 = .ok (.getfield 32, 3) := dcs_at ok41_reader_0_21 9 rfl
theorem dX5_keepLine_162 : decode cX5_keepLine 162 = .ok (.iconst 0, 1) := dcs_at ok41_reader_0_21 10 rfl
theorem dX5_keepLine_163 : decode cX5_keepLine 163 = .ok (.iaload, 1) := dcs_at ok41_reader_0_21 11 rfl
theorem dX5_keepLine_164 : decode cX5_keepLine 164 = .ok (.putfield 193, 3) := dcs_at ok41_reader_0_21 12 rfl
theorem dX5_keepLine_167 : decode cX5_keepLine 167 = .ok (.goto 64, 3) := dcs_at ok41_reader_0_21 13 rfl
theorem dX5_keepLine_170 : decode cX5_keepLine 170 = .ok (.aload_n 0, 1) := dcs_at ok41_reader_0_21 14 rfl
theorem dX5_keepLine_171 : decode cX5_keepLine 171 = .ok (.getfield 12, 3) := dcs_at ok41_reader_0_21 15 rfl
theorem dX5_keepLine_174 : decode cX5_keepLine 174 = .ok (.aload_n 0, 1) := dcs_at ok41_reader_0_21 16 rfl
theorem dX5_keepLine_175 : decode cX5_keepLine 175 = .ok (.getfield 32, 3) := dcs_at ok41_reader_0_21 17 rfl
theorem dX5_keepLine_178 : decode cX5_keepLine 178 = .ok (.iconst 0, 1) := dcs_at ok41_reader_0_21 18 rfl
theorem dX5_keepLine_179 : decode cX5_keepLine 179 = .ok (.iaload, 1) := dcs_at ok41_reader_0_21 19 rfl
theorem dX5_keepLine_180 : decode cX5_keepLine 180 = .ok (.putfield 195, 3) := dcs_at ok41_reader_0_21 20 rfl
theorem dX5_keepLine_183 : decode cX5_keepLine 183 = .ok (.goto 48, 3) := dcs_at ok41_reader_0_21 21 rfl
theorem dX5_keepLine_186 : decode cX5_keepLine 186 = .ok (.aload_n 0, 1) := dcs_at ok41_reader_0_21 22 rfl
theorem dX5_keepLine_187 : decode cX5_keepLine 187 = .ok (.getfield 28, 3) := dcs_at ok41_reader_0_21 23 rfl
theorem dX5_keepLine_190 : decode cX5_keepLine 190 = .ok (.aload_n 0, 1) := dcs_at ok41_reader_0_21 24 rfl
theorem dX5_keepLine_191 : decode cX5_keepLine 191 = .ok (.getfield 32, 3) := dcs_at ok41_reader_0_21 25 rfl
theorem dX5_keepLine_194 : decode cX5_keepLine 194 = .ok (.iconst 0, 1) := dcs_at ok41_reader_0_21 26 rfl
theorem dX5_keepLine_195 : decode cX5_keepLine 195 = .ok (.iaload, 1) := dcs_at ok41_reader_0_21 27 rfl
theorem dX5_keepLine_196 : decode cX5_keepLine 196 = .ok (.invokevirtual 198, 3) := dcs_at ok41_reader_0_21 28 rfl
theorem dX5_keepLine_199 : decode cX5_keepLine 199 = .ok (.goto 32, 3) := dcs_at ok41_reader_0_21 29 rfl
theorem dX5_keepLine_202 : decode cX5_keepLine 202 = .ok (.aload_n 0, 1) := dcs_at ok41_reader_0_21 30 rfl
theorem dX5_keepLine_203 : decode cX5_keepLine 203 = .ok (.getfield 21, 3) := dcs_at ok41_reader_0_21 31 rfl
theorem dX5_keepLine_206 : decode cX5_keepLine 206 = .ok (.iload_n 1, 1) := dcs_at ok41_reader_0_21 32 rfl
theorem dX5_keepLine_207 : decode cX5_keepLine 207 = .ok (.bipush 6, 2) := dcs_at ok41_reader_0_21 33 rfl
theorem dX5_keepLine_209 : decode cX5_keepLine 209 = .ok (.isub, 1) := dcs_at ok41_reader_0_21 34 rfl
theorem dX5_keepLine_210 : decode cX5_keepLine 210 = .ok (.aload_n 0, 1) := dcs_at ok41_reader_0_21 35 rfl
theorem dX5_keepLine_211 : decode cX5_keepLine 211 = .ok (.getfield 32, 3) := dcs_at ok41_reader_0_21 36 rfl
theorem dX5_keepLine_214 : decode cX5_keepLine 214 = .ok (.iconst 0, 1) := dcs_at ok41_reader_0_21 37 rfl
theorem dX5_keepLine_215 : decode cX5_keepLine 215 = .ok (.iaload, 1) := dcs_at ok41_reader_0_21 38 rfl
theorem dX5_keepLine_216 : decode cX5_keepLine 216 = .ok (.aload_n 0, 1) := dcs_at ok41_reader_0_21 39 rfl
def tb41_reader_0_22 : List (Nat × (Instr × Nat)) := [(217, (.getfield 32, 3)), (220, (.iconst 1, 1)), (221, (.iaload, 1)), (222, (.aload_n 0, 1)), (223, (.getfield 32, 3)), (226, (.iconst 2, 1)), (227, (.iaload, 1)), (228, (.invokevirtual 201, 3)), (231, (.return_, 1))]
theorem ok41_reader_0_22 : dcs cX5_keepLine tb41_reader_0_22 = true := by decide +kernel
theorem dX5_keepLine_217 : decode cX5_keepLine 217 = .ok (.getfield 32, 3) := dcs_at ok41_reader_0_22 0 rfl
theorem dX5_keepLine_220 : decode cX5_keepLine 220 = .ok (.iconst 1, 1) := dcs_at ok41_reader_0_22 1 rfl
theorem dX5_keepLine_221 : decode cX5_keepLine 221 = .ok (.iaload, 1) := dcs_at ok41_reader_0_22 2 rfl
theorem dX5_keepLine_222 : decode cX5_keepLine 222 = .ok (.aload_n 0, 1) := dcs_at ok41_reader_0_22 3 rfl
theorem dX5_keepLine_223 : decode cX5_keepLine 223 = .ok (.getfield 32, 3) := dcs_at ok41_reader_0_22 4 rfl
theorem dX5_keepLine_226 : decode cX5_keepLine 226 = .ok (.iconst 2, 1) := dcs_at ok41_reader_0_22 5 rfl
theorem dX5_keepLine_227 : decode cX5_keepLine 227 = .ok (.iaload, 1) := dcs_at ok41_reader_0_22 6 rfl
theorem dX5_keepLine_228 : decode cX5_keepLine 228 = .ok (.invokevirtual 201, 3) := dcs_at ok41_reader_0_22 7 rfl
theorem dX5_keepLine_231 : decode cX5_keepLine 231 = .ok (.return_, 1) := dcs_at ok41_reader_0_22 8 rfl
def tb41_reader_0_23 : List (Nat × (Instr × Nat)) := [(0, (.aload_n 0, 1)), (1, (.getfield 10, 3)), (4, (.getfield 55, 3)), (7, (.istore_n 3, 1)), (8, (.aload_n 0, 1)), (9, (.getfield 10, 3)), (12, (.iconst 0, 1)), (13, (.putfield 55, 3)), (16, (.aload_n 0, 1)), (17, (.getfield 10, 3)), (20, (.iconst 0, 1)), (21, (.putfield 63, 3)), (24, (.aload_n 0, 1)), (25, (.getfield 10, 3)), (28, (.iconst (-1), 1)), (29, (.putfield 66, 3)), (32, (.aload_n 0, 1)), (33, (.getfield 10, 3)), (36, (.iload_n 1, 1)), (37, (.invokevirtual 69, 3)), (40, (.istore 4, 2)), (42, (.iload_n 2, 1)), (43, (.iconst (-1), 1)), (44, (.if_icmp .ne 7, 3)), (47, (.iconst 1, 1)), (48, (.goto 4, 3)), (51, (.iconst 0, 1)), (52, (.istore 5, 2)), (54, (.iload 4, 2)), (56, (.ifCond .lt 29, 3)), (59, (.iload 5, 2)), (61, (.ifCond .eq 9, 3)), (64, (.iload 4, 2)), (66, (.iconst 2, 1)), (67, (.if_icmp .ge 18, 3)), (70, (.iload 5, 2)), (72, (.ifCond .ne 16, 3)), (75, (.iload_n 2, 1)), (76, (.ifCond .lt 9, 3)), (79, (.iload_n 2, 1))]
theorem ok41_reader_0_23 : dcs cX9_text tb41_reader_0_23 = true := by decide +kernel
theorem dX9_text_0 : decode cX9_text 0 = .ok (.aload_n 0, 1) := dcs_at ok41_reader_0_23 0 rfl
theorem dX9_text_1 : decode cX9_text 1 = .ok (.getfield 10, 3) := dcs_at ok41_reader_0_23 1 rfl
theorem dX9_text_4 : decode cX9_text 4 = .ok (.getfield 55, 3) := dcs_at ok41_reader_0_23 2 rfl
theorem dX9_text_7 : decode cX9_text 7 = .ok (.istore_n 3, 1) := dcs_at ok41_reader_0_23 3 rfl
theorem dX9_text_8 : decode cX9_text 8 = .ok (.aload_n 0, 1) := dcs_at ok41_reader_0_23 4 rfl
theorem dX9_text_9 : decode cX9_text 9 = .ok (.getfield 10, 3) := dcs_at ok41_reader_0_23 5 rfl
theorem dX9_text_12 : decode cX9_text 12 = .ok (.iconst 0, 1) := dcs_at ok41_reader_0_23 6 rfl
theorem dX9_text_13 : decode cX9_text 13 = .ok (.putfield 55, 3) := dcs_at ok41_reader_0_23 7 rfl
theorem dX9_text_16 : decode cX9_text 16 = .ok (.aload_n 0, 1) := dcs_at ok41_reader_0_23 8 rfl
theorem dX9_text_17 : decode cX9_text 17 = .ok (.getfield 10, 3) := dcs_at ok41_reader_0_23 9 rfl
theorem dX9_text_20 : decode cX9_text 20 = .ok (.iconst 0, 1) := dcs_at ok41_reader_0_23 10 rfl
theorem dX9_text_21 : decode cX9_text 21 = .ok (.putfield 63, 3) := dcs_at ok41_reader_0_23 11 rfl
theorem dX9_text_24 : decode cX9_text 24 = .ok (.aload_n 0, 1) := dcs_at ok41_reader_0_23 12 rfl
theorem dX9_text_25 : decode cX9_text 25 = .ok (.getfield 10, 3) := dcs_at ok41_reader_0_23 13 rfl
theorem dX9_text_28 : decode cX9_text 28 = .ok (.iconst (-1), 1) := dcs_at ok41_reader_0_23 14 rfl
theorem dX9_text_29 : decode cX9_text 29 = .ok (.putfield 66, 3) := dcs_at ok41_reader_0_23 15 rfl
theorem dX9_text_32 : decode cX9_text 32 = .ok (.aload_n 0, 1) := dcs_at ok41_reader_0_23 16 rfl
theorem dX9_text_33 : decode cX9_text 33 = .ok (.getfield 10, 3) := dcs_at ok41_reader_0_23 17 rfl
theorem dX9_text_36 : decode cX9_text 36 = .ok (.iload_n 1, 1) := dcs_at ok41_reader_0_23 18 rfl
theorem dX9_text_37 : decode cX9_text 37 = .ok (.invokevirtual 69, 3) := dcs_at ok41_reader_0_23 19 rfl
theorem dX9_text_40 : decode cX9_text 40 = .ok (.istore 4, 2) := dcs_at ok41_reader_0_23 20 rfl
theorem dX9_text_42 : decode cX9_text 42 = .ok (.iload_n 2, 1) := dcs_at ok41_reader_0_23 21 rfl
theorem dX9_text_43 : decode cX9_text 43 = .ok (.iconst (-1), 1) := dcs_at ok41_reader_0_23 22 rfl
theorem dX9_text_44 : decode cX9_text 44 = .ok (.if_icmp .ne 7, 3) := dcs_at ok41_reader_0_23 23 rfl
theorem dX9_text_47 : decode cX9_text 47 = .ok (.iconst 1, 1) := dcs_at ok41_reader_0_23 24 rfl
theorem dX9_text_48 : decode cX9_text 48 = .ok (.goto 4, 3) := dcs_at ok41_reader_0_23 25 rfl
theorem dX9_text_51 : decode cX9_text 51 = .ok (.iconst 0, 1) := dcs_at ok41_reader_0_23 26 rfl
theorem dX9_text_52 : decode cX9_text 52 = .ok (.istore 5, 2) := dcs_at ok41_reader_0_23 27 rfl
theorem dX9_text_54 : decode cX9_text 54 = .ok (.iload 4, 2) := dcs_at ok41_reader_0_23 28 rfl
theorem dX9_text_56 : decode cX9_text 56 = .ok (.ifCond .lt 29, 3) := dcs_at ok41_reader_0_23 29 rfl
theorem dX9_text_59 : decode cX9_text 59 = .ok (.iload 5, 2) := dcs_at ok41_reader_0_23 30 rfl
theorem dX9_text_61 : decode cX9_text 61 = .ok (.ifCond .eq 9, 3) := dcs_at ok41_reader_0_23 31 rfl
theorem dX9_text_64 : decode cX9_text 64 = .ok (.iload 4, 2) := dcs_at ok41_reader_0_23 32 rfl
theorem dX9_text_66 : decode cX9_text 66 = .ok (.iconst 2, 1) := dcs_at ok41_reader_0_23 33 rfl
theorem dX9_text_67 : decode cX9_text 67 = .ok (.if_icmp .ge 18, 3) := dcs_at ok41_reader_0_23 34 rfl
theorem dX9_text_70 : decode cX9_text 70 = .ok (.iload 5, 2) := dcs_at ok41_reader_0_23 35 rfl
theorem dX9_text_72 : decode cX9_text 72 = .ok (.ifCond .ne 16, 3) := dcs_at ok41_reader_0_23 36 rfl
theorem dX9_text_75 : decode cX9_text 75 = .ok (.iload_n 2, 1) := dcs_at ok41_reader_0_23 37 rfl
theorem dX9_text_76 : decode cX9_text 76 = .ok (.ifCond .lt 9, 3) := dcs_at ok41_reader_0_23 38 rfl
theorem dX9_text_79 : decode cX9_text 79 = .ok (.iload_n 2, 1) := dcs_at ok41_reader_0_23 39 rfl
def tb41_reader_0_24 : List (Nat × (Instr × Nat)) := [(80, (.iload 4, 2)), (82, (.if_icmp .lt 6, 3)), (85, (.bipush (-2), 2)), (87, (.ireturn, 1)), (88, (.aload_n 0, 1)), (89, (.getfield 23, 3)), (92, (.aload_n 0, 1)), (93, (.getfield 10, 3)), (96, (.getfield 73, 3)), (99, (.iload_n 3, 1)), (100, (.iload_n 1, 1)), (101, (.invokevirtual 77, 3)), (104, (.aload_n 0, 1)), (105, (.getfield 10, 3)), (108, (.aload_n 0, 1)), (109, (.getfield 23, 3)), (112, (.getfield 81, 3)), (115, (.putfield 63, 3)), (118, (.aload_n 0, 1)), (119, (.getfield 10, 3)), (122, (.aload_n 0, 1)), (123, (.getfield 23, 3)), (126, (.getfield 82, 3)), (129, (.putfield 66, 3)), (132, (.aload_n 0, 1)), (133, (.getfield 23, 3)), (136, (.getfield 81, 3)), (139, (.ifCond .eq 5, 3)), (142, (.iconst (-1), 1)), (143, (.ireturn, 1)), (144, (.iload 5, 2)), (146, (.ifCond .eq 8, 3)), (149, (.iload 4, 2)), (151, (.goto 4, 3)), (154, (.iload_n 2, 1)), (155, (.istore 6, 2)), (157, (.aload_n 0, 1)), (158, (.getfield 10, 3)), (161, (.iload_n 1, 1)), (162, (.iload 6, 2))]
theorem ok41_reader_0_24 : dcs cX9_text tb41_reader_0_24 = true := by decide +kernel
theorem dX9_text_80 : decode cX9_text 80 = .ok (.iload 4, 2) := dcs_at ok41_reader_0_24 0 rfl
theorem dX9_text_82 : decode cX9_text 82 = .ok (.if_icmp .lt 6, 3) := dcs_at ok41_reader_0_24 1 rfl
theorem dX9_text_85 : decode cX9_text 85 = .ok (.bipush (-2), 2) := dcs_at ok41_reader_0_24 2 rfl
theorem dX9_text_87 : decode cX9_text 87 = .ok (.ireturn, 1) := dcs_at ok41_reader_0_24 3 rfl
theorem dX9_text_88 : decode cX9_text 88 = .ok (.aload_n 0, 1) := dcs_at ok41_reader_0_24 4 rfl
theorem dX9_text_89 : decode cX9_text 89 = .ok (.getfield 23, 3) := dcs_at ok41_reader_0_24 5 rfl
theorem dX9_text_92 : decode cX9_text 92 = .ok (.aload_n 0, 1) := dcs_at ok41_reader_0_24 6 rfl
theorem dX9_text_93 : decode cX9_text 93 = .ok (.getfield 10, 3) := dcs_at ok41_reader_0_24 7 rfl
theorem dX9_text_96 : decode cX9_text 96 = .ok (.getfield 73, 3) := dcs_at ok41_reader_0_24 8 rfl
theorem dX9_text_99 : decode cX9_text 99 = .ok (.iload_n 3, 1) := dcs_at ok41_reader_0_24 9 rfl
theorem dX9_text_100 : decode cX9_text 100 = .ok (.iload_n 1, 1) := dcs_at ok41_reader_0_24 10 rfl
theorem dX9_text_101 : decode cX9_text 101 = .ok (.invokevirtual 77, 3) := dcs_at ok41_reader_0_24 11 rfl
theorem dX9_text_104 : decode cX9_text 104 = .ok (.aload_n 0, 1) := dcs_at ok41_reader_0_24 12 rfl
theorem dX9_text_105 : decode cX9_text 105 = .ok (.getfield 10, 3) := dcs_at ok41_reader_0_24 13 rfl
theorem dX9_text_108 : decode cX9_text 108 = .ok (.aload_n 0, 1) := dcs_at ok41_reader_0_24 14 rfl
theorem dX9_text_109 : decode cX9_text 109 = .ok (.getfield 23, 3) := dcs_at ok41_reader_0_24 15 rfl
theorem dX9_text_112 : decode cX9_text 112 = .ok (.getfield 81, 3) := dcs_at ok41_reader_0_24 16 rfl
theorem dX9_text_115 : decode cX9_text 115 = .ok (.putfield 63, 3) := dcs_at ok41_reader_0_24 17 rfl
theorem dX9_text_118 : decode cX9_text 118 = .ok (.aload_n 0, 1) := dcs_at ok41_reader_0_24 18 rfl
theorem dX9_text_119 : decode cX9_text 119 = .ok (.getfield 10, 3) := dcs_at ok41_reader_0_24 19 rfl
theorem dX9_text_122 : decode cX9_text 122 = .ok (.aload_n 0, 1) := dcs_at ok41_reader_0_24 20 rfl
theorem dX9_text_123 : decode cX9_text 123 = .ok (.getfield 23, 3) := dcs_at ok41_reader_0_24 21 rfl
theorem dX9_text_126 : decode cX9_text 126 = .ok (.getfield 82, 3) := dcs_at ok41_reader_0_24 22 rfl
theorem dX9_text_129 : decode cX9_text 129 = .ok (.putfield 66, 3) := dcs_at ok41_reader_0_24 23 rfl
theorem dX9_text_132 : decode cX9_text 132 = .ok (.aload_n 0, 1) := dcs_at ok41_reader_0_24 24 rfl
theorem dX9_text_133 : decode cX9_text 133 = .ok (.getfield 23, 3) := dcs_at ok41_reader_0_24 25 rfl
theorem dX9_text_136 : decode cX9_text 136 = .ok (.getfield 81, 3) := dcs_at ok41_reader_0_24 26 rfl
theorem dX9_text_139 : decode cX9_text 139 = .ok (.ifCond .eq 5, 3) := dcs_at ok41_reader_0_24 27 rfl
theorem dX9_text_142 : decode cX9_text 142 = .ok (.iconst (-1), 1) := dcs_at ok41_reader_0_24 28 rfl
theorem dX9_text_143 : decode cX9_text 143 = .ok (.ireturn, 1) := dcs_at ok41_reader_0_24 29 rfl
theorem dX9_text_144 : decode cX9_text 144 = .ok (.iload 5, 2) := dcs_at ok41_reader_0_24 30 rfl
theorem dX9_text_146 : decode cX9_text 146 = .ok (.ifCond .eq 8, 3) := dcs_at ok41_reader_0_24 31 rfl
theorem dX9_text_149 : decode cX9_text 149 = .ok (.iload 4, 2) := dcs_at ok41_reader_0_24 32 rfl
theorem dX9_text_151 : decode cX9_text 151 = .ok (.goto 4, 3) := dcs_at ok41_reader_0_24 33 rfl
theorem dX9_text_154 : decode cX9_text 154 = .ok (.iload_n 2, 1) := dcs_at ok41_reader_0_24 34 rfl
theorem dX9_text_155 : decode cX9_text 155 = .ok (.istore 6, 2) := dcs_at ok41_reader_0_24 35 rfl
theorem dX9_text_157 : decode cX9_text 157 = .ok (.aload_n 0, 1) := dcs_at ok41_reader_0_24 36 rfl
theorem dX9_text_158 : decode cX9_text 158 = .ok (.getfield 10, 3) := dcs_at ok41_reader_0_24 37 rfl
theorem dX9_text_161 : decode cX9_text 161 = .ok (.iload_n 1, 1) := dcs_at ok41_reader_0_24 38 rfl
theorem dX9_text_162 : decode cX9_text 162 = .ok (.iload 6, 2) := dcs_at ok41_reader_0_24 39 rfl
def tb41_reader_0_25 : List (Nat × (Instr × Nat)) := [(164, (.aload_n 0, 1)), (165, (.getfield 23, 3)), (168, (.invokevirtual 83, 3)), (171, (.iload 6, 2)), (173, (.ireturn, 1))]
theorem ok41_reader_0_25 : dcs cX9_text tb41_reader_0_25 = true := by decide +kernel
theorem dX9_text_164 : decode cX9_text 164 = .ok (.aload_n 0, 1) := dcs_at ok41_reader_0_25 0 rfl
theorem dX9_text_165 : decode cX9_text 165 = .ok (.getfield 23, 3) := dcs_at ok41_reader_0_25 1 rfl
theorem dX9_text_168 : decode cX9_text 168 = .ok (.invokevirtual 83, 3) := dcs_at ok41_reader_0_25 2 rfl
theorem dX9_text_171 : decode cX9_text 171 = .ok (.iload 6, 2) := dcs_at ok41_reader_0_25 3 rfl
theorem dX9_text_173 : decode cX9_text 173 = .ok (.ireturn, 1) := dcs_at ok41_reader_0_25 4 rfl
def tb41_reader_0_26 : List (Nat × (Instr × Nat)) := [(0, (.aload_n 0, 1)), (1, (.getfield 9, 3)), (4, (.arraylength, 1)), (5, (.aload_n 0, 1)), (6, (.invokevirtual 335, 3)), (9, (.ishr, 1)), (10, (.ireturn, 1))]
theorem ok41_reader_0_26 : dcs cJ0_length_8abf5 tb41_reader_0_26 = true := by decide +kernel
theorem dJ0_length_8abf5_0 : decode cJ0_length_8abf5 0 = .ok (.aload_n 0, 1) := dcs_at ok41_reader_0_26 0 rfl
theorem dJ0_length_8abf5_1 : decode cJ0_length_8abf5 1 = .ok (.getfield 9, 3) := dcs_at ok41_reader_0_26 1 rfl
theorem dJ0_length_8abf5_4 : decode cJ0_length_8abf5 4 = .ok (.arraylength, 1) := dcs_at ok41_reader_0_26 2 rfl
theorem dJ0_length_8abf5_5 : decode cJ0_length_8abf5 5 = .ok (.aload_n 0, 1) := dcs_at ok41_reader_0_26 3 rfl
theorem dJ0_length_8abf5_6 : decode cJ0_length_8abf5 6 = .ok (.invokevirtual 335, 3) := dcs_at ok41_reader_0_26 4 rfl
theorem dJ0_length_8abf5_9 : decode cJ0_length_8abf5 9 = .ok (.ishr, 1) := dcs_at ok41_reader_0_26 5 rfl
theorem dJ0_length_8abf5_10 : decode cJ0_length_8abf5 10 = .ok (.ireturn, 1) := dcs_at ok41_reader_0_26 6 rfl
def tb41_reader_0_27 : List (Nat × (Instr × Nat)) := [(0, (.aload_n 0, 1)), (1, (.invokevirtual 492, 3)), (4, (.ifCond .eq 12, 3)), (7, (.aload_n 0, 1)), (8, (.getfield 9, 3)), (11, (.iload_n 1, 1)), (12, (.invokestatic 495, 3)), (15, (.ireturn, 1))]
theorem ok41_reader_0_27 : dcs cJ0_charAt_5068e tb41_reader_0_27 = true := by decide +kernel
theorem dJ0_charAt_5068e_0 : decode cJ0_charAt_5068e 0 = .ok (.aload_n 0, 1) := dcs_at ok41_reader_0_27 0 rfl
theorem dJ0_charAt_5068e_1 : decode cJ0_charAt_5068e 1 = .ok (.invokevirtual 492, 3) := dcs_at ok41_reader_0_27 1 rfl
theorem dJ0_charAt_5068e_4 : decode cJ0_charAt_5068e 4 = .ok (.ifCond .eq 12, 3) := dcs_at ok41_reader_0_27 2 rfl
theorem dJ0_charAt_5068e_7 : decode cJ0_charAt_5068e 7 = .ok (.aload_n 0, 1) := dcs_at ok41_reader_0_27 3 rfl
theorem dJ0_charAt_5068e_8 : decode cJ0_charAt_5068e 8 = .ok (.getfield 9, 3) := dcs_at ok41_reader_0_27 4 rfl
theorem dJ0_charAt_5068e_11 : decode cJ0_charAt_5068e 11 = .ok (.iload_n 1, 1) := dcs_at ok41_reader_0_27 5 rfl
theorem dJ0_charAt_5068e_12 : decode cJ0_charAt_5068e 12 = .ok (.invokestatic 495, 3) := dcs_at ok41_reader_0_27 6 rfl
theorem dJ0_charAt_5068e_15 : decode cJ0_charAt_5068e 15 = .ok (.ireturn, 1) := dcs_at ok41_reader_0_27 7 rfl
def tb41_reader_0_28 : List (Nat × (Instr × Nat)) := [(0, (.getstatic 38, 3)), (3, (.ifCond .eq 10, 3)), (6, (.aload_n 0, 1)), (7, (.getfield 15, 3)), (10, (.goto 4, 3)), (14, (.ireturn, 1))]
theorem ok41_reader_0_28 : dcs cJ0_coder_7d493 tb41_reader_0_28 = true := by decide +kernel
theorem dJ0_coder_7d493_0 : decode cJ0_coder_7d493 0 = .ok (.getstatic 38, 3) := dcs_at ok41_reader_0_28 0 rfl
theorem dJ0_coder_7d493_3 : decode cJ0_coder_7d493 3 = .ok (.ifCond .eq 10, 3) := dcs_at ok41_reader_0_28 1 rfl
theorem dJ0_coder_7d493_6 : decode cJ0_coder_7d493 6 = .ok (.aload_n 0, 1) := dcs_at ok41_reader_0_28 2 rfl
theorem dJ0_coder_7d493_7 : decode cJ0_coder_7d493 7 = .ok (.getfield 15, 3) := dcs_at ok41_reader_0_28 3 rfl
theorem dJ0_coder_7d493_10 : decode cJ0_coder_7d493 10 = .ok (.goto 4, 3) := dcs_at ok41_reader_0_28 4 rfl
theorem dJ0_coder_7d493_14 : decode cJ0_coder_7d493 14 = .ok (.ireturn, 1) := dcs_at ok41_reader_0_28 5 rfl
def tb41_reader_0_29 : List (Nat × (Instr × Nat)) := [(0, (.getstatic 38, 3)), (3, (.ifCond .eq 14, 3)), (6, (.aload_n 0, 1)), (7, (.getfield 15, 3)), (10, (.ifCond .ne 7, 3)), (13, (.iconst 1, 1)), (14, (.goto 4, 3)), (18, (.ireturn, 1))]
theorem ok41_reader_0_29 : dcs cJ0_isLatin1_aae02 tb41_reader_0_29 = true := by decide +kernel
theorem dJ0_isLatin1_aae02_0 : decode cJ0_isLatin1_aae02 0 = .ok (.getstatic 38, 3) := dcs_at ok41_reader_0_29 0 rfl
theorem dJ0_isLatin1_aae02_3 : decode cJ0_isLatin1_aae02 3 = .ok (.ifCond .eq 14, 3) := dcs_at ok41_reader_0_29 1 rfl
theorem dJ0_isLatin1_aae02_6 : decode cJ0_isLatin1_aae02 6 = .ok (.aload_n 0, 1) := dcs_at ok41_reader_0_29 2 rfl
theorem dJ0_isLatin1_aae02_7 : decode cJ0_isLatin1_aae02 7 = .ok (.getfield 15, 3) := dcs_at ok41_reader_0_29 3 rfl
theorem dJ0_isLatin1_aae02_10 : decode cJ0_isLatin1_aae02 10 = .ok (.ifCond .ne 7, 3) := dcs_at ok41_reader_0_29 4 rfl
theorem dJ0_isLatin1_aae02_13 : decode cJ0_isLatin1_aae02 13 = .ok (.iconst 1, 1) := dcs_at ok41_reader_0_29 5 rfl
theorem dJ0_isLatin1_aae02_14 : decode cJ0_isLatin1_aae02 14 = .ok (.goto 4, 3) := dcs_at ok41_reader_0_29 6 rfl
theorem dJ0_isLatin1_aae02_18 : decode cJ0_isLatin1_aae02 18 = .ok (.ireturn, 1) := dcs_at ok41_reader_0_29 7 rfl
def tb41_reader_0_30 : List (Nat × (Instr × Nat)) := [(0, (.iload_n 0, 1)), (1, (.iload_n 1, 1)), (2, (.getstatic 1053, 3)), (5, (.invokestatic 1059, 3)), (8, (.pop, 1)), (9, (.return_, 1))]
theorem ok41_reader_0_30 : dcs cJ0_checkIndex_df160 tb41_reader_0_30 = true := by decide +kernel
theorem dJ0_checkIndex_df160_0 : decode cJ0_checkIndex_df160 0 = .ok (.iload_n 0, 1) := dcs_at ok41_reader_0_30 0 rfl
theorem dJ0_checkIndex_df160_1 : decode cJ0_checkIndex_df160 1 = .ok (.iload_n 1, 1) := dcs_at ok41_reader_0_30 1 rfl
theorem dJ0_checkIndex_df160_2 : decode cJ0_checkIndex_df160 2 = .ok (.getstatic 1053, 3) := dcs_at ok41_reader_0_30 2 rfl
theorem dJ0_checkIndex_df160_5 : decode cJ0_checkIndex_df160 5 = .ok (.invokestatic 1059, 3) := dcs_at ok41_reader_0_30 3 rfl
theorem dJ0_checkIndex_df160_8 : decode cJ0_checkIndex_df160 8 = .ok (.pop, 1) := dcs_at ok41_reader_0_30 4 rfl
theorem dJ0_checkIndex_df160_9 : decode cJ0_checkIndex_df160 9 = .ok (.return_, 1) := dcs_at ok41_reader_0_30 5 rfl
def tb41_reader_0_31 : List (Nat × (Instr × Nat)) := [(0, (.iload_n 1, 1)), (1, (.aload_n 0, 1)), (2, (.arraylength, 1)), (3, (.invokestatic 9, 3)), (6, (.aload_n 0, 1)), (7, (.iload_n 1, 1)), (8, (.baload, 1)), (9, (.sipush 255, 3)), (12, (.iand, 1)), (13, (.i2c, 1)), (14, (.ireturn, 1))]
theorem ok41_reader_0_31 : dcs cJ1_charAt_3b067 tb41_reader_0_31 = true := by decide +kernel
theorem dJ1_charAt_3b067_0 : decode cJ1_charAt_3b067 0 = .ok (.iload_n 1, 1) := dcs_at ok41_reader_0_31 0 rfl
theorem dJ1_charAt_3b067_1 : decode cJ1_charAt_3b067 1 = .ok (.aload_n 0, 1) := dcs_at ok41_reader_0_31 1 rfl
theorem dJ1_charAt_3b067_2 : decode cJ1_charAt_3b067 2 = .ok (.arraylength, 1) := dcs_at ok41_reader_0_31 2 rfl
theorem dJ1_charAt_3b067_3 : decode cJ1_charAt_3b067 3 = .ok (.invokestatic 9, 3) := dcs_at ok41_reader_0_31 3 rfl
theorem dJ1_charAt_3b067_6 : decode cJ1_charAt_3b067 6 = .ok (.aload_n 0, 1) := dcs_at ok41_reader_0_31 4 rfl
theorem dJ1_charAt_3b067_7 : decode cJ1_charAt_3b067 7 = .ok (.iload_n 1, 1) := dcs_at ok41_reader_0_31 5 rfl
theorem dJ1_charAt_3b067_8 : decode cJ1_charAt_3b067 8 = .ok (.baload, 1) := dcs_at ok41_reader_0_31 6 rfl
theorem dJ1_charAt_3b067_9 : decode cJ1_charAt_3b067 9 = .ok (.sipush 255, 3) := dcs_at ok41_reader_0_31 7 rfl
theorem dJ1_charAt_3b067_12 : decode cJ1_charAt_3b067 12 = .ok (.iand, 1) := dcs_at ok41_reader_0_31 8 rfl
theorem dJ1_charAt_3b067_13 : decode cJ1_charAt_3b067 13 = .ok (.i2c, 1) := dcs_at ok41_reader_0_31 9 rfl
theorem dJ1_charAt_3b067_14 : decode cJ1_charAt_3b067 14 = .ok (.ireturn, 1) := dcs_at ok41_reader_0_31 10 rfl
def tb41_reader_0_32 : List (Nat × (Instr × Nat)) := [(0, (.iload_n 0, 1)), (1, (.ifCond .lt 8, 3)), (4, (.iload_n 0, 1)), (5, (.iload_n 1, 1)), (6, (.if_icmp .lt 10, 3)), (16, (.iload_n 0, 1)), (17, (.ireturn, 1))]
theorem ok41_reader_0_32 : dcs cJ3_checkIndex_8e157 tb41_reader_0_32 = true := by decide +kernel
theorem dJ3_checkIndex_8e157_0 : decode cJ3_checkIndex_8e157 0 = .ok (.iload_n 0, 1) := dcs_at ok41_reader_0_32 0 rfl
theorem dJ3_checkIndex_8e157_1 : decode cJ3_checkIndex_8e157 1 = .ok (.ifCond .lt 8, 3) := dcs_at ok41_reader_0_32 1 rfl
theorem dJ3_checkIndex_8e157_4 : decode cJ3_checkIndex_8e157 4 = .ok (.iload_n 0, 1) := dcs_at ok41_reader_0_32 2 rfl
theorem dJ3_checkIndex_8e157_5 : decode cJ3_checkIndex_8e157 5 = .ok (.iload_n 1, 1) := dcs_at ok41_reader_0_32 3 rfl
theorem dJ3_checkIndex_8e157_6 : decode cJ3_checkIndex_8e157 6 = .ok (.if_icmp .lt 10, 3) := dcs_at ok41_reader_0_32 4 rfl
theorem dJ3_checkIndex_8e157_16 : decode cJ3_checkIndex_8e157 16 = .ok (.iload_n 0, 1) := dcs_at ok41_reader_0_32 5 rfl
theorem dJ3_checkIndex_8e157_17 : decode cJ3_checkIndex_8e157 17 = .ok (.ireturn, 1) := dcs_at ok41_reader_0_32 6 rfl
