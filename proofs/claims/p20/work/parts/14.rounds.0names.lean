theorem nmX3 : ∀ a, a < 3 → ∀ b, b < 3 → a ≠ b → (TX3 a).2.1 ≠ (TX3 b).2.1 := by decide +kernel
theorem tyX3_ok : ∀ k, k < 3 → parseFieldDescriptor (TX3 k).2.2.1 = some (tyX3 k) := by decide +kernel
theorem nmX6 : ∀ a, a < 7 → ∀ b, b < 7 → a ≠ b → (TX6 a).2.1 ≠ (TX6 b).2.1 := nm_of [33059520542765683, 1815811526132161147507, 123581013520228, 1634954099, 112615912075891, 444015930995, 1936024942] (by decide +kernel) (by decide +kernel)
theorem tyX6_ok : ∀ k, k < 7 → parseFieldDescriptor (TX6 k).2.2.1 = some (tyX6 k) := by decide +kernel
def tb14_rounds_0_1 : List (Nat × (Instr × Nat)) := [(0, (.iconst 0, 1)), (1, (.istore_n 2, 1)), (2, (.iconst 0, 1)), (3, (.istore_n 3, 1)), (4, (.iconst 0, 1)), (5, (.istore 4, 2)), (7, (.iload 4, 2)), (9, (.aload_n 1, 1)), (10, (.getfield 9, 3)), (13, (.getfield 15, 3)), (16, (.if_icmp .ge 55, 3)), (19, (.aload_n 1, 1)), (20, (.iload 4, 2)), (22, (.invokevirtual 21, 3)), (25, (.ifCond .ne 40, 3)), (28, (.aload_n 1, 1)), (29, (.getfield 9, 3)), (32, (.getfield 25, 3)), (35, (.iload 4, 2)), (37, (.iaload, 1)), (38, (.iconst 2, 1)), (39, (.if_icmp .ne 16, 3)), (42, (.iload_n 2, 1)), (43, (.aload_n 1, 1)), (44, (.getfield 29, 3)), (47, (.iload 4, 2)), (49, (.iaload, 1)), (50, (.iadd, 1)), (51, (.istore_n 2, 1)), (52, (.goto 13, 3)), (55, (.iload_n 3, 1)), (56, (.aload_n 1, 1)), (57, (.getfield 29, 3)), (60, (.iload 4, 2)), (62, (.iaload, 1)), (63, (.iadd, 1)), (64, (.istore_n 3, 1)), (65, (.iinc 4 1, 3)), (68, (.goto (-61), 3)), (71, (.aload_n 0, 1))]
theorem ok14_rounds_0_1 : dcs cX3_lay tb14_rounds_0_1 = true := by decide +kernel
theorem dX3_lay_0 : decode cX3_lay 0 = .ok (.iconst 0, 1) := dcs_at ok14_rounds_0_1 0 rfl
theorem dX3_lay_1 : decode cX3_lay 1 = .ok (.istore_n 2, 1) := dcs_at ok14_rounds_0_1 1 rfl
theorem dX3_lay_2 : decode cX3_lay 2 = .ok (.iconst 0, 1) := dcs_at ok14_rounds_0_1 2 rfl
theorem dX3_lay_3 : decode cX3_lay 3 = .ok (.istore_n 3, 1) := dcs_at ok14_rounds_0_1 3 rfl
theorem dX3_lay_4 : decode cX3_lay 4 = .ok (.iconst 0, 1) := dcs_at ok14_rounds_0_1 4 rfl
theorem dX3_lay_5 : decode cX3_lay 5 = .ok (.istore 4, 2) := dcs_at ok14_rounds_0_1 5 rfl
theorem dX3_lay_7 : decode cX3_lay 7 = .ok (.iload 4, 2) := dcs_at ok14_rounds_0_1 6 rfl
theorem dX3_lay_9 : decode cX3_lay 9 = .ok (.aload_n 1, 1) := dcs_at ok14_rounds_0_1 7 rfl
theorem dX3_lay_10 : decode cX3_lay 10 = .ok (.getfield 9, 3) := dcs_at ok14_rounds_0_1 8 rfl
theorem dX3_lay_13 : decode cX3_lay 13 = .ok (.getfield 15, 3) := dcs_at ok14_rounds_0_1 9 rfl
theorem dX3_lay_16 : decode cX3_lay 16 = .ok (.if_icmp .ge 55, 3) := dcs_at ok14_rounds_0_1 10 rfl
theorem dX3_lay_19 : decode cX3_lay 19 = .ok (.aload_n 1, 1) := dcs_at ok14_rounds_0_1 11 rfl
theorem dX3_lay_20 : decode cX3_lay 20 = .ok (.iload 4, 2) := dcs_at ok14_rounds_0_1 12 rfl
theorem dX3_lay_22 : decode cX3_lay 22 = .ok (.invokevirtual 21, 3) := dcs_at ok14_rounds_0_1 13 rfl
theorem dX3_lay_25 : decode cX3_lay 25 = .ok (.ifCond .ne 40, 3) := dcs_at ok14_rounds_0_1 14 rfl
theorem dX3_lay_28 : decode cX3_lay 28 = .ok (.aload_n 1, 1) := dcs_at ok14_rounds_0_1 15 rfl
theorem dX3_lay_29 : decode cX3_lay 29 = .ok (.getfield 9, 3) := dcs_at ok14_rounds_0_1 16 rfl
theorem dX3_lay_32 : decode cX3_lay 32 = .ok (.getfield 25, 3) := dcs_at ok14_rounds_0_1 17 rfl
theorem dX3_lay_35 : decode cX3_lay 35 = .ok (.iload 4, 2) := dcs_at ok14_rounds_0_1 18 rfl
theorem dX3_lay_37 : decode cX3_lay 37 = .ok (.iaload, 1) := dcs_at ok14_rounds_0_1 19 rfl
theorem dX3_lay_38 : decode cX3_lay 38 = .ok (.iconst 2, 1) := dcs_at ok14_rounds_0_1 20 rfl
theorem dX3_lay_39 : decode cX3_lay 39 = .ok (.if_icmp .ne 16, 3) := dcs_at ok14_rounds_0_1 21 rfl
theorem dX3_lay_42 : decode cX3_lay 42 = .ok (.iload_n 2, 1) := dcs_at ok14_rounds_0_1 22 rfl
theorem dX3_lay_43 : decode cX3_lay 43 = .ok (.aload_n 1, 1) := dcs_at ok14_rounds_0_1 23 rfl
theorem dX3_lay_44 : decode cX3_lay 44 = .ok (.getfield 29, 3) := dcs_at ok14_rounds_0_1 24 rfl
theorem dX3_lay_47 : decode cX3_lay 47 = .ok (.iload 4, 2) := dcs_at ok14_rounds_0_1 25 rfl
theorem dX3_lay_49 : decode cX3_lay 49 = .ok (.iaload, 1) := dcs_at ok14_rounds_0_1 26 rfl
theorem dX3_lay_50 : decode cX3_lay 50 = .ok (.iadd, 1) := dcs_at ok14_rounds_0_1 27 rfl
theorem dX3_lay_51 : decode cX3_lay 51 = .ok (.istore_n 2, 1) := dcs_at ok14_rounds_0_1 28 rfl
theorem dX3_lay_52 : decode cX3_lay 52 = .ok (.goto 13, 3) := dcs_at ok14_rounds_0_1 29 rfl
theorem dX3_lay_55 : decode cX3_lay 55 = .ok (.iload_n 3, 1) := dcs_at ok14_rounds_0_1 30 rfl
theorem dX3_lay_56 : decode cX3_lay 56 = .ok (.aload_n 1, 1) := dcs_at ok14_rounds_0_1 31 rfl
theorem dX3_lay_57 : decode cX3_lay 57 = .ok (.getfield 29, 3) := dcs_at ok14_rounds_0_1 32 rfl
theorem dX3_lay_60 : decode cX3_lay 60 = .ok (.iload 4, 2) := dcs_at ok14_rounds_0_1 33 rfl
theorem dX3_lay_62 : decode cX3_lay 62 = .ok (.iaload, 1) := dcs_at ok14_rounds_0_1 34 rfl
theorem dX3_lay_63 : decode cX3_lay 63 = .ok (.iadd, 1) := dcs_at ok14_rounds_0_1 35 rfl
theorem dX3_lay_64 : decode cX3_lay 64 = .ok (.istore_n 3, 1) := dcs_at ok14_rounds_0_1 36 rfl
theorem dX3_lay_65 : decode cX3_lay 65 = .ok (.iinc 4 1, 3) := dcs_at ok14_rounds_0_1 37 rfl
theorem dX3_lay_68 : decode cX3_lay 68 = .ok (.goto (-61), 3) := dcs_at ok14_rounds_0_1 38 rfl
theorem dX3_lay_71 : decode cX3_lay 71 = .ok (.aload_n 0, 1) := dcs_at ok14_rounds_0_1 39 rfl
def tb14_rounds_0_2 : List (Nat × (Instr × Nat)) := [(72, (.iconst 0, 1)), (73, (.putfield 32, 3)), (76, (.aload_n 0, 1)), (77, (.iconst 0, 1)), (78, (.putfield 37, 3)), (81, (.aload_n 0, 1)), (82, (.iconst 0, 1)), (83, (.putfield 40, 3)), (86, (.aload_n 1, 1)), (87, (.invokevirtual 43, 3)), (90, (.istore 4, 2)), (92, (.iconst 1, 1)), (93, (.istore 5, 2)), (95, (.iload 5, 2)), (97, (.bipush 64, 2)), (99, (.if_icmp .ge 28, 3)), (102, (.iload 5, 2)), (104, (.iload 4, 2)), (106, (.iconst (-1), 1)), (107, (.ixor, 1)), (108, (.iand, 1)), (109, (.ifCond .ne 12, 3)), (112, (.aload_n 0, 1)), (113, (.aload_n 1, 1)), (114, (.iload 5, 2)), (116, (.iload_n 2, 1)), (117, (.iload_n 3, 1)), (118, (.invokevirtual 47, 3)), (121, (.iinc 5 1, 3)), (124, (.goto (-29), 3)), (127, (.return_, 1))]
theorem ok14_rounds_0_2 : dcs cX3_lay tb14_rounds_0_2 = true := by decide +kernel
theorem dX3_lay_72 : decode cX3_lay 72 = .ok (.iconst 0, 1) := dcs_at ok14_rounds_0_2 0 rfl
theorem dX3_lay_73 : decode cX3_lay 73 = .ok (.putfield 32, 3) := dcs_at ok14_rounds_0_2 1 rfl
theorem dX3_lay_76 : decode cX3_lay 76 = .ok (.aload_n 0, 1) := dcs_at ok14_rounds_0_2 2 rfl
theorem dX3_lay_77 : decode cX3_lay 77 = .ok (.iconst 0, 1) := dcs_at ok14_rounds_0_2 3 rfl
theorem dX3_lay_78 : decode cX3_lay 78 = .ok (.putfield 37, 3) := dcs_at ok14_rounds_0_2 4 rfl
theorem dX3_lay_81 : decode cX3_lay 81 = .ok (.aload_n 0, 1) := dcs_at ok14_rounds_0_2 5 rfl
theorem dX3_lay_82 : decode cX3_lay 82 = .ok (.iconst 0, 1) := dcs_at ok14_rounds_0_2 6 rfl
theorem dX3_lay_83 : decode cX3_lay 83 = .ok (.putfield 40, 3) := dcs_at ok14_rounds_0_2 7 rfl
theorem dX3_lay_86 : decode cX3_lay 86 = .ok (.aload_n 1, 1) := dcs_at ok14_rounds_0_2 8 rfl
theorem dX3_lay_87 : decode cX3_lay 87 = .ok (.invokevirtual 43, 3) := dcs_at ok14_rounds_0_2 9 rfl
theorem dX3_lay_90 : decode cX3_lay 90 = .ok (.istore 4, 2) := dcs_at ok14_rounds_0_2 10 rfl
theorem dX3_lay_92 : decode cX3_lay 92 = .ok (.iconst 1, 1) := dcs_at ok14_rounds_0_2 11 rfl
theorem dX3_lay_93 : decode cX3_lay 93 = .ok (.istore 5, 2) := dcs_at ok14_rounds_0_2 12 rfl
theorem dX3_lay_95 : decode cX3_lay 95 = .ok (.iload 5, 2) := dcs_at ok14_rounds_0_2 13 rfl
theorem dX3_lay_97 : decode cX3_lay 97 = .ok (.bipush 64, 2) := dcs_at ok14_rounds_0_2 14 rfl
theorem dX3_lay_99 : decode cX3_lay 99 = .ok (.if_icmp .ge 28, 3) := dcs_at ok14_rounds_0_2 15 rfl
theorem dX3_lay_102 : decode cX3_lay 102 = .ok (.iload 5, 2) := dcs_at ok14_rounds_0_2 16 rfl
theorem dX3_lay_104 : decode cX3_lay 104 = .ok (.iload 4, 2) := dcs_at ok14_rounds_0_2 17 rfl
theorem dX3_lay_106 : decode cX3_lay 106 = .ok (.iconst (-1), 1) := dcs_at ok14_rounds_0_2 18 rfl
theorem dX3_lay_107 : decode cX3_lay 107 = .ok (.ixor, 1) := dcs_at ok14_rounds_0_2 19 rfl
theorem dX3_lay_108 : decode cX3_lay 108 = .ok (.iand, 1) := dcs_at ok14_rounds_0_2 20 rfl
theorem dX3_lay_109 : decode cX3_lay 109 = .ok (.ifCond .ne 12, 3) := dcs_at ok14_rounds_0_2 21 rfl
theorem dX3_lay_112 : decode cX3_lay 112 = .ok (.aload_n 0, 1) := dcs_at ok14_rounds_0_2 22 rfl
theorem dX3_lay_113 : decode cX3_lay 113 = .ok (.aload_n 1, 1) := dcs_at ok14_rounds_0_2 23 rfl
theorem dX3_lay_114 : decode cX3_lay 114 = .ok (.iload 5, 2) := dcs_at ok14_rounds_0_2 24 rfl
theorem dX3_lay_116 : decode cX3_lay 116 = .ok (.iload_n 2, 1) := dcs_at ok14_rounds_0_2 25 rfl
theorem dX3_lay_117 : decode cX3_lay 117 = .ok (.iload_n 3, 1) := dcs_at ok14_rounds_0_2 26 rfl
theorem dX3_lay_118 : decode cX3_lay 118 = .ok (.invokevirtual 47, 3) := dcs_at ok14_rounds_0_2 27 rfl
theorem dX3_lay_121 : decode cX3_lay 121 = .ok (.iinc 5 1, 3) := dcs_at ok14_rounds_0_2 28 rfl
theorem dX3_lay_124 : decode cX3_lay 124 = .ok (.goto (-29), 3) := dcs_at ok14_rounds_0_2 29 rfl
theorem dX3_lay_127 : decode cX3_lay 127 = .ok (.return_, 1) := dcs_at ok14_rounds_0_2 30 rfl
def tb14_rounds_0_3 : List (Nat × (Instr × Nat)) := [(0, (.iconst 0, 1)), (1, (.istore 5, 2)), (3, (.iconst 0, 1)), (4, (.istore 6, 2)), (6, (.iconst 0, 1)), (7, (.istore 7, 2)), (9, (.iload 7, 2)), (11, (.bipush 6, 2)), (13, (.if_icmp .ge 44, 3)), (16, (.iload_n 2, 1)), (17, (.iload 7, 2)), (19, (.ishr, 1)), (20, (.iconst 1, 1)), (21, (.iand, 1)), (22, (.ifCond .eq 29, 3)), (25, (.iload 5, 2)), (27, (.aload_n 1, 1)), (28, (.iload 7, 2)), (30, (.invokevirtual 51, 3)), (33, (.iconst 2, 1)), (34, (.idiv, 1)), (35, (.iadd, 1)), (36, (.istore 5, 2)), (38, (.iload 6, 2)), (40, (.aload_n 1, 1)), (41, (.iload 7, 2)), (43, (.invokevirtual 51, 3)), (46, (.iconst 2, 1)), (47, (.irem, 1)), (48, (.iadd, 1)), (49, (.istore 6, 2)), (51, (.iinc 7 1, 3)), (54, (.goto (-45), 3)), (57, (.iload_n 3, 1)), (58, (.iload 5, 2)), (60, (.if_icmp .ge 15, 3)), (63, (.iconst 2, 1)), (64, (.iload 5, 2)), (66, (.iload_n 3, 1)), (67, (.isub, 1))]
theorem ok14_rounds_0_3 : dcs cX3_tryGuests tb14_rounds_0_3 = true := by decide +kernel
theorem dX3_tryGuests_0 : decode cX3_tryGuests 0 = .ok (.iconst 0, 1) := dcs_at ok14_rounds_0_3 0 rfl
theorem dX3_tryGuests_1 : decode cX3_tryGuests 1 = .ok (.istore 5, 2) := dcs_at ok14_rounds_0_3 1 rfl
theorem dX3_tryGuests_3 : decode cX3_tryGuests 3 = .ok (.iconst 0, 1) := dcs_at ok14_rounds_0_3 2 rfl
theorem dX3_tryGuests_4 : decode cX3_tryGuests 4 = .ok (.istore 6, 2) := dcs_at ok14_rounds_0_3 3 rfl
theorem dX3_tryGuests_6 : decode cX3_tryGuests 6 = .ok (.iconst 0, 1) := dcs_at ok14_rounds_0_3 4 rfl
theorem dX3_tryGuests_7 : decode cX3_tryGuests 7 = .ok (.istore 7, 2) := dcs_at ok14_rounds_0_3 5 rfl
theorem dX3_tryGuests_9 : decode cX3_tryGuests 9 = .ok (.iload 7, 2) := dcs_at ok14_rounds_0_3 6 rfl
theorem dX3_tryGuests_11 : decode cX3_tryGuests 11 = .ok (.bipush 6, 2) := dcs_at ok14_rounds_0_3 7 rfl
theorem dX3_tryGuests_13 : decode cX3_tryGuests 13 = .ok (.if_icmp .ge 44, 3) := dcs_at ok14_rounds_0_3 8 rfl
theorem dX3_tryGuests_16 : decode cX3_tryGuests 16 = .ok (.iload_n 2, 1) := dcs_at ok14_rounds_0_3 9 rfl
theorem dX3_tryGuests_17 : decode cX3_tryGuests 17 = .ok (.iload 7, 2) := dcs_at ok14_rounds_0_3 10 rfl
theorem dX3_tryGuests_19 : decode cX3_tryGuests 19 = .ok (.ishr, 1) := dcs_at ok14_rounds_0_3 11 rfl
theorem dX3_tryGuests_20 : decode cX3_tryGuests 20 = .ok (.iconst 1, 1) := dcs_at ok14_rounds_0_3 12 rfl
theorem dX3_tryGuests_21 : decode cX3_tryGuests 21 = .ok (.iand, 1) := dcs_at ok14_rounds_0_3 13 rfl
theorem dX3_tryGuests_22 : decode cX3_tryGuests 22 = .ok (.ifCond .eq 29, 3) := dcs_at ok14_rounds_0_3 14 rfl
theorem dX3_tryGuests_25 : decode cX3_tryGuests 25 = .ok (.iload 5, 2) := dcs_at ok14_rounds_0_3 15 rfl
theorem dX3_tryGuests_27 : decode cX3_tryGuests 27 = .ok (.aload_n 1, 1) := dcs_at ok14_rounds_0_3 16 rfl
theorem dX3_tryGuests_28 : decode cX3_tryGuests 28 = .ok (.iload 7, 2) := dcs_at ok14_rounds_0_3 17 rfl
theorem dX3_tryGuests_30 : decode cX3_tryGuests 30 = .ok (.invokevirtual 51, 3) := dcs_at ok14_rounds_0_3 18 rfl
theorem dX3_tryGuests_33 : decode cX3_tryGuests 33 = .ok (.iconst 2, 1) := dcs_at ok14_rounds_0_3 19 rfl
theorem dX3_tryGuests_34 : decode cX3_tryGuests 34 = .ok (.idiv, 1) := dcs_at ok14_rounds_0_3 20 rfl
theorem dX3_tryGuests_35 : decode cX3_tryGuests 35 = .ok (.iadd, 1) := dcs_at ok14_rounds_0_3 21 rfl
theorem dX3_tryGuests_36 : decode cX3_tryGuests 36 = .ok (.istore 5, 2) := dcs_at ok14_rounds_0_3 22 rfl
theorem dX3_tryGuests_38 : decode cX3_tryGuests 38 = .ok (.iload 6, 2) := dcs_at ok14_rounds_0_3 23 rfl
theorem dX3_tryGuests_40 : decode cX3_tryGuests 40 = .ok (.aload_n 1, 1) := dcs_at ok14_rounds_0_3 24 rfl
theorem dX3_tryGuests_41 : decode cX3_tryGuests 41 = .ok (.iload 7, 2) := dcs_at ok14_rounds_0_3 25 rfl
theorem dX3_tryGuests_43 : decode cX3_tryGuests 43 = .ok (.invokevirtual 51, 3) := dcs_at ok14_rounds_0_3 26 rfl
theorem dX3_tryGuests_46 : decode cX3_tryGuests 46 = .ok (.iconst 2, 1) := dcs_at ok14_rounds_0_3 27 rfl
theorem dX3_tryGuests_47 : decode cX3_tryGuests 47 = .ok (.irem, 1) := dcs_at ok14_rounds_0_3 28 rfl
theorem dX3_tryGuests_48 : decode cX3_tryGuests 48 = .ok (.iadd, 1) := dcs_at ok14_rounds_0_3 29 rfl
theorem dX3_tryGuests_49 : decode cX3_tryGuests 49 = .ok (.istore 6, 2) := dcs_at ok14_rounds_0_3 30 rfl
theorem dX3_tryGuests_51 : decode cX3_tryGuests 51 = .ok (.iinc 7 1, 3) := dcs_at ok14_rounds_0_3 31 rfl
theorem dX3_tryGuests_54 : decode cX3_tryGuests 54 = .ok (.goto (-45), 3) := dcs_at ok14_rounds_0_3 32 rfl
theorem dX3_tryGuests_57 : decode cX3_tryGuests 57 = .ok (.iload_n 3, 1) := dcs_at ok14_rounds_0_3 33 rfl
theorem dX3_tryGuests_58 : decode cX3_tryGuests 58 = .ok (.iload 5, 2) := dcs_at ok14_rounds_0_3 34 rfl
theorem dX3_tryGuests_60 : decode cX3_tryGuests 60 = .ok (.if_icmp .ge 15, 3) := dcs_at ok14_rounds_0_3 35 rfl
theorem dX3_tryGuests_63 : decode cX3_tryGuests 63 = .ok (.iconst 2, 1) := dcs_at ok14_rounds_0_3 36 rfl
theorem dX3_tryGuests_64 : decode cX3_tryGuests 64 = .ok (.iload 5, 2) := dcs_at ok14_rounds_0_3 37 rfl
theorem dX3_tryGuests_66 : decode cX3_tryGuests 66 = .ok (.iload_n 3, 1) := dcs_at ok14_rounds_0_3 38 rfl
theorem dX3_tryGuests_67 : decode cX3_tryGuests 67 = .ok (.isub, 1) := dcs_at ok14_rounds_0_3 39 rfl
def tb14_rounds_0_4 : List (Nat × (Instr × Nat)) := [(68, (.imul, 1)), (69, (.iload 6, 2)), (71, (.iadd, 1)), (72, (.goto 10, 3)), (75, (.iload 6, 2)), (77, (.iload 4, 2)), (79, (.invokestatic 55, 3)), (82, (.istore 7, 2)), (84, (.iload_n 3, 1)), (85, (.iload 5, 2)), (87, (.if_icmp .ge 7, 3)), (90, (.iload_n 3, 1)), (91, (.goto 11, 3)), (94, (.iload 5, 2)), (96, (.iload 6, 2)), (98, (.iadd, 1)), (99, (.iload 7, 2)), (101, (.isub, 1)), (102, (.istore 8, 2)), (104, (.iload 7, 2)), (106, (.iload 4, 2)), (108, (.if_icmp .gt 38, 3)), (111, (.iload 8, 2)), (113, (.iload_n 3, 1)), (114, (.if_icmp .gt 32, 3)), (117, (.aload_n 0, 1)), (118, (.iload_n 2, 1)), (119, (.iload 8, 2)), (121, (.iload 7, 2)), (123, (.invokevirtual 61, 3)), (126, (.ifCond .eq 20, 3)), (129, (.aload_n 0, 1)), (130, (.iload_n 2, 1)), (131, (.putfield 32, 3)), (134, (.aload_n 0, 1)), (135, (.iload 8, 2)), (137, (.putfield 37, 3)), (140, (.aload_n 0, 1)), (141, (.iload 7, 2)), (143, (.putfield 40, 3))]
theorem ok14_rounds_0_4 : dcs cX3_tryGuests tb14_rounds_0_4 = true := by decide +kernel
theorem dX3_tryGuests_68 : decode cX3_tryGuests 68 = .ok (.imul, 1) := dcs_at ok14_rounds_0_4 0 rfl
theorem dX3_tryGuests_69 : decode cX3_tryGuests 69 = .ok (.iload 6, 2) := dcs_at ok14_rounds_0_4 1 rfl
theorem dX3_tryGuests_71 : decode cX3_tryGuests 71 = .ok (.iadd, 1) := dcs_at ok14_rounds_0_4 2 rfl
theorem dX3_tryGuests_72 : decode cX3_tryGuests 72 = .ok (.goto 10, 3) := dcs_at ok14_rounds_0_4 3 rfl
theorem dX3_tryGuests_75 : decode cX3_tryGuests 75 = .ok (.iload 6, 2) := dcs_at ok14_rounds_0_4 4 rfl
theorem dX3_tryGuests_77 : decode cX3_tryGuests 77 = .ok (.iload 4, 2) := dcs_at ok14_rounds_0_4 5 rfl
theorem dX3_tryGuests_79 : decode cX3_tryGuests 79 = .ok (.invokestatic 55, 3) := dcs_at ok14_rounds_0_4 6 rfl
theorem dX3_tryGuests_82 : decode cX3_tryGuests 82 = .ok (.istore 7, 2) := dcs_at ok14_rounds_0_4 7 rfl
theorem dX3_tryGuests_84 : decode cX3_tryGuests 84 = .ok (.iload_n 3, 1) := dcs_at ok14_rounds_0_4 8 rfl
theorem dX3_tryGuests_85 : decode cX3_tryGuests 85 = .ok (.iload 5, 2) := dcs_at ok14_rounds_0_4 9 rfl
theorem dX3_tryGuests_87 : decode cX3_tryGuests 87 = .ok (.if_icmp .ge 7, 3) := dcs_at ok14_rounds_0_4 10 rfl
theorem dX3_tryGuests_90 : decode cX3_tryGuests 90 = .ok (.iload_n 3, 1) := dcs_at ok14_rounds_0_4 11 rfl
theorem dX3_tryGuests_91 : decode cX3_tryGuests 91 = .ok (.goto 11, 3) := dcs_at ok14_rounds_0_4 12 rfl
theorem dX3_tryGuests_94 : decode cX3_tryGuests 94 = .ok (.iload 5, 2) := dcs_at ok14_rounds_0_4 13 rfl
theorem dX3_tryGuests_96 : decode cX3_tryGuests 96 = .ok (.iload 6, 2) := dcs_at ok14_rounds_0_4 14 rfl
theorem dX3_tryGuests_98 : decode cX3_tryGuests 98 = .ok (.iadd, 1) := dcs_at ok14_rounds_0_4 15 rfl
theorem dX3_tryGuests_99 : decode cX3_tryGuests 99 = .ok (.iload 7, 2) := dcs_at ok14_rounds_0_4 16 rfl
theorem dX3_tryGuests_101 : decode cX3_tryGuests 101 = .ok (.isub, 1) := dcs_at ok14_rounds_0_4 17 rfl
theorem dX3_tryGuests_102 : decode cX3_tryGuests 102 = .ok (.istore 8, 2) := dcs_at ok14_rounds_0_4 18 rfl
theorem dX3_tryGuests_104 : decode cX3_tryGuests 104 = .ok (.iload 7, 2) := dcs_at ok14_rounds_0_4 19 rfl
theorem dX3_tryGuests_106 : decode cX3_tryGuests 106 = .ok (.iload 4, 2) := dcs_at ok14_rounds_0_4 20 rfl
theorem dX3_tryGuests_108 : decode cX3_tryGuests 108 = .ok (.if_icmp .gt 38, 3) := dcs_at ok14_rounds_0_4 21 rfl
theorem dX3_tryGuests_111 : decode cX3_tryGuests 111 = .ok (.iload 8, 2) := dcs_at ok14_rounds_0_4 22 rfl
theorem dX3_tryGuests_113 : decode cX3_tryGuests 113 = .ok (.iload_n 3, 1) := dcs_at ok14_rounds_0_4 23 rfl
theorem dX3_tryGuests_114 : decode cX3_tryGuests 114 = .ok (.if_icmp .gt 32, 3) := dcs_at ok14_rounds_0_4 24 rfl
theorem dX3_tryGuests_117 : decode cX3_tryGuests 117 = .ok (.aload_n 0, 1) := dcs_at ok14_rounds_0_4 25 rfl
theorem dX3_tryGuests_118 : decode cX3_tryGuests 118 = .ok (.iload_n 2, 1) := dcs_at ok14_rounds_0_4 26 rfl
theorem dX3_tryGuests_119 : decode cX3_tryGuests 119 = .ok (.iload 8, 2) := dcs_at ok14_rounds_0_4 27 rfl
theorem dX3_tryGuests_121 : decode cX3_tryGuests 121 = .ok (.iload 7, 2) := dcs_at ok14_rounds_0_4 28 rfl
theorem dX3_tryGuests_123 : decode cX3_tryGuests 123 = .ok (.invokevirtual 61, 3) := dcs_at ok14_rounds_0_4 29 rfl
theorem dX3_tryGuests_126 : decode cX3_tryGuests 126 = .ok (.ifCond .eq 20, 3) := dcs_at ok14_rounds_0_4 30 rfl
theorem dX3_tryGuests_129 : decode cX3_tryGuests 129 = .ok (.aload_n 0, 1) := dcs_at ok14_rounds_0_4 31 rfl
theorem dX3_tryGuests_130 : decode cX3_tryGuests 130 = .ok (.iload_n 2, 1) := dcs_at ok14_rounds_0_4 32 rfl
theorem dX3_tryGuests_131 : decode cX3_tryGuests 131 = .ok (.putfield 32, 3) := dcs_at ok14_rounds_0_4 33 rfl
theorem dX3_tryGuests_134 : decode cX3_tryGuests 134 = .ok (.aload_n 0, 1) := dcs_at ok14_rounds_0_4 34 rfl
theorem dX3_tryGuests_135 : decode cX3_tryGuests 135 = .ok (.iload 8, 2) := dcs_at ok14_rounds_0_4 35 rfl
theorem dX3_tryGuests_137 : decode cX3_tryGuests 137 = .ok (.putfield 37, 3) := dcs_at ok14_rounds_0_4 36 rfl
theorem dX3_tryGuests_140 : decode cX3_tryGuests 140 = .ok (.aload_n 0, 1) := dcs_at ok14_rounds_0_4 37 rfl
theorem dX3_tryGuests_141 : decode cX3_tryGuests 141 = .ok (.iload 7, 2) := dcs_at ok14_rounds_0_4 38 rfl
theorem dX3_tryGuests_143 : decode cX3_tryGuests 143 = .ok (.putfield 40, 3) := dcs_at ok14_rounds_0_4 39 rfl
def tb14_rounds_0_5 : List (Nat × (Instr × Nat)) := [(146, (.return_, 1))]
theorem ok14_rounds_0_5 : dcs cX3_tryGuests tb14_rounds_0_5 = true := by decide +kernel
theorem dX3_tryGuests_146 : decode cX3_tryGuests 146 = .ok (.return_, 1) := dcs_at ok14_rounds_0_5 0 rfl
def tb14_rounds_0_6 : List (Nat × (Instr × Nat)) := [(0, (.iload_n 1, 1)), (1, (.invokestatic 65, 3)), (4, (.aload_n 0, 1)), (5, (.getfield 32, 3)), (8, (.invokestatic 65, 3)), (11, (.isub, 1)), (12, (.istore 4, 2)), (14, (.iload 4, 2)), (16, (.ifCond .eq 14, 3)), (19, (.iload 4, 2)), (21, (.ifCond .le 7, 3)), (24, (.iconst 1, 1)), (25, (.goto 4, 3)), (28, (.iconst 0, 1)), (29, (.ireturn, 1)), (30, (.aload_n 0, 1)), (31, (.getfield 37, 3)), (34, (.aload_n 0, 1)), (35, (.getfield 40, 3)), (38, (.iadd, 1)), (39, (.iload_n 2, 1)), (40, (.isub, 1)), (41, (.iload_n 3, 1)), (42, (.isub, 1)), (43, (.istore 5, 2)), (45, (.iload 5, 2)), (47, (.ifCond .eq 16, 3)), (50, (.iload 5, 2)), (52, (.ifCond .le 7, 3)), (55, (.iconst 1, 1)), (56, (.goto 20, 3)), (59, (.iconst 0, 1)), (60, (.goto 16, 3)), (63, (.iload_n 2, 1)), (64, (.aload_n 0, 1)), (65, (.getfield 37, 3)), (68, (.if_icmp .ge 7, 3)), (71, (.iconst 1, 1)), (72, (.goto 4, 3)), (75, (.iconst 0, 1))]
theorem ok14_rounds_0_6 : dcs cX3_isBetter tb14_rounds_0_6 = true := by decide +kernel
theorem dX3_isBetter_0 : decode cX3_isBetter 0 = .ok (.iload_n 1, 1) := dcs_at ok14_rounds_0_6 0 rfl
theorem dX3_isBetter_1 : decode cX3_isBetter 1 = .ok (.invokestatic 65, 3) := dcs_at ok14_rounds_0_6 1 rfl
theorem dX3_isBetter_4 : decode cX3_isBetter 4 = .ok (.aload_n 0, 1) := dcs_at ok14_rounds_0_6 2 rfl
theorem dX3_isBetter_5 : decode cX3_isBetter 5 = .ok (.getfield 32, 3) := dcs_at ok14_rounds_0_6 3 rfl
theorem dX3_isBetter_8 : decode cX3_isBetter 8 = .ok (.invokestatic 65, 3) := dcs_at ok14_rounds_0_6 4 rfl
theorem dX3_isBetter_11 : decode cX3_isBetter 11 = .ok (.isub, 1) := dcs_at ok14_rounds_0_6 5 rfl
theorem dX3_isBetter_12 : decode cX3_isBetter 12 = .ok (.istore 4, 2) := dcs_at ok14_rounds_0_6 6 rfl
theorem dX3_isBetter_14 : decode cX3_isBetter 14 = .ok (.iload 4, 2) := dcs_at ok14_rounds_0_6 7 rfl
theorem dX3_isBetter_16 : decode cX3_isBetter 16 = .ok (.ifCond .eq 14, 3) := dcs_at ok14_rounds_0_6 8 rfl
theorem dX3_isBetter_19 : decode cX3_isBetter 19 = .ok (.iload 4, 2) := dcs_at ok14_rounds_0_6 9 rfl
theorem dX3_isBetter_21 : decode cX3_isBetter 21 = .ok (.ifCond .le 7, 3) := dcs_at ok14_rounds_0_6 10 rfl
theorem dX3_isBetter_24 : decode cX3_isBetter 24 = .ok (.iconst 1, 1) := dcs_at ok14_rounds_0_6 11 rfl
theorem dX3_isBetter_25 : decode cX3_isBetter 25 = .ok (.goto 4, 3) := dcs_at ok14_rounds_0_6 12 rfl
theorem dX3_isBetter_28 : decode cX3_isBetter 28 = .ok (.iconst 0, 1) := dcs_at ok14_rounds_0_6 13 rfl
theorem dX3_isBetter_29 : decode cX3_isBetter 29 = .ok (.ireturn, 1) := dcs_at ok14_rounds_0_6 14 rfl
theorem dX3_isBetter_30 : decode cX3_isBetter 30 = .ok (.aload_n 0, 1) := dcs_at ok14_rounds_0_6 15 rfl
theorem dX3_isBetter_31 : decode cX3_isBetter 31 = .ok (.getfield 37, 3) := dcs_at ok14_rounds_0_6 16 rfl
theorem dX3_isBetter_34 : decode cX3_isBetter 34 = .ok (.aload_n 0, 1) := dcs_at ok14_rounds_0_6 17 rfl
theorem dX3_isBetter_35 : decode cX3_isBetter 35 = .ok (.getfield 40, 3) := dcs_at ok14_rounds_0_6 18 rfl
theorem dX3_isBetter_38 : decode cX3_isBetter 38 = .ok (.iadd, 1) := dcs_at ok14_rounds_0_6 19 rfl
theorem dX3_isBetter_39 : decode cX3_isBetter 39 = .ok (.iload_n 2, 1) := dcs_at ok14_rounds_0_6 20 rfl
theorem dX3_isBetter_40 : decode cX3_isBetter 40 = .ok (.isub, 1) := dcs_at ok14_rounds_0_6 21 rfl
theorem dX3_isBetter_41 : decode cX3_isBetter 41 = .ok (.iload_n 3, 1) := dcs_at ok14_rounds_0_6 22 rfl
theorem dX3_isBetter_42 : decode cX3_isBetter 42 = .ok (.isub, 1) := dcs_at ok14_rounds_0_6 23 rfl
theorem dX3_isBetter_43 : decode cX3_isBetter 43 = .ok (.istore 5, 2) := dcs_at ok14_rounds_0_6 24 rfl
theorem dX3_isBetter_45 : decode cX3_isBetter 45 = .ok (.iload 5, 2) := dcs_at ok14_rounds_0_6 25 rfl
theorem dX3_isBetter_47 : decode cX3_isBetter 47 = .ok (.ifCond .eq 16, 3) := dcs_at ok14_rounds_0_6 26 rfl
theorem dX3_isBetter_50 : decode cX3_isBetter 50 = .ok (.iload 5, 2) := dcs_at ok14_rounds_0_6 27 rfl
theorem dX3_isBetter_52 : decode cX3_isBetter 52 = .ok (.ifCond .le 7, 3) := dcs_at ok14_rounds_0_6 28 rfl
theorem dX3_isBetter_55 : decode cX3_isBetter 55 = .ok (.iconst 1, 1) := dcs_at ok14_rounds_0_6 29 rfl
theorem dX3_isBetter_56 : decode cX3_isBetter 56 = .ok (.goto 20, 3) := dcs_at ok14_rounds_0_6 30 rfl
theorem dX3_isBetter_59 : decode cX3_isBetter 59 = .ok (.iconst 0, 1) := dcs_at ok14_rounds_0_6 31 rfl
theorem dX3_isBetter_60 : decode cX3_isBetter 60 = .ok (.goto 16, 3) := dcs_at ok14_rounds_0_6 32 rfl
theorem dX3_isBetter_63 : decode cX3_isBetter 63 = .ok (.iload_n 2, 1) := dcs_at ok14_rounds_0_6 33 rfl
theorem dX3_isBetter_64 : decode cX3_isBetter 64 = .ok (.aload_n 0, 1) := dcs_at ok14_rounds_0_6 34 rfl
theorem dX3_isBetter_65 : decode cX3_isBetter 65 = .ok (.getfield 37, 3) := dcs_at ok14_rounds_0_6 35 rfl
theorem dX3_isBetter_68 : decode cX3_isBetter 68 = .ok (.if_icmp .ge 7, 3) := dcs_at ok14_rounds_0_6 36 rfl
theorem dX3_isBetter_71 : decode cX3_isBetter 71 = .ok (.iconst 1, 1) := dcs_at ok14_rounds_0_6 37 rfl
theorem dX3_isBetter_72 : decode cX3_isBetter 72 = .ok (.goto 4, 3) := dcs_at ok14_rounds_0_6 38 rfl
theorem dX3_isBetter_75 : decode cX3_isBetter 75 = .ok (.iconst 0, 1) := dcs_at ok14_rounds_0_6 39 rfl
def tb14_rounds_0_7 : List (Nat × (Instr × Nat)) := [(76, (.ireturn, 1))]
theorem ok14_rounds_0_7 : dcs cX3_isBetter tb14_rounds_0_7 = true := by decide +kernel
theorem dX3_isBetter_76 : decode cX3_isBetter 76 = .ok (.ireturn, 1) := dcs_at ok14_rounds_0_7 0 rfl
def tb14_rounds_0_8 : List (Nat × (Instr × Nat)) := [(0, (.iload_n 1, 1)), (1, (.tableswitch 45 0 2 #[27, 35, 40], 27)), (28, (.aload_n 0, 1)), (29, (.getfield 32, 3)), (32, (.invokestatic 65, 3)), (35, (.ireturn, 1)), (36, (.aload_n 0, 1)), (37, (.getfield 32, 3)), (40, (.ireturn, 1)), (41, (.aload_n 0, 1)), (42, (.getfield 37, 3)), (45, (.ireturn, 1)), (46, (.aload_n 0, 1)), (47, (.getfield 40, 3)), (50, (.ireturn, 1))]
theorem ok14_rounds_0_8 : dcs cX3_tell tb14_rounds_0_8 = true := by decide +kernel
theorem dX3_tell_0 : decode cX3_tell 0 = .ok (.iload_n 1, 1) := dcs_at ok14_rounds_0_8 0 rfl
theorem dX3_tell_1 : decode cX3_tell 1 = .ok (.tableswitch 45 0 2 #[27, 35, 40], 27) := dcs_at ok14_rounds_0_8 1 rfl
theorem dX3_tell_28 : decode cX3_tell 28 = .ok (.aload_n 0, 1) := dcs_at ok14_rounds_0_8 2 rfl
theorem dX3_tell_29 : decode cX3_tell 29 = .ok (.getfield 32, 3) := dcs_at ok14_rounds_0_8 3 rfl
theorem dX3_tell_32 : decode cX3_tell 32 = .ok (.invokestatic 65, 3) := dcs_at ok14_rounds_0_8 4 rfl
theorem dX3_tell_35 : decode cX3_tell 35 = .ok (.ireturn, 1) := dcs_at ok14_rounds_0_8 5 rfl
theorem dX3_tell_36 : decode cX3_tell 36 = .ok (.aload_n 0, 1) := dcs_at ok14_rounds_0_8 6 rfl
theorem dX3_tell_37 : decode cX3_tell 37 = .ok (.getfield 32, 3) := dcs_at ok14_rounds_0_8 7 rfl
theorem dX3_tell_40 : decode cX3_tell 40 = .ok (.ireturn, 1) := dcs_at ok14_rounds_0_8 8 rfl
theorem dX3_tell_41 : decode cX3_tell 41 = .ok (.aload_n 0, 1) := dcs_at ok14_rounds_0_8 9 rfl
theorem dX3_tell_42 : decode cX3_tell 42 = .ok (.getfield 37, 3) := dcs_at ok14_rounds_0_8 10 rfl
theorem dX3_tell_45 : decode cX3_tell 45 = .ok (.ireturn, 1) := dcs_at ok14_rounds_0_8 11 rfl
theorem dX3_tell_46 : decode cX3_tell 46 = .ok (.aload_n 0, 1) := dcs_at ok14_rounds_0_8 12 rfl
theorem dX3_tell_47 : decode cX3_tell 47 = .ok (.getfield 40, 3) := dcs_at ok14_rounds_0_8 13 rfl
theorem dX3_tell_50 : decode cX3_tell 50 = .ok (.ireturn, 1) := dcs_at ok14_rounds_0_8 14 rfl
def tb14_rounds_0_9 : List (Nat × (Instr × Nat)) := [(0, (.aload_n 0, 1)), (1, (.aload_n 1, 1)), (2, (.getfield 24, 3)), (5, (.putfield 30, 3)), (8, (.aload_n 0, 1)), (9, (.aload_n 1, 1)), (10, (.getfield 31, 3)), (13, (.putfield 34, 3)), (16, (.aload_n 1, 1)), (17, (.getfield 35, 3)), (20, (.iconst 0, 1)), (21, (.aload_n 0, 1)), (22, (.getfield 9, 3)), (25, (.iconst 0, 1)), (26, (.iconst 4, 1)), (27, (.invokestatic 36, 3)), (30, (.aload_n 1, 1)), (31, (.getfield 42, 3)), (34, (.iconst 0, 1)), (35, (.aload_n 0, 1)), (36, (.getfield 15, 3)), (39, (.iconst 0, 1)), (40, (.iconst 4, 1)), (41, (.invokestatic 36, 3)), (44, (.aload_n 0, 1)), (45, (.getfield 18, 3)), (48, (.iconst 0, 1)), (49, (.invokestatic 43, 3)), (52, (.return_, 1))]
theorem ok14_rounds_0_9 : dcs cX6_begin tb14_rounds_0_9 = true := by decide +kernel
theorem dX6_begin_0 : decode cX6_begin 0 = .ok (.aload_n 0, 1) := dcs_at ok14_rounds_0_9 0 rfl
theorem dX6_begin_1 : decode cX6_begin 1 = .ok (.aload_n 1, 1) := dcs_at ok14_rounds_0_9 1 rfl
theorem dX6_begin_2 : decode cX6_begin 2 = .ok (.getfield 24, 3) := dcs_at ok14_rounds_0_9 2 rfl
theorem dX6_begin_5 : decode cX6_begin 5 = .ok (.putfield 30, 3) := dcs_at ok14_rounds_0_9 3 rfl
theorem dX6_begin_8 : decode cX6_begin 8 = .ok (.aload_n 0, 1) := dcs_at ok14_rounds_0_9 4 rfl
theorem dX6_begin_9 : decode cX6_begin 9 = .ok (.aload_n 1, 1) := dcs_at ok14_rounds_0_9 5 rfl
theorem dX6_begin_10 : decode cX6_begin 10 = .ok (.getfield 31, 3) := dcs_at ok14_rounds_0_9 6 rfl
theorem dX6_begin_13 : decode cX6_begin 13 = .ok (.putfield 34, 3) := dcs_at ok14_rounds_0_9 7 rfl
theorem dX6_begin_16 : decode cX6_begin 16 = .ok (.aload_n 1, 1) := dcs_at ok14_rounds_0_9 8 rfl
theorem dX6_begin_17 : decode cX6_begin 17 = .ok (.getfield 35, 3) := dcs_at ok14_rounds_0_9 9 rfl
theorem dX6_begin_20 : decode cX6_begin 20 = .ok (.iconst 0, 1) := dcs_at ok14_rounds_0_9 10 rfl
theorem dX6_begin_21 : decode cX6_begin 21 = .ok (.aload_n 0, 1) := dcs_at ok14_rounds_0_9 11 rfl
theorem dX6_begin_22 : decode cX6_begin 22 = .ok (.getfield 9, 3) := dcs_at ok14_rounds_0_9 12 rfl
theorem dX6_begin_25 : decode cX6_begin 25 = .ok (.iconst 0, 1) := dcs_at ok14_rounds_0_9 13 rfl
theorem dX6_begin_26 : decode cX6_begin 26 = .ok (.iconst 4, 1) := dcs_at ok14_rounds_0_9 14 rfl
theorem dX6_begin_27 : decode cX6_begin 27 = .ok (.invokestatic 36, 3) := dcs_at ok14_rounds_0_9 15 rfl
theorem dX6_begin_30 : decode cX6_begin 30 = .ok (.aload_n 1, 1) := dcs_at ok14_rounds_0_9 16 rfl
theorem dX6_begin_31 : decode cX6_begin 31 = .ok (.getfield 42, 3) := dcs_at ok14_rounds_0_9 17 rfl
theorem dX6_begin_34 : decode cX6_begin 34 = .ok (.iconst 0, 1) := dcs_at ok14_rounds_0_9 18 rfl
theorem dX6_begin_35 : decode cX6_begin 35 = .ok (.aload_n 0, 1) := dcs_at ok14_rounds_0_9 19 rfl
theorem dX6_begin_36 : decode cX6_begin 36 = .ok (.getfield 15, 3) := dcs_at ok14_rounds_0_9 20 rfl
theorem dX6_begin_39 : decode cX6_begin 39 = .ok (.iconst 0, 1) := dcs_at ok14_rounds_0_9 21 rfl
theorem dX6_begin_40 : decode cX6_begin 40 = .ok (.iconst 4, 1) := dcs_at ok14_rounds_0_9 22 rfl
theorem dX6_begin_41 : decode cX6_begin 41 = .ok (.invokestatic 36, 3) := dcs_at ok14_rounds_0_9 23 rfl
theorem dX6_begin_44 : decode cX6_begin 44 = .ok (.aload_n 0, 1) := dcs_at ok14_rounds_0_9 24 rfl
theorem dX6_begin_45 : decode cX6_begin 45 = .ok (.getfield 18, 3) := dcs_at ok14_rounds_0_9 25 rfl
theorem dX6_begin_48 : decode cX6_begin 48 = .ok (.iconst 0, 1) := dcs_at ok14_rounds_0_9 26 rfl
theorem dX6_begin_49 : decode cX6_begin 49 = .ok (.invokestatic 43, 3) := dcs_at ok14_rounds_0_9 27 rfl
theorem dX6_begin_52 : decode cX6_begin 52 = .ok (.return_, 1) := dcs_at ok14_rounds_0_9 28 rfl
def tb14_rounds_0_10 : List (Nat × (Instr × Nat)) := [(0, (.aload_n 0, 1)), (1, (.getfield 34, 3)), (4, (.ifCond .le 10, 3)), (7, (.aload_n 0, 1)), (8, (.invokevirtual 49, 3)), (11, (.goto 4, 3)), (14, (.iconst (-1), 1)), (15, (.istore_n 1, 1)), (16, (.iconst 0, 1)), (17, (.istore_n 2, 1)), (18, (.iload_n 2, 1)), (19, (.aload_n 0, 1)), (20, (.getfield 30, 3)), (23, (.if_icmp .ge 79, 3)), (26, (.iload_n 2, 1)), (27, (.iload_n 1, 1)), (28, (.if_icmp .ne 45, 3)), (31, (.aload_n 0, 1)), (32, (.getfield 18, 3)), (35, (.iload_n 2, 1)), (36, (.dup2, 1)), (37, (.iaload, 1)), (38, (.aload_n 0, 1)), (39, (.getfield 34, 3)), (42, (.aload_n 0, 1)), (43, (.getfield 9, 3)), (46, (.iload_n 2, 1)), (47, (.iaload, 1)), (48, (.imul, 1)), (49, (.iadd, 1)), (50, (.iastore, 1)), (51, (.aload_n 0, 1)), (52, (.getfield 9, 3)), (55, (.iload_n 2, 1)), (56, (.bipush 30, 2)), (58, (.aload_n 0, 1)), (59, (.getfield 9, 3)), (62, (.iload_n 2, 1)), (63, (.iaload, 1)), (64, (.iconst 1, 1))]
theorem ok14_rounds_0_10 : dcs cX6_goRound tb14_rounds_0_10 = true := by decide +kernel
theorem dX6_goRound_0 : decode cX6_goRound 0 = .ok (.aload_n 0, 1) := dcs_at ok14_rounds_0_10 0 rfl
theorem dX6_goRound_1 : decode cX6_goRound 1 = .ok (.getfield 34, 3) := dcs_at ok14_rounds_0_10 1 rfl
theorem dX6_goRound_4 : decode cX6_goRound 4 = .ok (.ifCond .le 10, 3) := dcs_at ok14_rounds_0_10 2 rfl
theorem dX6_goRound_7 : decode cX6_goRound 7 = .ok (.aload_n 0, 1) := dcs_at ok14_rounds_0_10 3 rfl
theorem dX6_goRound_8 : decode cX6_goRound 8 = .ok (.invokevirtual 49, 3) := dcs_at ok14_rounds_0_10 4 rfl
theorem dX6_goRound_11 : decode cX6_goRound 11 = .ok (.goto 4, 3) := dcs_at ok14_rounds_0_10 5 rfl
theorem dX6_goRound_14 : decode cX6_goRound 14 = .ok (.iconst (-1), 1) := dcs_at ok14_rounds_0_10 6 rfl
theorem dX6_goRound_15 : decode cX6_goRound 15 = .ok (.istore_n 1, 1) := dcs_at ok14_rounds_0_10 7 rfl
theorem dX6_goRound_16 : decode cX6_goRound 16 = .ok (.iconst 0, 1) := dcs_at ok14_rounds_0_10 8 rfl
theorem dX6_goRound_17 : decode cX6_goRound 17 = .ok (.istore_n 2, 1) := dcs_at ok14_rounds_0_10 9 rfl
theorem dX6_goRound_18 : decode cX6_goRound 18 = .ok (.iload_n 2, 1) := dcs_at ok14_rounds_0_10 10 rfl
theorem dX6_goRound_19 : decode cX6_goRound 19 = .ok (.aload_n 0, 1) := dcs_at ok14_rounds_0_10 11 rfl
theorem dX6_goRound_20 : decode cX6_goRound 20 = .ok (.getfield 30, 3) := dcs_at ok14_rounds_0_10 12 rfl
theorem dX6_goRound_23 : decode cX6_goRound 23 = .ok (.if_icmp .ge 79, 3) := dcs_at ok14_rounds_0_10 13 rfl
theorem dX6_goRound_26 : decode cX6_goRound 26 = .ok (.iload_n 2, 1) := dcs_at ok14_rounds_0_10 14 rfl
theorem dX6_goRound_27 : decode cX6_goRound 27 = .ok (.iload_n 1, 1) := dcs_at ok14_rounds_0_10 15 rfl
theorem dX6_goRound_28 : decode cX6_goRound 28 = .ok (.if_icmp .ne 45, 3) := dcs_at ok14_rounds_0_10 16 rfl
theorem dX6_goRound_31 : decode cX6_goRound 31 = .ok (.aload_n 0, 1) := dcs_at ok14_rounds_0_10 17 rfl
theorem dX6_goRound_32 : decode cX6_goRound 32 = .ok (.getfield 18, 3) := dcs_at ok14_rounds_0_10 18 rfl
theorem dX6_goRound_35 : decode cX6_goRound 35 = .ok (.iload_n 2, 1) := dcs_at ok14_rounds_0_10 19 rfl
theorem dX6_goRound_36 : decode cX6_goRound 36 = .ok (.dup2, 1) := dcs_at ok14_rounds_0_10 20 rfl
theorem dX6_goRound_37 : decode cX6_goRound 37 = .ok (.iaload, 1) := dcs_at ok14_rounds_0_10 21 rfl
theorem dX6_goRound_38 : decode cX6_goRound 38 = .ok (.aload_n 0, 1) := dcs_at ok14_rounds_0_10 22 rfl
theorem dX6_goRound_39 : decode cX6_goRound 39 = .ok (.getfield 34, 3) := dcs_at ok14_rounds_0_10 23 rfl
theorem dX6_goRound_42 : decode cX6_goRound 42 = .ok (.aload_n 0, 1) := dcs_at ok14_rounds_0_10 24 rfl
theorem dX6_goRound_43 : decode cX6_goRound 43 = .ok (.getfield 9, 3) := dcs_at ok14_rounds_0_10 25 rfl
theorem dX6_goRound_46 : decode cX6_goRound 46 = .ok (.iload_n 2, 1) := dcs_at ok14_rounds_0_10 26 rfl
theorem dX6_goRound_47 : decode cX6_goRound 47 = .ok (.iaload, 1) := dcs_at ok14_rounds_0_10 27 rfl
theorem dX6_goRound_48 : decode cX6_goRound 48 = .ok (.imul, 1) := dcs_at ok14_rounds_0_10 28 rfl
theorem dX6_goRound_49 : decode cX6_goRound 49 = .ok (.iadd, 1) := dcs_at ok14_rounds_0_10 29 rfl
theorem dX6_goRound_50 : decode cX6_goRound 50 = .ok (.iastore, 1) := dcs_at ok14_rounds_0_10 30 rfl
theorem dX6_goRound_51 : decode cX6_goRound 51 = .ok (.aload_n 0, 1) := dcs_at ok14_rounds_0_10 31 rfl
theorem dX6_goRound_52 : decode cX6_goRound 52 = .ok (.getfield 9, 3) := dcs_at ok14_rounds_0_10 32 rfl
theorem dX6_goRound_55 : decode cX6_goRound 55 = .ok (.iload_n 2, 1) := dcs_at ok14_rounds_0_10 33 rfl
theorem dX6_goRound_56 : decode cX6_goRound 56 = .ok (.bipush 30, 2) := dcs_at ok14_rounds_0_10 34 rfl
theorem dX6_goRound_58 : decode cX6_goRound 58 = .ok (.aload_n 0, 1) := dcs_at ok14_rounds_0_10 35 rfl
theorem dX6_goRound_59 : decode cX6_goRound 59 = .ok (.getfield 9, 3) := dcs_at ok14_rounds_0_10 36 rfl
theorem dX6_goRound_62 : decode cX6_goRound 62 = .ok (.iload_n 2, 1) := dcs_at ok14_rounds_0_10 37 rfl
theorem dX6_goRound_63 : decode cX6_goRound 63 = .ok (.iaload, 1) := dcs_at ok14_rounds_0_10 38 rfl
theorem dX6_goRound_64 : decode cX6_goRound 64 = .ok (.iconst 1, 1) := dcs_at ok14_rounds_0_10 39 rfl
def tb14_rounds_0_11 : List (Nat × (Instr × Nat)) := [(65, (.iadd, 1)), (66, (.invokestatic 53, 3)), (69, (.iastore, 1)), (70, (.goto 26, 3)), (73, (.aload_n 0, 1)), (74, (.getfield 9, 3)), (77, (.iload_n 2, 1)), (78, (.aload_n 0, 1)), (79, (.getfield 15, 3)), (82, (.iload_n 2, 1)), (83, (.iaload, 1)), (84, (.aload_n 0, 1)), (85, (.getfield 9, 3)), (88, (.iload_n 2, 1)), (89, (.iaload, 1)), (90, (.iconst 1, 1)), (91, (.isub, 1)), (92, (.invokestatic 59, 3)), (95, (.iastore, 1)), (96, (.iinc 2 1, 3)), (99, (.goto (-81), 3)), (102, (.return_, 1))]
theorem ok14_rounds_0_11 : dcs cX6_goRound tb14_rounds_0_11 = true := by decide +kernel
theorem dX6_goRound_65 : decode cX6_goRound 65 = .ok (.iadd, 1) := dcs_at ok14_rounds_0_11 0 rfl
theorem dX6_goRound_66 : decode cX6_goRound 66 = .ok (.invokestatic 53, 3) := dcs_at ok14_rounds_0_11 1 rfl
theorem dX6_goRound_69 : decode cX6_goRound 69 = .ok (.iastore, 1) := dcs_at ok14_rounds_0_11 2 rfl
theorem dX6_goRound_70 : decode cX6_goRound 70 = .ok (.goto 26, 3) := dcs_at ok14_rounds_0_11 3 rfl
theorem dX6_goRound_73 : decode cX6_goRound 73 = .ok (.aload_n 0, 1) := dcs_at ok14_rounds_0_11 4 rfl
theorem dX6_goRound_74 : decode cX6_goRound 74 = .ok (.getfield 9, 3) := dcs_at ok14_rounds_0_11 5 rfl
theorem dX6_goRound_77 : decode cX6_goRound 77 = .ok (.iload_n 2, 1) := dcs_at ok14_rounds_0_11 6 rfl
theorem dX6_goRound_78 : decode cX6_goRound 78 = .ok (.aload_n 0, 1) := dcs_at ok14_rounds_0_11 7 rfl
theorem dX6_goRound_79 : decode cX6_goRound 79 = .ok (.getfield 15, 3) := dcs_at ok14_rounds_0_11 8 rfl
theorem dX6_goRound_82 : decode cX6_goRound 82 = .ok (.iload_n 2, 1) := dcs_at ok14_rounds_0_11 9 rfl
theorem dX6_goRound_83 : decode cX6_goRound 83 = .ok (.iaload, 1) := dcs_at ok14_rounds_0_11 10 rfl
theorem dX6_goRound_84 : decode cX6_goRound 84 = .ok (.aload_n 0, 1) := dcs_at ok14_rounds_0_11 11 rfl
theorem dX6_goRound_85 : decode cX6_goRound 85 = .ok (.getfield 9, 3) := dcs_at ok14_rounds_0_11 12 rfl
theorem dX6_goRound_88 : decode cX6_goRound 88 = .ok (.iload_n 2, 1) := dcs_at ok14_rounds_0_11 13 rfl
theorem dX6_goRound_89 : decode cX6_goRound 89 = .ok (.iaload, 1) := dcs_at ok14_rounds_0_11 14 rfl
theorem dX6_goRound_90 : decode cX6_goRound 90 = .ok (.iconst 1, 1) := dcs_at ok14_rounds_0_11 15 rfl
theorem dX6_goRound_91 : decode cX6_goRound 91 = .ok (.isub, 1) := dcs_at ok14_rounds_0_11 16 rfl
theorem dX6_goRound_92 : decode cX6_goRound 92 = .ok (.invokestatic 59, 3) := dcs_at ok14_rounds_0_11 17 rfl
theorem dX6_goRound_95 : decode cX6_goRound 95 = .ok (.iastore, 1) := dcs_at ok14_rounds_0_11 18 rfl
theorem dX6_goRound_96 : decode cX6_goRound 96 = .ok (.iinc 2 1, 3) := dcs_at ok14_rounds_0_11 19 rfl
theorem dX6_goRound_99 : decode cX6_goRound 99 = .ok (.goto (-81), 3) := dcs_at ok14_rounds_0_11 20 rfl
theorem dX6_goRound_102 : decode cX6_goRound 102 = .ok (.return_, 1) := dcs_at ok14_rounds_0_11 21 rfl
def tb14_rounds_0_12 : List (Nat × (Instr × Nat)) := [(0, (.iconst 0, 1)), (1, (.istore_n 1, 1)), (2, (.iconst 1, 1)), (3, (.istore_n 2, 1)), (4, (.iload_n 2, 1)), (5, (.aload_n 0, 1)), (6, (.getfield 30, 3)), (9, (.if_icmp .ge 26, 3)), (12, (.aload_n 0, 1)), (13, (.getfield 9, 3)), (16, (.iload_n 2, 1)), (17, (.iaload, 1)), (18, (.aload_n 0, 1)), (19, (.getfield 9, 3)), (22, (.iload_n 1, 1)), (23, (.iaload, 1)), (24, (.if_icmp .ge 5, 3)), (27, (.iload_n 2, 1)), (28, (.istore_n 1, 1)), (29, (.iinc 2 1, 3)), (32, (.goto (-28), 3)), (35, (.iload_n 1, 1)), (36, (.ireturn, 1))]
theorem ok14_rounds_0_12 : dcs cX6_cheapest tb14_rounds_0_12 = true := by decide +kernel
theorem dX6_cheapest_0 : decode cX6_cheapest 0 = .ok (.iconst 0, 1) := dcs_at ok14_rounds_0_12 0 rfl
theorem dX6_cheapest_1 : decode cX6_cheapest 1 = .ok (.istore_n 1, 1) := dcs_at ok14_rounds_0_12 1 rfl
theorem dX6_cheapest_2 : decode cX6_cheapest 2 = .ok (.iconst 1, 1) := dcs_at ok14_rounds_0_12 2 rfl
theorem dX6_cheapest_3 : decode cX6_cheapest 3 = .ok (.istore_n 2, 1) := dcs_at ok14_rounds_0_12 3 rfl
theorem dX6_cheapest_4 : decode cX6_cheapest 4 = .ok (.iload_n 2, 1) := dcs_at ok14_rounds_0_12 4 rfl
theorem dX6_cheapest_5 : decode cX6_cheapest 5 = .ok (.aload_n 0, 1) := dcs_at ok14_rounds_0_12 5 rfl
theorem dX6_cheapest_6 : decode cX6_cheapest 6 = .ok (.getfield 30, 3) := dcs_at ok14_rounds_0_12 6 rfl
theorem dX6_cheapest_9 : decode cX6_cheapest 9 = .ok (.if_icmp .ge 26, 3) := dcs_at ok14_rounds_0_12 7 rfl
theorem dX6_cheapest_12 : decode cX6_cheapest 12 = .ok (.aload_n 0, 1) := dcs_at ok14_rounds_0_12 8 rfl
theorem dX6_cheapest_13 : decode cX6_cheapest 13 = .ok (.getfield 9, 3) := dcs_at ok14_rounds_0_12 9 rfl
theorem dX6_cheapest_16 : decode cX6_cheapest 16 = .ok (.iload_n 2, 1) := dcs_at ok14_rounds_0_12 10 rfl
theorem dX6_cheapest_17 : decode cX6_cheapest 17 = .ok (.iaload, 1) := dcs_at ok14_rounds_0_12 11 rfl
theorem dX6_cheapest_18 : decode cX6_cheapest 18 = .ok (.aload_n 0, 1) := dcs_at ok14_rounds_0_12 12 rfl
theorem dX6_cheapest_19 : decode cX6_cheapest 19 = .ok (.getfield 9, 3) := dcs_at ok14_rounds_0_12 13 rfl
theorem dX6_cheapest_22 : decode cX6_cheapest 22 = .ok (.iload_n 1, 1) := dcs_at ok14_rounds_0_12 14 rfl
theorem dX6_cheapest_23 : decode cX6_cheapest 23 = .ok (.iaload, 1) := dcs_at ok14_rounds_0_12 15 rfl
theorem dX6_cheapest_24 : decode cX6_cheapest 24 = .ok (.if_icmp .ge 5, 3) := dcs_at ok14_rounds_0_12 16 rfl
theorem dX6_cheapest_27 : decode cX6_cheapest 27 = .ok (.iload_n 2, 1) := dcs_at ok14_rounds_0_12 17 rfl
theorem dX6_cheapest_28 : decode cX6_cheapest 28 = .ok (.istore_n 1, 1) := dcs_at ok14_rounds_0_12 18 rfl
theorem dX6_cheapest_29 : decode cX6_cheapest 29 = .ok (.iinc 2 1, 3) := dcs_at ok14_rounds_0_12 19 rfl
theorem dX6_cheapest_32 : decode cX6_cheapest 32 = .ok (.goto (-28), 3) := dcs_at ok14_rounds_0_12 20 rfl
theorem dX6_cheapest_35 : decode cX6_cheapest 35 = .ok (.iload_n 1, 1) := dcs_at ok14_rounds_0_12 21 rfl
theorem dX6_cheapest_36 : decode cX6_cheapest 36 = .ok (.ireturn, 1) := dcs_at ok14_rounds_0_12 22 rfl
def tb14_rounds_0_13 : List (Nat × (Instr × Nat)) := [(0, (.aload_n 0, 1)), (1, (.aload_n 1, 1)), (2, (.invokevirtual 62, 3)), (5, (.aload_n 0, 1)), (6, (.getfield 21, 3)), (9, (.iconst 0, 1)), (10, (.aload_n 0, 1)), (11, (.invokevirtual 66, 3)), (14, (.iastore, 1)), (15, (.iconst 1, 1)), (16, (.istore_n 2, 1)), (17, (.iload_n 2, 1)), (18, (.sipush 200, 3)), (21, (.if_icmp .gt 61, 3)), (24, (.aload_n 0, 1)), (25, (.invokevirtual 69, 3)), (28, (.aload_n 0, 1)), (29, (.getfield 21, 3)), (32, (.iload_n 2, 1)), (33, (.aload_n 0, 1)), (34, (.invokevirtual 66, 3)), (37, (.iastore, 1)), (38, (.iload_n 2, 1)), (39, (.iconst 1, 1)), (40, (.isub, 1)), (41, (.istore_n 3, 1)), (42, (.iload_n 3, 1)), (43, (.ifCond .lt 33, 3)), (46, (.aload_n 0, 1)), (47, (.getfield 21, 3)), (50, (.iload_n 3, 1)), (51, (.iaload, 1)), (52, (.aload_n 0, 1)), (53, (.getfield 21, 3)), (56, (.iload_n 2, 1)), (57, (.iaload, 1)), (58, (.if_icmp .ne 12, 3)), (61, (.aload_n 0, 1)), (62, (.iload_n 2, 1)), (63, (.iload_n 3, 1))]
theorem ok14_rounds_0_13 : dcs cX6_findRepeat tb14_rounds_0_13 = true := by decide +kernel
theorem dX6_findRepeat_0 : decode cX6_findRepeat 0 = .ok (.aload_n 0, 1) := dcs_at ok14_rounds_0_13 0 rfl
theorem dX6_findRepeat_1 : decode cX6_findRepeat 1 = .ok (.aload_n 1, 1) := dcs_at ok14_rounds_0_13 1 rfl
theorem dX6_findRepeat_2 : decode cX6_findRepeat 2 = .ok (.invokevirtual 62, 3) := dcs_at ok14_rounds_0_13 2 rfl
theorem dX6_findRepeat_5 : decode cX6_findRepeat 5 = .ok (.aload_n 0, 1) := dcs_at ok14_rounds_0_13 3 rfl
theorem dX6_findRepeat_6 : decode cX6_findRepeat 6 = .ok (.getfield 21, 3) := dcs_at ok14_rounds_0_13 4 rfl
theorem dX6_findRepeat_9 : decode cX6_findRepeat 9 = .ok (.iconst 0, 1) := dcs_at ok14_rounds_0_13 5 rfl
theorem dX6_findRepeat_10 : decode cX6_findRepeat 10 = .ok (.aload_n 0, 1) := dcs_at ok14_rounds_0_13 6 rfl
theorem dX6_findRepeat_11 : decode cX6_findRepeat 11 = .ok (.invokevirtual 66, 3) := dcs_at ok14_rounds_0_13 7 rfl
theorem dX6_findRepeat_14 : decode cX6_findRepeat 14 = .ok (.iastore, 1) := dcs_at ok14_rounds_0_13 8 rfl
theorem dX6_findRepeat_15 : decode cX6_findRepeat 15 = .ok (.iconst 1, 1) := dcs_at ok14_rounds_0_13 9 rfl
theorem dX6_findRepeat_16 : decode cX6_findRepeat 16 = .ok (.istore_n 2, 1) := dcs_at ok14_rounds_0_13 10 rfl
theorem dX6_findRepeat_17 : decode cX6_findRepeat 17 = .ok (.iload_n 2, 1) := dcs_at ok14_rounds_0_13 11 rfl
theorem dX6_findRepeat_18 : decode cX6_findRepeat 18 = .ok (.sipush 200, 3) := dcs_at ok14_rounds_0_13 12 rfl
theorem dX6_findRepeat_21 : decode cX6_findRepeat 21 = .ok (.if_icmp .gt 61, 3) := dcs_at ok14_rounds_0_13 13 rfl
theorem dX6_findRepeat_24 : decode cX6_findRepeat 24 = .ok (.aload_n 0, 1) := dcs_at ok14_rounds_0_13 14 rfl
theorem dX6_findRepeat_25 : decode cX6_findRepeat 25 = .ok (.invokevirtual 69, 3) := dcs_at ok14_rounds_0_13 15 rfl
theorem dX6_findRepeat_28 : decode cX6_findRepeat 28 = .ok (.aload_n 0, 1) := dcs_at ok14_rounds_0_13 16 rfl
theorem dX6_findRepeat_29 : decode cX6_findRepeat 29 = .ok (.getfield 21, 3) := dcs_at ok14_rounds_0_13 17 rfl
theorem dX6_findRepeat_32 : decode cX6_findRepeat 32 = .ok (.iload_n 2, 1) := dcs_at ok14_rounds_0_13 18 rfl
theorem dX6_findRepeat_33 : decode cX6_findRepeat 33 = .ok (.aload_n 0, 1) := dcs_at ok14_rounds_0_13 19 rfl
theorem dX6_findRepeat_34 : decode cX6_findRepeat 34 = .ok (.invokevirtual 66, 3) := dcs_at ok14_rounds_0_13 20 rfl
theorem dX6_findRepeat_37 : decode cX6_findRepeat 37 = .ok (.iastore, 1) := dcs_at ok14_rounds_0_13 21 rfl
theorem dX6_findRepeat_38 : decode cX6_findRepeat 38 = .ok (.iload_n 2, 1) := dcs_at ok14_rounds_0_13 22 rfl
theorem dX6_findRepeat_39 : decode cX6_findRepeat 39 = .ok (.iconst 1, 1) := dcs_at ok14_rounds_0_13 23 rfl
theorem dX6_findRepeat_40 : decode cX6_findRepeat 40 = .ok (.isub, 1) := dcs_at ok14_rounds_0_13 24 rfl
theorem dX6_findRepeat_41 : decode cX6_findRepeat 41 = .ok (.istore_n 3, 1) := dcs_at ok14_rounds_0_13 25 rfl
theorem dX6_findRepeat_42 : decode cX6_findRepeat 42 = .ok (.iload_n 3, 1) := dcs_at ok14_rounds_0_13 26 rfl
theorem dX6_findRepeat_43 : decode cX6_findRepeat 43 = .ok (.ifCond .lt 33, 3) := dcs_at ok14_rounds_0_13 27 rfl
theorem dX6_findRepeat_46 : decode cX6_findRepeat 46 = .ok (.aload_n 0, 1) := dcs_at ok14_rounds_0_13 28 rfl
theorem dX6_findRepeat_47 : decode cX6_findRepeat 47 = .ok (.getfield 21, 3) := dcs_at ok14_rounds_0_13 29 rfl
theorem dX6_findRepeat_50 : decode cX6_findRepeat 50 = .ok (.iload_n 3, 1) := dcs_at ok14_rounds_0_13 30 rfl
theorem dX6_findRepeat_51 : decode cX6_findRepeat 51 = .ok (.iaload, 1) := dcs_at ok14_rounds_0_13 31 rfl
theorem dX6_findRepeat_52 : decode cX6_findRepeat 52 = .ok (.aload_n 0, 1) := dcs_at ok14_rounds_0_13 32 rfl
theorem dX6_findRepeat_53 : decode cX6_findRepeat 53 = .ok (.getfield 21, 3) := dcs_at ok14_rounds_0_13 33 rfl
theorem dX6_findRepeat_56 : decode cX6_findRepeat 56 = .ok (.iload_n 2, 1) := dcs_at ok14_rounds_0_13 34 rfl
theorem dX6_findRepeat_57 : decode cX6_findRepeat 57 = .ok (.iaload, 1) := dcs_at ok14_rounds_0_13 35 rfl
theorem dX6_findRepeat_58 : decode cX6_findRepeat 58 = .ok (.if_icmp .ne 12, 3) := dcs_at ok14_rounds_0_13 36 rfl
theorem dX6_findRepeat_61 : decode cX6_findRepeat 61 = .ok (.aload_n 0, 1) := dcs_at ok14_rounds_0_13 37 rfl
theorem dX6_findRepeat_62 : decode cX6_findRepeat 62 = .ok (.iload_n 2, 1) := dcs_at ok14_rounds_0_13 38 rfl
theorem dX6_findRepeat_63 : decode cX6_findRepeat 63 = .ok (.iload_n 3, 1) := dcs_at ok14_rounds_0_13 39 rfl
def tb14_rounds_0_14 : List (Nat × (Instr × Nat)) := [(64, (.isub, 1)), (65, (.putfield 72, 3)), (68, (.iload_n 2, 1)), (69, (.ireturn, 1)), (70, (.iinc 3 (-1), 3)), (73, (.goto (-31), 3)), (76, (.iinc 2 1, 3)), (79, (.goto (-62), 3)), (82, (.iconst (-1), 1)), (83, (.ireturn, 1))]
theorem ok14_rounds_0_14 : dcs cX6_findRepeat tb14_rounds_0_14 = true := by decide +kernel
theorem dX6_findRepeat_64 : decode cX6_findRepeat 64 = .ok (.isub, 1) := dcs_at ok14_rounds_0_14 0 rfl
theorem dX6_findRepeat_65 : decode cX6_findRepeat 65 = .ok (.putfield 72, 3) := dcs_at ok14_rounds_0_14 1 rfl
theorem dX6_findRepeat_68 : decode cX6_findRepeat 68 = .ok (.iload_n 2, 1) := dcs_at ok14_rounds_0_14 2 rfl
theorem dX6_findRepeat_69 : decode cX6_findRepeat 69 = .ok (.ireturn, 1) := dcs_at ok14_rounds_0_14 3 rfl
theorem dX6_findRepeat_70 : decode cX6_findRepeat 70 = .ok (.iinc 3 (-1), 3) := dcs_at ok14_rounds_0_14 4 rfl
theorem dX6_findRepeat_73 : decode cX6_findRepeat 73 = .ok (.goto (-31), 3) := dcs_at ok14_rounds_0_14 5 rfl
theorem dX6_findRepeat_76 : decode cX6_findRepeat 76 = .ok (.iinc 2 1, 3) := dcs_at ok14_rounds_0_14 6 rfl
theorem dX6_findRepeat_79 : decode cX6_findRepeat 79 = .ok (.goto (-62), 3) := dcs_at ok14_rounds_0_14 7 rfl
theorem dX6_findRepeat_82 : decode cX6_findRepeat 82 = .ok (.iconst (-1), 1) := dcs_at ok14_rounds_0_14 8 rfl
theorem dX6_findRepeat_83 : decode cX6_findRepeat 83 = .ok (.ireturn, 1) := dcs_at ok14_rounds_0_14 9 rfl
def tb14_rounds_0_15 : List (Nat × (Instr × Nat)) := [(0, (.iconst 0, 1)), (1, (.istore_n 1, 1)), (2, (.iconst 0, 1)), (3, (.istore_n 2, 1)), (4, (.iload_n 2, 1)), (5, (.aload_n 0, 1)), (6, (.getfield 30, 3)), (9, (.if_icmp .ge 21, 3)), (12, (.iload_n 1, 1)), (13, (.bipush 32, 2)), (15, (.imul, 1)), (16, (.aload_n 0, 1)), (17, (.getfield 9, 3)), (20, (.iload_n 2, 1)), (21, (.iaload, 1)), (22, (.iadd, 1)), (23, (.istore_n 1, 1)), (24, (.iinc 2 1, 3)), (27, (.goto (-23), 3)), (30, (.iload_n 1, 1)), (31, (.ireturn, 1))]
theorem ok14_rounds_0_15 : dcs cX6_allAsks tb14_rounds_0_15 = true := by decide +kernel
theorem dX6_allAsks_0 : decode cX6_allAsks 0 = .ok (.iconst 0, 1) := dcs_at ok14_rounds_0_15 0 rfl
theorem dX6_allAsks_1 : decode cX6_allAsks 1 = .ok (.istore_n 1, 1) := dcs_at ok14_rounds_0_15 1 rfl
theorem dX6_allAsks_2 : decode cX6_allAsks 2 = .ok (.iconst 0, 1) := dcs_at ok14_rounds_0_15 2 rfl
theorem dX6_allAsks_3 : decode cX6_allAsks 3 = .ok (.istore_n 2, 1) := dcs_at ok14_rounds_0_15 3 rfl
theorem dX6_allAsks_4 : decode cX6_allAsks 4 = .ok (.iload_n 2, 1) := dcs_at ok14_rounds_0_15 4 rfl
theorem dX6_allAsks_5 : decode cX6_allAsks 5 = .ok (.aload_n 0, 1) := dcs_at ok14_rounds_0_15 5 rfl
theorem dX6_allAsks_6 : decode cX6_allAsks 6 = .ok (.getfield 30, 3) := dcs_at ok14_rounds_0_15 6 rfl
theorem dX6_allAsks_9 : decode cX6_allAsks 9 = .ok (.if_icmp .ge 21, 3) := dcs_at ok14_rounds_0_15 7 rfl
theorem dX6_allAsks_12 : decode cX6_allAsks 12 = .ok (.iload_n 1, 1) := dcs_at ok14_rounds_0_15 8 rfl
theorem dX6_allAsks_13 : decode cX6_allAsks 13 = .ok (.bipush 32, 2) := dcs_at ok14_rounds_0_15 9 rfl
theorem dX6_allAsks_15 : decode cX6_allAsks 15 = .ok (.imul, 1) := dcs_at ok14_rounds_0_15 10 rfl
theorem dX6_allAsks_16 : decode cX6_allAsks 16 = .ok (.aload_n 0, 1) := dcs_at ok14_rounds_0_15 11 rfl
theorem dX6_allAsks_17 : decode cX6_allAsks 17 = .ok (.getfield 9, 3) := dcs_at ok14_rounds_0_15 12 rfl
theorem dX6_allAsks_20 : decode cX6_allAsks 20 = .ok (.iload_n 2, 1) := dcs_at ok14_rounds_0_15 13 rfl
theorem dX6_allAsks_21 : decode cX6_allAsks 21 = .ok (.iaload, 1) := dcs_at ok14_rounds_0_15 14 rfl
theorem dX6_allAsks_22 : decode cX6_allAsks 22 = .ok (.iadd, 1) := dcs_at ok14_rounds_0_15 15 rfl
theorem dX6_allAsks_23 : decode cX6_allAsks 23 = .ok (.istore_n 1, 1) := dcs_at ok14_rounds_0_15 16 rfl
theorem dX6_allAsks_24 : decode cX6_allAsks 24 = .ok (.iinc 2 1, 3) := dcs_at ok14_rounds_0_15 17 rfl
theorem dX6_allAsks_27 : decode cX6_allAsks 27 = .ok (.goto (-23), 3) := dcs_at ok14_rounds_0_15 18 rfl
theorem dX6_allAsks_30 : decode cX6_allAsks 30 = .ok (.iload_n 1, 1) := dcs_at ok14_rounds_0_15 19 rfl
theorem dX6_allAsks_31 : decode cX6_allAsks 31 = .ok (.ireturn, 1) := dcs_at ok14_rounds_0_15 20 rfl
def tb14_rounds_0_16 : List (Nat × (Instr × Nat)) := [(0, (.iload_n 0, 1)), (1, (.iload_n 0, 1)), (2, (.iconst 1, 1)), (3, (.iushr, 1)), (4, (.ldc_w 265, 3)), (7, (.iand, 1)), (8, (.isub, 1)), (9, (.istore_n 0, 1)), (10, (.iload_n 0, 1)), (11, (.ldc_w 266, 3)), (14, (.iand, 1)), (15, (.iload_n 0, 1)), (16, (.iconst 2, 1)), (17, (.iushr, 1)), (18, (.ldc_w 266, 3)), (21, (.iand, 1)), (22, (.iadd, 1)), (23, (.istore_n 0, 1)), (24, (.iload_n 0, 1)), (25, (.iload_n 0, 1)), (26, (.iconst 4, 1)), (27, (.iushr, 1)), (28, (.iadd, 1)), (29, (.ldc_w 267, 3)), (32, (.iand, 1)), (33, (.istore_n 0, 1)), (34, (.iload_n 0, 1)), (35, (.iload_n 0, 1)), (36, (.bipush 8, 2)), (38, (.iushr, 1)), (39, (.iadd, 1)), (40, (.istore_n 0, 1)), (41, (.iload_n 0, 1)), (42, (.iload_n 0, 1)), (43, (.bipush 16, 2)), (45, (.iushr, 1)), (46, (.iadd, 1)), (47, (.istore_n 0, 1)), (48, (.iload_n 0, 1)), (49, (.bipush 63, 2))]
theorem ok14_rounds_0_16 : dcs cJ6_bitCount_0f7a4 tb14_rounds_0_16 = true := by decide +kernel
theorem dJ6_bitCount_0f7a4_0 : decode cJ6_bitCount_0f7a4 0 = .ok (.iload_n 0, 1) := dcs_at ok14_rounds_0_16 0 rfl
theorem dJ6_bitCount_0f7a4_1 : decode cJ6_bitCount_0f7a4 1 = .ok (.iload_n 0, 1) := dcs_at ok14_rounds_0_16 1 rfl
theorem dJ6_bitCount_0f7a4_2 : decode cJ6_bitCount_0f7a4 2 = .ok (.iconst 1, 1) := dcs_at ok14_rounds_0_16 2 rfl
theorem dJ6_bitCount_0f7a4_3 : decode cJ6_bitCount_0f7a4 3 = .ok (.iushr, 1) := dcs_at ok14_rounds_0_16 3 rfl
theorem dJ6_bitCount_0f7a4_4 : decode cJ6_bitCount_0f7a4 4 = .ok (.ldc_w 265, 3) := dcs_at ok14_rounds_0_16 4 rfl
theorem dJ6_bitCount_0f7a4_7 : decode cJ6_bitCount_0f7a4 7 = .ok (.iand, 1) := dcs_at ok14_rounds_0_16 5 rfl
theorem dJ6_bitCount_0f7a4_8 : decode cJ6_bitCount_0f7a4 8 = .ok (.isub, 1) := dcs_at ok14_rounds_0_16 6 rfl
theorem dJ6_bitCount_0f7a4_9 : decode cJ6_bitCount_0f7a4 9 = .ok (.istore_n 0, 1) := dcs_at ok14_rounds_0_16 7 rfl
theorem dJ6_bitCount_0f7a4_10 : decode cJ6_bitCount_0f7a4 10 = .ok (.iload_n 0, 1) := dcs_at ok14_rounds_0_16 8 rfl
theorem dJ6_bitCount_0f7a4_11 : decode cJ6_bitCount_0f7a4 11 = .ok (.ldc_w 266, 3) := dcs_at ok14_rounds_0_16 9 rfl
theorem dJ6_bitCount_0f7a4_14 : decode cJ6_bitCount_0f7a4 14 = .ok (.iand, 1) := dcs_at ok14_rounds_0_16 10 rfl
theorem dJ6_bitCount_0f7a4_15 : decode cJ6_bitCount_0f7a4 15 = .ok (.iload_n 0, 1) := dcs_at ok14_rounds_0_16 11 rfl
theorem dJ6_bitCount_0f7a4_16 : decode cJ6_bitCount_0f7a4 16 = .ok (.iconst 2, 1) := dcs_at ok14_rounds_0_16 12 rfl
theorem dJ6_bitCount_0f7a4_17 : decode cJ6_bitCount_0f7a4 17 = .ok (.iushr, 1) := dcs_at ok14_rounds_0_16 13 rfl
theorem dJ6_bitCount_0f7a4_18 : decode cJ6_bitCount_0f7a4 18 = .ok (.ldc_w 266, 3) := dcs_at ok14_rounds_0_16 14 rfl
theorem dJ6_bitCount_0f7a4_21 : decode cJ6_bitCount_0f7a4 21 = .ok (.iand, 1) := dcs_at ok14_rounds_0_16 15 rfl
theorem dJ6_bitCount_0f7a4_22 : decode cJ6_bitCount_0f7a4 22 = .ok (.iadd, 1) := dcs_at ok14_rounds_0_16 16 rfl
theorem dJ6_bitCount_0f7a4_23 : decode cJ6_bitCount_0f7a4 23 = .ok (.istore_n 0, 1) := dcs_at ok14_rounds_0_16 17 rfl
theorem dJ6_bitCount_0f7a4_24 : decode cJ6_bitCount_0f7a4 24 = .ok (.iload_n 0, 1) := dcs_at ok14_rounds_0_16 18 rfl
theorem dJ6_bitCount_0f7a4_25 : decode cJ6_bitCount_0f7a4 25 = .ok (.iload_n 0, 1) := dcs_at ok14_rounds_0_16 19 rfl
theorem dJ6_bitCount_0f7a4_26 : decode cJ6_bitCount_0f7a4 26 = .ok (.iconst 4, 1) := dcs_at ok14_rounds_0_16 20 rfl
theorem dJ6_bitCount_0f7a4_27 : decode cJ6_bitCount_0f7a4 27 = .ok (.iushr, 1) := dcs_at ok14_rounds_0_16 21 rfl
theorem dJ6_bitCount_0f7a4_28 : decode cJ6_bitCount_0f7a4 28 = .ok (.iadd, 1) := dcs_at ok14_rounds_0_16 22 rfl
theorem dJ6_bitCount_0f7a4_29 : decode cJ6_bitCount_0f7a4 29 = .ok (.ldc_w 267, 3) := dcs_at ok14_rounds_0_16 23 rfl
theorem dJ6_bitCount_0f7a4_32 : decode cJ6_bitCount_0f7a4 32 = .ok (.iand, 1) := dcs_at ok14_rounds_0_16 24 rfl
theorem dJ6_bitCount_0f7a4_33 : decode cJ6_bitCount_0f7a4 33 = .ok (.istore_n 0, 1) := dcs_at ok14_rounds_0_16 25 rfl
theorem dJ6_bitCount_0f7a4_34 : decode cJ6_bitCount_0f7a4 34 = .ok (.iload_n 0, 1) := dcs_at ok14_rounds_0_16 26 rfl
theorem dJ6_bitCount_0f7a4_35 : decode cJ6_bitCount_0f7a4 35 = .ok (.iload_n 0, 1) := dcs_at ok14_rounds_0_16 27 rfl
theorem dJ6_bitCount_0f7a4_36 : decode cJ6_bitCount_0f7a4 36 = .ok (.bipush 8, 2) := dcs_at ok14_rounds_0_16 28 rfl
theorem dJ6_bitCount_0f7a4_38 : decode cJ6_bitCount_0f7a4 38 = .ok (.iushr, 1) := dcs_at ok14_rounds_0_16 29 rfl
theorem dJ6_bitCount_0f7a4_39 : decode cJ6_bitCount_0f7a4 39 = .ok (.iadd, 1) := dcs_at ok14_rounds_0_16 30 rfl
theorem dJ6_bitCount_0f7a4_40 : decode cJ6_bitCount_0f7a4 40 = .ok (.istore_n 0, 1) := dcs_at ok14_rounds_0_16 31 rfl
theorem dJ6_bitCount_0f7a4_41 : decode cJ6_bitCount_0f7a4 41 = .ok (.iload_n 0, 1) := dcs_at ok14_rounds_0_16 32 rfl
theorem dJ6_bitCount_0f7a4_42 : decode cJ6_bitCount_0f7a4 42 = .ok (.iload_n 0, 1) := dcs_at ok14_rounds_0_16 33 rfl
theorem dJ6_bitCount_0f7a4_43 : decode cJ6_bitCount_0f7a4 43 = .ok (.bipush 16, 2) := dcs_at ok14_rounds_0_16 34 rfl
theorem dJ6_bitCount_0f7a4_45 : decode cJ6_bitCount_0f7a4 45 = .ok (.iushr, 1) := dcs_at ok14_rounds_0_16 35 rfl
theorem dJ6_bitCount_0f7a4_46 : decode cJ6_bitCount_0f7a4 46 = .ok (.iadd, 1) := dcs_at ok14_rounds_0_16 36 rfl
theorem dJ6_bitCount_0f7a4_47 : decode cJ6_bitCount_0f7a4 47 = .ok (.istore_n 0, 1) := dcs_at ok14_rounds_0_16 37 rfl
theorem dJ6_bitCount_0f7a4_48 : decode cJ6_bitCount_0f7a4 48 = .ok (.iload_n 0, 1) := dcs_at ok14_rounds_0_16 38 rfl
theorem dJ6_bitCount_0f7a4_49 : decode cJ6_bitCount_0f7a4 49 = .ok (.bipush 63, 2) := dcs_at ok14_rounds_0_16 39 rfl
def tb14_rounds_0_17 : List (Nat × (Instr × Nat)) := [(51, (.iand, 1)), (52, (.ireturn, 1))]
theorem ok14_rounds_0_17 : dcs cJ6_bitCount_0f7a4 tb14_rounds_0_17 = true := by decide +kernel
theorem dJ6_bitCount_0f7a4_51 : decode cJ6_bitCount_0f7a4 51 = .ok (.iand, 1) := dcs_at ok14_rounds_0_17 0 rfl
theorem dJ6_bitCount_0f7a4_52 : decode cJ6_bitCount_0f7a4 52 = .ok (.ireturn, 1) := dcs_at ok14_rounds_0_17 1 rfl
