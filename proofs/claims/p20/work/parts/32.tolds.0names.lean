def tb32_tolds_0_1 : List (Nat × (Instr × Nat)) := [(0, (.iload_n 1, 1)), (1, (.ifCond .ne 42, 3)), (4, (.iload_n 2, 1)), (5, (.ifCond .ne 10, 3)), (8, (.aload_n 0, 1)), (9, (.getfield 22, 3)), (12, (.goto 7, 3)), (15, (.aload_n 0, 1)), (16, (.getfield 26, 3)), (19, (.aload_n 3, 1)), (20, (.getfield 61, 3)), (23, (.invokevirtual 66, 3)), (26, (.aload_n 0, 1)), (27, (.aload_n 0, 1)), (28, (.getfield 52, 3)), (31, (.iload_n 2, 1)), (32, (.iconst 1, 1)), (33, (.iadd, 1)), (34, (.invokestatic 70, 3)), (37, (.putfield 52, 3)), (40, (.goto 83, 3)), (43, (.iload_n 1, 1)), (44, (.iconst 1, 1)), (45, (.if_icmp .ne 42, 3)), (48, (.iload_n 2, 1)), (49, (.ifCond .ne 10, 3)), (52, (.aload_n 0, 1)), (53, (.getfield 32, 3)), (56, (.goto 7, 3)), (59, (.aload_n 0, 1)), (60, (.getfield 36, 3)), (63, (.aload_n 3, 1)), (64, (.getfield 76, 3)), (67, (.invokevirtual 79, 3)), (70, (.aload_n 0, 1)), (71, (.aload_n 0, 1)), (72, (.getfield 55, 3)), (75, (.iload_n 2, 1)), (76, (.iconst 1, 1)), (77, (.iadd, 1))]
theorem ok32_tolds_0_1 : dcs cX8_put tb32_tolds_0_1 = true := by decide +kernel
theorem dX8_put_0 : decode cX8_put 0 = .ok (.iload_n 1, 1) := dcs_at ok32_tolds_0_1 0 rfl
theorem dX8_put_1 : decode cX8_put 1 = .ok (.ifCond .ne 42, 3) := dcs_at ok32_tolds_0_1 1 rfl
theorem dX8_put_4 : decode cX8_put 4 = .ok (.iload_n 2, 1) := dcs_at ok32_tolds_0_1 2 rfl
theorem dX8_put_5 : decode cX8_put 5 = .ok (.ifCond .ne 10, 3) := dcs_at ok32_tolds_0_1 3 rfl
theorem dX8_put_8 : decode cX8_put 8 = .ok (.aload_n 0, 1) := dcs_at ok32_tolds_0_1 4 rfl
theorem dX8_put_9 : decode cX8_put 9 = .ok (.getfield 22, 3) := dcs_at ok32_tolds_0_1 5 rfl
theorem dX8_put_12 : decode cX8_put 12 = .ok (.goto 7, 3) := dcs_at ok32_tolds_0_1 6 rfl
theorem dX8_put_15 : decode cX8_put 15 = .ok (.aload_n 0, 1) := dcs_at ok32_tolds_0_1 7 rfl
theorem dX8_put_16 : decode cX8_put 16 = .ok (.getfield 26, 3) := dcs_at ok32_tolds_0_1 8 rfl
theorem dX8_put_19 : decode cX8_put 19 = .ok (.aload_n 3, 1) := dcs_at ok32_tolds_0_1 9 rfl
theorem dX8_put_20 : decode cX8_put 20 = .ok (.getfield 61, 3) := dcs_at ok32_tolds_0_1 10 rfl
theorem dX8_put_23 : decode cX8_put 23 = .ok (.invokevirtual 66, 3) := dcs_at ok32_tolds_0_1 11 rfl
theorem dX8_put_26 : decode cX8_put 26 = .ok (.aload_n 0, 1) := dcs_at ok32_tolds_0_1 12 rfl
theorem dX8_put_27 : decode cX8_put 27 = .ok (.aload_n 0, 1) := dcs_at ok32_tolds_0_1 13 rfl
theorem dX8_put_28 : decode cX8_put 28 = .ok (.getfield 52, 3) := dcs_at ok32_tolds_0_1 14 rfl
theorem dX8_put_31 : decode cX8_put 31 = .ok (.iload_n 2, 1) := dcs_at ok32_tolds_0_1 15 rfl
theorem dX8_put_32 : decode cX8_put 32 = .ok (.iconst 1, 1) := dcs_at ok32_tolds_0_1 16 rfl
theorem dX8_put_33 : decode cX8_put 33 = .ok (.iadd, 1) := dcs_at ok32_tolds_0_1 17 rfl
theorem dX8_put_34 : decode cX8_put 34 = .ok (.invokestatic 70, 3) := dcs_at ok32_tolds_0_1 18 rfl
theorem dX8_put_37 : decode cX8_put 37 = .ok (.putfield 52, 3) := dcs_at ok32_tolds_0_1 19 rfl
theorem dX8_put_40 : decode cX8_put 40 = .ok (.goto 83, 3) := dcs_at ok32_tolds_0_1 20 rfl
theorem dX8_put_43 : decode cX8_put 43 = .ok (.iload_n 1, 1) := dcs_at ok32_tolds_0_1 21 rfl
theorem dX8_put_44 : decode cX8_put 44 = .ok (.iconst 1, 1) := dcs_at ok32_tolds_0_1 22 rfl
theorem dX8_put_45 : decode cX8_put 45 = .ok (.if_icmp .ne 42, 3) := dcs_at ok32_tolds_0_1 23 rfl
theorem dX8_put_48 : decode cX8_put 48 = .ok (.iload_n 2, 1) := dcs_at ok32_tolds_0_1 24 rfl
theorem dX8_put_49 : decode cX8_put 49 = .ok (.ifCond .ne 10, 3) := dcs_at ok32_tolds_0_1 25 rfl
theorem dX8_put_52 : decode cX8_put 52 = .ok (.aload_n 0, 1) := dcs_at ok32_tolds_0_1 26 rfl
theorem dX8_put_53 : decode cX8_put 53 = .ok (.getfield 32, 3) := dcs_at ok32_tolds_0_1 27 rfl
theorem dX8_put_56 : decode cX8_put 56 = .ok (.goto 7, 3) := dcs_at ok32_tolds_0_1 28 rfl
theorem dX8_put_59 : decode cX8_put 59 = .ok (.aload_n 0, 1) := dcs_at ok32_tolds_0_1 29 rfl
theorem dX8_put_60 : decode cX8_put 60 = .ok (.getfield 36, 3) := dcs_at ok32_tolds_0_1 30 rfl
theorem dX8_put_63 : decode cX8_put 63 = .ok (.aload_n 3, 1) := dcs_at ok32_tolds_0_1 31 rfl
theorem dX8_put_64 : decode cX8_put 64 = .ok (.getfield 76, 3) := dcs_at ok32_tolds_0_1 32 rfl
theorem dX8_put_67 : decode cX8_put 67 = .ok (.invokevirtual 79, 3) := dcs_at ok32_tolds_0_1 33 rfl
theorem dX8_put_70 : decode cX8_put 70 = .ok (.aload_n 0, 1) := dcs_at ok32_tolds_0_1 34 rfl
theorem dX8_put_71 : decode cX8_put 71 = .ok (.aload_n 0, 1) := dcs_at ok32_tolds_0_1 35 rfl
theorem dX8_put_72 : decode cX8_put 72 = .ok (.getfield 55, 3) := dcs_at ok32_tolds_0_1 36 rfl
theorem dX8_put_75 : decode cX8_put 75 = .ok (.iload_n 2, 1) := dcs_at ok32_tolds_0_1 37 rfl
theorem dX8_put_76 : decode cX8_put 76 = .ok (.iconst 1, 1) := dcs_at ok32_tolds_0_1 38 rfl
theorem dX8_put_77 : decode cX8_put 77 = .ok (.iadd, 1) := dcs_at ok32_tolds_0_1 39 rfl
def tb32_tolds_0_2 : List (Nat × (Instr × Nat)) := [(78, (.invokestatic 70, 3)), (81, (.putfield 55, 3)), (84, (.goto 39, 3)), (87, (.iload_n 2, 1)), (88, (.ifCond .ne 10, 3)), (91, (.aload_n 0, 1)), (92, (.getfield 42, 3)), (95, (.goto 7, 3)), (98, (.aload_n 0, 1)), (99, (.getfield 46, 3)), (102, (.aload_n 3, 1)), (103, (.getfield 82, 3)), (106, (.invokevirtual 85, 3)), (109, (.aload_n 0, 1)), (110, (.aload_n 0, 1)), (111, (.getfield 58, 3)), (114, (.iload_n 2, 1)), (115, (.iconst 1, 1)), (116, (.iadd, 1)), (117, (.invokestatic 70, 3)), (120, (.putfield 58, 3)), (123, (.return_, 1))]
theorem ok32_tolds_0_2 : dcs cX8_put tb32_tolds_0_2 = true := by decide +kernel
theorem dX8_put_78 : decode cX8_put 78 = .ok (.invokestatic 70, 3) := dcs_at ok32_tolds_0_2 0 rfl
theorem dX8_put_81 : decode cX8_put 81 = .ok (.putfield 55, 3) := dcs_at ok32_tolds_0_2 1 rfl
theorem dX8_put_84 : decode cX8_put 84 = .ok (.goto 39, 3) := dcs_at ok32_tolds_0_2 2 rfl
theorem dX8_put_87 : decode cX8_put 87 = .ok (.iload_n 2, 1) := dcs_at ok32_tolds_0_2 3 rfl
theorem dX8_put_88 : decode cX8_put 88 = .ok (.ifCond .ne 10, 3) := dcs_at ok32_tolds_0_2 4 rfl
theorem dX8_put_91 : decode cX8_put 91 = .ok (.aload_n 0, 1) := dcs_at ok32_tolds_0_2 5 rfl
theorem dX8_put_92 : decode cX8_put 92 = .ok (.getfield 42, 3) := dcs_at ok32_tolds_0_2 6 rfl
theorem dX8_put_95 : decode cX8_put 95 = .ok (.goto 7, 3) := dcs_at ok32_tolds_0_2 7 rfl
theorem dX8_put_98 : decode cX8_put 98 = .ok (.aload_n 0, 1) := dcs_at ok32_tolds_0_2 8 rfl
theorem dX8_put_99 : decode cX8_put 99 = .ok (.getfield 46, 3) := dcs_at ok32_tolds_0_2 9 rfl
theorem dX8_put_102 : decode cX8_put 102 = .ok (.aload_n 3, 1) := dcs_at ok32_tolds_0_2 10 rfl
theorem dX8_put_103 : decode cX8_put 103 = .ok (.getfield 82, 3) := dcs_at ok32_tolds_0_2 11 rfl
theorem dX8_put_106 : decode cX8_put 106 = .ok (.invokevirtual 85, 3) := dcs_at ok32_tolds_0_2 12 rfl
theorem dX8_put_109 : decode cX8_put 109 = .ok (.aload_n 0, 1) := dcs_at ok32_tolds_0_2 13 rfl
theorem dX8_put_110 : decode cX8_put 110 = .ok (.aload_n 0, 1) := dcs_at ok32_tolds_0_2 14 rfl
theorem dX8_put_111 : decode cX8_put 111 = .ok (.getfield 58, 3) := dcs_at ok32_tolds_0_2 15 rfl
theorem dX8_put_114 : decode cX8_put 114 = .ok (.iload_n 2, 1) := dcs_at ok32_tolds_0_2 16 rfl
theorem dX8_put_115 : decode cX8_put 115 = .ok (.iconst 1, 1) := dcs_at ok32_tolds_0_2 17 rfl
theorem dX8_put_116 : decode cX8_put 116 = .ok (.iadd, 1) := dcs_at ok32_tolds_0_2 18 rfl
theorem dX8_put_117 : decode cX8_put 117 = .ok (.invokestatic 70, 3) := dcs_at ok32_tolds_0_2 19 rfl
theorem dX8_put_120 : decode cX8_put 120 = .ok (.putfield 58, 3) := dcs_at ok32_tolds_0_2 20 rfl
theorem dX8_put_123 : decode cX8_put 123 = .ok (.return_, 1) := dcs_at ok32_tolds_0_2 21 rfl
def tb32_tolds_0_3 : List (Nat × (Instr × Nat)) := [(0, (.aload_n 1, 1)), (1, (.getfield 9, 3)), (4, (.iconst 0, 1)), (5, (.aload_n 0, 1)), (6, (.getfield 9, 3)), (9, (.iconst 0, 1)), (10, (.sipush 600, 3)), (13, (.invokestatic 88, 3)), (16, (.aload_n 0, 1)), (17, (.aload_n 1, 1)), (18, (.getfield 49, 3)), (21, (.putfield 49, 3)), (24, (.aload_n 0, 1)), (25, (.aload_n 1, 1)), (26, (.getfield 94, 3)), (29, (.putfield 94, 3)), (32, (.aload_n 0, 1)), (33, (.aload_n 1, 1)), (34, (.getfield 15, 3)), (37, (.putfield 15, 3)), (40, (.aload_n 0, 1)), (41, (.aload_n 1, 1)), (42, (.getfield 52, 3)), (45, (.putfield 52, 3)), (48, (.aload_n 0, 1)), (49, (.aload_n 1, 1)), (50, (.getfield 55, 3)), (53, (.putfield 55, 3)), (56, (.aload_n 0, 1)), (57, (.aload_n 1, 1)), (58, (.getfield 58, 3)), (61, (.putfield 58, 3)), (64, (.aload_n 0, 1)), (65, (.getfield 22, 3)), (68, (.aload_n 1, 1)), (69, (.getfield 22, 3)), (72, (.invokevirtual 66, 3)), (75, (.aload_n 0, 1)), (76, (.getfield 26, 3)), (79, (.aload_n 1, 1))]
theorem ok32_tolds_0_3 : dcs cX8_copyFrom tb32_tolds_0_3 = true := by decide +kernel
theorem dX8_copyFrom_0 : decode cX8_copyFrom 0 = .ok (.aload_n 1, 1) := dcs_at ok32_tolds_0_3 0 rfl
theorem dX8_copyFrom_1 : decode cX8_copyFrom 1 = .ok (.getfield 9, 3) := dcs_at ok32_tolds_0_3 1 rfl
theorem dX8_copyFrom_4 : decode cX8_copyFrom 4 = .ok (.iconst 0, 1) := dcs_at ok32_tolds_0_3 2 rfl
theorem dX8_copyFrom_5 : decode cX8_copyFrom 5 = .ok (.aload_n 0, 1) := dcs_at ok32_tolds_0_3 3 rfl
theorem dX8_copyFrom_6 : decode cX8_copyFrom 6 = .ok (.getfield 9, 3) := dcs_at ok32_tolds_0_3 4 rfl
theorem dX8_copyFrom_9 : decode cX8_copyFrom 9 = .ok (.iconst 0, 1) := dcs_at ok32_tolds_0_3 5 rfl
theorem dX8_copyFrom_10 : decode cX8_copyFrom 10 = .ok (.sipush 600, 3) := dcs_at ok32_tolds_0_3 6 rfl
theorem dX8_copyFrom_13 : decode cX8_copyFrom 13 = .ok (.invokestatic 88, 3) := dcs_at ok32_tolds_0_3 7 rfl
theorem dX8_copyFrom_16 : decode cX8_copyFrom 16 = .ok (.aload_n 0, 1) := dcs_at ok32_tolds_0_3 8 rfl
theorem dX8_copyFrom_17 : decode cX8_copyFrom 17 = .ok (.aload_n 1, 1) := dcs_at ok32_tolds_0_3 9 rfl
theorem dX8_copyFrom_18 : decode cX8_copyFrom 18 = .ok (.getfield 49, 3) := dcs_at ok32_tolds_0_3 10 rfl
theorem dX8_copyFrom_21 : decode cX8_copyFrom 21 = .ok (.putfield 49, 3) := dcs_at ok32_tolds_0_3 11 rfl
theorem dX8_copyFrom_24 : decode cX8_copyFrom 24 = .ok (.aload_n 0, 1) := dcs_at ok32_tolds_0_3 12 rfl
theorem dX8_copyFrom_25 : decode cX8_copyFrom 25 = .ok (.aload_n 1, 1) := dcs_at ok32_tolds_0_3 13 rfl
theorem dX8_copyFrom_26 : decode cX8_copyFrom 26 = .ok (.getfield 94, 3) := dcs_at ok32_tolds_0_3 14 rfl
theorem dX8_copyFrom_29 : decode cX8_copyFrom 29 = .ok (.putfield 94, 3) := dcs_at ok32_tolds_0_3 15 rfl
theorem dX8_copyFrom_32 : decode cX8_copyFrom 32 = .ok (.aload_n 0, 1) := dcs_at ok32_tolds_0_3 16 rfl
theorem dX8_copyFrom_33 : decode cX8_copyFrom 33 = .ok (.aload_n 1, 1) := dcs_at ok32_tolds_0_3 17 rfl
theorem dX8_copyFrom_34 : decode cX8_copyFrom 34 = .ok (.getfield 15, 3) := dcs_at ok32_tolds_0_3 18 rfl
theorem dX8_copyFrom_37 : decode cX8_copyFrom 37 = .ok (.putfield 15, 3) := dcs_at ok32_tolds_0_3 19 rfl
theorem dX8_copyFrom_40 : decode cX8_copyFrom 40 = .ok (.aload_n 0, 1) := dcs_at ok32_tolds_0_3 20 rfl
theorem dX8_copyFrom_41 : decode cX8_copyFrom 41 = .ok (.aload_n 1, 1) := dcs_at ok32_tolds_0_3 21 rfl
theorem dX8_copyFrom_42 : decode cX8_copyFrom 42 = .ok (.getfield 52, 3) := dcs_at ok32_tolds_0_3 22 rfl
theorem dX8_copyFrom_45 : decode cX8_copyFrom 45 = .ok (.putfield 52, 3) := dcs_at ok32_tolds_0_3 23 rfl
theorem dX8_copyFrom_48 : decode cX8_copyFrom 48 = .ok (.aload_n 0, 1) := dcs_at ok32_tolds_0_3 24 rfl
theorem dX8_copyFrom_49 : decode cX8_copyFrom 49 = .ok (.aload_n 1, 1) := dcs_at ok32_tolds_0_3 25 rfl
theorem dX8_copyFrom_50 : decode cX8_copyFrom 50 = .ok (.getfield 55, 3) := dcs_at ok32_tolds_0_3 26 rfl
theorem dX8_copyFrom_53 : decode cX8_copyFrom 53 = .ok (.putfield 55, 3) := dcs_at ok32_tolds_0_3 27 rfl
theorem dX8_copyFrom_56 : decode cX8_copyFrom 56 = .ok (.aload_n 0, 1) := dcs_at ok32_tolds_0_3 28 rfl
theorem dX8_copyFrom_57 : decode cX8_copyFrom 57 = .ok (.aload_n 1, 1) := dcs_at ok32_tolds_0_3 29 rfl
theorem dX8_copyFrom_58 : decode cX8_copyFrom 58 = .ok (.getfield 58, 3) := dcs_at ok32_tolds_0_3 30 rfl
theorem dX8_copyFrom_61 : decode cX8_copyFrom 61 = .ok (.putfield 58, 3) := dcs_at ok32_tolds_0_3 31 rfl
theorem dX8_copyFrom_64 : decode cX8_copyFrom 64 = .ok (.aload_n 0, 1) := dcs_at ok32_tolds_0_3 32 rfl
theorem dX8_copyFrom_65 : decode cX8_copyFrom 65 = .ok (.getfield 22, 3) := dcs_at ok32_tolds_0_3 33 rfl
theorem dX8_copyFrom_68 : decode cX8_copyFrom 68 = .ok (.aload_n 1, 1) := dcs_at ok32_tolds_0_3 34 rfl
theorem dX8_copyFrom_69 : decode cX8_copyFrom 69 = .ok (.getfield 22, 3) := dcs_at ok32_tolds_0_3 35 rfl
theorem dX8_copyFrom_72 : decode cX8_copyFrom 72 = .ok (.invokevirtual 66, 3) := dcs_at ok32_tolds_0_3 36 rfl
theorem dX8_copyFrom_75 : decode cX8_copyFrom 75 = .ok (.aload_n 0, 1) := dcs_at ok32_tolds_0_3 37 rfl
theorem dX8_copyFrom_76 : decode cX8_copyFrom 76 = .ok (.getfield 26, 3) := dcs_at ok32_tolds_0_3 38 rfl
theorem dX8_copyFrom_79 : decode cX8_copyFrom 79 = .ok (.aload_n 1, 1) := dcs_at ok32_tolds_0_3 39 rfl
def tb32_tolds_0_4 : List (Nat × (Instr × Nat)) := [(80, (.getfield 26, 3)), (83, (.invokevirtual 66, 3)), (86, (.aload_n 0, 1)), (87, (.getfield 32, 3)), (90, (.aload_n 1, 1)), (91, (.getfield 32, 3)), (94, (.invokevirtual 79, 3)), (97, (.aload_n 0, 1)), (98, (.getfield 36, 3)), (101, (.aload_n 1, 1)), (102, (.getfield 36, 3)), (105, (.invokevirtual 79, 3)), (108, (.aload_n 0, 1)), (109, (.getfield 42, 3)), (112, (.aload_n 1, 1)), (113, (.getfield 42, 3)), (116, (.invokevirtual 85, 3)), (119, (.aload_n 0, 1)), (120, (.getfield 46, 3)), (123, (.aload_n 1, 1)), (124, (.getfield 46, 3)), (127, (.invokevirtual 85, 3)), (130, (.return_, 1))]
theorem ok32_tolds_0_4 : dcs cX8_copyFrom tb32_tolds_0_4 = true := by decide +kernel
theorem dX8_copyFrom_80 : decode cX8_copyFrom 80 = .ok (.getfield 26, 3) := dcs_at ok32_tolds_0_4 0 rfl
theorem dX8_copyFrom_83 : decode cX8_copyFrom 83 = .ok (.invokevirtual 66, 3) := dcs_at ok32_tolds_0_4 1 rfl
theorem dX8_copyFrom_86 : decode cX8_copyFrom 86 = .ok (.aload_n 0, 1) := dcs_at ok32_tolds_0_4 2 rfl
theorem dX8_copyFrom_87 : decode cX8_copyFrom 87 = .ok (.getfield 32, 3) := dcs_at ok32_tolds_0_4 3 rfl
theorem dX8_copyFrom_90 : decode cX8_copyFrom 90 = .ok (.aload_n 1, 1) := dcs_at ok32_tolds_0_4 4 rfl
theorem dX8_copyFrom_91 : decode cX8_copyFrom 91 = .ok (.getfield 32, 3) := dcs_at ok32_tolds_0_4 5 rfl
theorem dX8_copyFrom_94 : decode cX8_copyFrom 94 = .ok (.invokevirtual 79, 3) := dcs_at ok32_tolds_0_4 6 rfl
theorem dX8_copyFrom_97 : decode cX8_copyFrom 97 = .ok (.aload_n 0, 1) := dcs_at ok32_tolds_0_4 7 rfl
theorem dX8_copyFrom_98 : decode cX8_copyFrom 98 = .ok (.getfield 36, 3) := dcs_at ok32_tolds_0_4 8 rfl
theorem dX8_copyFrom_101 : decode cX8_copyFrom 101 = .ok (.aload_n 1, 1) := dcs_at ok32_tolds_0_4 9 rfl
theorem dX8_copyFrom_102 : decode cX8_copyFrom 102 = .ok (.getfield 36, 3) := dcs_at ok32_tolds_0_4 10 rfl
theorem dX8_copyFrom_105 : decode cX8_copyFrom 105 = .ok (.invokevirtual 79, 3) := dcs_at ok32_tolds_0_4 11 rfl
theorem dX8_copyFrom_108 : decode cX8_copyFrom 108 = .ok (.aload_n 0, 1) := dcs_at ok32_tolds_0_4 12 rfl
theorem dX8_copyFrom_109 : decode cX8_copyFrom 109 = .ok (.getfield 42, 3) := dcs_at ok32_tolds_0_4 13 rfl
theorem dX8_copyFrom_112 : decode cX8_copyFrom 112 = .ok (.aload_n 1, 1) := dcs_at ok32_tolds_0_4 14 rfl
theorem dX8_copyFrom_113 : decode cX8_copyFrom 113 = .ok (.getfield 42, 3) := dcs_at ok32_tolds_0_4 15 rfl
theorem dX8_copyFrom_116 : decode cX8_copyFrom 116 = .ok (.invokevirtual 85, 3) := dcs_at ok32_tolds_0_4 16 rfl
theorem dX8_copyFrom_119 : decode cX8_copyFrom 119 = .ok (.aload_n 0, 1) := dcs_at ok32_tolds_0_4 17 rfl
theorem dX8_copyFrom_120 : decode cX8_copyFrom 120 = .ok (.getfield 46, 3) := dcs_at ok32_tolds_0_4 18 rfl
theorem dX8_copyFrom_123 : decode cX8_copyFrom 123 = .ok (.aload_n 1, 1) := dcs_at ok32_tolds_0_4 19 rfl
theorem dX8_copyFrom_124 : decode cX8_copyFrom 124 = .ok (.getfield 46, 3) := dcs_at ok32_tolds_0_4 20 rfl
theorem dX8_copyFrom_127 : decode cX8_copyFrom 127 = .ok (.invokevirtual 85, 3) := dcs_at ok32_tolds_0_4 21 rfl
theorem dX8_copyFrom_130 : decode cX8_copyFrom 130 = .ok (.return_, 1) := dcs_at ok32_tolds_0_4 22 rfl
