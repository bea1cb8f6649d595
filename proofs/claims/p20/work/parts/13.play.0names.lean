def tb13_play_0_1 : List (Nat × (Instr × Nat)) := [(0, (.aload_n 0, 1)), (1, (.aload_n 1, 1)), (2, (.putfield 12, 3)), (5, (.aload_n 1, 1)), (6, (.getfield 40, 3)), (9, (.iconst 0, 1)), (10, (.aload_n 0, 1)), (11, (.getfield 18, 3)), (14, (.iconst 0, 1)), (15, (.iconst 5, 1)), (16, (.invokestatic 43, 3)), (19, (.aload_n 1, 1)), (20, (.getfield 49, 3)), (23, (.iconst 0, 1)), (24, (.aload_n 0, 1)), (25, (.getfield 28, 3)), (28, (.iconst 0, 1)), (29, (.bipush 6, 2)), (31, (.invokestatic 43, 3)), (34, (.aload_n 0, 1)), (35, (.getfield 22, 3)), (38, (.iconst 0, 1)), (39, (.invokestatic 50, 3)), (42, (.aload_n 0, 1)), (43, (.getfield 25, 3)), (46, (.iconst 0, 1)), (47, (.invokestatic 50, 3)), (50, (.aload_n 0, 1)), (51, (.getfield 31, 3)), (54, (.iconst (-1), 1)), (55, (.invokestatic 50, 3)), (58, (.aload_n 0, 1)), (59, (.getfield 34, 3)), (62, (.iconst 0, 1)), (63, (.invokestatic 50, 3)), (66, (.aload_n 0, 1)), (67, (.aload_n 1, 1)), (68, (.getfield 56, 3)), (71, (.putfield 60, 3)), (74, (.aload_n 0, 1))]
theorem ok13_play_0_1 : dcs cX2_begin tb13_play_0_1 = true := by decide +kernel
theorem dX2_begin_0 : decode cX2_begin 0 = .ok (.aload_n 0, 1) := dcs_at ok13_play_0_1 0 rfl
theorem dX2_begin_1 : decode cX2_begin 1 = .ok (.aload_n 1, 1) := dcs_at ok13_play_0_1 1 rfl
theorem dX2_begin_2 : decode cX2_begin 2 = .ok (.putfield 12, 3) := dcs_at ok13_play_0_1 2 rfl
theorem dX2_begin_5 : decode cX2_begin 5 = .ok (.aload_n 1, 1) := dcs_at ok13_play_0_1 3 rfl
theorem dX2_begin_6 : decode cX2_begin 6 = .ok (.getfield 40, 3) := dcs_at ok13_play_0_1 4 rfl
theorem dX2_begin_9 : decode cX2_begin 9 = .ok (.iconst 0, 1) := dcs_at ok13_play_0_1 5 rfl
theorem dX2_begin_10 : decode cX2_begin 10 = .ok (.aload_n 0, 1) := dcs_at ok13_play_0_1 6 rfl
theorem dX2_begin_11 : decode cX2_begin 11 = .ok (.getfield 18, 3) := dcs_at ok13_play_0_1 7 rfl
theorem dX2_begin_14 : decode cX2_begin 14 = .ok (.iconst 0, 1) := dcs_at ok13_play_0_1 8 rfl
theorem dX2_begin_15 : decode cX2_begin 15 = .ok (.iconst 5, 1) := dcs_at ok13_play_0_1 9 rfl
theorem dX2_begin_16 : decode cX2_begin 16 = .ok (.invokestatic 43, 3) := dcs_at ok13_play_0_1 10 rfl
theorem dX2_begin_19 : decode cX2_begin 19 = .ok (.aload_n 1, 1) := dcs_at ok13_play_0_1 11 rfl
theorem dX2_begin_20 : decode cX2_begin 20 = .ok (.getfield 49, 3) := dcs_at ok13_play_0_1 12 rfl
theorem dX2_begin_23 : decode cX2_begin 23 = .ok (.iconst 0, 1) := dcs_at ok13_play_0_1 13 rfl
theorem dX2_begin_24 : decode cX2_begin 24 = .ok (.aload_n 0, 1) := dcs_at ok13_play_0_1 14 rfl
theorem dX2_begin_25 : decode cX2_begin 25 = .ok (.getfield 28, 3) := dcs_at ok13_play_0_1 15 rfl
theorem dX2_begin_28 : decode cX2_begin 28 = .ok (.iconst 0, 1) := dcs_at ok13_play_0_1 16 rfl
theorem dX2_begin_29 : decode cX2_begin 29 = .ok (.bipush 6, 2) := dcs_at ok13_play_0_1 17 rfl
theorem dX2_begin_31 : decode cX2_begin 31 = .ok (.invokestatic 43, 3) := dcs_at ok13_play_0_1 18 rfl
theorem dX2_begin_34 : decode cX2_begin 34 = .ok (.aload_n 0, 1) := dcs_at ok13_play_0_1 19 rfl
theorem dX2_begin_35 : decode cX2_begin 35 = .ok (.getfield 22, 3) := dcs_at ok13_play_0_1 20 rfl
theorem dX2_begin_38 : decode cX2_begin 38 = .ok (.iconst 0, 1) := dcs_at ok13_play_0_1 21 rfl
theorem dX2_begin_39 : decode cX2_begin 39 = .ok (.invokestatic 50, 3) := dcs_at ok13_play_0_1 22 rfl
theorem dX2_begin_42 : decode cX2_begin 42 = .ok (.aload_n 0, 1) := dcs_at ok13_play_0_1 23 rfl
theorem dX2_begin_43 : decode cX2_begin 43 = .ok (.getfield 25, 3) := dcs_at ok13_play_0_1 24 rfl
theorem dX2_begin_46 : decode cX2_begin 46 = .ok (.iconst 0, 1) := dcs_at ok13_play_0_1 25 rfl
theorem dX2_begin_47 : decode cX2_begin 47 = .ok (.invokestatic 50, 3) := dcs_at ok13_play_0_1 26 rfl
theorem dX2_begin_50 : decode cX2_begin 50 = .ok (.aload_n 0, 1) := dcs_at ok13_play_0_1 27 rfl
theorem dX2_begin_51 : decode cX2_begin 51 = .ok (.getfield 31, 3) := dcs_at ok13_play_0_1 28 rfl
theorem dX2_begin_54 : decode cX2_begin 54 = .ok (.iconst (-1), 1) := dcs_at ok13_play_0_1 29 rfl
theorem dX2_begin_55 : decode cX2_begin 55 = .ok (.invokestatic 50, 3) := dcs_at ok13_play_0_1 30 rfl
theorem dX2_begin_58 : decode cX2_begin 58 = .ok (.aload_n 0, 1) := dcs_at ok13_play_0_1 31 rfl
theorem dX2_begin_59 : decode cX2_begin 59 = .ok (.getfield 34, 3) := dcs_at ok13_play_0_1 32 rfl
theorem dX2_begin_62 : decode cX2_begin 62 = .ok (.iconst 0, 1) := dcs_at ok13_play_0_1 33 rfl
theorem dX2_begin_63 : decode cX2_begin 63 = .ok (.invokestatic 50, 3) := dcs_at ok13_play_0_1 34 rfl
theorem dX2_begin_66 : decode cX2_begin 66 = .ok (.aload_n 0, 1) := dcs_at ok13_play_0_1 35 rfl
theorem dX2_begin_67 : decode cX2_begin 67 = .ok (.aload_n 1, 1) := dcs_at ok13_play_0_1 36 rfl
theorem dX2_begin_68 : decode cX2_begin 68 = .ok (.getfield 56, 3) := dcs_at ok13_play_0_1 37 rfl
theorem dX2_begin_71 : decode cX2_begin 71 = .ok (.putfield 60, 3) := dcs_at ok13_play_0_1 38 rfl
theorem dX2_begin_74 : decode cX2_begin 74 = .ok (.aload_n 0, 1) := dcs_at ok13_play_0_1 39 rfl
def tb13_play_0_2 : List (Nat × (Instr × Nat)) := [(75, (.iconst 0, 1)), (76, (.putfield 61, 3)), (79, (.aload_n 0, 1)), (80, (.iconst 0, 1)), (81, (.putfield 64, 3)), (84, (.aload_n 0, 1)), (85, (.iconst 0, 1)), (86, (.putfield 67, 3)), (89, (.aload_n 0, 1)), (90, (.iconst 0, 1)), (91, (.putfield 69, 3)), (94, (.aload_n 0, 1)), (95, (.iconst (-1), 1)), (96, (.putfield 72, 3)), (99, (.return_, 1))]
theorem ok13_play_0_2 : dcs cX2_begin tb13_play_0_2 = true := by decide +kernel
theorem dX2_begin_75 : decode cX2_begin 75 = .ok (.iconst 0, 1) := dcs_at ok13_play_0_2 0 rfl
theorem dX2_begin_76 : decode cX2_begin 76 = .ok (.putfield 61, 3) := dcs_at ok13_play_0_2 1 rfl
theorem dX2_begin_79 : decode cX2_begin 79 = .ok (.aload_n 0, 1) := dcs_at ok13_play_0_2 2 rfl
theorem dX2_begin_80 : decode cX2_begin 80 = .ok (.iconst 0, 1) := dcs_at ok13_play_0_2 3 rfl
theorem dX2_begin_81 : decode cX2_begin 81 = .ok (.putfield 64, 3) := dcs_at ok13_play_0_2 4 rfl
theorem dX2_begin_84 : decode cX2_begin 84 = .ok (.aload_n 0, 1) := dcs_at ok13_play_0_2 5 rfl
theorem dX2_begin_85 : decode cX2_begin 85 = .ok (.iconst 0, 1) := dcs_at ok13_play_0_2 6 rfl
theorem dX2_begin_86 : decode cX2_begin 86 = .ok (.putfield 67, 3) := dcs_at ok13_play_0_2 7 rfl
theorem dX2_begin_89 : decode cX2_begin 89 = .ok (.aload_n 0, 1) := dcs_at ok13_play_0_2 8 rfl
theorem dX2_begin_90 : decode cX2_begin 90 = .ok (.iconst 0, 1) := dcs_at ok13_play_0_2 9 rfl
theorem dX2_begin_91 : decode cX2_begin 91 = .ok (.putfield 69, 3) := dcs_at ok13_play_0_2 10 rfl
theorem dX2_begin_94 : decode cX2_begin 94 = .ok (.aload_n 0, 1) := dcs_at ok13_play_0_2 11 rfl
theorem dX2_begin_95 : decode cX2_begin 95 = .ok (.iconst (-1), 1) := dcs_at ok13_play_0_2 12 rfl
theorem dX2_begin_96 : decode cX2_begin 96 = .ok (.putfield 72, 3) := dcs_at ok13_play_0_2 13 rfl
theorem dX2_begin_99 : decode cX2_begin 99 = .ok (.return_, 1) := dcs_at ok13_play_0_2 14 rfl
def tb13_play_0_3 : List (Nat × (Instr × Nat)) := [(0, (.aload_n 0, 1)), (1, (.aload_n 1, 1)), (2, (.invokevirtual 75, 3)), (5, (.iconst 0, 1)), (6, (.istore 4, 2)), (8, (.iload 4, 2)), (10, (.iload_n 3, 1)), (11, (.if_icmp .ge 28, 3)), (14, (.aload_n 0, 1)), (15, (.aload_n 2, 1)), (16, (.iload 4, 2)), (18, (.invokevirtual 79, 3)), (21, (.ifCond .ne 5, 3)), (24, (.iconst 0, 1)), (25, (.ireturn, 1)), (26, (.aload_n 0, 1)), (27, (.aload_n 2, 1)), (28, (.iload 4, 2)), (30, (.invokevirtual 83, 3)), (33, (.iinc 4 1, 3)), (36, (.goto (-28), 3)), (39, (.iconst 1, 1)), (40, (.ireturn, 1))]
theorem ok13_play_0_3 : dcs cX2_playFirst tb13_play_0_3 = true := by decide +kernel
theorem dX2_playFirst_0 : decode cX2_playFirst 0 = .ok (.aload_n 0, 1) := dcs_at ok13_play_0_3 0 rfl
theorem dX2_playFirst_1 : decode cX2_playFirst 1 = .ok (.aload_n 1, 1) := dcs_at ok13_play_0_3 1 rfl
theorem dX2_playFirst_2 : decode cX2_playFirst 2 = .ok (.invokevirtual 75, 3) := dcs_at ok13_play_0_3 2 rfl
theorem dX2_playFirst_5 : decode cX2_playFirst 5 = .ok (.iconst 0, 1) := dcs_at ok13_play_0_3 3 rfl
theorem dX2_playFirst_6 : decode cX2_playFirst 6 = .ok (.istore 4, 2) := dcs_at ok13_play_0_3 4 rfl
theorem dX2_playFirst_8 : decode cX2_playFirst 8 = .ok (.iload 4, 2) := dcs_at ok13_play_0_3 5 rfl
theorem dX2_playFirst_10 : decode cX2_playFirst 10 = .ok (.iload_n 3, 1) := dcs_at ok13_play_0_3 6 rfl
theorem dX2_playFirst_11 : decode cX2_playFirst 11 = .ok (.if_icmp .ge 28, 3) := dcs_at ok13_play_0_3 7 rfl
theorem dX2_playFirst_14 : decode cX2_playFirst 14 = .ok (.aload_n 0, 1) := dcs_at ok13_play_0_3 8 rfl
theorem dX2_playFirst_15 : decode cX2_playFirst 15 = .ok (.aload_n 2, 1) := dcs_at ok13_play_0_3 9 rfl
theorem dX2_playFirst_16 : decode cX2_playFirst 16 = .ok (.iload 4, 2) := dcs_at ok13_play_0_3 10 rfl
theorem dX2_playFirst_18 : decode cX2_playFirst 18 = .ok (.invokevirtual 79, 3) := dcs_at ok13_play_0_3 11 rfl
theorem dX2_playFirst_21 : decode cX2_playFirst 21 = .ok (.ifCond .ne 5, 3) := dcs_at ok13_play_0_3 12 rfl
theorem dX2_playFirst_24 : decode cX2_playFirst 24 = .ok (.iconst 0, 1) := dcs_at ok13_play_0_3 13 rfl
theorem dX2_playFirst_25 : decode cX2_playFirst 25 = .ok (.ireturn, 1) := dcs_at ok13_play_0_3 14 rfl
theorem dX2_playFirst_26 : decode cX2_playFirst 26 = .ok (.aload_n 0, 1) := dcs_at ok13_play_0_3 15 rfl
theorem dX2_playFirst_27 : decode cX2_playFirst 27 = .ok (.aload_n 2, 1) := dcs_at ok13_play_0_3 16 rfl
theorem dX2_playFirst_28 : decode cX2_playFirst 28 = .ok (.iload 4, 2) := dcs_at ok13_play_0_3 17 rfl
theorem dX2_playFirst_30 : decode cX2_playFirst 30 = .ok (.invokevirtual 83, 3) := dcs_at ok13_play_0_3 18 rfl
theorem dX2_playFirst_33 : decode cX2_playFirst 33 = .ok (.iinc 4 1, 3) := dcs_at ok13_play_0_3 19 rfl
theorem dX2_playFirst_36 : decode cX2_playFirst 36 = .ok (.goto (-28), 3) := dcs_at ok13_play_0_3 20 rfl
theorem dX2_playFirst_39 : decode cX2_playFirst 39 = .ok (.iconst 1, 1) := dcs_at ok13_play_0_3 21 rfl
theorem dX2_playFirst_40 : decode cX2_playFirst 40 = .ok (.ireturn, 1) := dcs_at ok13_play_0_3 22 rfl
def tb13_play_0_4 : List (Nat × (Instr × Nat)) := [(0, (.aload_n 0, 1)), (1, (.aload_n 1, 1)), (2, (.invokevirtual 75, 3)), (5, (.iconst 0, 1)), (6, (.istore_n 3, 1)), (7, (.iload_n 3, 1)), (8, (.aload_n 2, 1)), (9, (.getfield 87, 3)), (12, (.if_icmp .ge 26, 3)), (15, (.aload_n 0, 1)), (16, (.aload_n 2, 1)), (17, (.iload_n 3, 1)), (18, (.invokevirtual 79, 3)), (21, (.ifCond .ne 5, 3)), (24, (.iload_n 3, 1)), (25, (.ireturn, 1)), (26, (.aload_n 0, 1)), (27, (.aload_n 2, 1)), (28, (.iload_n 3, 1)), (29, (.invokevirtual 83, 3)), (32, (.iinc 3 1, 3)), (35, (.goto (-28), 3)), (38, (.aload_n 2, 1)), (39, (.getfield 87, 3)), (42, (.ireturn, 1))]
theorem ok13_play_0_4 : dcs cX2_playAll tb13_play_0_4 = true := by decide +kernel
theorem dX2_playAll_0 : decode cX2_playAll 0 = .ok (.aload_n 0, 1) := dcs_at ok13_play_0_4 0 rfl
theorem dX2_playAll_1 : decode cX2_playAll 1 = .ok (.aload_n 1, 1) := dcs_at ok13_play_0_4 1 rfl
theorem dX2_playAll_2 : decode cX2_playAll 2 = .ok (.invokevirtual 75, 3) := dcs_at ok13_play_0_4 2 rfl
theorem dX2_playAll_5 : decode cX2_playAll 5 = .ok (.iconst 0, 1) := dcs_at ok13_play_0_4 3 rfl
theorem dX2_playAll_6 : decode cX2_playAll 6 = .ok (.istore_n 3, 1) := dcs_at ok13_play_0_4 4 rfl
theorem dX2_playAll_7 : decode cX2_playAll 7 = .ok (.iload_n 3, 1) := dcs_at ok13_play_0_4 5 rfl
theorem dX2_playAll_8 : decode cX2_playAll 8 = .ok (.aload_n 2, 1) := dcs_at ok13_play_0_4 6 rfl
theorem dX2_playAll_9 : decode cX2_playAll 9 = .ok (.getfield 87, 3) := dcs_at ok13_play_0_4 7 rfl
theorem dX2_playAll_12 : decode cX2_playAll 12 = .ok (.if_icmp .ge 26, 3) := dcs_at ok13_play_0_4 8 rfl
theorem dX2_playAll_15 : decode cX2_playAll 15 = .ok (.aload_n 0, 1) := dcs_at ok13_play_0_4 9 rfl
theorem dX2_playAll_16 : decode cX2_playAll 16 = .ok (.aload_n 2, 1) := dcs_at ok13_play_0_4 10 rfl
theorem dX2_playAll_17 : decode cX2_playAll 17 = .ok (.iload_n 3, 1) := dcs_at ok13_play_0_4 11 rfl
theorem dX2_playAll_18 : decode cX2_playAll 18 = .ok (.invokevirtual 79, 3) := dcs_at ok13_play_0_4 12 rfl
theorem dX2_playAll_21 : decode cX2_playAll 21 = .ok (.ifCond .ne 5, 3) := dcs_at ok13_play_0_4 13 rfl
theorem dX2_playAll_24 : decode cX2_playAll 24 = .ok (.iload_n 3, 1) := dcs_at ok13_play_0_4 14 rfl
theorem dX2_playAll_25 : decode cX2_playAll 25 = .ok (.ireturn, 1) := dcs_at ok13_play_0_4 15 rfl
theorem dX2_playAll_26 : decode cX2_playAll 26 = .ok (.aload_n 0, 1) := dcs_at ok13_play_0_4 16 rfl
theorem dX2_playAll_27 : decode cX2_playAll 27 = .ok (.aload_n 2, 1) := dcs_at ok13_play_0_4 17 rfl
theorem dX2_playAll_28 : decode cX2_playAll 28 = .ok (.iload_n 3, 1) := dcs_at ok13_play_0_4 18 rfl
theorem dX2_playAll_29 : decode cX2_playAll 29 = .ok (.invokevirtual 83, 3) := dcs_at ok13_play_0_4 19 rfl
theorem dX2_playAll_32 : decode cX2_playAll 32 = .ok (.iinc 3 1, 3) := dcs_at ok13_play_0_4 20 rfl
theorem dX2_playAll_35 : decode cX2_playAll 35 = .ok (.goto (-28), 3) := dcs_at ok13_play_0_4 21 rfl
theorem dX2_playAll_38 : decode cX2_playAll 38 = .ok (.aload_n 2, 1) := dcs_at ok13_play_0_4 22 rfl
theorem dX2_playAll_39 : decode cX2_playAll 39 = .ok (.getfield 87, 3) := dcs_at ok13_play_0_4 23 rfl
theorem dX2_playAll_42 : decode cX2_playAll 42 = .ok (.ireturn, 1) := dcs_at ok13_play_0_4 24 rfl
def tb13_play_0_5 : List (Nat × (Instr × Nat)) := [(0, (.aload_n 0, 1)), (1, (.aload_n 1, 1)), (2, (.invokevirtual 75, 3)), (5, (.iconst 0, 1)), (6, (.istore 5, 2)), (8, (.iload 5, 2)), (10, (.iload_n 3, 1)), (11, (.if_icmp .ge 37, 3)), (14, (.aload_n 2, 1)), (15, (.iload 5, 2)), (17, (.iload 4, 2)), (19, (.invokevirtual 92, 3)), (22, (.ifCond .ne 20, 3)), (25, (.aload_n 0, 1)), (26, (.aload_n 2, 1)), (27, (.iload 5, 2)), (29, (.invokevirtual 79, 3)), (32, (.ifCond .eq 10, 3)), (35, (.aload_n 0, 1)), (36, (.aload_n 2, 1)), (37, (.iload 5, 2)), (39, (.invokevirtual 83, 3)), (42, (.iinc 5 1, 3)), (45, (.goto (-37), 3)), (48, (.return_, 1))]
theorem ok13_play_0_5 : dcs cX2_playWithout tb13_play_0_5 = true := by decide +kernel
theorem dX2_playWithout_0 : decode cX2_playWithout 0 = .ok (.aload_n 0, 1) := dcs_at ok13_play_0_5 0 rfl
theorem dX2_playWithout_1 : decode cX2_playWithout 1 = .ok (.aload_n 1, 1) := dcs_at ok13_play_0_5 1 rfl
theorem dX2_playWithout_2 : decode cX2_playWithout 2 = .ok (.invokevirtual 75, 3) := dcs_at ok13_play_0_5 2 rfl
theorem dX2_playWithout_5 : decode cX2_playWithout 5 = .ok (.iconst 0, 1) := dcs_at ok13_play_0_5 3 rfl
theorem dX2_playWithout_6 : decode cX2_playWithout 6 = .ok (.istore 5, 2) := dcs_at ok13_play_0_5 4 rfl
theorem dX2_playWithout_8 : decode cX2_playWithout 8 = .ok (.iload 5, 2) := dcs_at ok13_play_0_5 5 rfl
theorem dX2_playWithout_10 : decode cX2_playWithout 10 = .ok (.iload_n 3, 1) := dcs_at ok13_play_0_5 6 rfl
theorem dX2_playWithout_11 : decode cX2_playWithout 11 = .ok (.if_icmp .ge 37, 3) := dcs_at ok13_play_0_5 7 rfl
theorem dX2_playWithout_14 : decode cX2_playWithout 14 = .ok (.aload_n 2, 1) := dcs_at ok13_play_0_5 8 rfl
theorem dX2_playWithout_15 : decode cX2_playWithout 15 = .ok (.iload 5, 2) := dcs_at ok13_play_0_5 9 rfl
theorem dX2_playWithout_17 : decode cX2_playWithout 17 = .ok (.iload 4, 2) := dcs_at ok13_play_0_5 10 rfl
theorem dX2_playWithout_19 : decode cX2_playWithout 19 = .ok (.invokevirtual 92, 3) := dcs_at ok13_play_0_5 11 rfl
theorem dX2_playWithout_22 : decode cX2_playWithout 22 = .ok (.ifCond .ne 20, 3) := dcs_at ok13_play_0_5 12 rfl
theorem dX2_playWithout_25 : decode cX2_playWithout 25 = .ok (.aload_n 0, 1) := dcs_at ok13_play_0_5 13 rfl
theorem dX2_playWithout_26 : decode cX2_playWithout 26 = .ok (.aload_n 2, 1) := dcs_at ok13_play_0_5 14 rfl
theorem dX2_playWithout_27 : decode cX2_playWithout 27 = .ok (.iload 5, 2) := dcs_at ok13_play_0_5 15 rfl
theorem dX2_playWithout_29 : decode cX2_playWithout 29 = .ok (.invokevirtual 79, 3) := dcs_at ok13_play_0_5 16 rfl
theorem dX2_playWithout_32 : decode cX2_playWithout 32 = .ok (.ifCond .eq 10, 3) := dcs_at ok13_play_0_5 17 rfl
theorem dX2_playWithout_35 : decode cX2_playWithout 35 = .ok (.aload_n 0, 1) := dcs_at ok13_play_0_5 18 rfl
theorem dX2_playWithout_36 : decode cX2_playWithout 36 = .ok (.aload_n 2, 1) := dcs_at ok13_play_0_5 19 rfl
theorem dX2_playWithout_37 : decode cX2_playWithout 37 = .ok (.iload 5, 2) := dcs_at ok13_play_0_5 20 rfl
theorem dX2_playWithout_39 : decode cX2_playWithout 39 = .ok (.invokevirtual 83, 3) := dcs_at ok13_play_0_5 21 rfl
theorem dX2_playWithout_42 : decode cX2_playWithout 42 = .ok (.iinc 5 1, 3) := dcs_at ok13_play_0_5 22 rfl
theorem dX2_playWithout_45 : decode cX2_playWithout 45 = .ok (.goto (-37), 3) := dcs_at ok13_play_0_5 23 rfl
theorem dX2_playWithout_48 : decode cX2_playWithout 48 = .ok (.return_, 1) := dcs_at ok13_play_0_5 24 rfl
def tb13_play_0_6 : List (Nat × (Instr × Nat)) := [(0, (.aload_n 0, 1)), (1, (.aload_n 1, 1)), (2, (.invokevirtual 75, 3)), (5, (.iload_n 2, 1)), (6, (.istore 4, 2)), (8, (.iconst 0, 1)), (9, (.istore 5, 2)), (11, (.iload 5, 2)), (13, (.iload_n 3, 1)), (14, (.if_icmp .ge 146, 3)), (17, (.iconst 0, 1)), (18, (.istore 6, 2)), (20, (.iconst 0, 1)), (21, (.istore 7, 2)), (23, (.iload 7, 2)), (25, (.aload_n 0, 1)), (26, (.getfield 12, 3)), (29, (.getfield 96, 3)), (32, (.if_icmp .ge 30, 3)), (35, (.aload_n 0, 1)), (36, (.iload 7, 2)), (38, (.invokevirtual 99, 3)), (41, (.ifCond .eq 15, 3)), (44, (.aload_n 0, 1)), (45, (.getfield 37, 3)), (48, (.iload 6, 2)), (50, (.iload 7, 2)), (52, (.iastore, 1)), (53, (.iinc 6 1, 3)), (56, (.iinc 7 1, 3)), (59, (.goto (-36), 3)), (62, (.iconst 0, 1)), (63, (.istore 7, 2)), (65, (.iload 7, 2)), (67, (.aload_n 0, 1)), (68, (.getfield 12, 3)), (71, (.getfield 103, 3)), (74, (.if_icmp .ge 76, 3)), (77, (.iload 6, 2)), (79, (.ifCond .le 71, 3))]
theorem ok13_play_0_6 : dcs cX2_playDrawn tb13_play_0_6 = true := by decide +kernel
theorem dX2_playDrawn_0 : decode cX2_playDrawn 0 = .ok (.aload_n 0, 1) := dcs_at ok13_play_0_6 0 rfl
theorem dX2_playDrawn_1 : decode cX2_playDrawn 1 = .ok (.aload_n 1, 1) := dcs_at ok13_play_0_6 1 rfl
theorem dX2_playDrawn_2 : decode cX2_playDrawn 2 = .ok (.invokevirtual 75, 3) := dcs_at ok13_play_0_6 2 rfl
theorem dX2_playDrawn_5 : decode cX2_playDrawn 5 = .ok (.iload_n 2, 1) := dcs_at ok13_play_0_6 3 rfl
theorem dX2_playDrawn_6 : decode cX2_playDrawn 6 = .ok (.istore 4, 2) := dcs_at ok13_play_0_6 4 rfl
theorem dX2_playDrawn_8 : decode cX2_playDrawn 8 = .ok (.iconst 0, 1) := dcs_at ok13_play_0_6 5 rfl
theorem dX2_playDrawn_9 : decode cX2_playDrawn 9 = .ok (.istore 5, 2) := dcs_at ok13_play_0_6 6 rfl
theorem dX2_playDrawn_11 : decode cX2_playDrawn 11 = .ok (.iload 5, 2) := dcs_at ok13_play_0_6 7 rfl
theorem dX2_playDrawn_13 : decode cX2_playDrawn 13 = .ok (.iload_n 3, 1) := dcs_at ok13_play_0_6 8 rfl
theorem dX2_playDrawn_14 : decode cX2_playDrawn 14 = .ok (.if_icmp .ge 146, 3) := dcs_at ok13_play_0_6 9 rfl
theorem dX2_playDrawn_17 : decode cX2_playDrawn 17 = .ok (.iconst 0, 1) := dcs_at ok13_play_0_6 10 rfl
theorem dX2_playDrawn_18 : decode cX2_playDrawn 18 = .ok (.istore 6, 2) := dcs_at ok13_play_0_6 11 rfl
theorem dX2_playDrawn_20 : decode cX2_playDrawn 20 = .ok (.iconst 0, 1) := dcs_at ok13_play_0_6 12 rfl
theorem dX2_playDrawn_21 : decode cX2_playDrawn 21 = .ok (.istore 7, 2) := dcs_at ok13_play_0_6 13 rfl
theorem dX2_playDrawn_23 : decode cX2_playDrawn 23 = .ok (.iload 7, 2) := dcs_at ok13_play_0_6 14 rfl
theorem dX2_playDrawn_25 : decode cX2_playDrawn 25 = .ok (.aload_n 0, 1) := dcs_at ok13_play_0_6 15 rfl
theorem dX2_playDrawn_26 : decode cX2_playDrawn 26 = .ok (.getfield 12, 3) := dcs_at ok13_play_0_6 16 rfl
theorem dX2_playDrawn_29 : decode cX2_playDrawn 29 = .ok (.getfield 96, 3) := dcs_at ok13_play_0_6 17 rfl
theorem dX2_playDrawn_32 : decode cX2_playDrawn 32 = .ok (.if_icmp .ge 30, 3) := dcs_at ok13_play_0_6 18 rfl
theorem dX2_playDrawn_35 : decode cX2_playDrawn 35 = .ok (.aload_n 0, 1) := dcs_at ok13_play_0_6 19 rfl
theorem dX2_playDrawn_36 : decode cX2_playDrawn 36 = .ok (.iload 7, 2) := dcs_at ok13_play_0_6 20 rfl
theorem dX2_playDrawn_38 : decode cX2_playDrawn 38 = .ok (.invokevirtual 99, 3) := dcs_at ok13_play_0_6 21 rfl
theorem dX2_playDrawn_41 : decode cX2_playDrawn 41 = .ok (.ifCond .eq 15, 3) := dcs_at ok13_play_0_6 22 rfl
theorem dX2_playDrawn_44 : decode cX2_playDrawn 44 = .ok (.aload_n 0, 1) := dcs_at ok13_play_0_6 23 rfl
theorem dX2_playDrawn_45 : decode cX2_playDrawn 45 = .ok (.getfield 37, 3) := dcs_at ok13_play_0_6 24 rfl
theorem dX2_playDrawn_48 : decode cX2_playDrawn 48 = .ok (.iload 6, 2) := dcs_at ok13_play_0_6 25 rfl
theorem dX2_playDrawn_50 : decode cX2_playDrawn 50 = .ok (.iload 7, 2) := dcs_at ok13_play_0_6 26 rfl
theorem dX2_playDrawn_52 : decode cX2_playDrawn 52 = .ok (.iastore, 1) := dcs_at ok13_play_0_6 27 rfl
theorem dX2_playDrawn_53 : decode cX2_playDrawn 53 = .ok (.iinc 6 1, 3) := dcs_at ok13_play_0_6 28 rfl
theorem dX2_playDrawn_56 : decode cX2_playDrawn 56 = .ok (.iinc 7 1, 3) := dcs_at ok13_play_0_6 29 rfl
theorem dX2_playDrawn_59 : decode cX2_playDrawn 59 = .ok (.goto (-36), 3) := dcs_at ok13_play_0_6 30 rfl
theorem dX2_playDrawn_62 : decode cX2_playDrawn 62 = .ok (.iconst 0, 1) := dcs_at ok13_play_0_6 31 rfl
theorem dX2_playDrawn_63 : decode cX2_playDrawn 63 = .ok (.istore 7, 2) := dcs_at ok13_play_0_6 32 rfl
theorem dX2_playDrawn_65 : decode cX2_playDrawn 65 = .ok (.iload 7, 2) := dcs_at ok13_play_0_6 33 rfl
theorem dX2_playDrawn_67 : decode cX2_playDrawn 67 = .ok (.aload_n 0, 1) := dcs_at ok13_play_0_6 34 rfl
theorem dX2_playDrawn_68 : decode cX2_playDrawn 68 = .ok (.getfield 12, 3) := dcs_at ok13_play_0_6 35 rfl
theorem dX2_playDrawn_71 : decode cX2_playDrawn 71 = .ok (.getfield 103, 3) := dcs_at ok13_play_0_6 36 rfl
theorem dX2_playDrawn_74 : decode cX2_playDrawn 74 = .ok (.if_icmp .ge 76, 3) := dcs_at ok13_play_0_6 37 rfl
theorem dX2_playDrawn_77 : decode cX2_playDrawn 77 = .ok (.iload 6, 2) := dcs_at ok13_play_0_6 38 rfl
theorem dX2_playDrawn_79 : decode cX2_playDrawn 79 = .ok (.ifCond .le 71, 3) := dcs_at ok13_play_0_6 39 rfl
def tb13_play_0_7 : List (Nat × (Instr × Nat)) := [(82, (.iconst 0, 1)), (83, (.istore 8, 2)), (85, (.iload 8, 2)), (87, (.aload_n 0, 1)), (88, (.getfield 12, 3)), (91, (.getfield 40, 3)), (94, (.iload 7, 2)), (96, (.iaload, 1)), (97, (.if_icmp .ge 47, 3)), (100, (.iload 4, 2)), (102, (.ldc 106, 2)), (104, (.imul, 1)), (105, (.sipush 12345, 3)), (108, (.iadd, 1)), (109, (.istore 4, 2)), (111, (.aload_n 0, 1)), (112, (.aload_n 0, 1)), (113, (.getfield 37, 3)), (116, (.iload 4, 2)), (118, (.bipush 16, 2)), (120, (.iushr, 1)), (121, (.iload 6, 2)), (123, (.irem, 1)), (124, (.iaload, 1)), (125, (.aload_n 0, 1)), (126, (.getfield 12, 3)), (129, (.getfield 107, 3)), (132, (.iload 7, 2)), (134, (.iaload, 1)), (135, (.invokevirtual 110, 3)), (138, (.iinc 8 1, 3)), (141, (.goto (-56), 3)), (144, (.iinc 7 1, 3)), (147, (.goto (-82), 3)), (150, (.aload_n 0, 1)), (151, (.invokevirtual 114, 3)), (154, (.iinc 5 1, 3)), (157, (.goto (-146), 3)), (160, (.return_, 1))]
theorem ok13_play_0_7 : dcs cX2_playDrawn tb13_play_0_7 = true := by decide +kernel
theorem dX2_playDrawn_82 : decode cX2_playDrawn 82 = .ok (.iconst 0, 1) := dcs_at ok13_play_0_7 0 rfl
theorem dX2_playDrawn_83 : decode cX2_playDrawn 83 = .ok (.istore 8, 2) := dcs_at ok13_play_0_7 1 rfl
theorem dX2_playDrawn_85 : decode cX2_playDrawn 85 = .ok (.iload 8, 2) := dcs_at ok13_play_0_7 2 rfl
theorem dX2_playDrawn_87 : decode cX2_playDrawn 87 = .ok (.aload_n 0, 1) := dcs_at ok13_play_0_7 3 rfl
theorem dX2_playDrawn_88 : decode cX2_playDrawn 88 = .ok (.getfield 12, 3) := dcs_at ok13_play_0_7 4 rfl
theorem dX2_playDrawn_91 : decode cX2_playDrawn 91 = .ok (.getfield 40, 3) := dcs_at ok13_play_0_7 5 rfl
theorem dX2_playDrawn_94 : decode cX2_playDrawn 94 = .ok (.iload 7, 2) := dcs_at ok13_play_0_7 6 rfl
theorem dX2_playDrawn_96 : decode cX2_playDrawn 96 = .ok (.iaload, 1) := dcs_at ok13_play_0_7 7 rfl
theorem dX2_playDrawn_97 : decode cX2_playDrawn 97 = .ok (.if_icmp .ge 47, 3) := dcs_at ok13_play_0_7 8 rfl
theorem dX2_playDrawn_100 : decode cX2_playDrawn 100 = .ok (.iload 4, 2) := dcs_at ok13_play_0_7 9 rfl
theorem dX2_playDrawn_102 : decode cX2_playDrawn 102 = .ok (.ldc 106, 2) := dcs_at ok13_play_0_7 10 rfl
theorem dX2_playDrawn_104 : decode cX2_playDrawn 104 = .ok (.imul, 1) := dcs_at ok13_play_0_7 11 rfl
theorem dX2_playDrawn_105 : decode cX2_playDrawn 105 = .ok (.sipush 12345, 3) := dcs_at ok13_play_0_7 12 rfl
theorem dX2_playDrawn_108 : decode cX2_playDrawn 108 = .ok (.iadd, 1) := dcs_at ok13_play_0_7 13 rfl
theorem dX2_playDrawn_109 : decode cX2_playDrawn 109 = .ok (.istore 4, 2) := dcs_at ok13_play_0_7 14 rfl
theorem dX2_playDrawn_111 : decode cX2_playDrawn 111 = .ok (.aload_n 0, 1) := dcs_at ok13_play_0_7 15 rfl
theorem dX2_playDrawn_112 : decode cX2_playDrawn 112 = .ok (.aload_n 0, 1) := dcs_at ok13_play_0_7 16 rfl
theorem dX2_playDrawn_113 : decode cX2_playDrawn 113 = .ok (.getfield 37, 3) := dcs_at ok13_play_0_7 17 rfl
theorem dX2_playDrawn_116 : decode cX2_playDrawn 116 = .ok (.iload 4, 2) := dcs_at ok13_play_0_7 18 rfl
theorem dX2_playDrawn_118 : decode cX2_playDrawn 118 = .ok (.bipush 16, 2) := dcs_at ok13_play_0_7 19 rfl
theorem dX2_playDrawn_120 : decode cX2_playDrawn 120 = .ok (.iushr, 1) := dcs_at ok13_play_0_7 20 rfl
theorem dX2_playDrawn_121 : decode cX2_playDrawn 121 = .ok (.iload 6, 2) := dcs_at ok13_play_0_7 21 rfl
theorem dX2_playDrawn_123 : decode cX2_playDrawn 123 = .ok (.irem, 1) := dcs_at ok13_play_0_7 22 rfl
theorem dX2_playDrawn_124 : decode cX2_playDrawn 124 = .ok (.iaload, 1) := dcs_at ok13_play_0_7 23 rfl
theorem dX2_playDrawn_125 : decode cX2_playDrawn 125 = .ok (.aload_n 0, 1) := dcs_at ok13_play_0_7 24 rfl
theorem dX2_playDrawn_126 : decode cX2_playDrawn 126 = .ok (.getfield 12, 3) := dcs_at ok13_play_0_7 25 rfl
theorem dX2_playDrawn_129 : decode cX2_playDrawn 129 = .ok (.getfield 107, 3) := dcs_at ok13_play_0_7 26 rfl
theorem dX2_playDrawn_132 : decode cX2_playDrawn 132 = .ok (.iload 7, 2) := dcs_at ok13_play_0_7 27 rfl
theorem dX2_playDrawn_134 : decode cX2_playDrawn 134 = .ok (.iaload, 1) := dcs_at ok13_play_0_7 28 rfl
theorem dX2_playDrawn_135 : decode cX2_playDrawn 135 = .ok (.invokevirtual 110, 3) := dcs_at ok13_play_0_7 29 rfl
theorem dX2_playDrawn_138 : decode cX2_playDrawn 138 = .ok (.iinc 8 1, 3) := dcs_at ok13_play_0_7 30 rfl
theorem dX2_playDrawn_141 : decode cX2_playDrawn 141 = .ok (.goto (-56), 3) := dcs_at ok13_play_0_7 31 rfl
theorem dX2_playDrawn_144 : decode cX2_playDrawn 144 = .ok (.iinc 7 1, 3) := dcs_at ok13_play_0_7 32 rfl
theorem dX2_playDrawn_147 : decode cX2_playDrawn 147 = .ok (.goto (-82), 3) := dcs_at ok13_play_0_7 33 rfl
theorem dX2_playDrawn_150 : decode cX2_playDrawn 150 = .ok (.aload_n 0, 1) := dcs_at ok13_play_0_7 34 rfl
theorem dX2_playDrawn_151 : decode cX2_playDrawn 151 = .ok (.invokevirtual 114, 3) := dcs_at ok13_play_0_7 35 rfl
theorem dX2_playDrawn_154 : decode cX2_playDrawn 154 = .ok (.iinc 5 1, 3) := dcs_at ok13_play_0_7 36 rfl
theorem dX2_playDrawn_157 : decode cX2_playDrawn 157 = .ok (.goto (-146), 3) := dcs_at ok13_play_0_7 37 rfl
theorem dX2_playDrawn_160 : decode cX2_playDrawn 160 = .ok (.return_, 1) := dcs_at ok13_play_0_7 38 rfl
def tb13_play_0_8 : List (Nat × (Instr × Nat)) := [(0, (.aload_n 1, 1)), (1, (.iload_n 2, 1)), (2, (.iconst 1, 1)), (3, (.invokevirtual 120, 3)), (6, (.istore_n 3, 1)), (7, (.aload_n 1, 1)), (8, (.iload_n 2, 1)), (9, (.iconst 2, 1)), (10, (.invokevirtual 120, 3)), (13, (.istore 4, 2)), (15, (.aload_n 1, 1)), (16, (.iload_n 2, 1)), (17, (.iconst 3, 1)), (18, (.invokevirtual 120, 3)), (21, (.istore 5, 2)), (23, (.aload_n 1, 1)), (24, (.iload_n 2, 1)), (25, (.iconst 0, 1)), (26, (.invokevirtual 120, 3)), (29, (.tableswitch 175 0 4 #[35, 60, 85, 126, 169], 35)), (64, (.aload_n 0, 1)), (65, (.iload_n 3, 1)), (66, (.iload 5, 2)), (68, (.invokevirtual 124, 3)), (71, (.ifCond .eq 16, 3)), (74, (.aload_n 0, 1)), (75, (.iload 4, 2)), (77, (.invokevirtual 99, 3)), (80, (.ifCond .eq 7, 3)), (83, (.iconst 1, 1)), (84, (.goto 4, 3)), (87, (.iconst 0, 1)), (88, (.ireturn, 1)), (89, (.aload_n 0, 1)), (90, (.iload_n 3, 1)), (91, (.iload 5, 2)), (93, (.invokevirtual 124, 3)), (96, (.ifCond .eq 16, 3)), (99, (.aload_n 0, 1)), (100, (.iload 4, 2))]
theorem ok13_play_0_8 : dcs cX2_canBe tb13_play_0_8 = true := by decide +kernel
theorem dX2_canBe_0 : decode cX2_canBe 0 = .ok (.aload_n 1, 1) := dcs_at ok13_play_0_8 0 rfl
theorem dX2_canBe_1 : decode cX2_canBe 1 = .ok (.iload_n 2, 1) := dcs_at ok13_play_0_8 1 rfl
theorem dX2_canBe_2 : decode cX2_canBe 2 = .ok (.iconst 1, 1) := dcs_at ok13_play_0_8 2 rfl
theorem dX2_canBe_3 : decode cX2_canBe 3 = .ok (.invokevirtual 120, 3) := dcs_at ok13_play_0_8 3 rfl
theorem dX2_canBe_6 : decode cX2_canBe 6 = .ok (.istore_n 3, 1) := dcs_at ok13_play_0_8 4 rfl
theorem dX2_canBe_7 : decode cX2_canBe 7 = .ok (.aload_n 1, 1) := dcs_at ok13_play_0_8 5 rfl
theorem dX2_canBe_8 : decode cX2_canBe 8 = .ok (.iload_n 2, 1) := dcs_at ok13_play_0_8 6 rfl
theorem dX2_canBe_9 : decode cX2_canBe 9 = .ok (.iconst 2, 1) := dcs_at ok13_play_0_8 7 rfl
theorem dX2_canBe_10 : decode cX2_canBe 10 = .ok (.invokevirtual 120, 3) := dcs_at ok13_play_0_8 8 rfl
theorem dX2_canBe_13 : decode cX2_canBe 13 = .ok (.istore 4, 2) := dcs_at ok13_play_0_8 9 rfl
theorem dX2_canBe_15 : decode cX2_canBe 15 = .ok (.aload_n 1, 1) := dcs_at ok13_play_0_8 10 rfl
theorem dX2_canBe_16 : decode cX2_canBe 16 = .ok (.iload_n 2, 1) := dcs_at ok13_play_0_8 11 rfl
theorem dX2_canBe_17 : decode cX2_canBe 17 = .ok (.iconst 3, 1) := dcs_at ok13_play_0_8 12 rfl
theorem dX2_canBe_18 : decode cX2_canBe 18 = .ok (.invokevirtual 120, 3) := dcs_at ok13_play_0_8 13 rfl
theorem dX2_canBe_21 : decode cX2_canBe 21 = .ok (.istore 5, 2) := dcs_at ok13_play_0_8 14 rfl
theorem dX2_canBe_23 : decode cX2_canBe 23 = .ok (.aload_n 1, 1) := dcs_at ok13_play_0_8 15 rfl
theorem dX2_canBe_24 : decode cX2_canBe 24 = .ok (.iload_n 2, 1) := dcs_at ok13_play_0_8 16 rfl
theorem dX2_canBe_25 : decode cX2_canBe 25 = .ok (.iconst 0, 1) := dcs_at ok13_play_0_8 17 rfl
theorem dX2_canBe_26 : decode cX2_canBe 26 = .ok (.invokevirtual 120, 3) := dcs_at ok13_play_0_8 18 rfl
theorem dX2_canBe_29 : decode cX2_canBe 29 = .ok (.tableswitch 175 0 4 #[35, 60, 85, 126, 169], 35) := dcs_at ok13_play_0_8 19 rfl
theorem dX2_canBe_64 : decode cX2_canBe 64 = .ok (.aload_n 0, 1) := dcs_at ok13_play_0_8 20 rfl
theorem dX2_canBe_65 : decode cX2_canBe 65 = .ok (.iload_n 3, 1) := dcs_at ok13_play_0_8 21 rfl
theorem dX2_canBe_66 : decode cX2_canBe 66 = .ok (.iload 5, 2) := dcs_at ok13_play_0_8 22 rfl
theorem dX2_canBe_68 : decode cX2_canBe 68 = .ok (.invokevirtual 124, 3) := dcs_at ok13_play_0_8 23 rfl
theorem dX2_canBe_71 : decode cX2_canBe 71 = .ok (.ifCond .eq 16, 3) := dcs_at ok13_play_0_8 24 rfl
theorem dX2_canBe_74 : decode cX2_canBe 74 = .ok (.aload_n 0, 1) := dcs_at ok13_play_0_8 25 rfl
theorem dX2_canBe_75 : decode cX2_canBe 75 = .ok (.iload 4, 2) := dcs_at ok13_play_0_8 26 rfl
theorem dX2_canBe_77 : decode cX2_canBe 77 = .ok (.invokevirtual 99, 3) := dcs_at ok13_play_0_8 27 rfl
theorem dX2_canBe_80 : decode cX2_canBe 80 = .ok (.ifCond .eq 7, 3) := dcs_at ok13_play_0_8 28 rfl
theorem dX2_canBe_83 : decode cX2_canBe 83 = .ok (.iconst 1, 1) := dcs_at ok13_play_0_8 29 rfl
theorem dX2_canBe_84 : decode cX2_canBe 84 = .ok (.goto 4, 3) := dcs_at ok13_play_0_8 30 rfl
theorem dX2_canBe_87 : decode cX2_canBe 87 = .ok (.iconst 0, 1) := dcs_at ok13_play_0_8 31 rfl
theorem dX2_canBe_88 : decode cX2_canBe 88 = .ok (.ireturn, 1) := dcs_at ok13_play_0_8 32 rfl
theorem dX2_canBe_89 : decode cX2_canBe 89 = .ok (.aload_n 0, 1) := dcs_at ok13_play_0_8 33 rfl
theorem dX2_canBe_90 : decode cX2_canBe 90 = .ok (.iload_n 3, 1) := dcs_at ok13_play_0_8 34 rfl
theorem dX2_canBe_91 : decode cX2_canBe 91 = .ok (.iload 5, 2) := dcs_at ok13_play_0_8 35 rfl
theorem dX2_canBe_93 : decode cX2_canBe 93 = .ok (.invokevirtual 124, 3) := dcs_at ok13_play_0_8 36 rfl
theorem dX2_canBe_96 : decode cX2_canBe 96 = .ok (.ifCond .eq 16, 3) := dcs_at ok13_play_0_8 37 rfl
theorem dX2_canBe_99 : decode cX2_canBe 99 = .ok (.aload_n 0, 1) := dcs_at ok13_play_0_8 38 rfl
theorem dX2_canBe_100 : decode cX2_canBe 100 = .ok (.iload 4, 2) := dcs_at ok13_play_0_8 39 rfl
def tb13_play_0_9 : List (Nat × (Instr × Nat)) := [(102, (.invokevirtual 127, 3)), (105, (.ifCond .eq 7, 3)), (108, (.iconst 1, 1)), (109, (.goto 4, 3)), (112, (.iconst 0, 1)), (113, (.ireturn, 1)), (114, (.aload_n 0, 1)), (115, (.iload_n 3, 1)), (116, (.iload 5, 2)), (118, (.invokevirtual 124, 3)), (121, (.ifCond .eq 32, 3)), (124, (.aload_n 0, 1)), (125, (.iload 4, 2)), (127, (.invokevirtual 127, 3)), (130, (.ifCond .eq 23, 3)), (133, (.aload_n 0, 1)), (134, (.getfield 22, 3)), (137, (.iload_n 3, 1)), (138, (.iconst 5, 1)), (139, (.imul, 1)), (140, (.iload 4, 2)), (142, (.iadd, 1)), (143, (.iaload, 1)), (144, (.iload 5, 2)), (146, (.if_icmp .lt 7, 3)), (149, (.iconst 1, 1)), (150, (.goto 4, 3)), (153, (.iconst 0, 1)), (154, (.ireturn, 1)), (155, (.aload_n 0, 1)), (156, (.iload_n 3, 1)), (157, (.invokevirtual 99, 3)), (160, (.ifCond .eq 36, 3)), (163, (.aload_n 0, 1)), (164, (.iload 4, 2)), (166, (.invokevirtual 127, 3)), (169, (.ifCond .eq 27, 3)), (172, (.aload_n 0, 1)), (173, (.getfield 28, 3)), (176, (.iload_n 3, 1))]
theorem ok13_play_0_9 : dcs cX2_canBe tb13_play_0_9 = true := by decide +kernel
theorem dX2_canBe_102 : decode cX2_canBe 102 = .ok (.invokevirtual 127, 3) := dcs_at ok13_play_0_9 0 rfl
theorem dX2_canBe_105 : decode cX2_canBe 105 = .ok (.ifCond .eq 7, 3) := dcs_at ok13_play_0_9 1 rfl
theorem dX2_canBe_108 : decode cX2_canBe 108 = .ok (.iconst 1, 1) := dcs_at ok13_play_0_9 2 rfl
theorem dX2_canBe_109 : decode cX2_canBe 109 = .ok (.goto 4, 3) := dcs_at ok13_play_0_9 3 rfl
theorem dX2_canBe_112 : decode cX2_canBe 112 = .ok (.iconst 0, 1) := dcs_at ok13_play_0_9 4 rfl
theorem dX2_canBe_113 : decode cX2_canBe 113 = .ok (.ireturn, 1) := dcs_at ok13_play_0_9 5 rfl
theorem dX2_canBe_114 : decode cX2_canBe 114 = .ok (.aload_n 0, 1) := dcs_at ok13_play_0_9 6 rfl
theorem dX2_canBe_115 : decode cX2_canBe 115 = .ok (.iload_n 3, 1) := dcs_at ok13_play_0_9 7 rfl
theorem dX2_canBe_116 : decode cX2_canBe 116 = .ok (.iload 5, 2) := dcs_at ok13_play_0_9 8 rfl
theorem dX2_canBe_118 : decode cX2_canBe 118 = .ok (.invokevirtual 124, 3) := dcs_at ok13_play_0_9 9 rfl
theorem dX2_canBe_121 : decode cX2_canBe 121 = .ok (.ifCond .eq 32, 3) := dcs_at ok13_play_0_9 10 rfl
theorem dX2_canBe_124 : decode cX2_canBe 124 = .ok (.aload_n 0, 1) := dcs_at ok13_play_0_9 11 rfl
theorem dX2_canBe_125 : decode cX2_canBe 125 = .ok (.iload 4, 2) := dcs_at ok13_play_0_9 12 rfl
theorem dX2_canBe_127 : decode cX2_canBe 127 = .ok (.invokevirtual 127, 3) := dcs_at ok13_play_0_9 13 rfl
theorem dX2_canBe_130 : decode cX2_canBe 130 = .ok (.ifCond .eq 23, 3) := dcs_at ok13_play_0_9 14 rfl
theorem dX2_canBe_133 : decode cX2_canBe 133 = .ok (.aload_n 0, 1) := dcs_at ok13_play_0_9 15 rfl
theorem dX2_canBe_134 : decode cX2_canBe 134 = .ok (.getfield 22, 3) := dcs_at ok13_play_0_9 16 rfl
theorem dX2_canBe_137 : decode cX2_canBe 137 = .ok (.iload_n 3, 1) := dcs_at ok13_play_0_9 17 rfl
theorem dX2_canBe_138 : decode cX2_canBe 138 = .ok (.iconst 5, 1) := dcs_at ok13_play_0_9 18 rfl
theorem dX2_canBe_139 : decode cX2_canBe 139 = .ok (.imul, 1) := dcs_at ok13_play_0_9 19 rfl
theorem dX2_canBe_140 : decode cX2_canBe 140 = .ok (.iload 4, 2) := dcs_at ok13_play_0_9 20 rfl
theorem dX2_canBe_142 : decode cX2_canBe 142 = .ok (.iadd, 1) := dcs_at ok13_play_0_9 21 rfl
theorem dX2_canBe_143 : decode cX2_canBe 143 = .ok (.iaload, 1) := dcs_at ok13_play_0_9 22 rfl
theorem dX2_canBe_144 : decode cX2_canBe 144 = .ok (.iload 5, 2) := dcs_at ok13_play_0_9 23 rfl
theorem dX2_canBe_146 : decode cX2_canBe 146 = .ok (.if_icmp .lt 7, 3) := dcs_at ok13_play_0_9 24 rfl
theorem dX2_canBe_149 : decode cX2_canBe 149 = .ok (.iconst 1, 1) := dcs_at ok13_play_0_9 25 rfl
theorem dX2_canBe_150 : decode cX2_canBe 150 = .ok (.goto 4, 3) := dcs_at ok13_play_0_9 26 rfl
theorem dX2_canBe_153 : decode cX2_canBe 153 = .ok (.iconst 0, 1) := dcs_at ok13_play_0_9 27 rfl
theorem dX2_canBe_154 : decode cX2_canBe 154 = .ok (.ireturn, 1) := dcs_at ok13_play_0_9 28 rfl
theorem dX2_canBe_155 : decode cX2_canBe 155 = .ok (.aload_n 0, 1) := dcs_at ok13_play_0_9 29 rfl
theorem dX2_canBe_156 : decode cX2_canBe 156 = .ok (.iload_n 3, 1) := dcs_at ok13_play_0_9 30 rfl
theorem dX2_canBe_157 : decode cX2_canBe 157 = .ok (.invokevirtual 99, 3) := dcs_at ok13_play_0_9 31 rfl
theorem dX2_canBe_160 : decode cX2_canBe 160 = .ok (.ifCond .eq 36, 3) := dcs_at ok13_play_0_9 32 rfl
theorem dX2_canBe_163 : decode cX2_canBe 163 = .ok (.aload_n 0, 1) := dcs_at ok13_play_0_9 33 rfl
theorem dX2_canBe_164 : decode cX2_canBe 164 = .ok (.iload 4, 2) := dcs_at ok13_play_0_9 34 rfl
theorem dX2_canBe_166 : decode cX2_canBe 166 = .ok (.invokevirtual 127, 3) := dcs_at ok13_play_0_9 35 rfl
theorem dX2_canBe_169 : decode cX2_canBe 169 = .ok (.ifCond .eq 27, 3) := dcs_at ok13_play_0_9 36 rfl
theorem dX2_canBe_172 : decode cX2_canBe 172 = .ok (.aload_n 0, 1) := dcs_at ok13_play_0_9 37 rfl
theorem dX2_canBe_173 : decode cX2_canBe 173 = .ok (.getfield 28, 3) := dcs_at ok13_play_0_9 38 rfl
theorem dX2_canBe_176 : decode cX2_canBe 176 = .ok (.iload_n 3, 1) := dcs_at ok13_play_0_9 39 rfl
def tb13_play_0_10 : List (Nat × (Instr × Nat)) := [(177, (.iaload, 1)), (178, (.iload 5, 2)), (180, (.if_icmp .lt 16, 3)), (183, (.aload_n 0, 1)), (184, (.getfield 60, 3)), (187, (.iload 5, 2)), (189, (.if_icmp .lt 7, 3)), (192, (.iconst 1, 1)), (193, (.goto 4, 3)), (196, (.iconst 0, 1)), (197, (.ireturn, 1)), (198, (.aload_n 0, 1)), (199, (.iload_n 3, 1)), (200, (.invokevirtual 99, 3)), (203, (.ireturn, 1)), (204, (.iconst 1, 1)), (205, (.ireturn, 1))]
theorem ok13_play_0_10 : dcs cX2_canBe tb13_play_0_10 = true := by decide +kernel
theorem dX2_canBe_177 : decode cX2_canBe 177 = .ok (.iaload, 1) := dcs_at ok13_play_0_10 0 rfl
theorem dX2_canBe_178 : decode cX2_canBe 178 = .ok (.iload 5, 2) := dcs_at ok13_play_0_10 1 rfl
theorem dX2_canBe_180 : decode cX2_canBe 180 = .ok (.if_icmp .lt 16, 3) := dcs_at ok13_play_0_10 2 rfl
theorem dX2_canBe_183 : decode cX2_canBe 183 = .ok (.aload_n 0, 1) := dcs_at ok13_play_0_10 3 rfl
theorem dX2_canBe_184 : decode cX2_canBe 184 = .ok (.getfield 60, 3) := dcs_at ok13_play_0_10 4 rfl
theorem dX2_canBe_187 : decode cX2_canBe 187 = .ok (.iload 5, 2) := dcs_at ok13_play_0_10 5 rfl
theorem dX2_canBe_189 : decode cX2_canBe 189 = .ok (.if_icmp .lt 7, 3) := dcs_at ok13_play_0_10 6 rfl
theorem dX2_canBe_192 : decode cX2_canBe 192 = .ok (.iconst 1, 1) := dcs_at ok13_play_0_10 7 rfl
theorem dX2_canBe_193 : decode cX2_canBe 193 = .ok (.goto 4, 3) := dcs_at ok13_play_0_10 8 rfl
theorem dX2_canBe_196 : decode cX2_canBe 196 = .ok (.iconst 0, 1) := dcs_at ok13_play_0_10 9 rfl
theorem dX2_canBe_197 : decode cX2_canBe 197 = .ok (.ireturn, 1) := dcs_at ok13_play_0_10 10 rfl
theorem dX2_canBe_198 : decode cX2_canBe 198 = .ok (.aload_n 0, 1) := dcs_at ok13_play_0_10 11 rfl
theorem dX2_canBe_199 : decode cX2_canBe 199 = .ok (.iload_n 3, 1) := dcs_at ok13_play_0_10 12 rfl
theorem dX2_canBe_200 : decode cX2_canBe 200 = .ok (.invokevirtual 99, 3) := dcs_at ok13_play_0_10 13 rfl
theorem dX2_canBe_203 : decode cX2_canBe 203 = .ok (.ireturn, 1) := dcs_at ok13_play_0_10 14 rfl
theorem dX2_canBe_204 : decode cX2_canBe 204 = .ok (.iconst 1, 1) := dcs_at ok13_play_0_10 15 rfl
theorem dX2_canBe_205 : decode cX2_canBe 205 = .ok (.ireturn, 1) := dcs_at ok13_play_0_10 16 rfl
def tb13_play_0_11 : List (Nat × (Instr × Nat)) := [(0, (.aload_n 1, 1)), (1, (.iload_n 2, 1)), (2, (.iconst 0, 1)), (3, (.invokevirtual 120, 3)), (6, (.istore_n 3, 1)), (7, (.aload_n 1, 1)), (8, (.iload_n 2, 1)), (9, (.iconst 1, 1)), (10, (.invokevirtual 120, 3)), (13, (.istore 4, 2)), (15, (.aload_n 1, 1)), (16, (.iload_n 2, 1)), (17, (.iconst 2, 1)), (18, (.invokevirtual 120, 3)), (21, (.istore 5, 2)), (23, (.aload_n 1, 1)), (24, (.iload_n 2, 1)), (25, (.iconst 3, 1)), (26, (.invokevirtual 120, 3)), (29, (.istore 6, 2)), (31, (.iload_n 3, 1)), (32, (.tableswitch 178 0 5 #[40, 53, 83, 113, 138, 165], 40)), (72, (.aload_n 0, 1)), (73, (.iload 4, 2)), (75, (.iload 5, 2)), (77, (.iload 6, 2)), (79, (.invokevirtual 133, 3)), (82, (.goto 132, 3)), (85, (.aload_n 0, 1)), (86, (.iload 4, 2)), (88, (.iload 5, 2)), (90, (.iload 6, 2)), (92, (.invokevirtual 137, 3)), (95, (.aload_n 0, 1)), (96, (.getfield 22, 3)), (99, (.iload 5, 2)), (101, (.iconst 5, 1)), (102, (.imul, 1)), (103, (.iload 4, 2)), (105, (.iadd, 1))]
theorem ok13_play_0_11 : dcs cX2_act tb13_play_0_11 = true := by decide +kernel
theorem dX2_act_0 : decode cX2_act 0 = .ok (.aload_n 1, 1) := dcs_at ok13_play_0_11 0 rfl
theorem dX2_act_1 : decode cX2_act 1 = .ok (.iload_n 2, 1) := dcs_at ok13_play_0_11 1 rfl
theorem dX2_act_2 : decode cX2_act 2 = .ok (.iconst 0, 1) := dcs_at ok13_play_0_11 2 rfl
theorem dX2_act_3 : decode cX2_act 3 = .ok (.invokevirtual 120, 3) := dcs_at ok13_play_0_11 3 rfl
theorem dX2_act_6 : decode cX2_act 6 = .ok (.istore_n 3, 1) := dcs_at ok13_play_0_11 4 rfl
theorem dX2_act_7 : decode cX2_act 7 = .ok (.aload_n 1, 1) := dcs_at ok13_play_0_11 5 rfl
theorem dX2_act_8 : decode cX2_act 8 = .ok (.iload_n 2, 1) := dcs_at ok13_play_0_11 6 rfl
theorem dX2_act_9 : decode cX2_act 9 = .ok (.iconst 1, 1) := dcs_at ok13_play_0_11 7 rfl
theorem dX2_act_10 : decode cX2_act 10 = .ok (.invokevirtual 120, 3) := dcs_at ok13_play_0_11 8 rfl
theorem dX2_act_13 : decode cX2_act 13 = .ok (.istore 4, 2) := dcs_at ok13_play_0_11 9 rfl
theorem dX2_act_15 : decode cX2_act 15 = .ok (.aload_n 1, 1) := dcs_at ok13_play_0_11 10 rfl
theorem dX2_act_16 : decode cX2_act 16 = .ok (.iload_n 2, 1) := dcs_at ok13_play_0_11 11 rfl
theorem dX2_act_17 : decode cX2_act 17 = .ok (.iconst 2, 1) := dcs_at ok13_play_0_11 12 rfl
theorem dX2_act_18 : decode cX2_act 18 = .ok (.invokevirtual 120, 3) := dcs_at ok13_play_0_11 13 rfl
theorem dX2_act_21 : decode cX2_act 21 = .ok (.istore 5, 2) := dcs_at ok13_play_0_11 14 rfl
theorem dX2_act_23 : decode cX2_act 23 = .ok (.aload_n 1, 1) := dcs_at ok13_play_0_11 15 rfl
theorem dX2_act_24 : decode cX2_act 24 = .ok (.iload_n 2, 1) := dcs_at ok13_play_0_11 16 rfl
theorem dX2_act_25 : decode cX2_act 25 = .ok (.iconst 3, 1) := dcs_at ok13_play_0_11 17 rfl
theorem dX2_act_26 : decode cX2_act 26 = .ok (.invokevirtual 120, 3) := dcs_at ok13_play_0_11 18 rfl
theorem dX2_act_29 : decode cX2_act 29 = .ok (.istore 6, 2) := dcs_at ok13_play_0_11 19 rfl
theorem dX2_act_31 : decode cX2_act 31 = .ok (.iload_n 3, 1) := dcs_at ok13_play_0_11 20 rfl
theorem dX2_act_32 : decode cX2_act 32 = .ok (.tableswitch 178 0 5 #[40, 53, 83, 113, 138, 165], 40) := dcs_at ok13_play_0_11 21 rfl
theorem dX2_act_72 : decode cX2_act 72 = .ok (.aload_n 0, 1) := dcs_at ok13_play_0_11 22 rfl
theorem dX2_act_73 : decode cX2_act 73 = .ok (.iload 4, 2) := dcs_at ok13_play_0_11 23 rfl
theorem dX2_act_75 : decode cX2_act 75 = .ok (.iload 5, 2) := dcs_at ok13_play_0_11 24 rfl
theorem dX2_act_77 : decode cX2_act 77 = .ok (.iload 6, 2) := dcs_at ok13_play_0_11 25 rfl
theorem dX2_act_79 : decode cX2_act 79 = .ok (.invokevirtual 133, 3) := dcs_at ok13_play_0_11 26 rfl
theorem dX2_act_82 : decode cX2_act 82 = .ok (.goto 132, 3) := dcs_at ok13_play_0_11 27 rfl
theorem dX2_act_85 : decode cX2_act 85 = .ok (.aload_n 0, 1) := dcs_at ok13_play_0_11 28 rfl
theorem dX2_act_86 : decode cX2_act 86 = .ok (.iload 4, 2) := dcs_at ok13_play_0_11 29 rfl
theorem dX2_act_88 : decode cX2_act 88 = .ok (.iload 5, 2) := dcs_at ok13_play_0_11 30 rfl
theorem dX2_act_90 : decode cX2_act 90 = .ok (.iload 6, 2) := dcs_at ok13_play_0_11 31 rfl
theorem dX2_act_92 : decode cX2_act 92 = .ok (.invokevirtual 137, 3) := dcs_at ok13_play_0_11 32 rfl
theorem dX2_act_95 : decode cX2_act 95 = .ok (.aload_n 0, 1) := dcs_at ok13_play_0_11 33 rfl
theorem dX2_act_96 : decode cX2_act 96 = .ok (.getfield 22, 3) := dcs_at ok13_play_0_11 34 rfl
theorem dX2_act_99 : decode cX2_act 99 = .ok (.iload 5, 2) := dcs_at ok13_play_0_11 35 rfl
theorem dX2_act_101 : decode cX2_act 101 = .ok (.iconst 5, 1) := dcs_at ok13_play_0_11 36 rfl
theorem dX2_act_102 : decode cX2_act 102 = .ok (.imul, 1) := dcs_at ok13_play_0_11 37 rfl
theorem dX2_act_103 : decode cX2_act 103 = .ok (.iload 4, 2) := dcs_at ok13_play_0_11 38 rfl
theorem dX2_act_105 : decode cX2_act 105 = .ok (.iadd, 1) := dcs_at ok13_play_0_11 39 rfl
def tb13_play_0_12 : List (Nat × (Instr × Nat)) := [(106, (.dup2, 1)), (107, (.iaload, 1)), (108, (.iload 6, 2)), (110, (.iadd, 1)), (111, (.iastore, 1)), (112, (.goto 102, 3)), (115, (.aload_n 0, 1)), (116, (.iload 4, 2)), (118, (.iload 5, 2)), (120, (.iload 6, 2)), (122, (.invokevirtual 137, 3)), (125, (.aload_n 0, 1)), (126, (.getfield 22, 3)), (129, (.iload 4, 2)), (131, (.iconst 5, 1)), (132, (.imul, 1)), (133, (.iload 5, 2)), (135, (.iadd, 1)), (136, (.dup2, 1)), (137, (.iaload, 1)), (138, (.iload 6, 2)), (140, (.isub, 1)), (141, (.iastore, 1)), (142, (.goto 72, 3)), (145, (.aload_n 0, 1)), (146, (.iload 4, 2)), (148, (.iload 6, 2)), (150, (.ineg, 1)), (151, (.invokevirtual 110, 3)), (154, (.aload_n 0, 1)), (155, (.dup, 1)), (156, (.getfield 69, 3)), (159, (.iconst 1, 1)), (160, (.iload 5, 2)), (162, (.ishl, 1)), (163, (.ior, 1)), (164, (.putfield 69, 3)), (167, (.goto 47, 3)), (170, (.aload_n 0, 1)), (171, (.iload 4, 2))]
theorem ok13_play_0_12 : dcs cX2_act tb13_play_0_12 = true := by decide +kernel
theorem dX2_act_106 : decode cX2_act 106 = .ok (.dup2, 1) := dcs_at ok13_play_0_12 0 rfl
theorem dX2_act_107 : decode cX2_act 107 = .ok (.iaload, 1) := dcs_at ok13_play_0_12 1 rfl
theorem dX2_act_108 : decode cX2_act 108 = .ok (.iload 6, 2) := dcs_at ok13_play_0_12 2 rfl
theorem dX2_act_110 : decode cX2_act 110 = .ok (.iadd, 1) := dcs_at ok13_play_0_12 3 rfl
theorem dX2_act_111 : decode cX2_act 111 = .ok (.iastore, 1) := dcs_at ok13_play_0_12 4 rfl
theorem dX2_act_112 : decode cX2_act 112 = .ok (.goto 102, 3) := dcs_at ok13_play_0_12 5 rfl
theorem dX2_act_115 : decode cX2_act 115 = .ok (.aload_n 0, 1) := dcs_at ok13_play_0_12 6 rfl
theorem dX2_act_116 : decode cX2_act 116 = .ok (.iload 4, 2) := dcs_at ok13_play_0_12 7 rfl
theorem dX2_act_118 : decode cX2_act 118 = .ok (.iload 5, 2) := dcs_at ok13_play_0_12 8 rfl
theorem dX2_act_120 : decode cX2_act 120 = .ok (.iload 6, 2) := dcs_at ok13_play_0_12 9 rfl
theorem dX2_act_122 : decode cX2_act 122 = .ok (.invokevirtual 137, 3) := dcs_at ok13_play_0_12 10 rfl
theorem dX2_act_125 : decode cX2_act 125 = .ok (.aload_n 0, 1) := dcs_at ok13_play_0_12 11 rfl
theorem dX2_act_126 : decode cX2_act 126 = .ok (.getfield 22, 3) := dcs_at ok13_play_0_12 12 rfl
theorem dX2_act_129 : decode cX2_act 129 = .ok (.iload 4, 2) := dcs_at ok13_play_0_12 13 rfl
theorem dX2_act_131 : decode cX2_act 131 = .ok (.iconst 5, 1) := dcs_at ok13_play_0_12 14 rfl
theorem dX2_act_132 : decode cX2_act 132 = .ok (.imul, 1) := dcs_at ok13_play_0_12 15 rfl
theorem dX2_act_133 : decode cX2_act 133 = .ok (.iload 5, 2) := dcs_at ok13_play_0_12 16 rfl
theorem dX2_act_135 : decode cX2_act 135 = .ok (.iadd, 1) := dcs_at ok13_play_0_12 17 rfl
theorem dX2_act_136 : decode cX2_act 136 = .ok (.dup2, 1) := dcs_at ok13_play_0_12 18 rfl
theorem dX2_act_137 : decode cX2_act 137 = .ok (.iaload, 1) := dcs_at ok13_play_0_12 19 rfl
theorem dX2_act_138 : decode cX2_act 138 = .ok (.iload 6, 2) := dcs_at ok13_play_0_12 20 rfl
theorem dX2_act_140 : decode cX2_act 140 = .ok (.isub, 1) := dcs_at ok13_play_0_12 21 rfl
theorem dX2_act_141 : decode cX2_act 141 = .ok (.iastore, 1) := dcs_at ok13_play_0_12 22 rfl
theorem dX2_act_142 : decode cX2_act 142 = .ok (.goto 72, 3) := dcs_at ok13_play_0_12 23 rfl
theorem dX2_act_145 : decode cX2_act 145 = .ok (.aload_n 0, 1) := dcs_at ok13_play_0_12 24 rfl
theorem dX2_act_146 : decode cX2_act 146 = .ok (.iload 4, 2) := dcs_at ok13_play_0_12 25 rfl
theorem dX2_act_148 : decode cX2_act 148 = .ok (.iload 6, 2) := dcs_at ok13_play_0_12 26 rfl
theorem dX2_act_150 : decode cX2_act 150 = .ok (.ineg, 1) := dcs_at ok13_play_0_12 27 rfl
theorem dX2_act_151 : decode cX2_act 151 = .ok (.invokevirtual 110, 3) := dcs_at ok13_play_0_12 28 rfl
theorem dX2_act_154 : decode cX2_act 154 = .ok (.aload_n 0, 1) := dcs_at ok13_play_0_12 29 rfl
theorem dX2_act_155 : decode cX2_act 155 = .ok (.dup, 1) := dcs_at ok13_play_0_12 30 rfl
theorem dX2_act_156 : decode cX2_act 156 = .ok (.getfield 69, 3) := dcs_at ok13_play_0_12 31 rfl
theorem dX2_act_159 : decode cX2_act 159 = .ok (.iconst 1, 1) := dcs_at ok13_play_0_12 32 rfl
theorem dX2_act_160 : decode cX2_act 160 = .ok (.iload 5, 2) := dcs_at ok13_play_0_12 33 rfl
theorem dX2_act_162 : decode cX2_act 162 = .ok (.ishl, 1) := dcs_at ok13_play_0_12 34 rfl
theorem dX2_act_163 : decode cX2_act 163 = .ok (.ior, 1) := dcs_at ok13_play_0_12 35 rfl
theorem dX2_act_164 : decode cX2_act 164 = .ok (.putfield 69, 3) := dcs_at ok13_play_0_12 36 rfl
theorem dX2_act_167 : decode cX2_act 167 = .ok (.goto 47, 3) := dcs_at ok13_play_0_12 37 rfl
theorem dX2_act_170 : decode cX2_act 170 = .ok (.aload_n 0, 1) := dcs_at ok13_play_0_12 38 rfl
theorem dX2_act_171 : decode cX2_act 171 = .ok (.iload 4, 2) := dcs_at ok13_play_0_12 39 rfl
def tb13_play_0_13 : List (Nat × (Instr × Nat)) := [(173, (.iconst 2, 1)), (174, (.iload 5, 2)), (176, (.imul, 1)), (177, (.invokevirtual 110, 3)), (180, (.aload_n 0, 1)), (181, (.getfield 34, 3)), (184, (.iload 4, 2)), (186, (.dup2, 1)), (187, (.iaload, 1)), (188, (.iconst 2, 1)), (189, (.iload 5, 2)), (191, (.imul, 1)), (192, (.iadd, 1)), (193, (.iastore, 1)), (194, (.goto 20, 3)), (197, (.aload_n 0, 1)), (198, (.dup, 1)), (199, (.getfield 61, 3)), (202, (.iconst 1, 1)), (203, (.iadd, 1)), (204, (.putfield 61, 3)), (207, (.goto 7, 3)), (210, (.aload_n 0, 1)), (211, (.invokevirtual 114, 3)), (214, (.aload_n 0, 1)), (215, (.iload_n 3, 1)), (216, (.ifCond .ne 8, 3)), (219, (.iload 5, 2)), (221, (.goto 4, 3)), (224, (.iconst (-1), 1)), (225, (.putfield 72, 3)), (228, (.return_, 1))]
theorem ok13_play_0_13 : dcs cX2_act tb13_play_0_13 = true := by decide +kernel
theorem dX2_act_173 : decode cX2_act 173 = .ok (.iconst 2, 1) := dcs_at ok13_play_0_13 0 rfl
theorem dX2_act_174 : decode cX2_act 174 = .ok (.iload 5, 2) := dcs_at ok13_play_0_13 1 rfl
theorem dX2_act_176 : decode cX2_act 176 = .ok (.imul, 1) := dcs_at ok13_play_0_13 2 rfl
theorem dX2_act_177 : decode cX2_act 177 = .ok (.invokevirtual 110, 3) := dcs_at ok13_play_0_13 3 rfl
theorem dX2_act_180 : decode cX2_act 180 = .ok (.aload_n 0, 1) := dcs_at ok13_play_0_13 4 rfl
theorem dX2_act_181 : decode cX2_act 181 = .ok (.getfield 34, 3) := dcs_at ok13_play_0_13 5 rfl
theorem dX2_act_184 : decode cX2_act 184 = .ok (.iload 4, 2) := dcs_at ok13_play_0_13 6 rfl
theorem dX2_act_186 : decode cX2_act 186 = .ok (.dup2, 1) := dcs_at ok13_play_0_13 7 rfl
theorem dX2_act_187 : decode cX2_act 187 = .ok (.iaload, 1) := dcs_at ok13_play_0_13 8 rfl
theorem dX2_act_188 : decode cX2_act 188 = .ok (.iconst 2, 1) := dcs_at ok13_play_0_13 9 rfl
theorem dX2_act_189 : decode cX2_act 189 = .ok (.iload 5, 2) := dcs_at ok13_play_0_13 10 rfl
theorem dX2_act_191 : decode cX2_act 191 = .ok (.imul, 1) := dcs_at ok13_play_0_13 11 rfl
theorem dX2_act_192 : decode cX2_act 192 = .ok (.iadd, 1) := dcs_at ok13_play_0_13 12 rfl
theorem dX2_act_193 : decode cX2_act 193 = .ok (.iastore, 1) := dcs_at ok13_play_0_13 13 rfl
theorem dX2_act_194 : decode cX2_act 194 = .ok (.goto 20, 3) := dcs_at ok13_play_0_13 14 rfl
theorem dX2_act_197 : decode cX2_act 197 = .ok (.aload_n 0, 1) := dcs_at ok13_play_0_13 15 rfl
theorem dX2_act_198 : decode cX2_act 198 = .ok (.dup, 1) := dcs_at ok13_play_0_13 16 rfl
theorem dX2_act_199 : decode cX2_act 199 = .ok (.getfield 61, 3) := dcs_at ok13_play_0_13 17 rfl
theorem dX2_act_202 : decode cX2_act 202 = .ok (.iconst 1, 1) := dcs_at ok13_play_0_13 18 rfl
theorem dX2_act_203 : decode cX2_act 203 = .ok (.iadd, 1) := dcs_at ok13_play_0_13 19 rfl
theorem dX2_act_204 : decode cX2_act 204 = .ok (.putfield 61, 3) := dcs_at ok13_play_0_13 20 rfl
theorem dX2_act_207 : decode cX2_act 207 = .ok (.goto 7, 3) := dcs_at ok13_play_0_13 21 rfl
theorem dX2_act_210 : decode cX2_act 210 = .ok (.aload_n 0, 1) := dcs_at ok13_play_0_13 22 rfl
theorem dX2_act_211 : decode cX2_act 211 = .ok (.invokevirtual 114, 3) := dcs_at ok13_play_0_13 23 rfl
theorem dX2_act_214 : decode cX2_act 214 = .ok (.aload_n 0, 1) := dcs_at ok13_play_0_13 24 rfl
theorem dX2_act_215 : decode cX2_act 215 = .ok (.iload_n 3, 1) := dcs_at ok13_play_0_13 25 rfl
theorem dX2_act_216 : decode cX2_act 216 = .ok (.ifCond .ne 8, 3) := dcs_at ok13_play_0_13 26 rfl
theorem dX2_act_219 : decode cX2_act 219 = .ok (.iload 5, 2) := dcs_at ok13_play_0_13 27 rfl
theorem dX2_act_221 : decode cX2_act 221 = .ok (.goto 4, 3) := dcs_at ok13_play_0_13 28 rfl
theorem dX2_act_224 : decode cX2_act 224 = .ok (.iconst (-1), 1) := dcs_at ok13_play_0_13 29 rfl
theorem dX2_act_225 : decode cX2_act 225 = .ok (.putfield 72, 3) := dcs_at ok13_play_0_13 30 rfl
theorem dX2_act_228 : decode cX2_act 228 = .ok (.return_, 1) := dcs_at ok13_play_0_13 31 rfl
def tb13_play_0_14 : List (Nat × (Instr × Nat)) := [(0, (.iconst 0, 1)), (1, (.istore_n 2, 1)), (2, (.aload_n 0, 1)), (3, (.arraylength, 1)), (4, (.istore_n 3, 1)), (5, (.iload_n 2, 1)), (6, (.iload_n 3, 1)), (7, (.if_icmp .ge 13, 3)), (10, (.aload_n 0, 1)), (11, (.iload_n 2, 1)), (12, (.iload_n 1, 1)), (13, (.iastore, 1)), (14, (.iinc 2 1, 3)), (17, (.goto (-12), 3)), (20, (.return_, 1))]
theorem ok13_play_0_14 : dcs cJ7_fill_53178 tb13_play_0_14 = true := by decide +kernel
theorem dJ7_fill_53178_0 : decode cJ7_fill_53178 0 = .ok (.iconst 0, 1) := dcs_at ok13_play_0_14 0 rfl
theorem dJ7_fill_53178_1 : decode cJ7_fill_53178 1 = .ok (.istore_n 2, 1) := dcs_at ok13_play_0_14 1 rfl
theorem dJ7_fill_53178_2 : decode cJ7_fill_53178 2 = .ok (.aload_n 0, 1) := dcs_at ok13_play_0_14 2 rfl
theorem dJ7_fill_53178_3 : decode cJ7_fill_53178 3 = .ok (.arraylength, 1) := dcs_at ok13_play_0_14 3 rfl
theorem dJ7_fill_53178_4 : decode cJ7_fill_53178 4 = .ok (.istore_n 3, 1) := dcs_at ok13_play_0_14 4 rfl
theorem dJ7_fill_53178_5 : decode cJ7_fill_53178 5 = .ok (.iload_n 2, 1) := dcs_at ok13_play_0_14 5 rfl
theorem dJ7_fill_53178_6 : decode cJ7_fill_53178 6 = .ok (.iload_n 3, 1) := dcs_at ok13_play_0_14 6 rfl
theorem dJ7_fill_53178_7 : decode cJ7_fill_53178 7 = .ok (.if_icmp .ge 13, 3) := dcs_at ok13_play_0_14 7 rfl
theorem dJ7_fill_53178_10 : decode cJ7_fill_53178 10 = .ok (.aload_n 0, 1) := dcs_at ok13_play_0_14 8 rfl
theorem dJ7_fill_53178_11 : decode cJ7_fill_53178 11 = .ok (.iload_n 2, 1) := dcs_at ok13_play_0_14 9 rfl
theorem dJ7_fill_53178_12 : decode cJ7_fill_53178 12 = .ok (.iload_n 1, 1) := dcs_at ok13_play_0_14 10 rfl
theorem dJ7_fill_53178_13 : decode cJ7_fill_53178 13 = .ok (.iastore, 1) := dcs_at ok13_play_0_14 11 rfl
theorem dJ7_fill_53178_14 : decode cJ7_fill_53178 14 = .ok (.iinc 2 1, 3) := dcs_at ok13_play_0_14 12 rfl
theorem dJ7_fill_53178_17 : decode cJ7_fill_53178 17 = .ok (.goto (-12), 3) := dcs_at ok13_play_0_14 13 rfl
theorem dJ7_fill_53178_20 : decode cJ7_fill_53178 20 = .ok (.return_, 1) := dcs_at ok13_play_0_14 14 rfl
