def tb21_c_model_0_1 : List (Nat × (Instr × Nat)) := [(0, (.aload_n 0, 1)), (1, (.iload_n 2, 1)), (2, (.invokevirtual 249, 3)), (5, (.ifCond .eq 36, 3)), (8, (.aload_n 0, 1)), (9, (.iload_n 1, 1)), (10, (.invokevirtual 237, 3)), (13, (.ifCond .eq 28, 3)), (16, (.iload_n 3, 1)), (17, (.iconst 0, 1)), (18, (.aload_n 0, 1)), (19, (.invokevirtual 252, 3)), (22, (.invokestatic 92, 3)), (25, (.ifCond .eq 16, 3)), (28, (.aload_n 0, 1)), (29, (.iload_n 3, 1)), (30, (.invokevirtual 329, 3)), (33, (.iload_n 3, 1)), (34, (.if_icmp .ne 7, 3)), (37, (.iconst 1, 1)), (38, (.goto 4, 3)), (41, (.iconst 0, 1)), (42, (.ireturn, 1))]
theorem ok21_c_model_0_1 : dcs cX10_layState tb21_c_model_0_1 = true := by decide +kernel
theorem dX10_layState_0 : decode cX10_layState 0 = .ok (.aload_n 0, 1) := dcs_at ok21_c_model_0_1 0 rfl
theorem dX10_layState_1 : decode cX10_layState 1 = .ok (.iload_n 2, 1) := dcs_at ok21_c_model_0_1 1 rfl
theorem dX10_layState_2 : decode cX10_layState 2 = .ok (.invokevirtual 249, 3) := dcs_at ok21_c_model_0_1 2 rfl
theorem dX10_layState_5 : decode cX10_layState 5 = .ok (.ifCond .eq 36, 3) := dcs_at ok21_c_model_0_1 3 rfl
theorem dX10_layState_8 : decode cX10_layState 8 = .ok (.aload_n 0, 1) := dcs_at ok21_c_model_0_1 4 rfl
theorem dX10_layState_9 : decode cX10_layState 9 = .ok (.iload_n 1, 1) := dcs_at ok21_c_model_0_1 5 rfl
theorem dX10_layState_10 : decode cX10_layState 10 = .ok (.invokevirtual 237, 3) := dcs_at ok21_c_model_0_1 6 rfl
theorem dX10_layState_13 : decode cX10_layState 13 = .ok (.ifCond .eq 28, 3) := dcs_at ok21_c_model_0_1 7 rfl
theorem dX10_layState_16 : decode cX10_layState 16 = .ok (.iload_n 3, 1) := dcs_at ok21_c_model_0_1 8 rfl
theorem dX10_layState_17 : decode cX10_layState 17 = .ok (.iconst 0, 1) := dcs_at ok21_c_model_0_1 9 rfl
theorem dX10_layState_18 : decode cX10_layState 18 = .ok (.aload_n 0, 1) := dcs_at ok21_c_model_0_1 10 rfl
theorem dX10_layState_19 : decode cX10_layState 19 = .ok (.invokevirtual 252, 3) := dcs_at ok21_c_model_0_1 11 rfl
theorem dX10_layState_22 : decode cX10_layState 22 = .ok (.invokestatic 92, 3) := dcs_at ok21_c_model_0_1 12 rfl
theorem dX10_layState_25 : decode cX10_layState 25 = .ok (.ifCond .eq 16, 3) := dcs_at ok21_c_model_0_1 13 rfl
theorem dX10_layState_28 : decode cX10_layState 28 = .ok (.aload_n 0, 1) := dcs_at ok21_c_model_0_1 14 rfl
theorem dX10_layState_29 : decode cX10_layState 29 = .ok (.iload_n 3, 1) := dcs_at ok21_c_model_0_1 15 rfl
theorem dX10_layState_30 : decode cX10_layState 30 = .ok (.invokevirtual 329, 3) := dcs_at ok21_c_model_0_1 16 rfl
theorem dX10_layState_33 : decode cX10_layState 33 = .ok (.iload_n 3, 1) := dcs_at ok21_c_model_0_1 17 rfl
theorem dX10_layState_34 : decode cX10_layState 34 = .ok (.if_icmp .ne 7, 3) := dcs_at ok21_c_model_0_1 18 rfl
theorem dX10_layState_37 : decode cX10_layState 37 = .ok (.iconst 1, 1) := dcs_at ok21_c_model_0_1 19 rfl
theorem dX10_layState_38 : decode cX10_layState 38 = .ok (.goto 4, 3) := dcs_at ok21_c_model_0_1 20 rfl
theorem dX10_layState_41 : decode cX10_layState 41 = .ok (.iconst 0, 1) := dcs_at ok21_c_model_0_1 21 rfl
theorem dX10_layState_42 : decode cX10_layState 42 = .ok (.ireturn, 1) := dcs_at ok21_c_model_0_1 22 rfl
def tb21_c_model_0_2 : List (Nat × (Instr × Nat)) := [(0, (.aload_n 0, 1)), (1, (.iconst 0, 1)), (2, (.putfield 80, 3)), (5, (.aload_n 0, 1)), (6, (.iload_n 2, 1)), (7, (.invokevirtual 249, 3)), (10, (.ifCond .eq 22, 3)), (13, (.aload_n 0, 1)), (14, (.iload_n 1, 1)), (15, (.invokevirtual 237, 3)), (18, (.ifCond .eq 14, 3)), (21, (.aload_n 0, 1)), (22, (.aload_n 0, 1)), (23, (.invokevirtual 252, 3)), (26, (.invokevirtual 329, 3)), (29, (.goto 4, 3)), (32, (.iconst (-1), 1)), (33, (.ireturn, 1))]
theorem ok21_c_model_0_2 : dcs cX10_stop tb21_c_model_0_2 = true := by decide +kernel
theorem dX10_stop_0 : decode cX10_stop 0 = .ok (.aload_n 0, 1) := dcs_at ok21_c_model_0_2 0 rfl
theorem dX10_stop_1 : decode cX10_stop 1 = .ok (.iconst 0, 1) := dcs_at ok21_c_model_0_2 1 rfl
theorem dX10_stop_2 : decode cX10_stop 2 = .ok (.putfield 80, 3) := dcs_at ok21_c_model_0_2 2 rfl
theorem dX10_stop_5 : decode cX10_stop 5 = .ok (.aload_n 0, 1) := dcs_at ok21_c_model_0_2 3 rfl
theorem dX10_stop_6 : decode cX10_stop 6 = .ok (.iload_n 2, 1) := dcs_at ok21_c_model_0_2 4 rfl
theorem dX10_stop_7 : decode cX10_stop 7 = .ok (.invokevirtual 249, 3) := dcs_at ok21_c_model_0_2 5 rfl
theorem dX10_stop_10 : decode cX10_stop 10 = .ok (.ifCond .eq 22, 3) := dcs_at ok21_c_model_0_2 6 rfl
theorem dX10_stop_13 : decode cX10_stop 13 = .ok (.aload_n 0, 1) := dcs_at ok21_c_model_0_2 7 rfl
theorem dX10_stop_14 : decode cX10_stop 14 = .ok (.iload_n 1, 1) := dcs_at ok21_c_model_0_2 8 rfl
theorem dX10_stop_15 : decode cX10_stop 15 = .ok (.invokevirtual 237, 3) := dcs_at ok21_c_model_0_2 9 rfl
theorem dX10_stop_18 : decode cX10_stop 18 = .ok (.ifCond .eq 14, 3) := dcs_at ok21_c_model_0_2 10 rfl
theorem dX10_stop_21 : decode cX10_stop 21 = .ok (.aload_n 0, 1) := dcs_at ok21_c_model_0_2 11 rfl
theorem dX10_stop_22 : decode cX10_stop 22 = .ok (.aload_n 0, 1) := dcs_at ok21_c_model_0_2 12 rfl
theorem dX10_stop_23 : decode cX10_stop 23 = .ok (.invokevirtual 252, 3) := dcs_at ok21_c_model_0_2 13 rfl
theorem dX10_stop_26 : decode cX10_stop 26 = .ok (.invokevirtual 329, 3) := dcs_at ok21_c_model_0_2 14 rfl
theorem dX10_stop_29 : decode cX10_stop 29 = .ok (.goto 4, 3) := dcs_at ok21_c_model_0_2 15 rfl
theorem dX10_stop_32 : decode cX10_stop 32 = .ok (.iconst (-1), 1) := dcs_at ok21_c_model_0_2 16 rfl
theorem dX10_stop_33 : decode cX10_stop 33 = .ok (.ireturn, 1) := dcs_at ok21_c_model_0_2 17 rfl
def tb21_c_model_0_3 : List (Nat × (Instr × Nat)) := [(0, (.iconst 0, 1)), (1, (.istore_n 1, 1)), (2, (.iconst 0, 1)), (3, (.istore_n 2, 1)), (4, (.iload_n 2, 1)), (5, (.aload_n 0, 1)), (6, (.getfield 231, 3)), (9, (.if_icmp .ge 33, 3)), (12, (.iload_n 1, 1)), (13, (.aload_n 0, 1)), (14, (.getfield 267, 3)), (17, (.iload_n 2, 1)), (18, (.invokestatic 84, 3)), (21, (.ifCond .eq 12, 3)), (24, (.aload_n 0, 1)), (25, (.getfield 50, 3)), (28, (.iload_n 2, 1)), (29, (.iaload, 1)), (30, (.goto 4, 3)), (33, (.iconst 0, 1)), (34, (.iadd, 1)), (35, (.istore_n 1, 1)), (36, (.iinc 2 1, 3)), (39, (.goto (-35), 3)), (42, (.iload_n 1, 1)), (43, (.ireturn, 1))]
theorem ok21_c_model_0_3 : dcs cX10_allSaved tb21_c_model_0_3 = true := by decide +kernel
theorem dX10_allSaved_0 : decode cX10_allSaved 0 = .ok (.iconst 0, 1) := dcs_at ok21_c_model_0_3 0 rfl
theorem dX10_allSaved_1 : decode cX10_allSaved 1 = .ok (.istore_n 1, 1) := dcs_at ok21_c_model_0_3 1 rfl
theorem dX10_allSaved_2 : decode cX10_allSaved 2 = .ok (.iconst 0, 1) := dcs_at ok21_c_model_0_3 2 rfl
theorem dX10_allSaved_3 : decode cX10_allSaved 3 = .ok (.istore_n 2, 1) := dcs_at ok21_c_model_0_3 3 rfl
theorem dX10_allSaved_4 : decode cX10_allSaved 4 = .ok (.iload_n 2, 1) := dcs_at ok21_c_model_0_3 4 rfl
theorem dX10_allSaved_5 : decode cX10_allSaved 5 = .ok (.aload_n 0, 1) := dcs_at ok21_c_model_0_3 5 rfl
theorem dX10_allSaved_6 : decode cX10_allSaved 6 = .ok (.getfield 231, 3) := dcs_at ok21_c_model_0_3 6 rfl
theorem dX10_allSaved_9 : decode cX10_allSaved 9 = .ok (.if_icmp .ge 33, 3) := dcs_at ok21_c_model_0_3 7 rfl
theorem dX10_allSaved_12 : decode cX10_allSaved 12 = .ok (.iload_n 1, 1) := dcs_at ok21_c_model_0_3 8 rfl
theorem dX10_allSaved_13 : decode cX10_allSaved 13 = .ok (.aload_n 0, 1) := dcs_at ok21_c_model_0_3 9 rfl
theorem dX10_allSaved_14 : decode cX10_allSaved 14 = .ok (.getfield 267, 3) := dcs_at ok21_c_model_0_3 10 rfl
theorem dX10_allSaved_17 : decode cX10_allSaved 17 = .ok (.iload_n 2, 1) := dcs_at ok21_c_model_0_3 11 rfl
theorem dX10_allSaved_18 : decode cX10_allSaved 18 = .ok (.invokestatic 84, 3) := dcs_at ok21_c_model_0_3 12 rfl
theorem dX10_allSaved_21 : decode cX10_allSaved 21 = .ok (.ifCond .eq 12, 3) := dcs_at ok21_c_model_0_3 13 rfl
theorem dX10_allSaved_24 : decode cX10_allSaved 24 = .ok (.aload_n 0, 1) := dcs_at ok21_c_model_0_3 14 rfl
theorem dX10_allSaved_25 : decode cX10_allSaved 25 = .ok (.getfield 50, 3) := dcs_at ok21_c_model_0_3 15 rfl
theorem dX10_allSaved_28 : decode cX10_allSaved 28 = .ok (.iload_n 2, 1) := dcs_at ok21_c_model_0_3 16 rfl
theorem dX10_allSaved_29 : decode cX10_allSaved 29 = .ok (.iaload, 1) := dcs_at ok21_c_model_0_3 17 rfl
theorem dX10_allSaved_30 : decode cX10_allSaved 30 = .ok (.goto 4, 3) := dcs_at ok21_c_model_0_3 18 rfl
theorem dX10_allSaved_33 : decode cX10_allSaved 33 = .ok (.iconst 0, 1) := dcs_at ok21_c_model_0_3 19 rfl
theorem dX10_allSaved_34 : decode cX10_allSaved 34 = .ok (.iadd, 1) := dcs_at ok21_c_model_0_3 20 rfl
theorem dX10_allSaved_35 : decode cX10_allSaved 35 = .ok (.istore_n 1, 1) := dcs_at ok21_c_model_0_3 21 rfl
theorem dX10_allSaved_36 : decode cX10_allSaved 36 = .ok (.iinc 2 1, 3) := dcs_at ok21_c_model_0_3 22 rfl
theorem dX10_allSaved_39 : decode cX10_allSaved 39 = .ok (.goto (-35), 3) := dcs_at ok21_c_model_0_3 23 rfl
theorem dX10_allSaved_42 : decode cX10_allSaved 42 = .ok (.iload_n 1, 1) := dcs_at ok21_c_model_0_3 24 rfl
theorem dX10_allSaved_43 : decode cX10_allSaved 43 = .ok (.ireturn, 1) := dcs_at ok21_c_model_0_3 25 rfl
def tb21_c_model_0_4 : List (Nat × (Instr × Nat)) := [(0, (.aload_n 0, 1)), (1, (.iconst 0, 1)), (2, (.putfield 80, 3)), (5, (.aload_n 0, 1)), (6, (.iload_n 1, 1)), (7, (.iload_n 2, 1)), (8, (.iload_n 3, 1)), (9, (.invokevirtual 332, 3)), (12, (.ifCond .ne 6, 3)), (15, (.bipush (-2), 2)), (17, (.ireturn, 1)), (18, (.iload 4, 2)), (20, (.tableswitch 79 0 6 #[44, 49, 54, 59, 64, 69, 74], 44)), (64, (.aload_n 0, 1)), (65, (.getfield 258, 3)), (68, (.ireturn, 1)), (69, (.aload_n 0, 1)), (70, (.getfield 261, 3)), (73, (.ireturn, 1)), (74, (.aload_n 0, 1)), (75, (.getfield 264, 3)), (78, (.ireturn, 1)), (79, (.aload_n 0, 1)), (80, (.getfield 267, 3)), (83, (.ireturn, 1)), (84, (.aload_n 0, 1)), (85, (.getfield 279, 3)), (88, (.ireturn, 1)), (89, (.aload_n 0, 1)), (90, (.invokevirtual 335, 3)), (93, (.ireturn, 1)), (94, (.aload_n 0, 1)), (95, (.getfield 270, 3)), (98, (.ireturn, 1)), (99, (.bipush (-2), 2)), (101, (.ireturn, 1))]
theorem ok21_c_model_0_4 : dcs cX10_state tb21_c_model_0_4 = true := by decide +kernel
theorem dX10_state_0 : decode cX10_state 0 = .ok (.aload_n 0, 1) := dcs_at ok21_c_model_0_4 0 rfl
theorem dX10_state_1 : decode cX10_state 1 = .ok (.iconst 0, 1) := dcs_at ok21_c_model_0_4 1 rfl
theorem dX10_state_2 : decode cX10_state 2 = .ok (.putfield 80, 3) := dcs_at ok21_c_model_0_4 2 rfl
theorem dX10_state_5 : decode cX10_state 5 = .ok (.aload_n 0, 1) := dcs_at ok21_c_model_0_4 3 rfl
theorem dX10_state_6 : decode cX10_state 6 = .ok (.iload_n 1, 1) := dcs_at ok21_c_model_0_4 4 rfl
theorem dX10_state_7 : decode cX10_state 7 = .ok (.iload_n 2, 1) := dcs_at ok21_c_model_0_4 5 rfl
theorem dX10_state_8 : decode cX10_state 8 = .ok (.iload_n 3, 1) := dcs_at ok21_c_model_0_4 6 rfl
theorem dX10_state_9 : decode cX10_state 9 = .ok (.invokevirtual 332, 3) := dcs_at ok21_c_model_0_4 7 rfl
theorem dX10_state_12 : decode cX10_state 12 = .ok (.ifCond .ne 6, 3) := dcs_at ok21_c_model_0_4 8 rfl
theorem dX10_state_15 : decode cX10_state 15 = .ok (.bipush (-2), 2) := dcs_at ok21_c_model_0_4 9 rfl
theorem dX10_state_17 : decode cX10_state 17 = .ok (.ireturn, 1) := dcs_at ok21_c_model_0_4 10 rfl
theorem dX10_state_18 : decode cX10_state 18 = .ok (.iload 4, 2) := dcs_at ok21_c_model_0_4 11 rfl
theorem dX10_state_20 : decode cX10_state 20 = .ok (.tableswitch 79 0 6 #[44, 49, 54, 59, 64, 69, 74], 44) := dcs_at ok21_c_model_0_4 12 rfl
theorem dX10_state_64 : decode cX10_state 64 = .ok (.aload_n 0, 1) := dcs_at ok21_c_model_0_4 13 rfl
theorem dX10_state_65 : decode cX10_state 65 = .ok (.getfield 258, 3) := dcs_at ok21_c_model_0_4 14 rfl
theorem dX10_state_68 : decode cX10_state 68 = .ok (.ireturn, 1) := dcs_at ok21_c_model_0_4 15 rfl
theorem dX10_state_69 : decode cX10_state 69 = .ok (.aload_n 0, 1) := dcs_at ok21_c_model_0_4 16 rfl
theorem dX10_state_70 : decode cX10_state 70 = .ok (.getfield 261, 3) := dcs_at ok21_c_model_0_4 17 rfl
theorem dX10_state_73 : decode cX10_state 73 = .ok (.ireturn, 1) := dcs_at ok21_c_model_0_4 18 rfl
theorem dX10_state_74 : decode cX10_state 74 = .ok (.aload_n 0, 1) := dcs_at ok21_c_model_0_4 19 rfl
theorem dX10_state_75 : decode cX10_state 75 = .ok (.getfield 264, 3) := dcs_at ok21_c_model_0_4 20 rfl
theorem dX10_state_78 : decode cX10_state 78 = .ok (.ireturn, 1) := dcs_at ok21_c_model_0_4 21 rfl
theorem dX10_state_79 : decode cX10_state 79 = .ok (.aload_n 0, 1) := dcs_at ok21_c_model_0_4 22 rfl
theorem dX10_state_80 : decode cX10_state 80 = .ok (.getfield 267, 3) := dcs_at ok21_c_model_0_4 23 rfl
theorem dX10_state_83 : decode cX10_state 83 = .ok (.ireturn, 1) := dcs_at ok21_c_model_0_4 24 rfl
theorem dX10_state_84 : decode cX10_state 84 = .ok (.aload_n 0, 1) := dcs_at ok21_c_model_0_4 25 rfl
theorem dX10_state_85 : decode cX10_state 85 = .ok (.getfield 279, 3) := dcs_at ok21_c_model_0_4 26 rfl
theorem dX10_state_88 : decode cX10_state 88 = .ok (.ireturn, 1) := dcs_at ok21_c_model_0_4 27 rfl
theorem dX10_state_89 : decode cX10_state 89 = .ok (.aload_n 0, 1) := dcs_at ok21_c_model_0_4 28 rfl
theorem dX10_state_90 : decode cX10_state 90 = .ok (.invokevirtual 335, 3) := dcs_at ok21_c_model_0_4 29 rfl
theorem dX10_state_93 : decode cX10_state 93 = .ok (.ireturn, 1) := dcs_at ok21_c_model_0_4 30 rfl
theorem dX10_state_94 : decode cX10_state 94 = .ok (.aload_n 0, 1) := dcs_at ok21_c_model_0_4 31 rfl
theorem dX10_state_95 : decode cX10_state 95 = .ok (.getfield 270, 3) := dcs_at ok21_c_model_0_4 32 rfl
theorem dX10_state_98 : decode cX10_state 98 = .ok (.ireturn, 1) := dcs_at ok21_c_model_0_4 33 rfl
theorem dX10_state_99 : decode cX10_state 99 = .ok (.bipush (-2), 2) := dcs_at ok21_c_model_0_4 34 rfl
theorem dX10_state_101 : decode cX10_state 101 = .ok (.ireturn, 1) := dcs_at ok21_c_model_0_4 35 rfl
def tb21_c_model_0_5 : List (Nat × (Instr × Nat)) := [(0, (.aload_n 0, 1)), (1, (.iconst 0, 1)), (2, (.putfield 80, 3)), (5, (.aload_n 0, 1)), (6, (.iload_n 1, 1)), (7, (.iload_n 2, 1)), (8, (.iload_n 3, 1)), (9, (.invokevirtual 332, 3)), (12, (.ifCond .eq 12, 3)), (15, (.aload_n 0, 1)), (16, (.iload 4, 2)), (18, (.invokevirtual 240, 3)), (21, (.ifCond .ne 6, 3)), (24, (.bipush (-2), 2)), (26, (.ireturn, 1)), (27, (.iload 5, 2)), (29, (.bipush 10, 2)), (31, (.bipush 9, 2)), (33, (.aload_n 0, 1)), (34, (.getfield 228, 3)), (37, (.iadd, 1)), (38, (.invokestatic 92, 3)), (41, (.ifCond .eq 19, 3)), (44, (.aload_n 0, 1)), (45, (.getfield 44, 3)), (48, (.iconst 5, 1)), (49, (.iload 4, 2)), (51, (.imul, 1)), (52, (.iload 5, 2)), (54, (.iadd, 1)), (55, (.bipush 10, 2)), (57, (.isub, 1)), (58, (.iaload, 1)), (59, (.ireturn, 1)), (60, (.iload 5, 2)), (62, (.ifCond .ne 13, 3)), (65, (.aload_n 0, 1)), (66, (.getfield 41, 3)), (69, (.iload 4, 2)), (71, (.iaload, 1))]
theorem ok21_c_model_0_5 : dcs cX10_palm tb21_c_model_0_5 = true := by decide +kernel
theorem dX10_palm_0 : decode cX10_palm 0 = .ok (.aload_n 0, 1) := dcs_at ok21_c_model_0_5 0 rfl
theorem dX10_palm_1 : decode cX10_palm 1 = .ok (.iconst 0, 1) := dcs_at ok21_c_model_0_5 1 rfl
theorem dX10_palm_2 : decode cX10_palm 2 = .ok (.putfield 80, 3) := dcs_at ok21_c_model_0_5 2 rfl
theorem dX10_palm_5 : decode cX10_palm 5 = .ok (.aload_n 0, 1) := dcs_at ok21_c_model_0_5 3 rfl
theorem dX10_palm_6 : decode cX10_palm 6 = .ok (.iload_n 1, 1) := dcs_at ok21_c_model_0_5 4 rfl
theorem dX10_palm_7 : decode cX10_palm 7 = .ok (.iload_n 2, 1) := dcs_at ok21_c_model_0_5 5 rfl
theorem dX10_palm_8 : decode cX10_palm 8 = .ok (.iload_n 3, 1) := dcs_at ok21_c_model_0_5 6 rfl
theorem dX10_palm_9 : decode cX10_palm 9 = .ok (.invokevirtual 332, 3) := dcs_at ok21_c_model_0_5 7 rfl
theorem dX10_palm_12 : decode cX10_palm 12 = .ok (.ifCond .eq 12, 3) := dcs_at ok21_c_model_0_5 8 rfl
theorem dX10_palm_15 : decode cX10_palm 15 = .ok (.aload_n 0, 1) := dcs_at ok21_c_model_0_5 9 rfl
theorem dX10_palm_16 : decode cX10_palm 16 = .ok (.iload 4, 2) := dcs_at ok21_c_model_0_5 10 rfl
theorem dX10_palm_18 : decode cX10_palm 18 = .ok (.invokevirtual 240, 3) := dcs_at ok21_c_model_0_5 11 rfl
theorem dX10_palm_21 : decode cX10_palm 21 = .ok (.ifCond .ne 6, 3) := dcs_at ok21_c_model_0_5 12 rfl
theorem dX10_palm_24 : decode cX10_palm 24 = .ok (.bipush (-2), 2) := dcs_at ok21_c_model_0_5 13 rfl
theorem dX10_palm_26 : decode cX10_palm 26 = .ok (.ireturn, 1) := dcs_at ok21_c_model_0_5 14 rfl
theorem dX10_palm_27 : decode cX10_palm 27 = .ok (.iload 5, 2) := dcs_at ok21_c_model_0_5 15 rfl
theorem dX10_palm_29 : decode cX10_palm 29 = .ok (.bipush 10, 2) := dcs_at ok21_c_model_0_5 16 rfl
theorem dX10_palm_31 : decode cX10_palm 31 = .ok (.bipush 9, 2) := dcs_at ok21_c_model_0_5 17 rfl
theorem dX10_palm_33 : decode cX10_palm 33 = .ok (.aload_n 0, 1) := dcs_at ok21_c_model_0_5 18 rfl
theorem dX10_palm_34 : decode cX10_palm 34 = .ok (.getfield 228, 3) := dcs_at ok21_c_model_0_5 19 rfl
theorem dX10_palm_37 : decode cX10_palm 37 = .ok (.iadd, 1) := dcs_at ok21_c_model_0_5 20 rfl
theorem dX10_palm_38 : decode cX10_palm 38 = .ok (.invokestatic 92, 3) := dcs_at ok21_c_model_0_5 21 rfl
theorem dX10_palm_41 : decode cX10_palm 41 = .ok (.ifCond .eq 19, 3) := dcs_at ok21_c_model_0_5 22 rfl
theorem dX10_palm_44 : decode cX10_palm 44 = .ok (.aload_n 0, 1) := dcs_at ok21_c_model_0_5 23 rfl
theorem dX10_palm_45 : decode cX10_palm 45 = .ok (.getfield 44, 3) := dcs_at ok21_c_model_0_5 24 rfl
theorem dX10_palm_48 : decode cX10_palm 48 = .ok (.iconst 5, 1) := dcs_at ok21_c_model_0_5 25 rfl
theorem dX10_palm_49 : decode cX10_palm 49 = .ok (.iload 4, 2) := dcs_at ok21_c_model_0_5 26 rfl
theorem dX10_palm_51 : decode cX10_palm 51 = .ok (.imul, 1) := dcs_at ok21_c_model_0_5 27 rfl
theorem dX10_palm_52 : decode cX10_palm 52 = .ok (.iload 5, 2) := dcs_at ok21_c_model_0_5 28 rfl
theorem dX10_palm_54 : decode cX10_palm 54 = .ok (.iadd, 1) := dcs_at ok21_c_model_0_5 29 rfl
theorem dX10_palm_55 : decode cX10_palm 55 = .ok (.bipush 10, 2) := dcs_at ok21_c_model_0_5 30 rfl
theorem dX10_palm_57 : decode cX10_palm 57 = .ok (.isub, 1) := dcs_at ok21_c_model_0_5 31 rfl
theorem dX10_palm_58 : decode cX10_palm 58 = .ok (.iaload, 1) := dcs_at ok21_c_model_0_5 32 rfl
theorem dX10_palm_59 : decode cX10_palm 59 = .ok (.ireturn, 1) := dcs_at ok21_c_model_0_5 33 rfl
theorem dX10_palm_60 : decode cX10_palm 60 = .ok (.iload 5, 2) := dcs_at ok21_c_model_0_5 34 rfl
theorem dX10_palm_62 : decode cX10_palm 62 = .ok (.ifCond .ne 13, 3) := dcs_at ok21_c_model_0_5 35 rfl
theorem dX10_palm_65 : decode cX10_palm 65 = .ok (.aload_n 0, 1) := dcs_at ok21_c_model_0_5 36 rfl
theorem dX10_palm_66 : decode cX10_palm 66 = .ok (.getfield 41, 3) := dcs_at ok21_c_model_0_5 37 rfl
theorem dX10_palm_69 : decode cX10_palm 69 = .ok (.iload 4, 2) := dcs_at ok21_c_model_0_5 38 rfl
theorem dX10_palm_71 : decode cX10_palm 71 = .ok (.iaload, 1) := dcs_at ok21_c_model_0_5 39 rfl
def tb21_c_model_0_6 : List (Nat × (Instr × Nat)) := [(72, (.goto 41, 3)), (75, (.iload 5, 2)), (77, (.bipush 20, 2)), (79, (.bipush 19, 2)), (81, (.aload_n 0, 1)), (82, (.getfield 231, 3)), (85, (.iadd, 1)), (86, (.invokestatic 92, 3)), (89, (.ifCond .eq 22, 3)), (92, (.aload_n 0, 1)), (93, (.getfield 47, 3)), (96, (.bipush 6, 2)), (98, (.iload 4, 2)), (100, (.imul, 1)), (101, (.iload 5, 2)), (103, (.iadd, 1)), (104, (.bipush 20, 2)), (106, (.isub, 1)), (107, (.iaload, 1)), (108, (.goto 5, 3)), (111, (.bipush (-2), 2)), (113, (.ireturn, 1))]
theorem ok21_c_model_0_6 : dcs cX10_palm tb21_c_model_0_6 = true := by decide +kernel
theorem dX10_palm_72 : decode cX10_palm 72 = .ok (.goto 41, 3) := dcs_at ok21_c_model_0_6 0 rfl
theorem dX10_palm_75 : decode cX10_palm 75 = .ok (.iload 5, 2) := dcs_at ok21_c_model_0_6 1 rfl
theorem dX10_palm_77 : decode cX10_palm 77 = .ok (.bipush 20, 2) := dcs_at ok21_c_model_0_6 2 rfl
theorem dX10_palm_79 : decode cX10_palm 79 = .ok (.bipush 19, 2) := dcs_at ok21_c_model_0_6 3 rfl
theorem dX10_palm_81 : decode cX10_palm 81 = .ok (.aload_n 0, 1) := dcs_at ok21_c_model_0_6 4 rfl
theorem dX10_palm_82 : decode cX10_palm 82 = .ok (.getfield 231, 3) := dcs_at ok21_c_model_0_6 5 rfl
theorem dX10_palm_85 : decode cX10_palm 85 = .ok (.iadd, 1) := dcs_at ok21_c_model_0_6 6 rfl
theorem dX10_palm_86 : decode cX10_palm 86 = .ok (.invokestatic 92, 3) := dcs_at ok21_c_model_0_6 7 rfl
theorem dX10_palm_89 : decode cX10_palm 89 = .ok (.ifCond .eq 22, 3) := dcs_at ok21_c_model_0_6 8 rfl
theorem dX10_palm_92 : decode cX10_palm 92 = .ok (.aload_n 0, 1) := dcs_at ok21_c_model_0_6 9 rfl
theorem dX10_palm_93 : decode cX10_palm 93 = .ok (.getfield 47, 3) := dcs_at ok21_c_model_0_6 10 rfl
theorem dX10_palm_96 : decode cX10_palm 96 = .ok (.bipush 6, 2) := dcs_at ok21_c_model_0_6 11 rfl
theorem dX10_palm_98 : decode cX10_palm 98 = .ok (.iload 4, 2) := dcs_at ok21_c_model_0_6 12 rfl
theorem dX10_palm_100 : decode cX10_palm 100 = .ok (.imul, 1) := dcs_at ok21_c_model_0_6 13 rfl
theorem dX10_palm_101 : decode cX10_palm 101 = .ok (.iload 5, 2) := dcs_at ok21_c_model_0_6 14 rfl
theorem dX10_palm_103 : decode cX10_palm 103 = .ok (.iadd, 1) := dcs_at ok21_c_model_0_6 15 rfl
theorem dX10_palm_104 : decode cX10_palm 104 = .ok (.bipush 20, 2) := dcs_at ok21_c_model_0_6 16 rfl
theorem dX10_palm_106 : decode cX10_palm 106 = .ok (.isub, 1) := dcs_at ok21_c_model_0_6 17 rfl
theorem dX10_palm_107 : decode cX10_palm 107 = .ok (.iaload, 1) := dcs_at ok21_c_model_0_6 18 rfl
theorem dX10_palm_108 : decode cX10_palm 108 = .ok (.goto 5, 3) := dcs_at ok21_c_model_0_6 19 rfl
theorem dX10_palm_111 : decode cX10_palm 111 = .ok (.bipush (-2), 2) := dcs_at ok21_c_model_0_6 20 rfl
theorem dX10_palm_113 : decode cX10_palm 113 = .ok (.ireturn, 1) := dcs_at ok21_c_model_0_6 21 rfl
