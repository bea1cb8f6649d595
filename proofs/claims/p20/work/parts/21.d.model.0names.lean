def tb21_d_model_0_1 : List (Nat × (Instr × Nat)) := [(0, (.aload_n 0, 1)), (1, (.getfield 267, 3)), (4, (.iload_n 1, 1)), (5, (.invokestatic 84, 3)), (8, (.ifCond .eq 23, 3)), (11, (.iconst 0, 1)), (12, (.aload_n 0, 1)), (13, (.iload_n 1, 1)), (14, (.iconst 0, 1)), (15, (.invokevirtual 294, 3)), (18, (.aload_n 0, 1)), (19, (.getfield 50, 3)), (22, (.iload_n 1, 1)), (23, (.iaload, 1)), (24, (.isub, 1)), (25, (.invokestatic 338, 3)), (28, (.goto 4, 3)), (31, (.iconst 0, 1)), (32, (.ireturn, 1))]
theorem ok21_d_model_0_1 : dcs cX10_needOf tb21_d_model_0_1 = true := by decide +kernel
theorem dX10_needOf_0 : decode cX10_needOf 0 = .ok (.aload_n 0, 1) := dcs_at ok21_d_model_0_1 0 rfl
theorem dX10_needOf_1 : decode cX10_needOf 1 = .ok (.getfield 267, 3) := dcs_at ok21_d_model_0_1 1 rfl
theorem dX10_needOf_4 : decode cX10_needOf 4 = .ok (.iload_n 1, 1) := dcs_at ok21_d_model_0_1 2 rfl
theorem dX10_needOf_5 : decode cX10_needOf 5 = .ok (.invokestatic 84, 3) := dcs_at ok21_d_model_0_1 3 rfl
theorem dX10_needOf_8 : decode cX10_needOf 8 = .ok (.ifCond .eq 23, 3) := dcs_at ok21_d_model_0_1 4 rfl
theorem dX10_needOf_11 : decode cX10_needOf 11 = .ok (.iconst 0, 1) := dcs_at ok21_d_model_0_1 5 rfl
theorem dX10_needOf_12 : decode cX10_needOf 12 = .ok (.aload_n 0, 1) := dcs_at ok21_d_model_0_1 6 rfl
theorem dX10_needOf_13 : decode cX10_needOf 13 = .ok (.iload_n 1, 1) := dcs_at ok21_d_model_0_1 7 rfl
theorem dX10_needOf_14 : decode cX10_needOf 14 = .ok (.iconst 0, 1) := dcs_at ok21_d_model_0_1 8 rfl
theorem dX10_needOf_15 : decode cX10_needOf 15 = .ok (.invokevirtual 294, 3) := dcs_at ok21_d_model_0_1 9 rfl
theorem dX10_needOf_18 : decode cX10_needOf 18 = .ok (.aload_n 0, 1) := dcs_at ok21_d_model_0_1 10 rfl
theorem dX10_needOf_19 : decode cX10_needOf 19 = .ok (.getfield 50, 3) := dcs_at ok21_d_model_0_1 11 rfl
theorem dX10_needOf_22 : decode cX10_needOf 22 = .ok (.iload_n 1, 1) := dcs_at ok21_d_model_0_1 12 rfl
theorem dX10_needOf_23 : decode cX10_needOf 23 = .ok (.iaload, 1) := dcs_at ok21_d_model_0_1 13 rfl
theorem dX10_needOf_24 : decode cX10_needOf 24 = .ok (.isub, 1) := dcs_at ok21_d_model_0_1 14 rfl
theorem dX10_needOf_25 : decode cX10_needOf 25 = .ok (.invokestatic 338, 3) := dcs_at ok21_d_model_0_1 15 rfl
theorem dX10_needOf_28 : decode cX10_needOf 28 = .ok (.goto 4, 3) := dcs_at ok21_d_model_0_1 16 rfl
theorem dX10_needOf_31 : decode cX10_needOf 31 = .ok (.iconst 0, 1) := dcs_at ok21_d_model_0_1 17 rfl
theorem dX10_needOf_32 : decode cX10_needOf 32 = .ok (.ireturn, 1) := dcs_at ok21_d_model_0_1 18 rfl
def tb21_d_model_0_2 : List (Nat × (Instr × Nat)) := [(0, (.iconst 0, 1)), (1, (.istore_n 2, 1)), (2, (.aload_n 0, 1)), (3, (.iconst 1, 1)), (4, (.putfield 302, 3)), (7, (.iload_n 2, 1)), (8, (.bipush 99, 2)), (10, (.if_icmp .ge 40, 3)), (13, (.aload_n 0, 1)), (14, (.getfield 267, 3)), (17, (.iload_n 1, 1)), (18, (.invokestatic 84, 3)), (21, (.ifCond .eq 29, 3)), (24, (.aload_n 0, 1)), (25, (.invokevirtual 317, 3)), (28, (.iload_n 2, 1)), (29, (.aload_n 0, 1)), (30, (.getfield 267, 3)), (33, (.iload_n 1, 1)), (34, (.invokestatic 84, 3)), (37, (.ifCond .eq 7, 3)), (40, (.iconst 1, 1)), (41, (.goto 4, 3)), (44, (.iconst 0, 1)), (45, (.iadd, 1)), (46, (.istore_n 2, 1)), (47, (.goto (-40), 3)), (50, (.aload_n 0, 1)), (51, (.iconst 0, 1)), (52, (.putfield 302, 3)), (55, (.iload_n 2, 1)), (56, (.ireturn, 1))]
theorem ok21_d_model_0_2 : dcs cX10_friday tb21_d_model_0_2 = true := by decide +kernel
theorem dX10_friday_0 : decode cX10_friday 0 = .ok (.iconst 0, 1) := dcs_at ok21_d_model_0_2 0 rfl
theorem dX10_friday_1 : decode cX10_friday 1 = .ok (.istore_n 2, 1) := dcs_at ok21_d_model_0_2 1 rfl
theorem dX10_friday_2 : decode cX10_friday 2 = .ok (.aload_n 0, 1) := dcs_at ok21_d_model_0_2 2 rfl
theorem dX10_friday_3 : decode cX10_friday 3 = .ok (.iconst 1, 1) := dcs_at ok21_d_model_0_2 3 rfl
theorem dX10_friday_4 : decode cX10_friday 4 = .ok (.putfield 302, 3) := dcs_at ok21_d_model_0_2 4 rfl
theorem dX10_friday_7 : decode cX10_friday 7 = .ok (.iload_n 2, 1) := dcs_at ok21_d_model_0_2 5 rfl
theorem dX10_friday_8 : decode cX10_friday 8 = .ok (.bipush 99, 2) := dcs_at ok21_d_model_0_2 6 rfl
theorem dX10_friday_10 : decode cX10_friday 10 = .ok (.if_icmp .ge 40, 3) := dcs_at ok21_d_model_0_2 7 rfl
theorem dX10_friday_13 : decode cX10_friday 13 = .ok (.aload_n 0, 1) := dcs_at ok21_d_model_0_2 8 rfl
theorem dX10_friday_14 : decode cX10_friday 14 = .ok (.getfield 267, 3) := dcs_at ok21_d_model_0_2 9 rfl
theorem dX10_friday_17 : decode cX10_friday 17 = .ok (.iload_n 1, 1) := dcs_at ok21_d_model_0_2 10 rfl
theorem dX10_friday_18 : decode cX10_friday 18 = .ok (.invokestatic 84, 3) := dcs_at ok21_d_model_0_2 11 rfl
theorem dX10_friday_21 : decode cX10_friday 21 = .ok (.ifCond .eq 29, 3) := dcs_at ok21_d_model_0_2 12 rfl
theorem dX10_friday_24 : decode cX10_friday 24 = .ok (.aload_n 0, 1) := dcs_at ok21_d_model_0_2 13 rfl
theorem dX10_friday_25 : decode cX10_friday 25 = .ok (.invokevirtual 317, 3) := dcs_at ok21_d_model_0_2 14 rfl
theorem dX10_friday_28 : decode cX10_friday 28 = .ok (.iload_n 2, 1) := dcs_at ok21_d_model_0_2 15 rfl
theorem dX10_friday_29 : decode cX10_friday 29 = .ok (.aload_n 0, 1) := dcs_at ok21_d_model_0_2 16 rfl
theorem dX10_friday_30 : decode cX10_friday 30 = .ok (.getfield 267, 3) := dcs_at ok21_d_model_0_2 17 rfl
theorem dX10_friday_33 : decode cX10_friday 33 = .ok (.iload_n 1, 1) := dcs_at ok21_d_model_0_2 18 rfl
theorem dX10_friday_34 : decode cX10_friday 34 = .ok (.invokestatic 84, 3) := dcs_at ok21_d_model_0_2 19 rfl
theorem dX10_friday_37 : decode cX10_friday 37 = .ok (.ifCond .eq 7, 3) := dcs_at ok21_d_model_0_2 20 rfl
theorem dX10_friday_40 : decode cX10_friday 40 = .ok (.iconst 1, 1) := dcs_at ok21_d_model_0_2 21 rfl
theorem dX10_friday_41 : decode cX10_friday 41 = .ok (.goto 4, 3) := dcs_at ok21_d_model_0_2 22 rfl
theorem dX10_friday_44 : decode cX10_friday 44 = .ok (.iconst 0, 1) := dcs_at ok21_d_model_0_2 23 rfl
theorem dX10_friday_45 : decode cX10_friday 45 = .ok (.iadd, 1) := dcs_at ok21_d_model_0_2 24 rfl
theorem dX10_friday_46 : decode cX10_friday 46 = .ok (.istore_n 2, 1) := dcs_at ok21_d_model_0_2 25 rfl
theorem dX10_friday_47 : decode cX10_friday 47 = .ok (.goto (-40), 3) := dcs_at ok21_d_model_0_2 26 rfl
theorem dX10_friday_50 : decode cX10_friday 50 = .ok (.aload_n 0, 1) := dcs_at ok21_d_model_0_2 27 rfl
theorem dX10_friday_51 : decode cX10_friday 51 = .ok (.iconst 0, 1) := dcs_at ok21_d_model_0_2 28 rfl
theorem dX10_friday_52 : decode cX10_friday 52 = .ok (.putfield 302, 3) := dcs_at ok21_d_model_0_2 29 rfl
theorem dX10_friday_55 : decode cX10_friday 55 = .ok (.iload_n 2, 1) := dcs_at ok21_d_model_0_2 30 rfl
theorem dX10_friday_56 : decode cX10_friday 56 = .ok (.ireturn, 1) := dcs_at ok21_d_model_0_2 31 rfl
def tb21_d_model_0_3 : List (Nat × (Instr × Nat)) := [(0, (.ldc_w 306, 3)), (3, (.aload_n 0, 1)), (4, (.getfield 50, 3)), (7, (.iload_n 1, 1)), (8, (.iaload, 1)), (9, (.invokestatic 170, 3)), (12, (.istore_n 2, 1)), (13, (.aload_n 0, 1)), (14, (.iload_n 1, 1)), (15, (.iconst 0, 1)), (16, (.invokevirtual 294, 3)), (19, (.istore_n 3, 1)), (20, (.iconst 0, 1)), (21, (.istore 4, 2)), (23, (.iload 4, 2)), (25, (.bipush 99, 2)), (27, (.if_icmp .ge 36, 3)), (30, (.iload_n 2, 1)), (31, (.iload_n 3, 1)), (32, (.if_icmp .lt 31, 3)), (35, (.iload_n 2, 1)), (36, (.iload_n 3, 1)), (37, (.isub, 1)), (38, (.istore_n 2, 1)), (39, (.ldc_w 306, 3)), (42, (.iload_n 2, 1)), (43, (.iload_n 2, 1)), (44, (.aload_n 0, 1)), (45, (.getfield 234, 3)), (48, (.imul, 1)), (49, (.bipush 100, 2)), (51, (.idiv, 1)), (52, (.iadd, 1)), (53, (.invokestatic 170, 3)), (56, (.istore_n 2, 1)), (57, (.iinc 4 1, 3)), (60, (.goto (-37), 3)), (63, (.iload 4, 2)), (65, (.ireturn, 1))]
theorem ok21_d_model_0_3 : dcs cX10_star tb21_d_model_0_3 = true := by decide +kernel
theorem dX10_star_0 : decode cX10_star 0 = .ok (.ldc_w 306, 3) := dcs_at ok21_d_model_0_3 0 rfl
theorem dX10_star_3 : decode cX10_star 3 = .ok (.aload_n 0, 1) := dcs_at ok21_d_model_0_3 1 rfl
theorem dX10_star_4 : decode cX10_star 4 = .ok (.getfield 50, 3) := dcs_at ok21_d_model_0_3 2 rfl
theorem dX10_star_7 : decode cX10_star 7 = .ok (.iload_n 1, 1) := dcs_at ok21_d_model_0_3 3 rfl
theorem dX10_star_8 : decode cX10_star 8 = .ok (.iaload, 1) := dcs_at ok21_d_model_0_3 4 rfl
theorem dX10_star_9 : decode cX10_star 9 = .ok (.invokestatic 170, 3) := dcs_at ok21_d_model_0_3 5 rfl
theorem dX10_star_12 : decode cX10_star 12 = .ok (.istore_n 2, 1) := dcs_at ok21_d_model_0_3 6 rfl
theorem dX10_star_13 : decode cX10_star 13 = .ok (.aload_n 0, 1) := dcs_at ok21_d_model_0_3 7 rfl
theorem dX10_star_14 : decode cX10_star 14 = .ok (.iload_n 1, 1) := dcs_at ok21_d_model_0_3 8 rfl
theorem dX10_star_15 : decode cX10_star 15 = .ok (.iconst 0, 1) := dcs_at ok21_d_model_0_3 9 rfl
theorem dX10_star_16 : decode cX10_star 16 = .ok (.invokevirtual 294, 3) := dcs_at ok21_d_model_0_3 10 rfl
theorem dX10_star_19 : decode cX10_star 19 = .ok (.istore_n 3, 1) := dcs_at ok21_d_model_0_3 11 rfl
theorem dX10_star_20 : decode cX10_star 20 = .ok (.iconst 0, 1) := dcs_at ok21_d_model_0_3 12 rfl
theorem dX10_star_21 : decode cX10_star 21 = .ok (.istore 4, 2) := dcs_at ok21_d_model_0_3 13 rfl
theorem dX10_star_23 : decode cX10_star 23 = .ok (.iload 4, 2) := dcs_at ok21_d_model_0_3 14 rfl
theorem dX10_star_25 : decode cX10_star 25 = .ok (.bipush 99, 2) := dcs_at ok21_d_model_0_3 15 rfl
theorem dX10_star_27 : decode cX10_star 27 = .ok (.if_icmp .ge 36, 3) := dcs_at ok21_d_model_0_3 16 rfl
theorem dX10_star_30 : decode cX10_star 30 = .ok (.iload_n 2, 1) := dcs_at ok21_d_model_0_3 17 rfl
theorem dX10_star_31 : decode cX10_star 31 = .ok (.iload_n 3, 1) := dcs_at ok21_d_model_0_3 18 rfl
theorem dX10_star_32 : decode cX10_star 32 = .ok (.if_icmp .lt 31, 3) := dcs_at ok21_d_model_0_3 19 rfl
theorem dX10_star_35 : decode cX10_star 35 = .ok (.iload_n 2, 1) := dcs_at ok21_d_model_0_3 20 rfl
theorem dX10_star_36 : decode cX10_star 36 = .ok (.iload_n 3, 1) := dcs_at ok21_d_model_0_3 21 rfl
theorem dX10_star_37 : decode cX10_star 37 = .ok (.isub, 1) := dcs_at ok21_d_model_0_3 22 rfl
theorem dX10_star_38 : decode cX10_star 38 = .ok (.istore_n 2, 1) := dcs_at ok21_d_model_0_3 23 rfl
theorem dX10_star_39 : decode cX10_star 39 = .ok (.ldc_w 306, 3) := dcs_at ok21_d_model_0_3 24 rfl
theorem dX10_star_42 : decode cX10_star 42 = .ok (.iload_n 2, 1) := dcs_at ok21_d_model_0_3 25 rfl
theorem dX10_star_43 : decode cX10_star 43 = .ok (.iload_n 2, 1) := dcs_at ok21_d_model_0_3 26 rfl
theorem dX10_star_44 : decode cX10_star 44 = .ok (.aload_n 0, 1) := dcs_at ok21_d_model_0_3 27 rfl
theorem dX10_star_45 : decode cX10_star 45 = .ok (.getfield 234, 3) := dcs_at ok21_d_model_0_3 28 rfl
theorem dX10_star_48 : decode cX10_star 48 = .ok (.imul, 1) := dcs_at ok21_d_model_0_3 29 rfl
theorem dX10_star_49 : decode cX10_star 49 = .ok (.bipush 100, 2) := dcs_at ok21_d_model_0_3 30 rfl
theorem dX10_star_51 : decode cX10_star 51 = .ok (.idiv, 1) := dcs_at ok21_d_model_0_3 31 rfl
theorem dX10_star_52 : decode cX10_star 52 = .ok (.iadd, 1) := dcs_at ok21_d_model_0_3 32 rfl
theorem dX10_star_53 : decode cX10_star 53 = .ok (.invokestatic 170, 3) := dcs_at ok21_d_model_0_3 33 rfl
theorem dX10_star_56 : decode cX10_star 56 = .ok (.istore_n 2, 1) := dcs_at ok21_d_model_0_3 34 rfl
theorem dX10_star_57 : decode cX10_star 57 = .ok (.iinc 4 1, 3) := dcs_at ok21_d_model_0_3 35 rfl
theorem dX10_star_60 : decode cX10_star 60 = .ok (.goto (-37), 3) := dcs_at ok21_d_model_0_3 36 rfl
theorem dX10_star_63 : decode cX10_star 63 = .ok (.iload 4, 2) := dcs_at ok21_d_model_0_3 37 rfl
theorem dX10_star_65 : decode cX10_star 65 = .ok (.ireturn, 1) := dcs_at ok21_d_model_0_3 38 rfl
def tb21_d_model_0_4 : List (Nat × (Instr × Nat)) := [(0, (.aload_n 0, 1)), (1, (.iconst 0, 1)), (2, (.putfield 80, 3)), (5, (.aload_n 0, 1)), (6, (.iload_n 1, 1)), (7, (.iload_n 2, 1)), (8, (.iload_n 3, 1)), (9, (.invokevirtual 332, 3)), (12, (.ifCond .eq 12, 3)), (15, (.aload_n 0, 1)), (16, (.iload 4, 2)), (18, (.invokevirtual 243, 3)), (21, (.ifCond .ne 6, 3)), (24, (.bipush (-2), 2)), (26, (.ireturn, 1)), (27, (.aload_n 0, 1)), (28, (.getfield 267, 3)), (31, (.iload 4, 2)), (33, (.invokestatic 84, 3)), (36, (.istore 6, 2)), (38, (.iload 5, 2)), (40, (.tableswitch 139 0 7 #[48, 56, 67, 84, 91, 99, 115, 131], 48)), (88, (.aload_n 0, 1)), (89, (.getfield 50, 3)), (92, (.iload 4, 2)), (94, (.iaload, 1)), (95, (.ireturn, 1)), (96, (.iload 6, 2)), (98, (.ifCond .eq 7, 3)), (101, (.iconst 1, 1)), (102, (.goto 4, 3)), (105, (.iconst 0, 1)), (106, (.ireturn, 1)), (107, (.iload 6, 2)), (109, (.ifCond .eq 13, 3)), (112, (.aload_n 0, 1)), (113, (.iload 4, 2)), (115, (.iconst 0, 1)), (116, (.invokevirtual 294, 3)), (119, (.goto 4, 3))]
theorem ok21_d_model_0_4 : dcs cX10_actor tb21_d_model_0_4 = true := by decide +kernel
theorem dX10_actor_0 : decode cX10_actor 0 = .ok (.aload_n 0, 1) := dcs_at ok21_d_model_0_4 0 rfl
theorem dX10_actor_1 : decode cX10_actor 1 = .ok (.iconst 0, 1) := dcs_at ok21_d_model_0_4 1 rfl
theorem dX10_actor_2 : decode cX10_actor 2 = .ok (.putfield 80, 3) := dcs_at ok21_d_model_0_4 2 rfl
theorem dX10_actor_5 : decode cX10_actor 5 = .ok (.aload_n 0, 1) := dcs_at ok21_d_model_0_4 3 rfl
theorem dX10_actor_6 : decode cX10_actor 6 = .ok (.iload_n 1, 1) := dcs_at ok21_d_model_0_4 4 rfl
theorem dX10_actor_7 : decode cX10_actor 7 = .ok (.iload_n 2, 1) := dcs_at ok21_d_model_0_4 5 rfl
theorem dX10_actor_8 : decode cX10_actor 8 = .ok (.iload_n 3, 1) := dcs_at ok21_d_model_0_4 6 rfl
theorem dX10_actor_9 : decode cX10_actor 9 = .ok (.invokevirtual 332, 3) := dcs_at ok21_d_model_0_4 7 rfl
theorem dX10_actor_12 : decode cX10_actor 12 = .ok (.ifCond .eq 12, 3) := dcs_at ok21_d_model_0_4 8 rfl
theorem dX10_actor_15 : decode cX10_actor 15 = .ok (.aload_n 0, 1) := dcs_at ok21_d_model_0_4 9 rfl
theorem dX10_actor_16 : decode cX10_actor 16 = .ok (.iload 4, 2) := dcs_at ok21_d_model_0_4 10 rfl
theorem dX10_actor_18 : decode cX10_actor 18 = .ok (.invokevirtual 243, 3) := dcs_at ok21_d_model_0_4 11 rfl
theorem dX10_actor_21 : decode cX10_actor 21 = .ok (.ifCond .ne 6, 3) := dcs_at ok21_d_model_0_4 12 rfl
theorem dX10_actor_24 : decode cX10_actor 24 = .ok (.bipush (-2), 2) := dcs_at ok21_d_model_0_4 13 rfl
theorem dX10_actor_26 : decode cX10_actor 26 = .ok (.ireturn, 1) := dcs_at ok21_d_model_0_4 14 rfl
theorem dX10_actor_27 : decode cX10_actor 27 = .ok (.aload_n 0, 1) := dcs_at ok21_d_model_0_4 15 rfl
theorem dX10_actor_28 : decode cX10_actor 28 = .ok (.getfield 267, 3) := dcs_at ok21_d_model_0_4 16 rfl
theorem dX10_actor_31 : decode cX10_actor 31 = .ok (.iload 4, 2) := dcs_at ok21_d_model_0_4 17 rfl
theorem dX10_actor_33 : decode cX10_actor 33 = .ok (.invokestatic 84, 3) := dcs_at ok21_d_model_0_4 18 rfl
theorem dX10_actor_36 : decode cX10_actor 36 = .ok (.istore 6, 2) := dcs_at ok21_d_model_0_4 19 rfl
theorem dX10_actor_38 : decode cX10_actor 38 = .ok (.iload 5, 2) := dcs_at ok21_d_model_0_4 20 rfl
theorem dX10_actor_40 : decode cX10_actor 40 = .ok (.tableswitch 139 0 7 #[48, 56, 67, 84, 91, 99, 115, 131], 48) := dcs_at ok21_d_model_0_4 21 rfl
theorem dX10_actor_88 : decode cX10_actor 88 = .ok (.aload_n 0, 1) := dcs_at ok21_d_model_0_4 22 rfl
theorem dX10_actor_89 : decode cX10_actor 89 = .ok (.getfield 50, 3) := dcs_at ok21_d_model_0_4 23 rfl
theorem dX10_actor_92 : decode cX10_actor 92 = .ok (.iload 4, 2) := dcs_at ok21_d_model_0_4 24 rfl
theorem dX10_actor_94 : decode cX10_actor 94 = .ok (.iaload, 1) := dcs_at ok21_d_model_0_4 25 rfl
theorem dX10_actor_95 : decode cX10_actor 95 = .ok (.ireturn, 1) := dcs_at ok21_d_model_0_4 26 rfl
theorem dX10_actor_96 : decode cX10_actor 96 = .ok (.iload 6, 2) := dcs_at ok21_d_model_0_4 27 rfl
theorem dX10_actor_98 : decode cX10_actor 98 = .ok (.ifCond .eq 7, 3) := dcs_at ok21_d_model_0_4 28 rfl
theorem dX10_actor_101 : decode cX10_actor 101 = .ok (.iconst 1, 1) := dcs_at ok21_d_model_0_4 29 rfl
theorem dX10_actor_102 : decode cX10_actor 102 = .ok (.goto 4, 3) := dcs_at ok21_d_model_0_4 30 rfl
theorem dX10_actor_105 : decode cX10_actor 105 = .ok (.iconst 0, 1) := dcs_at ok21_d_model_0_4 31 rfl
theorem dX10_actor_106 : decode cX10_actor 106 = .ok (.ireturn, 1) := dcs_at ok21_d_model_0_4 32 rfl
theorem dX10_actor_107 : decode cX10_actor 107 = .ok (.iload 6, 2) := dcs_at ok21_d_model_0_4 33 rfl
theorem dX10_actor_109 : decode cX10_actor 109 = .ok (.ifCond .eq 13, 3) := dcs_at ok21_d_model_0_4 34 rfl
theorem dX10_actor_112 : decode cX10_actor 112 = .ok (.aload_n 0, 1) := dcs_at ok21_d_model_0_4 35 rfl
theorem dX10_actor_113 : decode cX10_actor 113 = .ok (.iload 4, 2) := dcs_at ok21_d_model_0_4 36 rfl
theorem dX10_actor_115 : decode cX10_actor 115 = .ok (.iconst 0, 1) := dcs_at ok21_d_model_0_4 37 rfl
theorem dX10_actor_116 : decode cX10_actor 116 = .ok (.invokevirtual 294, 3) := dcs_at ok21_d_model_0_4 38 rfl
theorem dX10_actor_119 : decode cX10_actor 119 = .ok (.goto 4, 3) := dcs_at ok21_d_model_0_4 39 rfl
def tb21_d_model_0_5 : List (Nat × (Instr × Nat)) := [(122, (.iconst 0, 1)), (123, (.ireturn, 1)), (124, (.aload_n 0, 1)), (125, (.iload 4, 2)), (127, (.invokevirtual 341, 3)), (130, (.ireturn, 1)), (131, (.aload_n 0, 1)), (132, (.getfield 56, 3)), (135, (.iload 4, 2)), (137, (.iaload, 1)), (138, (.ireturn, 1)), (139, (.iload 6, 2)), (141, (.ifCond .eq 12, 3)), (144, (.aload_n 0, 1)), (145, (.iload 4, 2)), (147, (.invokevirtual 344, 3)), (150, (.goto 4, 3)), (153, (.iconst 0, 1)), (154, (.ireturn, 1)), (155, (.iload 6, 2)), (157, (.ifCond .eq 12, 3)), (160, (.aload_n 0, 1)), (161, (.iload 4, 2)), (163, (.invokevirtual 347, 3)), (166, (.goto 4, 3)), (169, (.iconst 0, 1)), (170, (.ireturn, 1)), (171, (.aload_n 0, 1)), (172, (.getfield 53, 3)), (175, (.iload 4, 2)), (177, (.iaload, 1)), (178, (.ireturn, 1)), (179, (.bipush (-2), 2)), (181, (.ireturn, 1))]
theorem ok21_d_model_0_5 : dcs cX10_actor tb21_d_model_0_5 = true := by decide +kernel
theorem dX10_actor_122 : decode cX10_actor 122 = .ok (.iconst 0, 1) := dcs_at ok21_d_model_0_5 0 rfl
theorem dX10_actor_123 : decode cX10_actor 123 = .ok (.ireturn, 1) := dcs_at ok21_d_model_0_5 1 rfl
theorem dX10_actor_124 : decode cX10_actor 124 = .ok (.aload_n 0, 1) := dcs_at ok21_d_model_0_5 2 rfl
theorem dX10_actor_125 : decode cX10_actor 125 = .ok (.iload 4, 2) := dcs_at ok21_d_model_0_5 3 rfl
theorem dX10_actor_127 : decode cX10_actor 127 = .ok (.invokevirtual 341, 3) := dcs_at ok21_d_model_0_5 4 rfl
theorem dX10_actor_130 : decode cX10_actor 130 = .ok (.ireturn, 1) := dcs_at ok21_d_model_0_5 5 rfl
theorem dX10_actor_131 : decode cX10_actor 131 = .ok (.aload_n 0, 1) := dcs_at ok21_d_model_0_5 6 rfl
theorem dX10_actor_132 : decode cX10_actor 132 = .ok (.getfield 56, 3) := dcs_at ok21_d_model_0_5 7 rfl
theorem dX10_actor_135 : decode cX10_actor 135 = .ok (.iload 4, 2) := dcs_at ok21_d_model_0_5 8 rfl
theorem dX10_actor_137 : decode cX10_actor 137 = .ok (.iaload, 1) := dcs_at ok21_d_model_0_5 9 rfl
theorem dX10_actor_138 : decode cX10_actor 138 = .ok (.ireturn, 1) := dcs_at ok21_d_model_0_5 10 rfl
theorem dX10_actor_139 : decode cX10_actor 139 = .ok (.iload 6, 2) := dcs_at ok21_d_model_0_5 11 rfl
theorem dX10_actor_141 : decode cX10_actor 141 = .ok (.ifCond .eq 12, 3) := dcs_at ok21_d_model_0_5 12 rfl
theorem dX10_actor_144 : decode cX10_actor 144 = .ok (.aload_n 0, 1) := dcs_at ok21_d_model_0_5 13 rfl
theorem dX10_actor_145 : decode cX10_actor 145 = .ok (.iload 4, 2) := dcs_at ok21_d_model_0_5 14 rfl
theorem dX10_actor_147 : decode cX10_actor 147 = .ok (.invokevirtual 344, 3) := dcs_at ok21_d_model_0_5 15 rfl
theorem dX10_actor_150 : decode cX10_actor 150 = .ok (.goto 4, 3) := dcs_at ok21_d_model_0_5 16 rfl
theorem dX10_actor_153 : decode cX10_actor 153 = .ok (.iconst 0, 1) := dcs_at ok21_d_model_0_5 17 rfl
theorem dX10_actor_154 : decode cX10_actor 154 = .ok (.ireturn, 1) := dcs_at ok21_d_model_0_5 18 rfl
theorem dX10_actor_155 : decode cX10_actor 155 = .ok (.iload 6, 2) := dcs_at ok21_d_model_0_5 19 rfl
theorem dX10_actor_157 : decode cX10_actor 157 = .ok (.ifCond .eq 12, 3) := dcs_at ok21_d_model_0_5 20 rfl
theorem dX10_actor_160 : decode cX10_actor 160 = .ok (.aload_n 0, 1) := dcs_at ok21_d_model_0_5 21 rfl
theorem dX10_actor_161 : decode cX10_actor 161 = .ok (.iload 4, 2) := dcs_at ok21_d_model_0_5 22 rfl
theorem dX10_actor_163 : decode cX10_actor 163 = .ok (.invokevirtual 347, 3) := dcs_at ok21_d_model_0_5 23 rfl
theorem dX10_actor_166 : decode cX10_actor 166 = .ok (.goto 4, 3) := dcs_at ok21_d_model_0_5 24 rfl
theorem dX10_actor_169 : decode cX10_actor 169 = .ok (.iconst 0, 1) := dcs_at ok21_d_model_0_5 25 rfl
theorem dX10_actor_170 : decode cX10_actor 170 = .ok (.ireturn, 1) := dcs_at ok21_d_model_0_5 26 rfl
theorem dX10_actor_171 : decode cX10_actor 171 = .ok (.aload_n 0, 1) := dcs_at ok21_d_model_0_5 27 rfl
theorem dX10_actor_172 : decode cX10_actor 172 = .ok (.getfield 53, 3) := dcs_at ok21_d_model_0_5 28 rfl
theorem dX10_actor_175 : decode cX10_actor 175 = .ok (.iload 4, 2) := dcs_at ok21_d_model_0_5 29 rfl
theorem dX10_actor_177 : decode cX10_actor 177 = .ok (.iaload, 1) := dcs_at ok21_d_model_0_5 30 rfl
theorem dX10_actor_178 : decode cX10_actor 178 = .ok (.ireturn, 1) := dcs_at ok21_d_model_0_5 31 rfl
theorem dX10_actor_179 : decode cX10_actor 179 = .ok (.bipush (-2), 2) := dcs_at ok21_d_model_0_5 32 rfl
theorem dX10_actor_181 : decode cX10_actor 181 = .ok (.ireturn, 1) := dcs_at ok21_d_model_0_5 33 rfl
def tb21_d_model_0_6 : List (Nat × (Instr × Nat)) := [(0, (.iconst 0, 1)), (1, (.istore_n 2, 1)), (2, (.iload_n 2, 1)), (3, (.iconst 1, 1)), (4, (.aload_n 0, 1)), (5, (.getfield 231, 3)), (8, (.ishl, 1)), (9, (.if_icmp .ge 147, 3)), (12, (.iconst 0, 1)), (13, (.istore_n 3, 1)), (14, (.iload_n 2, 1)), (15, (.iload_n 1, 1)), (16, (.invokestatic 84, 3)), (19, (.ifCond .ne 7, 3)), (22, (.iconst 1, 1)), (23, (.goto 4, 3)), (26, (.iconst 0, 1)), (27, (.istore 4, 2)), (29, (.iconst 0, 1)), (30, (.istore 5, 2)), (32, (.iload 5, 2)), (34, (.aload_n 0, 1)), (35, (.getfield 231, 3)), (38, (.if_icmp .ge 82, 3)), (41, (.iload 4, 2)), (43, (.ifCond .eq 45, 3)), (46, (.iload_n 2, 1)), (47, (.iload 5, 2)), (49, (.invokestatic 84, 3)), (52, (.ifCond .eq 32, 3)), (55, (.aload_n 0, 1)), (56, (.getfield 267, 3)), (59, (.iload 5, 2)), (61, (.invokestatic 84, 3)), (64, (.ifCond .eq 24, 3)), (67, (.aload_n 0, 1)), (68, (.getfield 50, 3)), (71, (.iload 5, 2)), (73, (.iaload, 1)), (74, (.aload_n 0, 1))]
theorem ok21_d_model_0_6 : dcs cX10_isInDanger tb21_d_model_0_6 = true := by decide +kernel
theorem dX10_isInDanger_0 : decode cX10_isInDanger 0 = .ok (.iconst 0, 1) := dcs_at ok21_d_model_0_6 0 rfl
theorem dX10_isInDanger_1 : decode cX10_isInDanger 1 = .ok (.istore_n 2, 1) := dcs_at ok21_d_model_0_6 1 rfl
theorem dX10_isInDanger_2 : decode cX10_isInDanger 2 = .ok (.iload_n 2, 1) := dcs_at ok21_d_model_0_6 2 rfl
theorem dX10_isInDanger_3 : decode cX10_isInDanger 3 = .ok (.iconst 1, 1) := dcs_at ok21_d_model_0_6 3 rfl
theorem dX10_isInDanger_4 : decode cX10_isInDanger 4 = .ok (.aload_n 0, 1) := dcs_at ok21_d_model_0_6 4 rfl
theorem dX10_isInDanger_5 : decode cX10_isInDanger 5 = .ok (.getfield 231, 3) := dcs_at ok21_d_model_0_6 5 rfl
theorem dX10_isInDanger_8 : decode cX10_isInDanger 8 = .ok (.ishl, 1) := dcs_at ok21_d_model_0_6 6 rfl
theorem dX10_isInDanger_9 : decode cX10_isInDanger 9 = .ok (.if_icmp .ge 147, 3) := dcs_at ok21_d_model_0_6 7 rfl
theorem dX10_isInDanger_12 : decode cX10_isInDanger 12 = .ok (.iconst 0, 1) := dcs_at ok21_d_model_0_6 8 rfl
theorem dX10_isInDanger_13 : decode cX10_isInDanger 13 = .ok (.istore_n 3, 1) := dcs_at ok21_d_model_0_6 9 rfl
theorem dX10_isInDanger_14 : decode cX10_isInDanger 14 = .ok (.iload_n 2, 1) := dcs_at ok21_d_model_0_6 10 rfl
theorem dX10_isInDanger_15 : decode cX10_isInDanger 15 = .ok (.iload_n 1, 1) := dcs_at ok21_d_model_0_6 11 rfl
theorem dX10_isInDanger_16 : decode cX10_isInDanger 16 = .ok (.invokestatic 84, 3) := dcs_at ok21_d_model_0_6 12 rfl
theorem dX10_isInDanger_19 : decode cX10_isInDanger 19 = .ok (.ifCond .ne 7, 3) := dcs_at ok21_d_model_0_6 13 rfl
theorem dX10_isInDanger_22 : decode cX10_isInDanger 22 = .ok (.iconst 1, 1) := dcs_at ok21_d_model_0_6 14 rfl
theorem dX10_isInDanger_23 : decode cX10_isInDanger 23 = .ok (.goto 4, 3) := dcs_at ok21_d_model_0_6 15 rfl
theorem dX10_isInDanger_26 : decode cX10_isInDanger 26 = .ok (.iconst 0, 1) := dcs_at ok21_d_model_0_6 16 rfl
theorem dX10_isInDanger_27 : decode cX10_isInDanger 27 = .ok (.istore 4, 2) := dcs_at ok21_d_model_0_6 17 rfl
theorem dX10_isInDanger_29 : decode cX10_isInDanger 29 = .ok (.iconst 0, 1) := dcs_at ok21_d_model_0_6 18 rfl
theorem dX10_isInDanger_30 : decode cX10_isInDanger 30 = .ok (.istore 5, 2) := dcs_at ok21_d_model_0_6 19 rfl
theorem dX10_isInDanger_32 : decode cX10_isInDanger 32 = .ok (.iload 5, 2) := dcs_at ok21_d_model_0_6 20 rfl
theorem dX10_isInDanger_34 : decode cX10_isInDanger 34 = .ok (.aload_n 0, 1) := dcs_at ok21_d_model_0_6 21 rfl
theorem dX10_isInDanger_35 : decode cX10_isInDanger 35 = .ok (.getfield 231, 3) := dcs_at ok21_d_model_0_6 22 rfl
theorem dX10_isInDanger_38 : decode cX10_isInDanger 38 = .ok (.if_icmp .ge 82, 3) := dcs_at ok21_d_model_0_6 23 rfl
theorem dX10_isInDanger_41 : decode cX10_isInDanger 41 = .ok (.iload 4, 2) := dcs_at ok21_d_model_0_6 24 rfl
theorem dX10_isInDanger_43 : decode cX10_isInDanger 43 = .ok (.ifCond .eq 45, 3) := dcs_at ok21_d_model_0_6 25 rfl
theorem dX10_isInDanger_46 : decode cX10_isInDanger 46 = .ok (.iload_n 2, 1) := dcs_at ok21_d_model_0_6 26 rfl
theorem dX10_isInDanger_47 : decode cX10_isInDanger 47 = .ok (.iload 5, 2) := dcs_at ok21_d_model_0_6 27 rfl
theorem dX10_isInDanger_49 : decode cX10_isInDanger 49 = .ok (.invokestatic 84, 3) := dcs_at ok21_d_model_0_6 28 rfl
theorem dX10_isInDanger_52 : decode cX10_isInDanger 52 = .ok (.ifCond .eq 32, 3) := dcs_at ok21_d_model_0_6 29 rfl
theorem dX10_isInDanger_55 : decode cX10_isInDanger 55 = .ok (.aload_n 0, 1) := dcs_at ok21_d_model_0_6 30 rfl
theorem dX10_isInDanger_56 : decode cX10_isInDanger 56 = .ok (.getfield 267, 3) := dcs_at ok21_d_model_0_6 31 rfl
theorem dX10_isInDanger_59 : decode cX10_isInDanger 59 = .ok (.iload 5, 2) := dcs_at ok21_d_model_0_6 32 rfl
theorem dX10_isInDanger_61 : decode cX10_isInDanger 61 = .ok (.invokestatic 84, 3) := dcs_at ok21_d_model_0_6 33 rfl
theorem dX10_isInDanger_64 : decode cX10_isInDanger 64 = .ok (.ifCond .eq 24, 3) := dcs_at ok21_d_model_0_6 34 rfl
theorem dX10_isInDanger_67 : decode cX10_isInDanger 67 = .ok (.aload_n 0, 1) := dcs_at ok21_d_model_0_6 35 rfl
theorem dX10_isInDanger_68 : decode cX10_isInDanger 68 = .ok (.getfield 50, 3) := dcs_at ok21_d_model_0_6 36 rfl
theorem dX10_isInDanger_71 : decode cX10_isInDanger 71 = .ok (.iload 5, 2) := dcs_at ok21_d_model_0_6 37 rfl
theorem dX10_isInDanger_73 : decode cX10_isInDanger 73 = .ok (.iaload, 1) := dcs_at ok21_d_model_0_6 38 rfl
theorem dX10_isInDanger_74 : decode cX10_isInDanger 74 = .ok (.aload_n 0, 1) := dcs_at ok21_d_model_0_6 39 rfl
def tb21_d_model_0_7 : List (Nat × (Instr × Nat)) := [(75, (.iload 5, 2)), (77, (.iconst 0, 1)), (78, (.invokevirtual 294, 3)), (81, (.if_icmp .lt 7, 3)), (84, (.iconst 1, 1)), (85, (.goto 4, 3)), (88, (.iconst 0, 1)), (89, (.istore 4, 2)), (91, (.iload_n 3, 1)), (92, (.iload_n 2, 1)), (93, (.iload 5, 2)), (95, (.invokestatic 84, 3)), (98, (.ifCond .eq 13, 3)), (101, (.aload_n 0, 1)), (102, (.iload 5, 2)), (104, (.iconst 0, 1)), (105, (.invokevirtual 294, 3)), (108, (.goto 4, 3)), (111, (.iconst 0, 1)), (112, (.iadd, 1)), (113, (.istore_n 3, 1)), (114, (.iinc 5 1, 3)), (117, (.goto (-85), 3)), (120, (.iload 4, 2)), (122, (.ifCond .eq 28, 3)), (125, (.iload_n 3, 1)), (126, (.aload_n 0, 1)), (127, (.getfield 258, 3)), (130, (.if_icmp .gt 20, 3)), (133, (.aload_n 0, 1)), (134, (.getfield 258, 3)), (137, (.iload_n 3, 1)), (138, (.isub, 1)), (139, (.aload_n 0, 1)), (140, (.iload_n 1, 1)), (141, (.iconst 0, 1)), (142, (.invokevirtual 294, 3)), (145, (.if_icmp .ge 5, 3)), (148, (.iconst 1, 1)), (149, (.ireturn, 1))]
theorem ok21_d_model_0_7 : dcs cX10_isInDanger tb21_d_model_0_7 = true := by decide +kernel
theorem dX10_isInDanger_75 : decode cX10_isInDanger 75 = .ok (.iload 5, 2) := dcs_at ok21_d_model_0_7 0 rfl
theorem dX10_isInDanger_77 : decode cX10_isInDanger 77 = .ok (.iconst 0, 1) := dcs_at ok21_d_model_0_7 1 rfl
theorem dX10_isInDanger_78 : decode cX10_isInDanger 78 = .ok (.invokevirtual 294, 3) := dcs_at ok21_d_model_0_7 2 rfl
theorem dX10_isInDanger_81 : decode cX10_isInDanger 81 = .ok (.if_icmp .lt 7, 3) := dcs_at ok21_d_model_0_7 3 rfl
theorem dX10_isInDanger_84 : decode cX10_isInDanger 84 = .ok (.iconst 1, 1) := dcs_at ok21_d_model_0_7 4 rfl
theorem dX10_isInDanger_85 : decode cX10_isInDanger 85 = .ok (.goto 4, 3) := dcs_at ok21_d_model_0_7 5 rfl
theorem dX10_isInDanger_88 : decode cX10_isInDanger 88 = .ok (.iconst 0, 1) := dcs_at ok21_d_model_0_7 6 rfl
theorem dX10_isInDanger_89 : decode cX10_isInDanger 89 = .ok (.istore 4, 2) := dcs_at ok21_d_model_0_7 7 rfl
theorem dX10_isInDanger_91 : decode cX10_isInDanger 91 = .ok (.iload_n 3, 1) := dcs_at ok21_d_model_0_7 8 rfl
theorem dX10_isInDanger_92 : decode cX10_isInDanger 92 = .ok (.iload_n 2, 1) := dcs_at ok21_d_model_0_7 9 rfl
theorem dX10_isInDanger_93 : decode cX10_isInDanger 93 = .ok (.iload 5, 2) := dcs_at ok21_d_model_0_7 10 rfl
theorem dX10_isInDanger_95 : decode cX10_isInDanger 95 = .ok (.invokestatic 84, 3) := dcs_at ok21_d_model_0_7 11 rfl
theorem dX10_isInDanger_98 : decode cX10_isInDanger 98 = .ok (.ifCond .eq 13, 3) := dcs_at ok21_d_model_0_7 12 rfl
theorem dX10_isInDanger_101 : decode cX10_isInDanger 101 = .ok (.aload_n 0, 1) := dcs_at ok21_d_model_0_7 13 rfl
theorem dX10_isInDanger_102 : decode cX10_isInDanger 102 = .ok (.iload 5, 2) := dcs_at ok21_d_model_0_7 14 rfl
theorem dX10_isInDanger_104 : decode cX10_isInDanger 104 = .ok (.iconst 0, 1) := dcs_at ok21_d_model_0_7 15 rfl
theorem dX10_isInDanger_105 : decode cX10_isInDanger 105 = .ok (.invokevirtual 294, 3) := dcs_at ok21_d_model_0_7 16 rfl
theorem dX10_isInDanger_108 : decode cX10_isInDanger 108 = .ok (.goto 4, 3) := dcs_at ok21_d_model_0_7 17 rfl
theorem dX10_isInDanger_111 : decode cX10_isInDanger 111 = .ok (.iconst 0, 1) := dcs_at ok21_d_model_0_7 18 rfl
theorem dX10_isInDanger_112 : decode cX10_isInDanger 112 = .ok (.iadd, 1) := dcs_at ok21_d_model_0_7 19 rfl
theorem dX10_isInDanger_113 : decode cX10_isInDanger 113 = .ok (.istore_n 3, 1) := dcs_at ok21_d_model_0_7 20 rfl
theorem dX10_isInDanger_114 : decode cX10_isInDanger 114 = .ok (.iinc 5 1, 3) := dcs_at ok21_d_model_0_7 21 rfl
theorem dX10_isInDanger_117 : decode cX10_isInDanger 117 = .ok (.goto (-85), 3) := dcs_at ok21_d_model_0_7 22 rfl
theorem dX10_isInDanger_120 : decode cX10_isInDanger 120 = .ok (.iload 4, 2) := dcs_at ok21_d_model_0_7 23 rfl
theorem dX10_isInDanger_122 : decode cX10_isInDanger 122 = .ok (.ifCond .eq 28, 3) := dcs_at ok21_d_model_0_7 24 rfl
theorem dX10_isInDanger_125 : decode cX10_isInDanger 125 = .ok (.iload_n 3, 1) := dcs_at ok21_d_model_0_7 25 rfl
theorem dX10_isInDanger_126 : decode cX10_isInDanger 126 = .ok (.aload_n 0, 1) := dcs_at ok21_d_model_0_7 26 rfl
theorem dX10_isInDanger_127 : decode cX10_isInDanger 127 = .ok (.getfield 258, 3) := dcs_at ok21_d_model_0_7 27 rfl
theorem dX10_isInDanger_130 : decode cX10_isInDanger 130 = .ok (.if_icmp .gt 20, 3) := dcs_at ok21_d_model_0_7 28 rfl
theorem dX10_isInDanger_133 : decode cX10_isInDanger 133 = .ok (.aload_n 0, 1) := dcs_at ok21_d_model_0_7 29 rfl
theorem dX10_isInDanger_134 : decode cX10_isInDanger 134 = .ok (.getfield 258, 3) := dcs_at ok21_d_model_0_7 30 rfl
theorem dX10_isInDanger_137 : decode cX10_isInDanger 137 = .ok (.iload_n 3, 1) := dcs_at ok21_d_model_0_7 31 rfl
theorem dX10_isInDanger_138 : decode cX10_isInDanger 138 = .ok (.isub, 1) := dcs_at ok21_d_model_0_7 32 rfl
theorem dX10_isInDanger_139 : decode cX10_isInDanger 139 = .ok (.aload_n 0, 1) := dcs_at ok21_d_model_0_7 33 rfl
theorem dX10_isInDanger_140 : decode cX10_isInDanger 140 = .ok (.iload_n 1, 1) := dcs_at ok21_d_model_0_7 34 rfl
theorem dX10_isInDanger_141 : decode cX10_isInDanger 141 = .ok (.iconst 0, 1) := dcs_at ok21_d_model_0_7 35 rfl
theorem dX10_isInDanger_142 : decode cX10_isInDanger 142 = .ok (.invokevirtual 294, 3) := dcs_at ok21_d_model_0_7 36 rfl
theorem dX10_isInDanger_145 : decode cX10_isInDanger 145 = .ok (.if_icmp .ge 5, 3) := dcs_at ok21_d_model_0_7 37 rfl
theorem dX10_isInDanger_148 : decode cX10_isInDanger 148 = .ok (.iconst 1, 1) := dcs_at ok21_d_model_0_7 38 rfl
theorem dX10_isInDanger_149 : decode cX10_isInDanger 149 = .ok (.ireturn, 1) := dcs_at ok21_d_model_0_7 39 rfl
def tb21_d_model_0_8 : List (Nat × (Instr × Nat)) := [(150, (.iinc 2 1, 3)), (153, (.goto (-151), 3)), (156, (.iconst 0, 1)), (157, (.ireturn, 1))]
theorem ok21_d_model_0_8 : dcs cX10_isInDanger tb21_d_model_0_8 = true := by decide +kernel
theorem dX10_isInDanger_150 : decode cX10_isInDanger 150 = .ok (.iinc 2 1, 3) := dcs_at ok21_d_model_0_8 0 rfl
theorem dX10_isInDanger_153 : decode cX10_isInDanger 153 = .ok (.goto (-151), 3) := dcs_at ok21_d_model_0_8 1 rfl
theorem dX10_isInDanger_156 : decode cX10_isInDanger 156 = .ok (.iconst 0, 1) := dcs_at ok21_d_model_0_8 2 rfl
theorem dX10_isInDanger_157 : decode cX10_isInDanger 157 = .ok (.ireturn, 1) := dcs_at ok21_d_model_0_8 3 rfl
def tb21_d_model_0_9 : List (Nat × (Instr × Nat)) := [(0, (.aload_n 0, 1)), (1, (.getfield 50, 3)), (4, (.iload_n 1, 1)), (5, (.iaload, 1)), (6, (.aload_n 0, 1)), (7, (.iload_n 1, 1)), (8, (.iconst 0, 1)), (9, (.invokevirtual 294, 3)), (12, (.if_icmp .lt 16, 3)), (15, (.aload_n 0, 1)), (16, (.getfield 258, 3)), (19, (.aload_n 0, 1)), (20, (.iload_n 1, 1)), (21, (.iconst 0, 1)), (22, (.invokevirtual 294, 3)), (25, (.if_icmp .ge 7, 3)), (28, (.iconst 1, 1)), (29, (.goto 4, 3)), (32, (.iconst 0, 1)), (33, (.ireturn, 1))]
theorem ok21_d_model_0_9 : dcs cX10_isDoomed tb21_d_model_0_9 = true := by decide +kernel
theorem dX10_isDoomed_0 : decode cX10_isDoomed 0 = .ok (.aload_n 0, 1) := dcs_at ok21_d_model_0_9 0 rfl
theorem dX10_isDoomed_1 : decode cX10_isDoomed 1 = .ok (.getfield 50, 3) := dcs_at ok21_d_model_0_9 1 rfl
theorem dX10_isDoomed_4 : decode cX10_isDoomed 4 = .ok (.iload_n 1, 1) := dcs_at ok21_d_model_0_9 2 rfl
theorem dX10_isDoomed_5 : decode cX10_isDoomed 5 = .ok (.iaload, 1) := dcs_at ok21_d_model_0_9 3 rfl
theorem dX10_isDoomed_6 : decode cX10_isDoomed 6 = .ok (.aload_n 0, 1) := dcs_at ok21_d_model_0_9 4 rfl
theorem dX10_isDoomed_7 : decode cX10_isDoomed 7 = .ok (.iload_n 1, 1) := dcs_at ok21_d_model_0_9 5 rfl
theorem dX10_isDoomed_8 : decode cX10_isDoomed 8 = .ok (.iconst 0, 1) := dcs_at ok21_d_model_0_9 6 rfl
theorem dX10_isDoomed_9 : decode cX10_isDoomed 9 = .ok (.invokevirtual 294, 3) := dcs_at ok21_d_model_0_9 7 rfl
theorem dX10_isDoomed_12 : decode cX10_isDoomed 12 = .ok (.if_icmp .lt 16, 3) := dcs_at ok21_d_model_0_9 8 rfl
theorem dX10_isDoomed_15 : decode cX10_isDoomed 15 = .ok (.aload_n 0, 1) := dcs_at ok21_d_model_0_9 9 rfl
theorem dX10_isDoomed_16 : decode cX10_isDoomed 16 = .ok (.getfield 258, 3) := dcs_at ok21_d_model_0_9 10 rfl
theorem dX10_isDoomed_19 : decode cX10_isDoomed 19 = .ok (.aload_n 0, 1) := dcs_at ok21_d_model_0_9 11 rfl
theorem dX10_isDoomed_20 : decode cX10_isDoomed 20 = .ok (.iload_n 1, 1) := dcs_at ok21_d_model_0_9 12 rfl
theorem dX10_isDoomed_21 : decode cX10_isDoomed 21 = .ok (.iconst 0, 1) := dcs_at ok21_d_model_0_9 13 rfl
theorem dX10_isDoomed_22 : decode cX10_isDoomed 22 = .ok (.invokevirtual 294, 3) := dcs_at ok21_d_model_0_9 14 rfl
theorem dX10_isDoomed_25 : decode cX10_isDoomed 25 = .ok (.if_icmp .ge 7, 3) := dcs_at ok21_d_model_0_9 15 rfl
theorem dX10_isDoomed_28 : decode cX10_isDoomed 28 = .ok (.iconst 1, 1) := dcs_at ok21_d_model_0_9 16 rfl
theorem dX10_isDoomed_29 : decode cX10_isDoomed 29 = .ok (.goto 4, 3) := dcs_at ok21_d_model_0_9 17 rfl
theorem dX10_isDoomed_32 : decode cX10_isDoomed 32 = .ok (.iconst 0, 1) := dcs_at ok21_d_model_0_9 18 rfl
theorem dX10_isDoomed_33 : decode cX10_isDoomed 33 = .ok (.ireturn, 1) := dcs_at ok21_d_model_0_9 19 rfl
def tb21_d_model_0_10 : List (Nat × (Instr × Nat)) := [(0, (.aload_n 0, 1)), (1, (.iconst 0, 1)), (2, (.putfield 80, 3)), (5, (.aload_n 0, 1)), (6, (.iload_n 1, 1)), (7, (.iload_n 2, 1)), (8, (.iload_n 3, 1)), (9, (.invokevirtual 332, 3)), (12, (.ifCond .eq 13, 3)), (15, (.iload 4, 2)), (17, (.iconst 0, 1)), (18, (.iconst 1, 1)), (19, (.invokestatic 92, 3)), (22, (.ifCond .ne 6, 3)), (25, (.bipush (-2), 2)), (27, (.ireturn, 1)), (28, (.iconst 0, 1)), (29, (.istore 5, 2)), (31, (.iconst 0, 1)), (32, (.istore 6, 2)), (34, (.iload 6, 2)), (36, (.aload_n 0, 1)), (37, (.getfield 231, 3)), (40, (.if_icmp .ge 70, 3)), (43, (.aload_n 0, 1)), (44, (.getfield 267, 3)), (47, (.iload 6, 2)), (49, (.invokestatic 84, 3)), (52, (.ifCond .eq 31, 3)), (55, (.aload_n 0, 1)), (56, (.iload 6, 2)), (58, (.invokevirtual 350, 3)), (61, (.ifCond .ne 18, 3)), (64, (.iload 4, 2)), (66, (.iconst 1, 1)), (67, (.if_icmp .ne 16, 3)), (70, (.aload_n 0, 1)), (71, (.iload 6, 2)), (73, (.invokevirtual 353, 3)), (76, (.ifCond .eq 7, 3))]
theorem ok21_d_model_0_10 : dcs cX10_run tb21_d_model_0_10 = true := by decide +kernel
theorem dX10_run_0 : decode cX10_run 0 = .ok (.aload_n 0, 1) := dcs_at ok21_d_model_0_10 0 rfl
theorem dX10_run_1 : decode cX10_run 1 = .ok (.iconst 0, 1) := dcs_at ok21_d_model_0_10 1 rfl
theorem dX10_run_2 : decode cX10_run 2 = .ok (.putfield 80, 3) := dcs_at ok21_d_model_0_10 2 rfl
theorem dX10_run_5 : decode cX10_run 5 = .ok (.aload_n 0, 1) := dcs_at ok21_d_model_0_10 3 rfl
theorem dX10_run_6 : decode cX10_run 6 = .ok (.iload_n 1, 1) := dcs_at ok21_d_model_0_10 4 rfl
theorem dX10_run_7 : decode cX10_run 7 = .ok (.iload_n 2, 1) := dcs_at ok21_d_model_0_10 5 rfl
theorem dX10_run_8 : decode cX10_run 8 = .ok (.iload_n 3, 1) := dcs_at ok21_d_model_0_10 6 rfl
theorem dX10_run_9 : decode cX10_run 9 = .ok (.invokevirtual 332, 3) := dcs_at ok21_d_model_0_10 7 rfl
theorem dX10_run_12 : decode cX10_run 12 = .ok (.ifCond .eq 13, 3) := dcs_at ok21_d_model_0_10 8 rfl
theorem dX10_run_15 : decode cX10_run 15 = .ok (.iload 4, 2) := dcs_at ok21_d_model_0_10 9 rfl
theorem dX10_run_17 : decode cX10_run 17 = .ok (.iconst 0, 1) := dcs_at ok21_d_model_0_10 10 rfl
theorem dX10_run_18 : decode cX10_run 18 = .ok (.iconst 1, 1) := dcs_at ok21_d_model_0_10 11 rfl
theorem dX10_run_19 : decode cX10_run 19 = .ok (.invokestatic 92, 3) := dcs_at ok21_d_model_0_10 12 rfl
theorem dX10_run_22 : decode cX10_run 22 = .ok (.ifCond .ne 6, 3) := dcs_at ok21_d_model_0_10 13 rfl
theorem dX10_run_25 : decode cX10_run 25 = .ok (.bipush (-2), 2) := dcs_at ok21_d_model_0_10 14 rfl
theorem dX10_run_27 : decode cX10_run 27 = .ok (.ireturn, 1) := dcs_at ok21_d_model_0_10 15 rfl
theorem dX10_run_28 : decode cX10_run 28 = .ok (.iconst 0, 1) := dcs_at ok21_d_model_0_10 16 rfl
theorem dX10_run_29 : decode cX10_run 29 = .ok (.istore 5, 2) := dcs_at ok21_d_model_0_10 17 rfl
theorem dX10_run_31 : decode cX10_run 31 = .ok (.iconst 0, 1) := dcs_at ok21_d_model_0_10 18 rfl
theorem dX10_run_32 : decode cX10_run 32 = .ok (.istore 6, 2) := dcs_at ok21_d_model_0_10 19 rfl
theorem dX10_run_34 : decode cX10_run 34 = .ok (.iload 6, 2) := dcs_at ok21_d_model_0_10 20 rfl
theorem dX10_run_36 : decode cX10_run 36 = .ok (.aload_n 0, 1) := dcs_at ok21_d_model_0_10 21 rfl
theorem dX10_run_37 : decode cX10_run 37 = .ok (.getfield 231, 3) := dcs_at ok21_d_model_0_10 22 rfl
theorem dX10_run_40 : decode cX10_run 40 = .ok (.if_icmp .ge 70, 3) := dcs_at ok21_d_model_0_10 23 rfl
theorem dX10_run_43 : decode cX10_run 43 = .ok (.aload_n 0, 1) := dcs_at ok21_d_model_0_10 24 rfl
theorem dX10_run_44 : decode cX10_run 44 = .ok (.getfield 267, 3) := dcs_at ok21_d_model_0_10 25 rfl
theorem dX10_run_47 : decode cX10_run 47 = .ok (.iload 6, 2) := dcs_at ok21_d_model_0_10 26 rfl
theorem dX10_run_49 : decode cX10_run 49 = .ok (.invokestatic 84, 3) := dcs_at ok21_d_model_0_10 27 rfl
theorem dX10_run_52 : decode cX10_run 52 = .ok (.ifCond .eq 31, 3) := dcs_at ok21_d_model_0_10 28 rfl
theorem dX10_run_55 : decode cX10_run 55 = .ok (.aload_n 0, 1) := dcs_at ok21_d_model_0_10 29 rfl
theorem dX10_run_56 : decode cX10_run 56 = .ok (.iload 6, 2) := dcs_at ok21_d_model_0_10 30 rfl
theorem dX10_run_58 : decode cX10_run 58 = .ok (.invokevirtual 350, 3) := dcs_at ok21_d_model_0_10 31 rfl
theorem dX10_run_61 : decode cX10_run 61 = .ok (.ifCond .ne 18, 3) := dcs_at ok21_d_model_0_10 32 rfl
theorem dX10_run_64 : decode cX10_run 64 = .ok (.iload 4, 2) := dcs_at ok21_d_model_0_10 33 rfl
theorem dX10_run_66 : decode cX10_run 66 = .ok (.iconst 1, 1) := dcs_at ok21_d_model_0_10 34 rfl
theorem dX10_run_67 : decode cX10_run 67 = .ok (.if_icmp .ne 16, 3) := dcs_at ok21_d_model_0_10 35 rfl
theorem dX10_run_70 : decode cX10_run 70 = .ok (.aload_n 0, 1) := dcs_at ok21_d_model_0_10 36 rfl
theorem dX10_run_71 : decode cX10_run 71 = .ok (.iload 6, 2) := dcs_at ok21_d_model_0_10 37 rfl
theorem dX10_run_73 : decode cX10_run 73 = .ok (.invokevirtual 353, 3) := dcs_at ok21_d_model_0_10 38 rfl
theorem dX10_run_76 : decode cX10_run 76 = .ok (.ifCond .eq 7, 3) := dcs_at ok21_d_model_0_10 39 rfl
def tb21_d_model_0_11 : List (Nat × (Instr × Nat)) := [(79, (.iconst 1, 1)), (80, (.goto 4, 3)), (83, (.iconst 0, 1)), (84, (.istore 7, 2)), (86, (.iload 5, 2)), (88, (.iload 7, 2)), (90, (.ifCond .eq 10, 3)), (93, (.iconst 1, 1)), (94, (.iload 6, 2)), (96, (.ishl, 1)), (97, (.goto 4, 3)), (100, (.iconst 0, 1)), (101, (.ior, 1)), (102, (.istore 5, 2)), (104, (.iinc 6 1, 3)), (107, (.goto (-73), 3)), (110, (.iload 5, 2)), (112, (.ireturn, 1))]
theorem ok21_d_model_0_11 : dcs cX10_run tb21_d_model_0_11 = true := by decide +kernel
theorem dX10_run_79 : decode cX10_run 79 = .ok (.iconst 1, 1) := dcs_at ok21_d_model_0_11 0 rfl
theorem dX10_run_80 : decode cX10_run 80 = .ok (.goto 4, 3) := dcs_at ok21_d_model_0_11 1 rfl
theorem dX10_run_83 : decode cX10_run 83 = .ok (.iconst 0, 1) := dcs_at ok21_d_model_0_11 2 rfl
theorem dX10_run_84 : decode cX10_run 84 = .ok (.istore 7, 2) := dcs_at ok21_d_model_0_11 3 rfl
theorem dX10_run_86 : decode cX10_run 86 = .ok (.iload 5, 2) := dcs_at ok21_d_model_0_11 4 rfl
theorem dX10_run_88 : decode cX10_run 88 = .ok (.iload 7, 2) := dcs_at ok21_d_model_0_11 5 rfl
theorem dX10_run_90 : decode cX10_run 90 = .ok (.ifCond .eq 10, 3) := dcs_at ok21_d_model_0_11 6 rfl
theorem dX10_run_93 : decode cX10_run 93 = .ok (.iconst 1, 1) := dcs_at ok21_d_model_0_11 7 rfl
theorem dX10_run_94 : decode cX10_run 94 = .ok (.iload 6, 2) := dcs_at ok21_d_model_0_11 8 rfl
theorem dX10_run_96 : decode cX10_run 96 = .ok (.ishl, 1) := dcs_at ok21_d_model_0_11 9 rfl
theorem dX10_run_97 : decode cX10_run 97 = .ok (.goto 4, 3) := dcs_at ok21_d_model_0_11 10 rfl
theorem dX10_run_100 : decode cX10_run 100 = .ok (.iconst 0, 1) := dcs_at ok21_d_model_0_11 11 rfl
theorem dX10_run_101 : decode cX10_run 101 = .ok (.ior, 1) := dcs_at ok21_d_model_0_11 12 rfl
theorem dX10_run_102 : decode cX10_run 102 = .ok (.istore 5, 2) := dcs_at ok21_d_model_0_11 13 rfl
theorem dX10_run_104 : decode cX10_run 104 = .ok (.iinc 6 1, 3) := dcs_at ok21_d_model_0_11 14 rfl
theorem dX10_run_107 : decode cX10_run 107 = .ok (.goto (-73), 3) := dcs_at ok21_d_model_0_11 15 rfl
theorem dX10_run_110 : decode cX10_run 110 = .ok (.iload 5, 2) := dcs_at ok21_d_model_0_11 16 rfl
theorem dX10_run_112 : decode cX10_run 112 = .ok (.ireturn, 1) := dcs_at ok21_d_model_0_11 17 rfl
def tb21_d_model_0_12 : List (Nat × (Instr × Nat)) := [(0, (.iconst 0, 1)), (1, (.istore_n 2, 1)), (2, (.iconst 0, 1)), (3, (.istore_n 3, 1)), (4, (.iload_n 3, 1)), (5, (.aload_n 0, 1)), (6, (.getfield 228, 3)), (9, (.if_icmp .ge 42, 3)), (12, (.iload_n 2, 1)), (13, (.aload_n 0, 1)), (14, (.iload_n 3, 1)), (15, (.invokevirtual 288, 3)), (18, (.iload_n 1, 1)), (19, (.if_icmp .ne 23, 3)), (22, (.aload_n 0, 1)), (23, (.getfield 279, 3)), (26, (.iload_n 3, 1)), (27, (.invokestatic 84, 3)), (30, (.ifCond .ne 12, 3)), (33, (.aload_n 0, 1)), (34, (.getfield 41, 3)), (37, (.iload_n 3, 1)), (38, (.iaload, 1)), (39, (.goto 4, 3)), (42, (.iconst 0, 1)), (43, (.iadd, 1)), (44, (.istore_n 2, 1)), (45, (.iinc 3 1, 3)), (48, (.goto (-44), 3)), (51, (.iload_n 2, 1)), (52, (.ireturn, 1))]
theorem ok21_d_model_0_12 : dcs cX10_leftOf tb21_d_model_0_12 = true := by decide +kernel
theorem dX10_leftOf_0 : decode cX10_leftOf 0 = .ok (.iconst 0, 1) := dcs_at ok21_d_model_0_12 0 rfl
theorem dX10_leftOf_1 : decode cX10_leftOf 1 = .ok (.istore_n 2, 1) := dcs_at ok21_d_model_0_12 1 rfl
theorem dX10_leftOf_2 : decode cX10_leftOf 2 = .ok (.iconst 0, 1) := dcs_at ok21_d_model_0_12 2 rfl
theorem dX10_leftOf_3 : decode cX10_leftOf 3 = .ok (.istore_n 3, 1) := dcs_at ok21_d_model_0_12 3 rfl
theorem dX10_leftOf_4 : decode cX10_leftOf 4 = .ok (.iload_n 3, 1) := dcs_at ok21_d_model_0_12 4 rfl
theorem dX10_leftOf_5 : decode cX10_leftOf 5 = .ok (.aload_n 0, 1) := dcs_at ok21_d_model_0_12 5 rfl
theorem dX10_leftOf_6 : decode cX10_leftOf 6 = .ok (.getfield 228, 3) := dcs_at ok21_d_model_0_12 6 rfl
theorem dX10_leftOf_9 : decode cX10_leftOf 9 = .ok (.if_icmp .ge 42, 3) := dcs_at ok21_d_model_0_12 7 rfl
theorem dX10_leftOf_12 : decode cX10_leftOf 12 = .ok (.iload_n 2, 1) := dcs_at ok21_d_model_0_12 8 rfl
theorem dX10_leftOf_13 : decode cX10_leftOf 13 = .ok (.aload_n 0, 1) := dcs_at ok21_d_model_0_12 9 rfl
theorem dX10_leftOf_14 : decode cX10_leftOf 14 = .ok (.iload_n 3, 1) := dcs_at ok21_d_model_0_12 10 rfl
theorem dX10_leftOf_15 : decode cX10_leftOf 15 = .ok (.invokevirtual 288, 3) := dcs_at ok21_d_model_0_12 11 rfl
theorem dX10_leftOf_18 : decode cX10_leftOf 18 = .ok (.iload_n 1, 1) := dcs_at ok21_d_model_0_12 12 rfl
theorem dX10_leftOf_19 : decode cX10_leftOf 19 = .ok (.if_icmp .ne 23, 3) := dcs_at ok21_d_model_0_12 13 rfl
theorem dX10_leftOf_22 : decode cX10_leftOf 22 = .ok (.aload_n 0, 1) := dcs_at ok21_d_model_0_12 14 rfl
theorem dX10_leftOf_23 : decode cX10_leftOf 23 = .ok (.getfield 279, 3) := dcs_at ok21_d_model_0_12 15 rfl
theorem dX10_leftOf_26 : decode cX10_leftOf 26 = .ok (.iload_n 3, 1) := dcs_at ok21_d_model_0_12 16 rfl
theorem dX10_leftOf_27 : decode cX10_leftOf 27 = .ok (.invokestatic 84, 3) := dcs_at ok21_d_model_0_12 17 rfl
theorem dX10_leftOf_30 : decode cX10_leftOf 30 = .ok (.ifCond .ne 12, 3) := dcs_at ok21_d_model_0_12 18 rfl
theorem dX10_leftOf_33 : decode cX10_leftOf 33 = .ok (.aload_n 0, 1) := dcs_at ok21_d_model_0_12 19 rfl
theorem dX10_leftOf_34 : decode cX10_leftOf 34 = .ok (.getfield 41, 3) := dcs_at ok21_d_model_0_12 20 rfl
theorem dX10_leftOf_37 : decode cX10_leftOf 37 = .ok (.iload_n 3, 1) := dcs_at ok21_d_model_0_12 21 rfl
theorem dX10_leftOf_38 : decode cX10_leftOf 38 = .ok (.iaload, 1) := dcs_at ok21_d_model_0_12 22 rfl
theorem dX10_leftOf_39 : decode cX10_leftOf 39 = .ok (.goto 4, 3) := dcs_at ok21_d_model_0_12 23 rfl
theorem dX10_leftOf_42 : decode cX10_leftOf 42 = .ok (.iconst 0, 1) := dcs_at ok21_d_model_0_12 24 rfl
theorem dX10_leftOf_43 : decode cX10_leftOf 43 = .ok (.iadd, 1) := dcs_at ok21_d_model_0_12 25 rfl
theorem dX10_leftOf_44 : decode cX10_leftOf 44 = .ok (.istore_n 2, 1) := dcs_at ok21_d_model_0_12 26 rfl
theorem dX10_leftOf_45 : decode cX10_leftOf 45 = .ok (.iinc 3 1, 3) := dcs_at ok21_d_model_0_12 27 rfl
theorem dX10_leftOf_48 : decode cX10_leftOf 48 = .ok (.goto (-44), 3) := dcs_at ok21_d_model_0_12 28 rfl
theorem dX10_leftOf_51 : decode cX10_leftOf 51 = .ok (.iload_n 2, 1) := dcs_at ok21_d_model_0_12 29 rfl
theorem dX10_leftOf_52 : decode cX10_leftOf 52 = .ok (.ireturn, 1) := dcs_at ok21_d_model_0_12 30 rfl
def tb21_d_model_0_13 : List (Nat × (Instr × Nat)) := [(0, (.iconst 0, 1)), (1, (.istore_n 2, 1)), (2, (.iconst 0, 1)), (3, (.istore_n 3, 1)), (4, (.iconst 0, 1)), (5, (.istore 4, 2)), (7, (.iconst 0, 1)), (8, (.istore 5, 2)), (10, (.iload 5, 2)), (12, (.aload_n 0, 1)), (13, (.getfield 231, 3)), (16, (.if_icmp .ge 51, 3)), (19, (.iload_n 1, 1)), (20, (.iload 5, 2)), (22, (.invokestatic 84, 3)), (25, (.ifCond .eq 12, 3)), (28, (.aload_n 0, 1)), (29, (.iload 5, 2)), (31, (.invokevirtual 341, 3)), (34, (.goto 4, 3)), (37, (.iconst 0, 1)), (38, (.istore 6, 2)), (40, (.iload_n 2, 1)), (41, (.iload 6, 2)), (43, (.iadd, 1)), (44, (.istore_n 2, 1)), (45, (.iload_n 3, 1)), (46, (.iload 6, 2)), (48, (.iconst 2, 1)), (49, (.idiv, 1)), (50, (.iadd, 1)), (51, (.istore_n 3, 1)), (52, (.iload 4, 2)), (54, (.iload 6, 2)), (56, (.iconst 2, 1)), (57, (.irem, 1)), (58, (.iadd, 1)), (59, (.istore 4, 2)), (61, (.iinc 5 1, 3)), (64, (.goto (-54), 3))]
theorem ok21_d_model_0_13 : dcs cX10_canFeed tb21_d_model_0_13 = true := by decide +kernel
theorem dX10_canFeed_0 : decode cX10_canFeed 0 = .ok (.iconst 0, 1) := dcs_at ok21_d_model_0_13 0 rfl
theorem dX10_canFeed_1 : decode cX10_canFeed 1 = .ok (.istore_n 2, 1) := dcs_at ok21_d_model_0_13 1 rfl
theorem dX10_canFeed_2 : decode cX10_canFeed 2 = .ok (.iconst 0, 1) := dcs_at ok21_d_model_0_13 2 rfl
theorem dX10_canFeed_3 : decode cX10_canFeed 3 = .ok (.istore_n 3, 1) := dcs_at ok21_d_model_0_13 3 rfl
theorem dX10_canFeed_4 : decode cX10_canFeed 4 = .ok (.iconst 0, 1) := dcs_at ok21_d_model_0_13 4 rfl
theorem dX10_canFeed_5 : decode cX10_canFeed 5 = .ok (.istore 4, 2) := dcs_at ok21_d_model_0_13 5 rfl
theorem dX10_canFeed_7 : decode cX10_canFeed 7 = .ok (.iconst 0, 1) := dcs_at ok21_d_model_0_13 6 rfl
theorem dX10_canFeed_8 : decode cX10_canFeed 8 = .ok (.istore 5, 2) := dcs_at ok21_d_model_0_13 7 rfl
theorem dX10_canFeed_10 : decode cX10_canFeed 10 = .ok (.iload 5, 2) := dcs_at ok21_d_model_0_13 8 rfl
theorem dX10_canFeed_12 : decode cX10_canFeed 12 = .ok (.aload_n 0, 1) := dcs_at ok21_d_model_0_13 9 rfl
theorem dX10_canFeed_13 : decode cX10_canFeed 13 = .ok (.getfield 231, 3) := dcs_at ok21_d_model_0_13 10 rfl
theorem dX10_canFeed_16 : decode cX10_canFeed 16 = .ok (.if_icmp .ge 51, 3) := dcs_at ok21_d_model_0_13 11 rfl
theorem dX10_canFeed_19 : decode cX10_canFeed 19 = .ok (.iload_n 1, 1) := dcs_at ok21_d_model_0_13 12 rfl
theorem dX10_canFeed_20 : decode cX10_canFeed 20 = .ok (.iload 5, 2) := dcs_at ok21_d_model_0_13 13 rfl
theorem dX10_canFeed_22 : decode cX10_canFeed 22 = .ok (.invokestatic 84, 3) := dcs_at ok21_d_model_0_13 14 rfl
theorem dX10_canFeed_25 : decode cX10_canFeed 25 = .ok (.ifCond .eq 12, 3) := dcs_at ok21_d_model_0_13 15 rfl
theorem dX10_canFeed_28 : decode cX10_canFeed 28 = .ok (.aload_n 0, 1) := dcs_at ok21_d_model_0_13 16 rfl
theorem dX10_canFeed_29 : decode cX10_canFeed 29 = .ok (.iload 5, 2) := dcs_at ok21_d_model_0_13 17 rfl
theorem dX10_canFeed_31 : decode cX10_canFeed 31 = .ok (.invokevirtual 341, 3) := dcs_at ok21_d_model_0_13 18 rfl
theorem dX10_canFeed_34 : decode cX10_canFeed 34 = .ok (.goto 4, 3) := dcs_at ok21_d_model_0_13 19 rfl
theorem dX10_canFeed_37 : decode cX10_canFeed 37 = .ok (.iconst 0, 1) := dcs_at ok21_d_model_0_13 20 rfl
theorem dX10_canFeed_38 : decode cX10_canFeed 38 = .ok (.istore 6, 2) := dcs_at ok21_d_model_0_13 21 rfl
theorem dX10_canFeed_40 : decode cX10_canFeed 40 = .ok (.iload_n 2, 1) := dcs_at ok21_d_model_0_13 22 rfl
theorem dX10_canFeed_41 : decode cX10_canFeed 41 = .ok (.iload 6, 2) := dcs_at ok21_d_model_0_13 23 rfl
theorem dX10_canFeed_43 : decode cX10_canFeed 43 = .ok (.iadd, 1) := dcs_at ok21_d_model_0_13 24 rfl
theorem dX10_canFeed_44 : decode cX10_canFeed 44 = .ok (.istore_n 2, 1) := dcs_at ok21_d_model_0_13 25 rfl
theorem dX10_canFeed_45 : decode cX10_canFeed 45 = .ok (.iload_n 3, 1) := dcs_at ok21_d_model_0_13 26 rfl
theorem dX10_canFeed_46 : decode cX10_canFeed 46 = .ok (.iload 6, 2) := dcs_at ok21_d_model_0_13 27 rfl
theorem dX10_canFeed_48 : decode cX10_canFeed 48 = .ok (.iconst 2, 1) := dcs_at ok21_d_model_0_13 28 rfl
theorem dX10_canFeed_49 : decode cX10_canFeed 49 = .ok (.idiv, 1) := dcs_at ok21_d_model_0_13 29 rfl
theorem dX10_canFeed_50 : decode cX10_canFeed 50 = .ok (.iadd, 1) := dcs_at ok21_d_model_0_13 30 rfl
theorem dX10_canFeed_51 : decode cX10_canFeed 51 = .ok (.istore_n 3, 1) := dcs_at ok21_d_model_0_13 31 rfl
theorem dX10_canFeed_52 : decode cX10_canFeed 52 = .ok (.iload 4, 2) := dcs_at ok21_d_model_0_13 32 rfl
theorem dX10_canFeed_54 : decode cX10_canFeed 54 = .ok (.iload 6, 2) := dcs_at ok21_d_model_0_13 33 rfl
theorem dX10_canFeed_56 : decode cX10_canFeed 56 = .ok (.iconst 2, 1) := dcs_at ok21_d_model_0_13 34 rfl
theorem dX10_canFeed_57 : decode cX10_canFeed 57 = .ok (.irem, 1) := dcs_at ok21_d_model_0_13 35 rfl
theorem dX10_canFeed_58 : decode cX10_canFeed 58 = .ok (.iadd, 1) := dcs_at ok21_d_model_0_13 36 rfl
theorem dX10_canFeed_59 : decode cX10_canFeed 59 = .ok (.istore 4, 2) := dcs_at ok21_d_model_0_13 37 rfl
theorem dX10_canFeed_61 : decode cX10_canFeed 61 = .ok (.iinc 5 1, 3) := dcs_at ok21_d_model_0_13 38 rfl
theorem dX10_canFeed_64 : decode cX10_canFeed 64 = .ok (.goto (-54), 3) := dcs_at ok21_d_model_0_13 39 rfl
def tb21_d_model_0_14 : List (Nat × (Instr × Nat)) := [(67, (.aload_n 0, 1)), (68, (.iconst 2, 1)), (69, (.invokevirtual 356, 3)), (72, (.istore 5, 2)), (74, (.aload_n 0, 1)), (75, (.iconst 1, 1)), (76, (.invokevirtual 356, 3)), (79, (.istore 6, 2)), (81, (.iload 5, 2)), (83, (.iload_n 3, 1)), (84, (.invokestatic 170, 3)), (87, (.istore 7, 2)), (89, (.iconst 0, 1)), (90, (.iload_n 2, 1)), (91, (.iconst 2, 1)), (92, (.iload 7, 2)), (94, (.imul, 1)), (95, (.isub, 1)), (96, (.iload 6, 2)), (98, (.isub, 1)), (99, (.invokestatic 338, 3)), (102, (.istore 8, 2)), (104, (.aload_n 0, 1)), (105, (.iload 7, 2)), (107, (.iload 8, 2)), (109, (.iadd, 1)), (110, (.putfield 359, 3)), (113, (.aload_n 0, 1)), (114, (.iload_n 2, 1)), (115, (.iconst 2, 1)), (116, (.iload 7, 2)), (118, (.imul, 1)), (119, (.isub, 1)), (120, (.iload 8, 2)), (122, (.isub, 1)), (123, (.putfield 362, 3)), (126, (.iload 8, 2)), (128, (.iload 4, 2)), (130, (.iload 5, 2)), (132, (.iload 7, 2))]
theorem ok21_d_model_0_14 : dcs cX10_canFeed tb21_d_model_0_14 = true := by decide +kernel
theorem dX10_canFeed_67 : decode cX10_canFeed 67 = .ok (.aload_n 0, 1) := dcs_at ok21_d_model_0_14 0 rfl
theorem dX10_canFeed_68 : decode cX10_canFeed 68 = .ok (.iconst 2, 1) := dcs_at ok21_d_model_0_14 1 rfl
theorem dX10_canFeed_69 : decode cX10_canFeed 69 = .ok (.invokevirtual 356, 3) := dcs_at ok21_d_model_0_14 2 rfl
theorem dX10_canFeed_72 : decode cX10_canFeed 72 = .ok (.istore 5, 2) := dcs_at ok21_d_model_0_14 3 rfl
theorem dX10_canFeed_74 : decode cX10_canFeed 74 = .ok (.aload_n 0, 1) := dcs_at ok21_d_model_0_14 4 rfl
theorem dX10_canFeed_75 : decode cX10_canFeed 75 = .ok (.iconst 1, 1) := dcs_at ok21_d_model_0_14 5 rfl
theorem dX10_canFeed_76 : decode cX10_canFeed 76 = .ok (.invokevirtual 356, 3) := dcs_at ok21_d_model_0_14 6 rfl
theorem dX10_canFeed_79 : decode cX10_canFeed 79 = .ok (.istore 6, 2) := dcs_at ok21_d_model_0_14 7 rfl
theorem dX10_canFeed_81 : decode cX10_canFeed 81 = .ok (.iload 5, 2) := dcs_at ok21_d_model_0_14 8 rfl
theorem dX10_canFeed_83 : decode cX10_canFeed 83 = .ok (.iload_n 3, 1) := dcs_at ok21_d_model_0_14 9 rfl
theorem dX10_canFeed_84 : decode cX10_canFeed 84 = .ok (.invokestatic 170, 3) := dcs_at ok21_d_model_0_14 10 rfl
theorem dX10_canFeed_87 : decode cX10_canFeed 87 = .ok (.istore 7, 2) := dcs_at ok21_d_model_0_14 11 rfl
theorem dX10_canFeed_89 : decode cX10_canFeed 89 = .ok (.iconst 0, 1) := dcs_at ok21_d_model_0_14 12 rfl
theorem dX10_canFeed_90 : decode cX10_canFeed 90 = .ok (.iload_n 2, 1) := dcs_at ok21_d_model_0_14 13 rfl
theorem dX10_canFeed_91 : decode cX10_canFeed 91 = .ok (.iconst 2, 1) := dcs_at ok21_d_model_0_14 14 rfl
theorem dX10_canFeed_92 : decode cX10_canFeed 92 = .ok (.iload 7, 2) := dcs_at ok21_d_model_0_14 15 rfl
theorem dX10_canFeed_94 : decode cX10_canFeed 94 = .ok (.imul, 1) := dcs_at ok21_d_model_0_14 16 rfl
theorem dX10_canFeed_95 : decode cX10_canFeed 95 = .ok (.isub, 1) := dcs_at ok21_d_model_0_14 17 rfl
theorem dX10_canFeed_96 : decode cX10_canFeed 96 = .ok (.iload 6, 2) := dcs_at ok21_d_model_0_14 18 rfl
theorem dX10_canFeed_98 : decode cX10_canFeed 98 = .ok (.isub, 1) := dcs_at ok21_d_model_0_14 19 rfl
theorem dX10_canFeed_99 : decode cX10_canFeed 99 = .ok (.invokestatic 338, 3) := dcs_at ok21_d_model_0_14 20 rfl
theorem dX10_canFeed_102 : decode cX10_canFeed 102 = .ok (.istore 8, 2) := dcs_at ok21_d_model_0_14 21 rfl
theorem dX10_canFeed_104 : decode cX10_canFeed 104 = .ok (.aload_n 0, 1) := dcs_at ok21_d_model_0_14 22 rfl
theorem dX10_canFeed_105 : decode cX10_canFeed 105 = .ok (.iload 7, 2) := dcs_at ok21_d_model_0_14 23 rfl
theorem dX10_canFeed_107 : decode cX10_canFeed 107 = .ok (.iload 8, 2) := dcs_at ok21_d_model_0_14 24 rfl
theorem dX10_canFeed_109 : decode cX10_canFeed 109 = .ok (.iadd, 1) := dcs_at ok21_d_model_0_14 25 rfl
theorem dX10_canFeed_110 : decode cX10_canFeed 110 = .ok (.putfield 359, 3) := dcs_at ok21_d_model_0_14 26 rfl
theorem dX10_canFeed_113 : decode cX10_canFeed 113 = .ok (.aload_n 0, 1) := dcs_at ok21_d_model_0_14 27 rfl
theorem dX10_canFeed_114 : decode cX10_canFeed 114 = .ok (.iload_n 2, 1) := dcs_at ok21_d_model_0_14 28 rfl
theorem dX10_canFeed_115 : decode cX10_canFeed 115 = .ok (.iconst 2, 1) := dcs_at ok21_d_model_0_14 29 rfl
theorem dX10_canFeed_116 : decode cX10_canFeed 116 = .ok (.iload 7, 2) := dcs_at ok21_d_model_0_14 30 rfl
theorem dX10_canFeed_118 : decode cX10_canFeed 118 = .ok (.imul, 1) := dcs_at ok21_d_model_0_14 31 rfl
theorem dX10_canFeed_119 : decode cX10_canFeed 119 = .ok (.isub, 1) := dcs_at ok21_d_model_0_14 32 rfl
theorem dX10_canFeed_120 : decode cX10_canFeed 120 = .ok (.iload 8, 2) := dcs_at ok21_d_model_0_14 33 rfl
theorem dX10_canFeed_122 : decode cX10_canFeed 122 = .ok (.isub, 1) := dcs_at ok21_d_model_0_14 34 rfl
theorem dX10_canFeed_123 : decode cX10_canFeed 123 = .ok (.putfield 362, 3) := dcs_at ok21_d_model_0_14 35 rfl
theorem dX10_canFeed_126 : decode cX10_canFeed 126 = .ok (.iload 8, 2) := dcs_at ok21_d_model_0_14 36 rfl
theorem dX10_canFeed_128 : decode cX10_canFeed 128 = .ok (.iload 4, 2) := dcs_at ok21_d_model_0_14 37 rfl
theorem dX10_canFeed_130 : decode cX10_canFeed 130 = .ok (.iload 5, 2) := dcs_at ok21_d_model_0_14 38 rfl
theorem dX10_canFeed_132 : decode cX10_canFeed 132 = .ok (.iload 7, 2) := dcs_at ok21_d_model_0_14 39 rfl
def tb21_d_model_0_15 : List (Nat × (Instr × Nat)) := [(134, (.isub, 1)), (135, (.invokestatic 170, 3)), (138, (.if_icmp .gt 7, 3)), (141, (.iconst 1, 1)), (142, (.goto 4, 3)), (145, (.iconst 0, 1)), (146, (.ireturn, 1))]
theorem ok21_d_model_0_15 : dcs cX10_canFeed tb21_d_model_0_15 = true := by decide +kernel
theorem dX10_canFeed_134 : decode cX10_canFeed 134 = .ok (.isub, 1) := dcs_at ok21_d_model_0_15 0 rfl
theorem dX10_canFeed_135 : decode cX10_canFeed 135 = .ok (.invokestatic 170, 3) := dcs_at ok21_d_model_0_15 1 rfl
theorem dX10_canFeed_138 : decode cX10_canFeed 138 = .ok (.if_icmp .gt 7, 3) := dcs_at ok21_d_model_0_15 2 rfl
theorem dX10_canFeed_141 : decode cX10_canFeed 141 = .ok (.iconst 1, 1) := dcs_at ok21_d_model_0_15 3 rfl
theorem dX10_canFeed_142 : decode cX10_canFeed 142 = .ok (.goto 4, 3) := dcs_at ok21_d_model_0_15 4 rfl
theorem dX10_canFeed_145 : decode cX10_canFeed 145 = .ok (.iconst 0, 1) := dcs_at ok21_d_model_0_15 5 rfl
theorem dX10_canFeed_146 : decode cX10_canFeed 146 = .ok (.ireturn, 1) := dcs_at ok21_d_model_0_15 6 rfl
def tb21_d_model_0_16 : List (Nat × (Instr × Nat)) := [(0, (.aload_n 0, 1)), (1, (.iconst 0, 1)), (2, (.putfield 80, 3)), (5, (.aload_n 0, 1)), (6, (.iload_n 1, 1)), (7, (.iload_n 2, 1)), (8, (.iload_n 3, 1)), (9, (.invokevirtual 332, 3)), (12, (.ifCond .eq 13, 3)), (15, (.iload 4, 2)), (17, (.iconst 0, 1)), (18, (.iconst 3, 1)), (19, (.invokestatic 92, 3)), (22, (.ifCond .ne 6, 3)), (25, (.bipush (-2), 2)), (27, (.ireturn, 1)), (28, (.iconst 0, 1)), (29, (.istore 5, 2)), (31, (.iconst 0, 1)), (32, (.istore 6, 2)), (34, (.iconst 0, 1)), (35, (.istore 7, 2)), (37, (.iconst 1, 1)), (38, (.istore 8, 2)), (40, (.iload 8, 2)), (42, (.iconst 1, 1)), (43, (.aload_n 0, 1)), (44, (.getfield 231, 3)), (47, (.ishl, 1)), (48, (.if_icmp .ge 105, 3)), (51, (.iload 8, 2)), (53, (.aload_n 0, 1)), (54, (.getfield 267, 3)), (57, (.iconst (-1), 1)), (58, (.ixor, 1)), (59, (.iand, 1)), (60, (.ifCond .ne 87, 3)), (63, (.aload_n 0, 1)), (64, (.iload 8, 2)), (66, (.invokevirtual 365, 3))]
theorem ok21_d_model_0_16 : dcs cX10_feast tb21_d_model_0_16 = true := by decide +kernel
theorem dX10_feast_0 : decode cX10_feast 0 = .ok (.aload_n 0, 1) := dcs_at ok21_d_model_0_16 0 rfl
theorem dX10_feast_1 : decode cX10_feast 1 = .ok (.iconst 0, 1) := dcs_at ok21_d_model_0_16 1 rfl
theorem dX10_feast_2 : decode cX10_feast 2 = .ok (.putfield 80, 3) := dcs_at ok21_d_model_0_16 2 rfl
theorem dX10_feast_5 : decode cX10_feast 5 = .ok (.aload_n 0, 1) := dcs_at ok21_d_model_0_16 3 rfl
theorem dX10_feast_6 : decode cX10_feast 6 = .ok (.iload_n 1, 1) := dcs_at ok21_d_model_0_16 4 rfl
theorem dX10_feast_7 : decode cX10_feast 7 = .ok (.iload_n 2, 1) := dcs_at ok21_d_model_0_16 5 rfl
theorem dX10_feast_8 : decode cX10_feast 8 = .ok (.iload_n 3, 1) := dcs_at ok21_d_model_0_16 6 rfl
theorem dX10_feast_9 : decode cX10_feast 9 = .ok (.invokevirtual 332, 3) := dcs_at ok21_d_model_0_16 7 rfl
theorem dX10_feast_12 : decode cX10_feast 12 = .ok (.ifCond .eq 13, 3) := dcs_at ok21_d_model_0_16 8 rfl
theorem dX10_feast_15 : decode cX10_feast 15 = .ok (.iload 4, 2) := dcs_at ok21_d_model_0_16 9 rfl
theorem dX10_feast_17 : decode cX10_feast 17 = .ok (.iconst 0, 1) := dcs_at ok21_d_model_0_16 10 rfl
theorem dX10_feast_18 : decode cX10_feast 18 = .ok (.iconst 3, 1) := dcs_at ok21_d_model_0_16 11 rfl
theorem dX10_feast_19 : decode cX10_feast 19 = .ok (.invokestatic 92, 3) := dcs_at ok21_d_model_0_16 12 rfl
theorem dX10_feast_22 : decode cX10_feast 22 = .ok (.ifCond .ne 6, 3) := dcs_at ok21_d_model_0_16 13 rfl
theorem dX10_feast_25 : decode cX10_feast 25 = .ok (.bipush (-2), 2) := dcs_at ok21_d_model_0_16 14 rfl
theorem dX10_feast_27 : decode cX10_feast 27 = .ok (.ireturn, 1) := dcs_at ok21_d_model_0_16 15 rfl
theorem dX10_feast_28 : decode cX10_feast 28 = .ok (.iconst 0, 1) := dcs_at ok21_d_model_0_16 16 rfl
theorem dX10_feast_29 : decode cX10_feast 29 = .ok (.istore 5, 2) := dcs_at ok21_d_model_0_16 17 rfl
theorem dX10_feast_31 : decode cX10_feast 31 = .ok (.iconst 0, 1) := dcs_at ok21_d_model_0_16 18 rfl
theorem dX10_feast_32 : decode cX10_feast 32 = .ok (.istore 6, 2) := dcs_at ok21_d_model_0_16 19 rfl
theorem dX10_feast_34 : decode cX10_feast 34 = .ok (.iconst 0, 1) := dcs_at ok21_d_model_0_16 20 rfl
theorem dX10_feast_35 : decode cX10_feast 35 = .ok (.istore 7, 2) := dcs_at ok21_d_model_0_16 21 rfl
theorem dX10_feast_37 : decode cX10_feast 37 = .ok (.iconst 1, 1) := dcs_at ok21_d_model_0_16 22 rfl
theorem dX10_feast_38 : decode cX10_feast 38 = .ok (.istore 8, 2) := dcs_at ok21_d_model_0_16 23 rfl
theorem dX10_feast_40 : decode cX10_feast 40 = .ok (.iload 8, 2) := dcs_at ok21_d_model_0_16 24 rfl
theorem dX10_feast_42 : decode cX10_feast 42 = .ok (.iconst 1, 1) := dcs_at ok21_d_model_0_16 25 rfl
theorem dX10_feast_43 : decode cX10_feast 43 = .ok (.aload_n 0, 1) := dcs_at ok21_d_model_0_16 26 rfl
theorem dX10_feast_44 : decode cX10_feast 44 = .ok (.getfield 231, 3) := dcs_at ok21_d_model_0_16 27 rfl
theorem dX10_feast_47 : decode cX10_feast 47 = .ok (.ishl, 1) := dcs_at ok21_d_model_0_16 28 rfl
theorem dX10_feast_48 : decode cX10_feast 48 = .ok (.if_icmp .ge 105, 3) := dcs_at ok21_d_model_0_16 29 rfl
theorem dX10_feast_51 : decode cX10_feast 51 = .ok (.iload 8, 2) := dcs_at ok21_d_model_0_16 30 rfl
theorem dX10_feast_53 : decode cX10_feast 53 = .ok (.aload_n 0, 1) := dcs_at ok21_d_model_0_16 31 rfl
theorem dX10_feast_54 : decode cX10_feast 54 = .ok (.getfield 267, 3) := dcs_at ok21_d_model_0_16 32 rfl
theorem dX10_feast_57 : decode cX10_feast 57 = .ok (.iconst (-1), 1) := dcs_at ok21_d_model_0_16 33 rfl
theorem dX10_feast_58 : decode cX10_feast 58 = .ok (.ixor, 1) := dcs_at ok21_d_model_0_16 34 rfl
theorem dX10_feast_59 : decode cX10_feast 59 = .ok (.iand, 1) := dcs_at ok21_d_model_0_16 35 rfl
theorem dX10_feast_60 : decode cX10_feast 60 = .ok (.ifCond .ne 87, 3) := dcs_at ok21_d_model_0_16 36 rfl
theorem dX10_feast_63 : decode cX10_feast 63 = .ok (.aload_n 0, 1) := dcs_at ok21_d_model_0_16 37 rfl
theorem dX10_feast_64 : decode cX10_feast 64 = .ok (.iload 8, 2) := dcs_at ok21_d_model_0_16 38 rfl
theorem dX10_feast_66 : decode cX10_feast 66 = .ok (.invokevirtual 365, 3) := dcs_at ok21_d_model_0_16 39 rfl
def tb21_d_model_0_17 : List (Nat × (Instr × Nat)) := [(69, (.ifCond .eq 78, 3)), (72, (.iload 8, 2)), (74, (.invokestatic 368, 3)), (77, (.iload 5, 2)), (79, (.invokestatic 368, 3)), (82, (.isub, 1)), (83, (.istore 9, 2)), (85, (.iload 6, 2)), (87, (.iload 7, 2)), (89, (.iadd, 1)), (90, (.aload_n 0, 1)), (91, (.getfield 359, 3)), (94, (.isub, 1)), (95, (.aload_n 0, 1)), (96, (.getfield 362, 3)), (99, (.isub, 1)), (100, (.istore 10, 2)), (102, (.iload 9, 2)), (104, (.ifCond .gt 27, 3)), (107, (.iload 9, 2)), (109, (.ifCond .ne 38, 3)), (112, (.iload 10, 2)), (114, (.ifCond .gt 17, 3)), (117, (.iload 10, 2)), (119, (.ifCond .ne 28, 3)), (122, (.aload_n 0, 1)), (123, (.getfield 359, 3)), (126, (.iload 6, 2)), (128, (.if_icmp .ge 19, 3)), (131, (.iload 8, 2)), (133, (.istore 5, 2)), (135, (.aload_n 0, 1)), (136, (.getfield 359, 3)), (139, (.istore 6, 2)), (141, (.aload_n 0, 1)), (142, (.getfield 362, 3)), (145, (.istore 7, 2)), (147, (.iinc 8 1, 3)), (150, (.goto (-110), 3)), (153, (.iload 4, 2))]
theorem ok21_d_model_0_17 : dcs cX10_feast tb21_d_model_0_17 = true := by decide +kernel
theorem dX10_feast_69 : decode cX10_feast 69 = .ok (.ifCond .eq 78, 3) := dcs_at ok21_d_model_0_17 0 rfl
theorem dX10_feast_72 : decode cX10_feast 72 = .ok (.iload 8, 2) := dcs_at ok21_d_model_0_17 1 rfl
theorem dX10_feast_74 : decode cX10_feast 74 = .ok (.invokestatic 368, 3) := dcs_at ok21_d_model_0_17 2 rfl
theorem dX10_feast_77 : decode cX10_feast 77 = .ok (.iload 5, 2) := dcs_at ok21_d_model_0_17 3 rfl
theorem dX10_feast_79 : decode cX10_feast 79 = .ok (.invokestatic 368, 3) := dcs_at ok21_d_model_0_17 4 rfl
theorem dX10_feast_82 : decode cX10_feast 82 = .ok (.isub, 1) := dcs_at ok21_d_model_0_17 5 rfl
theorem dX10_feast_83 : decode cX10_feast 83 = .ok (.istore 9, 2) := dcs_at ok21_d_model_0_17 6 rfl
theorem dX10_feast_85 : decode cX10_feast 85 = .ok (.iload 6, 2) := dcs_at ok21_d_model_0_17 7 rfl
theorem dX10_feast_87 : decode cX10_feast 87 = .ok (.iload 7, 2) := dcs_at ok21_d_model_0_17 8 rfl
theorem dX10_feast_89 : decode cX10_feast 89 = .ok (.iadd, 1) := dcs_at ok21_d_model_0_17 9 rfl
theorem dX10_feast_90 : decode cX10_feast 90 = .ok (.aload_n 0, 1) := dcs_at ok21_d_model_0_17 10 rfl
theorem dX10_feast_91 : decode cX10_feast 91 = .ok (.getfield 359, 3) := dcs_at ok21_d_model_0_17 11 rfl
theorem dX10_feast_94 : decode cX10_feast 94 = .ok (.isub, 1) := dcs_at ok21_d_model_0_17 12 rfl
theorem dX10_feast_95 : decode cX10_feast 95 = .ok (.aload_n 0, 1) := dcs_at ok21_d_model_0_17 13 rfl
theorem dX10_feast_96 : decode cX10_feast 96 = .ok (.getfield 362, 3) := dcs_at ok21_d_model_0_17 14 rfl
theorem dX10_feast_99 : decode cX10_feast 99 = .ok (.isub, 1) := dcs_at ok21_d_model_0_17 15 rfl
theorem dX10_feast_100 : decode cX10_feast 100 = .ok (.istore 10, 2) := dcs_at ok21_d_model_0_17 16 rfl
theorem dX10_feast_102 : decode cX10_feast 102 = .ok (.iload 9, 2) := dcs_at ok21_d_model_0_17 17 rfl
theorem dX10_feast_104 : decode cX10_feast 104 = .ok (.ifCond .gt 27, 3) := dcs_at ok21_d_model_0_17 18 rfl
theorem dX10_feast_107 : decode cX10_feast 107 = .ok (.iload 9, 2) := dcs_at ok21_d_model_0_17 19 rfl
theorem dX10_feast_109 : decode cX10_feast 109 = .ok (.ifCond .ne 38, 3) := dcs_at ok21_d_model_0_17 20 rfl
theorem dX10_feast_112 : decode cX10_feast 112 = .ok (.iload 10, 2) := dcs_at ok21_d_model_0_17 21 rfl
theorem dX10_feast_114 : decode cX10_feast 114 = .ok (.ifCond .gt 17, 3) := dcs_at ok21_d_model_0_17 22 rfl
theorem dX10_feast_117 : decode cX10_feast 117 = .ok (.iload 10, 2) := dcs_at ok21_d_model_0_17 23 rfl
theorem dX10_feast_119 : decode cX10_feast 119 = .ok (.ifCond .ne 28, 3) := dcs_at ok21_d_model_0_17 24 rfl
theorem dX10_feast_122 : decode cX10_feast 122 = .ok (.aload_n 0, 1) := dcs_at ok21_d_model_0_17 25 rfl
theorem dX10_feast_123 : decode cX10_feast 123 = .ok (.getfield 359, 3) := dcs_at ok21_d_model_0_17 26 rfl
theorem dX10_feast_126 : decode cX10_feast 126 = .ok (.iload 6, 2) := dcs_at ok21_d_model_0_17 27 rfl
theorem dX10_feast_128 : decode cX10_feast 128 = .ok (.if_icmp .ge 19, 3) := dcs_at ok21_d_model_0_17 28 rfl
theorem dX10_feast_131 : decode cX10_feast 131 = .ok (.iload 8, 2) := dcs_at ok21_d_model_0_17 29 rfl
theorem dX10_feast_133 : decode cX10_feast 133 = .ok (.istore 5, 2) := dcs_at ok21_d_model_0_17 30 rfl
theorem dX10_feast_135 : decode cX10_feast 135 = .ok (.aload_n 0, 1) := dcs_at ok21_d_model_0_17 31 rfl
theorem dX10_feast_136 : decode cX10_feast 136 = .ok (.getfield 359, 3) := dcs_at ok21_d_model_0_17 32 rfl
theorem dX10_feast_139 : decode cX10_feast 139 = .ok (.istore 6, 2) := dcs_at ok21_d_model_0_17 33 rfl
theorem dX10_feast_141 : decode cX10_feast 141 = .ok (.aload_n 0, 1) := dcs_at ok21_d_model_0_17 34 rfl
theorem dX10_feast_142 : decode cX10_feast 142 = .ok (.getfield 362, 3) := dcs_at ok21_d_model_0_17 35 rfl
theorem dX10_feast_145 : decode cX10_feast 145 = .ok (.istore 7, 2) := dcs_at ok21_d_model_0_17 36 rfl
theorem dX10_feast_147 : decode cX10_feast 147 = .ok (.iinc 8 1, 3) := dcs_at ok21_d_model_0_17 37 rfl
theorem dX10_feast_150 : decode cX10_feast 150 = .ok (.goto (-110), 3) := dcs_at ok21_d_model_0_17 38 rfl
theorem dX10_feast_153 : decode cX10_feast 153 = .ok (.iload 4, 2) := dcs_at ok21_d_model_0_17 39 rfl
def tb21_d_model_0_18 : List (Nat × (Instr × Nat)) := [(155, (.ifCond .ne 11, 3)), (158, (.iload 5, 2)), (160, (.invokestatic 368, 3)), (163, (.goto 27, 3)), (166, (.iload 4, 2)), (168, (.iconst 1, 1)), (169, (.if_icmp .ne 8, 3)), (172, (.iload 5, 2)), (174, (.goto 16, 3)), (177, (.iload 4, 2)), (179, (.iconst 2, 1)), (180, (.if_icmp .ne 8, 3)), (183, (.iload 6, 2)), (185, (.goto 5, 3)), (188, (.iload 7, 2)), (190, (.ireturn, 1))]
theorem ok21_d_model_0_18 : dcs cX10_feast tb21_d_model_0_18 = true := by decide +kernel
theorem dX10_feast_155 : decode cX10_feast 155 = .ok (.ifCond .ne 11, 3) := dcs_at ok21_d_model_0_18 0 rfl
theorem dX10_feast_158 : decode cX10_feast 158 = .ok (.iload 5, 2) := dcs_at ok21_d_model_0_18 1 rfl
theorem dX10_feast_160 : decode cX10_feast 160 = .ok (.invokestatic 368, 3) := dcs_at ok21_d_model_0_18 2 rfl
theorem dX10_feast_163 : decode cX10_feast 163 = .ok (.goto 27, 3) := dcs_at ok21_d_model_0_18 3 rfl
theorem dX10_feast_166 : decode cX10_feast 166 = .ok (.iload 4, 2) := dcs_at ok21_d_model_0_18 4 rfl
theorem dX10_feast_168 : decode cX10_feast 168 = .ok (.iconst 1, 1) := dcs_at ok21_d_model_0_18 5 rfl
theorem dX10_feast_169 : decode cX10_feast 169 = .ok (.if_icmp .ne 8, 3) := dcs_at ok21_d_model_0_18 6 rfl
theorem dX10_feast_172 : decode cX10_feast 172 = .ok (.iload 5, 2) := dcs_at ok21_d_model_0_18 7 rfl
theorem dX10_feast_174 : decode cX10_feast 174 = .ok (.goto 16, 3) := dcs_at ok21_d_model_0_18 8 rfl
theorem dX10_feast_177 : decode cX10_feast 177 = .ok (.iload 4, 2) := dcs_at ok21_d_model_0_18 9 rfl
theorem dX10_feast_179 : decode cX10_feast 179 = .ok (.iconst 2, 1) := dcs_at ok21_d_model_0_18 10 rfl
theorem dX10_feast_180 : decode cX10_feast 180 = .ok (.if_icmp .ne 8, 3) := dcs_at ok21_d_model_0_18 11 rfl
theorem dX10_feast_183 : decode cX10_feast 183 = .ok (.iload 6, 2) := dcs_at ok21_d_model_0_18 12 rfl
theorem dX10_feast_185 : decode cX10_feast 185 = .ok (.goto 5, 3) := dcs_at ok21_d_model_0_18 13 rfl
theorem dX10_feast_188 : decode cX10_feast 188 = .ok (.iload 7, 2) := dcs_at ok21_d_model_0_18 14 rfl
theorem dX10_feast_190 : decode cX10_feast 190 = .ok (.ireturn, 1) := dcs_at ok21_d_model_0_18 15 rfl
