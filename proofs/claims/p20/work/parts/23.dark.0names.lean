def tb23_dark_0_1 : List (Nat × (Instr × Nat)) := [(0, (.aload_n 0, 1)), (1, (.iload_n 1, 1)), (2, (.putfield 386, 3)), (5, (.aload_n 0, 1)), (6, (.aload_n 0, 1)), (7, (.iconst 2, 1)), (8, (.iload_n 1, 1)), (9, (.invokevirtual 211, 3)), (12, (.ifCond .eq 15, 3)), (15, (.aload_n 0, 1)), (16, (.getfield 32, 3)), (19, (.bipush 7, 2)), (21, (.iload_n 1, 1)), (22, (.imul, 1)), (23, (.iaload, 1)), (24, (.goto 4, 3)), (27, (.iconst 0, 1)), (28, (.putfield 389, 3)), (31, (.aload_n 0, 1)), (32, (.iconst 2, 1)), (33, (.iload_n 1, 1)), (34, (.invokevirtual 211, 3)), (37, (.ireturn, 1))]
theorem ok23_dark_0_1 : dcs cX10_hasDark tb23_dark_0_1 = true := by decide +kernel
theorem dX10_hasDark_0 : decode cX10_hasDark 0 = .ok (.aload_n 0, 1) := dcs_at ok23_dark_0_1 0 rfl
theorem dX10_hasDark_1 : decode cX10_hasDark 1 = .ok (.iload_n 1, 1) := dcs_at ok23_dark_0_1 1 rfl
theorem dX10_hasDark_2 : decode cX10_hasDark 2 = .ok (.putfield 386, 3) := dcs_at ok23_dark_0_1 2 rfl
theorem dX10_hasDark_5 : decode cX10_hasDark 5 = .ok (.aload_n 0, 1) := dcs_at ok23_dark_0_1 3 rfl
theorem dX10_hasDark_6 : decode cX10_hasDark 6 = .ok (.aload_n 0, 1) := dcs_at ok23_dark_0_1 4 rfl
theorem dX10_hasDark_7 : decode cX10_hasDark 7 = .ok (.iconst 2, 1) := dcs_at ok23_dark_0_1 5 rfl
theorem dX10_hasDark_8 : decode cX10_hasDark 8 = .ok (.iload_n 1, 1) := dcs_at ok23_dark_0_1 6 rfl
theorem dX10_hasDark_9 : decode cX10_hasDark 9 = .ok (.invokevirtual 211, 3) := dcs_at ok23_dark_0_1 7 rfl
theorem dX10_hasDark_12 : decode cX10_hasDark 12 = .ok (.ifCond .eq 15, 3) := dcs_at ok23_dark_0_1 8 rfl
theorem dX10_hasDark_15 : decode cX10_hasDark 15 = .ok (.aload_n 0, 1) := dcs_at ok23_dark_0_1 9 rfl
theorem dX10_hasDark_16 : decode cX10_hasDark 16 = .ok (.getfield 32, 3) := dcs_at ok23_dark_0_1 10 rfl
theorem dX10_hasDark_19 : decode cX10_hasDark 19 = .ok (.bipush 7, 2) := dcs_at ok23_dark_0_1 11 rfl
theorem dX10_hasDark_21 : decode cX10_hasDark 21 = .ok (.iload_n 1, 1) := dcs_at ok23_dark_0_1 12 rfl
theorem dX10_hasDark_22 : decode cX10_hasDark 22 = .ok (.imul, 1) := dcs_at ok23_dark_0_1 13 rfl
theorem dX10_hasDark_23 : decode cX10_hasDark 23 = .ok (.iaload, 1) := dcs_at ok23_dark_0_1 14 rfl
theorem dX10_hasDark_24 : decode cX10_hasDark 24 = .ok (.goto 4, 3) := dcs_at ok23_dark_0_1 15 rfl
theorem dX10_hasDark_27 : decode cX10_hasDark 27 = .ok (.iconst 0, 1) := dcs_at ok23_dark_0_1 16 rfl
theorem dX10_hasDark_28 : decode cX10_hasDark 28 = .ok (.putfield 389, 3) := dcs_at ok23_dark_0_1 17 rfl
theorem dX10_hasDark_31 : decode cX10_hasDark 31 = .ok (.aload_n 0, 1) := dcs_at ok23_dark_0_1 18 rfl
theorem dX10_hasDark_32 : decode cX10_hasDark 32 = .ok (.iconst 2, 1) := dcs_at ok23_dark_0_1 19 rfl
theorem dX10_hasDark_33 : decode cX10_hasDark 33 = .ok (.iload_n 1, 1) := dcs_at ok23_dark_0_1 20 rfl
theorem dX10_hasDark_34 : decode cX10_hasDark 34 = .ok (.invokevirtual 211, 3) := dcs_at ok23_dark_0_1 21 rfl
theorem dX10_hasDark_37 : decode cX10_hasDark 37 = .ok (.ireturn, 1) := dcs_at ok23_dark_0_1 22 rfl
def tb23_dark_0_2 : List (Nat × (Instr × Nat)) := [(0, (.aload_n 0, 1)), (1, (.getfield 32, 3)), (4, (.bipush 7, 2)), (6, (.aload_n 0, 1)), (7, (.getfield 386, 3)), (10, (.imul, 1)), (11, (.iconst 1, 1)), (12, (.iadd, 1)), (13, (.iload_n 1, 1)), (14, (.iadd, 1)), (15, (.iaload, 1)), (16, (.ireturn, 1))]
theorem ok23_dark_0_2 : dcs cX10_heardOf tb23_dark_0_2 = true := by decide +kernel
theorem dX10_heardOf_0 : decode cX10_heardOf 0 = .ok (.aload_n 0, 1) := dcs_at ok23_dark_0_2 0 rfl
theorem dX10_heardOf_1 : decode cX10_heardOf 1 = .ok (.getfield 32, 3) := dcs_at ok23_dark_0_2 1 rfl
theorem dX10_heardOf_4 : decode cX10_heardOf 4 = .ok (.bipush 7, 2) := dcs_at ok23_dark_0_2 2 rfl
theorem dX10_heardOf_6 : decode cX10_heardOf 6 = .ok (.aload_n 0, 1) := dcs_at ok23_dark_0_2 3 rfl
theorem dX10_heardOf_7 : decode cX10_heardOf 7 = .ok (.getfield 386, 3) := dcs_at ok23_dark_0_2 4 rfl
theorem dX10_heardOf_10 : decode cX10_heardOf 10 = .ok (.imul, 1) := dcs_at ok23_dark_0_2 5 rfl
theorem dX10_heardOf_11 : decode cX10_heardOf 11 = .ok (.iconst 1, 1) := dcs_at ok23_dark_0_2 6 rfl
theorem dX10_heardOf_12 : decode cX10_heardOf 12 = .ok (.iadd, 1) := dcs_at ok23_dark_0_2 7 rfl
theorem dX10_heardOf_13 : decode cX10_heardOf 13 = .ok (.iload_n 1, 1) := dcs_at ok23_dark_0_2 8 rfl
theorem dX10_heardOf_14 : decode cX10_heardOf 14 = .ok (.iadd, 1) := dcs_at ok23_dark_0_2 9 rfl
theorem dX10_heardOf_15 : decode cX10_heardOf 15 = .ok (.iaload, 1) := dcs_at ok23_dark_0_2 10 rfl
theorem dX10_heardOf_16 : decode cX10_heardOf 16 = .ok (.ireturn, 1) := dcs_at ok23_dark_0_2 11 rfl
def tb23_dark_0_3 : List (Nat × (Instr × Nat)) := [(0, (.aload_n 0, 1)), (1, (.iconst 0, 1)), (2, (.putfield 80, 3)), (5, (.aload_n 0, 1)), (6, (.iload_n 1, 1)), (7, (.invokevirtual 392, 3)), (10, (.ifCond .ne 6, 3)), (13, (.bipush (-2), 2)), (15, (.ireturn, 1)), (16, (.iload_n 2, 1)), (17, (.iconst (-1), 1)), (18, (.if_icmp .ne 10, 3)), (21, (.aload_n 0, 1)), (22, (.getfield 389, 3)), (25, (.goto 27, 3)), (28, (.iload_n 2, 1)), (29, (.iconst 0, 1)), (30, (.aload_n 0, 1)), (31, (.getfield 389, 3)), (34, (.iconst 1, 1)), (35, (.isub, 1)), (36, (.invokestatic 92, 3)), (39, (.ifCond .eq 11, 3)), (42, (.aload_n 0, 1)), (43, (.iload_n 2, 1)), (44, (.invokevirtual 395, 3)), (47, (.goto 5, 3)), (50, (.bipush (-2), 2)), (52, (.ireturn, 1))]
theorem ok23_dark_0_3 : dcs cX10_heard tb23_dark_0_3 = true := by decide +kernel
theorem dX10_heard_0 : decode cX10_heard 0 = .ok (.aload_n 0, 1) := dcs_at ok23_dark_0_3 0 rfl
theorem dX10_heard_1 : decode cX10_heard 1 = .ok (.iconst 0, 1) := dcs_at ok23_dark_0_3 1 rfl
theorem dX10_heard_2 : decode cX10_heard 2 = .ok (.putfield 80, 3) := dcs_at ok23_dark_0_3 2 rfl
theorem dX10_heard_5 : decode cX10_heard 5 = .ok (.aload_n 0, 1) := dcs_at ok23_dark_0_3 3 rfl
theorem dX10_heard_6 : decode cX10_heard 6 = .ok (.iload_n 1, 1) := dcs_at ok23_dark_0_3 4 rfl
theorem dX10_heard_7 : decode cX10_heard 7 = .ok (.invokevirtual 392, 3) := dcs_at ok23_dark_0_3 5 rfl
theorem dX10_heard_10 : decode cX10_heard 10 = .ok (.ifCond .ne 6, 3) := dcs_at ok23_dark_0_3 6 rfl
theorem dX10_heard_13 : decode cX10_heard 13 = .ok (.bipush (-2), 2) := dcs_at ok23_dark_0_3 7 rfl
theorem dX10_heard_15 : decode cX10_heard 15 = .ok (.ireturn, 1) := dcs_at ok23_dark_0_3 8 rfl
theorem dX10_heard_16 : decode cX10_heard 16 = .ok (.iload_n 2, 1) := dcs_at ok23_dark_0_3 9 rfl
theorem dX10_heard_17 : decode cX10_heard 17 = .ok (.iconst (-1), 1) := dcs_at ok23_dark_0_3 10 rfl
theorem dX10_heard_18 : decode cX10_heard 18 = .ok (.if_icmp .ne 10, 3) := dcs_at ok23_dark_0_3 11 rfl
theorem dX10_heard_21 : decode cX10_heard 21 = .ok (.aload_n 0, 1) := dcs_at ok23_dark_0_3 12 rfl
theorem dX10_heard_22 : decode cX10_heard 22 = .ok (.getfield 389, 3) := dcs_at ok23_dark_0_3 13 rfl
theorem dX10_heard_25 : decode cX10_heard 25 = .ok (.goto 27, 3) := dcs_at ok23_dark_0_3 14 rfl
theorem dX10_heard_28 : decode cX10_heard 28 = .ok (.iload_n 2, 1) := dcs_at ok23_dark_0_3 15 rfl
theorem dX10_heard_29 : decode cX10_heard 29 = .ok (.iconst 0, 1) := dcs_at ok23_dark_0_3 16 rfl
theorem dX10_heard_30 : decode cX10_heard 30 = .ok (.aload_n 0, 1) := dcs_at ok23_dark_0_3 17 rfl
theorem dX10_heard_31 : decode cX10_heard 31 = .ok (.getfield 389, 3) := dcs_at ok23_dark_0_3 18 rfl
theorem dX10_heard_34 : decode cX10_heard 34 = .ok (.iconst 1, 1) := dcs_at ok23_dark_0_3 19 rfl
theorem dX10_heard_35 : decode cX10_heard 35 = .ok (.isub, 1) := dcs_at ok23_dark_0_3 20 rfl
theorem dX10_heard_36 : decode cX10_heard 36 = .ok (.invokestatic 92, 3) := dcs_at ok23_dark_0_3 21 rfl
theorem dX10_heard_39 : decode cX10_heard 39 = .ok (.ifCond .eq 11, 3) := dcs_at ok23_dark_0_3 22 rfl
theorem dX10_heard_42 : decode cX10_heard 42 = .ok (.aload_n 0, 1) := dcs_at ok23_dark_0_3 23 rfl
theorem dX10_heard_43 : decode cX10_heard 43 = .ok (.iload_n 2, 1) := dcs_at ok23_dark_0_3 24 rfl
theorem dX10_heard_44 : decode cX10_heard 44 = .ok (.invokevirtual 395, 3) := dcs_at ok23_dark_0_3 25 rfl
theorem dX10_heard_47 : decode cX10_heard 47 = .ok (.goto 5, 3) := dcs_at ok23_dark_0_3 26 rfl
theorem dX10_heard_50 : decode cX10_heard 50 = .ok (.bipush (-2), 2) := dcs_at ok23_dark_0_3 27 rfl
theorem dX10_heard_52 : decode cX10_heard 52 = .ok (.ireturn, 1) := dcs_at ok23_dark_0_3 28 rfl
def tb23_dark_0_4 : List (Nat × (Instr × Nat)) := [(0, (.iload_n 1, 1)), (1, (.istore_n 3, 1)), (2, (.iconst 0, 1)), (3, (.istore 4, 2)), (5, (.iload 4, 2)), (7, (.aload_n 0, 1)), (8, (.getfield 228, 3)), (11, (.if_icmp .ge 61, 3)), (14, (.iload_n 2, 1)), (15, (.iload 4, 2)), (17, (.invokestatic 84, 3)), (20, (.ifCond .eq 46, 3)), (23, (.iload_n 1, 1)), (24, (.aload_n 0, 1)), (25, (.getfield 73, 3)), (28, (.iload 4, 2)), (30, (.iaload, 1)), (31, (.idiv, 1)), (32, (.bipush 7, 2)), (34, (.irem, 1)), (35, (.bipush 6, 2)), (37, (.aload_n 0, 1)), (38, (.bipush 6, 2)), (40, (.iconst 2, 1)), (41, (.iload 4, 2)), (43, (.imul, 1)), (44, (.iadd, 1)), (45, (.invokevirtual 224, 3)), (48, (.invokestatic 170, 3)), (51, (.if_icmp .lt 5, 3)), (54, (.iconst (-1), 1)), (55, (.ireturn, 1)), (56, (.iload_n 3, 1)), (57, (.aload_n 0, 1)), (58, (.getfield 73, 3)), (61, (.iload 4, 2)), (63, (.iaload, 1)), (64, (.iadd, 1)), (65, (.istore_n 3, 1)), (66, (.iinc 4 1, 3))]
theorem ok23_dark_0_4 : dcs cX10_after tb23_dark_0_4 = true := by decide +kernel
theorem dX10_after_0 : decode cX10_after 0 = .ok (.iload_n 1, 1) := dcs_at ok23_dark_0_4 0 rfl
theorem dX10_after_1 : decode cX10_after 1 = .ok (.istore_n 3, 1) := dcs_at ok23_dark_0_4 1 rfl
theorem dX10_after_2 : decode cX10_after 2 = .ok (.iconst 0, 1) := dcs_at ok23_dark_0_4 2 rfl
theorem dX10_after_3 : decode cX10_after 3 = .ok (.istore 4, 2) := dcs_at ok23_dark_0_4 3 rfl
theorem dX10_after_5 : decode cX10_after 5 = .ok (.iload 4, 2) := dcs_at ok23_dark_0_4 4 rfl
theorem dX10_after_7 : decode cX10_after 7 = .ok (.aload_n 0, 1) := dcs_at ok23_dark_0_4 5 rfl
theorem dX10_after_8 : decode cX10_after 8 = .ok (.getfield 228, 3) := dcs_at ok23_dark_0_4 6 rfl
theorem dX10_after_11 : decode cX10_after 11 = .ok (.if_icmp .ge 61, 3) := dcs_at ok23_dark_0_4 7 rfl
theorem dX10_after_14 : decode cX10_after 14 = .ok (.iload_n 2, 1) := dcs_at ok23_dark_0_4 8 rfl
theorem dX10_after_15 : decode cX10_after 15 = .ok (.iload 4, 2) := dcs_at ok23_dark_0_4 9 rfl
theorem dX10_after_17 : decode cX10_after 17 = .ok (.invokestatic 84, 3) := dcs_at ok23_dark_0_4 10 rfl
theorem dX10_after_20 : decode cX10_after 20 = .ok (.ifCond .eq 46, 3) := dcs_at ok23_dark_0_4 11 rfl
theorem dX10_after_23 : decode cX10_after 23 = .ok (.iload_n 1, 1) := dcs_at ok23_dark_0_4 12 rfl
theorem dX10_after_24 : decode cX10_after 24 = .ok (.aload_n 0, 1) := dcs_at ok23_dark_0_4 13 rfl
theorem dX10_after_25 : decode cX10_after 25 = .ok (.getfield 73, 3) := dcs_at ok23_dark_0_4 14 rfl
theorem dX10_after_28 : decode cX10_after 28 = .ok (.iload 4, 2) := dcs_at ok23_dark_0_4 15 rfl
theorem dX10_after_30 : decode cX10_after 30 = .ok (.iaload, 1) := dcs_at ok23_dark_0_4 16 rfl
theorem dX10_after_31 : decode cX10_after 31 = .ok (.idiv, 1) := dcs_at ok23_dark_0_4 17 rfl
theorem dX10_after_32 : decode cX10_after 32 = .ok (.bipush 7, 2) := dcs_at ok23_dark_0_4 18 rfl
theorem dX10_after_34 : decode cX10_after 34 = .ok (.irem, 1) := dcs_at ok23_dark_0_4 19 rfl
theorem dX10_after_35 : decode cX10_after 35 = .ok (.bipush 6, 2) := dcs_at ok23_dark_0_4 20 rfl
theorem dX10_after_37 : decode cX10_after 37 = .ok (.aload_n 0, 1) := dcs_at ok23_dark_0_4 21 rfl
theorem dX10_after_38 : decode cX10_after 38 = .ok (.bipush 6, 2) := dcs_at ok23_dark_0_4 22 rfl
theorem dX10_after_40 : decode cX10_after 40 = .ok (.iconst 2, 1) := dcs_at ok23_dark_0_4 23 rfl
theorem dX10_after_41 : decode cX10_after 41 = .ok (.iload 4, 2) := dcs_at ok23_dark_0_4 24 rfl
theorem dX10_after_43 : decode cX10_after 43 = .ok (.imul, 1) := dcs_at ok23_dark_0_4 25 rfl
theorem dX10_after_44 : decode cX10_after 44 = .ok (.iadd, 1) := dcs_at ok23_dark_0_4 26 rfl
theorem dX10_after_45 : decode cX10_after 45 = .ok (.invokevirtual 224, 3) := dcs_at ok23_dark_0_4 27 rfl
theorem dX10_after_48 : decode cX10_after 48 = .ok (.invokestatic 170, 3) := dcs_at ok23_dark_0_4 28 rfl
theorem dX10_after_51 : decode cX10_after 51 = .ok (.if_icmp .lt 5, 3) := dcs_at ok23_dark_0_4 29 rfl
theorem dX10_after_54 : decode cX10_after 54 = .ok (.iconst (-1), 1) := dcs_at ok23_dark_0_4 30 rfl
theorem dX10_after_55 : decode cX10_after 55 = .ok (.ireturn, 1) := dcs_at ok23_dark_0_4 31 rfl
theorem dX10_after_56 : decode cX10_after 56 = .ok (.iload_n 3, 1) := dcs_at ok23_dark_0_4 32 rfl
theorem dX10_after_57 : decode cX10_after 57 = .ok (.aload_n 0, 1) := dcs_at ok23_dark_0_4 33 rfl
theorem dX10_after_58 : decode cX10_after 58 = .ok (.getfield 73, 3) := dcs_at ok23_dark_0_4 34 rfl
theorem dX10_after_61 : decode cX10_after 61 = .ok (.iload 4, 2) := dcs_at ok23_dark_0_4 35 rfl
theorem dX10_after_63 : decode cX10_after 63 = .ok (.iaload, 1) := dcs_at ok23_dark_0_4 36 rfl
theorem dX10_after_64 : decode cX10_after 64 = .ok (.iadd, 1) := dcs_at ok23_dark_0_4 37 rfl
theorem dX10_after_65 : decode cX10_after 65 = .ok (.istore_n 3, 1) := dcs_at ok23_dark_0_4 38 rfl
theorem dX10_after_66 : decode cX10_after 66 = .ok (.iinc 4 1, 3) := dcs_at ok23_dark_0_4 39 rfl
def tb23_dark_0_5 : List (Nat × (Instr × Nat)) := [(69, (.goto (-64), 3)), (72, (.iload_n 3, 1)), (73, (.ireturn, 1))]
theorem ok23_dark_0_5 : dcs cX10_after tb23_dark_0_5 = true := by decide +kernel
theorem dX10_after_69 : decode cX10_after 69 = .ok (.goto (-64), 3) := dcs_at ok23_dark_0_5 0 rfl
theorem dX10_after_72 : decode cX10_after 72 = .ok (.iload_n 3, 1) := dcs_at ok23_dark_0_5 1 rfl
theorem dX10_after_73 : decode cX10_after 73 = .ok (.ireturn, 1) := dcs_at ok23_dark_0_5 2 rfl
def tb23_dark_0_6 : List (Nat × (Instr × Nat)) := [(0, (.iconst 0, 1)), (1, (.istore_n 2, 1)), (2, (.iconst 0, 1)), (3, (.istore_n 3, 1)), (4, (.iload_n 3, 1)), (5, (.aload_n 0, 1)), (6, (.getfield 228, 3)), (9, (.if_icmp .ge 29, 3)), (12, (.iload_n 2, 1)), (13, (.iload_n 1, 1)), (14, (.iload_n 3, 1)), (15, (.invokestatic 84, 3)), (18, (.ifCond .eq 11, 3)), (21, (.aload_n 0, 1)), (22, (.iload_n 3, 1)), (23, (.invokevirtual 288, 3)), (26, (.goto 4, 3)), (29, (.iconst 0, 1)), (30, (.iadd, 1)), (31, (.istore_n 2, 1)), (32, (.iinc 3 1, 3)), (35, (.goto (-31), 3)), (38, (.iload_n 2, 1)), (39, (.ireturn, 1))]
theorem ok23_dark_0_6 : dcs cX10_halvesOf tb23_dark_0_6 = true := by decide +kernel
theorem dX10_halvesOf_0 : decode cX10_halvesOf 0 = .ok (.iconst 0, 1) := dcs_at ok23_dark_0_6 0 rfl
theorem dX10_halvesOf_1 : decode cX10_halvesOf 1 = .ok (.istore_n 2, 1) := dcs_at ok23_dark_0_6 1 rfl
theorem dX10_halvesOf_2 : decode cX10_halvesOf 2 = .ok (.iconst 0, 1) := dcs_at ok23_dark_0_6 2 rfl
theorem dX10_halvesOf_3 : decode cX10_halvesOf 3 = .ok (.istore_n 3, 1) := dcs_at ok23_dark_0_6 3 rfl
theorem dX10_halvesOf_4 : decode cX10_halvesOf 4 = .ok (.iload_n 3, 1) := dcs_at ok23_dark_0_6 4 rfl
theorem dX10_halvesOf_5 : decode cX10_halvesOf 5 = .ok (.aload_n 0, 1) := dcs_at ok23_dark_0_6 5 rfl
theorem dX10_halvesOf_6 : decode cX10_halvesOf 6 = .ok (.getfield 228, 3) := dcs_at ok23_dark_0_6 6 rfl
theorem dX10_halvesOf_9 : decode cX10_halvesOf 9 = .ok (.if_icmp .ge 29, 3) := dcs_at ok23_dark_0_6 7 rfl
theorem dX10_halvesOf_12 : decode cX10_halvesOf 12 = .ok (.iload_n 2, 1) := dcs_at ok23_dark_0_6 8 rfl
theorem dX10_halvesOf_13 : decode cX10_halvesOf 13 = .ok (.iload_n 1, 1) := dcs_at ok23_dark_0_6 9 rfl
theorem dX10_halvesOf_14 : decode cX10_halvesOf 14 = .ok (.iload_n 3, 1) := dcs_at ok23_dark_0_6 10 rfl
theorem dX10_halvesOf_15 : decode cX10_halvesOf 15 = .ok (.invokestatic 84, 3) := dcs_at ok23_dark_0_6 11 rfl
theorem dX10_halvesOf_18 : decode cX10_halvesOf 18 = .ok (.ifCond .eq 11, 3) := dcs_at ok23_dark_0_6 12 rfl
theorem dX10_halvesOf_21 : decode cX10_halvesOf 21 = .ok (.aload_n 0, 1) := dcs_at ok23_dark_0_6 13 rfl
theorem dX10_halvesOf_22 : decode cX10_halvesOf 22 = .ok (.iload_n 3, 1) := dcs_at ok23_dark_0_6 14 rfl
theorem dX10_halvesOf_23 : decode cX10_halvesOf 23 = .ok (.invokevirtual 288, 3) := dcs_at ok23_dark_0_6 15 rfl
theorem dX10_halvesOf_26 : decode cX10_halvesOf 26 = .ok (.goto 4, 3) := dcs_at ok23_dark_0_6 16 rfl
theorem dX10_halvesOf_29 : decode cX10_halvesOf 29 = .ok (.iconst 0, 1) := dcs_at ok23_dark_0_6 17 rfl
theorem dX10_halvesOf_30 : decode cX10_halvesOf 30 = .ok (.iadd, 1) := dcs_at ok23_dark_0_6 18 rfl
theorem dX10_halvesOf_31 : decode cX10_halvesOf 31 = .ok (.istore_n 2, 1) := dcs_at ok23_dark_0_6 19 rfl
theorem dX10_halvesOf_32 : decode cX10_halvesOf 32 = .ok (.iinc 3 1, 3) := dcs_at ok23_dark_0_6 20 rfl
theorem dX10_halvesOf_35 : decode cX10_halvesOf 35 = .ok (.goto (-31), 3) := dcs_at ok23_dark_0_6 21 rfl
theorem dX10_halvesOf_38 : decode cX10_halvesOf 38 = .ok (.iload_n 2, 1) := dcs_at ok23_dark_0_6 22 rfl
theorem dX10_halvesOf_39 : decode cX10_halvesOf 39 = .ok (.ireturn, 1) := dcs_at ok23_dark_0_6 23 rfl
def tb23_dark_0_7 : List (Nat × (Instr × Nat)) := [(0, (.iconst 1, 1)), (1, (.istore_n 1, 1)), (2, (.iconst 0, 1)), (3, (.istore_n 2, 1)), (4, (.iload_n 2, 1)), (5, (.aload_n 0, 1)), (6, (.getfield 228, 3)), (9, (.if_icmp .ge 14, 3)), (12, (.iload_n 1, 1)), (13, (.bipush 7, 2)), (15, (.imul, 1)), (16, (.istore_n 1, 1)), (17, (.iinc 2 1, 3)), (20, (.goto (-16), 3)), (23, (.iload_n 1, 1)), (24, (.ireturn, 1))]
theorem ok23_dark_0_7 : dcs cX10_states tb23_dark_0_7 = true := by decide +kernel
theorem dX10_states_0 : decode cX10_states 0 = .ok (.iconst 1, 1) := dcs_at ok23_dark_0_7 0 rfl
theorem dX10_states_1 : decode cX10_states 1 = .ok (.istore_n 1, 1) := dcs_at ok23_dark_0_7 1 rfl
theorem dX10_states_2 : decode cX10_states 2 = .ok (.iconst 0, 1) := dcs_at ok23_dark_0_7 2 rfl
theorem dX10_states_3 : decode cX10_states 3 = .ok (.istore_n 2, 1) := dcs_at ok23_dark_0_7 3 rfl
theorem dX10_states_4 : decode cX10_states 4 = .ok (.iload_n 2, 1) := dcs_at ok23_dark_0_7 4 rfl
theorem dX10_states_5 : decode cX10_states 5 = .ok (.aload_n 0, 1) := dcs_at ok23_dark_0_7 5 rfl
theorem dX10_states_6 : decode cX10_states 6 = .ok (.getfield 228, 3) := dcs_at ok23_dark_0_7 6 rfl
theorem dX10_states_9 : decode cX10_states 9 = .ok (.if_icmp .ge 14, 3) := dcs_at ok23_dark_0_7 7 rfl
theorem dX10_states_12 : decode cX10_states 12 = .ok (.iload_n 1, 1) := dcs_at ok23_dark_0_7 8 rfl
theorem dX10_states_13 : decode cX10_states 13 = .ok (.bipush 7, 2) := dcs_at ok23_dark_0_7 9 rfl
theorem dX10_states_15 : decode cX10_states 15 = .ok (.imul, 1) := dcs_at ok23_dark_0_7 10 rfl
theorem dX10_states_16 : decode cX10_states 16 = .ok (.istore_n 1, 1) := dcs_at ok23_dark_0_7 11 rfl
theorem dX10_states_17 : decode cX10_states 17 = .ok (.iinc 2 1, 3) := dcs_at ok23_dark_0_7 12 rfl
theorem dX10_states_20 : decode cX10_states 20 = .ok (.goto (-16), 3) := dcs_at ok23_dark_0_7 13 rfl
theorem dX10_states_23 : decode cX10_states 23 = .ok (.iload_n 1, 1) := dcs_at ok23_dark_0_7 14 rfl
theorem dX10_states_24 : decode cX10_states 24 = .ok (.ireturn, 1) := dcs_at ok23_dark_0_7 15 rfl
def tb23_dark_0_8 : List (Nat × (Instr × Nat)) := [(0, (.iconst 1, 1)), (1, (.istore_n 1, 1)), (2, (.iconst 0, 1)), (3, (.istore_n 2, 1)), (4, (.iload_n 2, 1)), (5, (.iconst 5, 1)), (6, (.if_icmp .ge 21, 3)), (9, (.aload_n 0, 1)), (10, (.getfield 73, 3)), (13, (.iload_n 2, 1)), (14, (.iload_n 1, 1)), (15, (.iastore, 1)), (16, (.iload_n 1, 1)), (17, (.bipush 7, 2)), (19, (.imul, 1)), (20, (.istore_n 1, 1)), (21, (.iinc 2 1, 3)), (24, (.goto (-20), 3)), (27, (.iconst 0, 1)), (28, (.istore_n 2, 1)), (29, (.iload_n 2, 1)), (30, (.sipush 16807, 3)), (33, (.aload_n 0, 1)), (34, (.getfield 389, 3)), (37, (.iconst 1, 1)), (38, (.iadd, 1)), (39, (.imul, 1)), (40, (.if_icmp .ge 23, 3)), (43, (.aload_n 0, 1)), (44, (.getfield 66, 3)), (47, (.iload_n 2, 1)), (48, (.lconst 0, 1)), (49, (.lastore, 1)), (50, (.aload_n 0, 1)), (51, (.getfield 70, 3)), (54, (.iload_n 2, 1)), (55, (.lconst 0, 1)), (56, (.lastore, 1)), (57, (.iinc 2 1, 3)), (60, (.goto (-31), 3))]
theorem ok23_dark_0_8 : dcs cX10_findDark tb23_dark_0_8 = true := by decide +kernel
theorem dX10_findDark_0 : decode cX10_findDark 0 = .ok (.iconst 1, 1) := dcs_at ok23_dark_0_8 0 rfl
theorem dX10_findDark_1 : decode cX10_findDark 1 = .ok (.istore_n 1, 1) := dcs_at ok23_dark_0_8 1 rfl
theorem dX10_findDark_2 : decode cX10_findDark 2 = .ok (.iconst 0, 1) := dcs_at ok23_dark_0_8 2 rfl
theorem dX10_findDark_3 : decode cX10_findDark 3 = .ok (.istore_n 2, 1) := dcs_at ok23_dark_0_8 3 rfl
theorem dX10_findDark_4 : decode cX10_findDark 4 = .ok (.iload_n 2, 1) := dcs_at ok23_dark_0_8 4 rfl
theorem dX10_findDark_5 : decode cX10_findDark 5 = .ok (.iconst 5, 1) := dcs_at ok23_dark_0_8 5 rfl
theorem dX10_findDark_6 : decode cX10_findDark 6 = .ok (.if_icmp .ge 21, 3) := dcs_at ok23_dark_0_8 6 rfl
theorem dX10_findDark_9 : decode cX10_findDark 9 = .ok (.aload_n 0, 1) := dcs_at ok23_dark_0_8 7 rfl
theorem dX10_findDark_10 : decode cX10_findDark 10 = .ok (.getfield 73, 3) := dcs_at ok23_dark_0_8 8 rfl
theorem dX10_findDark_13 : decode cX10_findDark 13 = .ok (.iload_n 2, 1) := dcs_at ok23_dark_0_8 9 rfl
theorem dX10_findDark_14 : decode cX10_findDark 14 = .ok (.iload_n 1, 1) := dcs_at ok23_dark_0_8 10 rfl
theorem dX10_findDark_15 : decode cX10_findDark 15 = .ok (.iastore, 1) := dcs_at ok23_dark_0_8 11 rfl
theorem dX10_findDark_16 : decode cX10_findDark 16 = .ok (.iload_n 1, 1) := dcs_at ok23_dark_0_8 12 rfl
theorem dX10_findDark_17 : decode cX10_findDark 17 = .ok (.bipush 7, 2) := dcs_at ok23_dark_0_8 13 rfl
theorem dX10_findDark_19 : decode cX10_findDark 19 = .ok (.imul, 1) := dcs_at ok23_dark_0_8 14 rfl
theorem dX10_findDark_20 : decode cX10_findDark 20 = .ok (.istore_n 1, 1) := dcs_at ok23_dark_0_8 15 rfl
theorem dX10_findDark_21 : decode cX10_findDark 21 = .ok (.iinc 2 1, 3) := dcs_at ok23_dark_0_8 16 rfl
theorem dX10_findDark_24 : decode cX10_findDark 24 = .ok (.goto (-20), 3) := dcs_at ok23_dark_0_8 17 rfl
theorem dX10_findDark_27 : decode cX10_findDark 27 = .ok (.iconst 0, 1) := dcs_at ok23_dark_0_8 18 rfl
theorem dX10_findDark_28 : decode cX10_findDark 28 = .ok (.istore_n 2, 1) := dcs_at ok23_dark_0_8 19 rfl
theorem dX10_findDark_29 : decode cX10_findDark 29 = .ok (.iload_n 2, 1) := dcs_at ok23_dark_0_8 20 rfl
theorem dX10_findDark_30 : decode cX10_findDark 30 = .ok (.sipush 16807, 3) := dcs_at ok23_dark_0_8 21 rfl
theorem dX10_findDark_33 : decode cX10_findDark 33 = .ok (.aload_n 0, 1) := dcs_at ok23_dark_0_8 22 rfl
theorem dX10_findDark_34 : decode cX10_findDark 34 = .ok (.getfield 389, 3) := dcs_at ok23_dark_0_8 23 rfl
theorem dX10_findDark_37 : decode cX10_findDark 37 = .ok (.iconst 1, 1) := dcs_at ok23_dark_0_8 24 rfl
theorem dX10_findDark_38 : decode cX10_findDark 38 = .ok (.iadd, 1) := dcs_at ok23_dark_0_8 25 rfl
theorem dX10_findDark_39 : decode cX10_findDark 39 = .ok (.imul, 1) := dcs_at ok23_dark_0_8 26 rfl
theorem dX10_findDark_40 : decode cX10_findDark 40 = .ok (.if_icmp .ge 23, 3) := dcs_at ok23_dark_0_8 27 rfl
theorem dX10_findDark_43 : decode cX10_findDark 43 = .ok (.aload_n 0, 1) := dcs_at ok23_dark_0_8 28 rfl
theorem dX10_findDark_44 : decode cX10_findDark 44 = .ok (.getfield 66, 3) := dcs_at ok23_dark_0_8 29 rfl
theorem dX10_findDark_47 : decode cX10_findDark 47 = .ok (.iload_n 2, 1) := dcs_at ok23_dark_0_8 30 rfl
theorem dX10_findDark_48 : decode cX10_findDark 48 = .ok (.lconst 0, 1) := dcs_at ok23_dark_0_8 31 rfl
theorem dX10_findDark_49 : decode cX10_findDark 49 = .ok (.lastore, 1) := dcs_at ok23_dark_0_8 32 rfl
theorem dX10_findDark_50 : decode cX10_findDark 50 = .ok (.aload_n 0, 1) := dcs_at ok23_dark_0_8 33 rfl
theorem dX10_findDark_51 : decode cX10_findDark 51 = .ok (.getfield 70, 3) := dcs_at ok23_dark_0_8 34 rfl
theorem dX10_findDark_54 : decode cX10_findDark 54 = .ok (.iload_n 2, 1) := dcs_at ok23_dark_0_8 35 rfl
theorem dX10_findDark_55 : decode cX10_findDark 55 = .ok (.lconst 0, 1) := dcs_at ok23_dark_0_8 36 rfl
theorem dX10_findDark_56 : decode cX10_findDark 56 = .ok (.lastore, 1) := dcs_at ok23_dark_0_8 37 rfl
theorem dX10_findDark_57 : decode cX10_findDark 57 = .ok (.iinc 2 1, 3) := dcs_at ok23_dark_0_8 38 rfl
theorem dX10_findDark_60 : decode cX10_findDark 60 = .ok (.goto (-31), 3) := dcs_at ok23_dark_0_8 39 rfl
def tb23_dark_0_9 : List (Nat × (Instr × Nat)) := [(63, (.aload_n 0, 1)), (64, (.getfield 66, 3)), (67, (.iconst 0, 1)), (68, (.lconst 1, 1)), (69, (.lastore, 1)), (70, (.iconst 0, 1)), (71, (.istore_n 2, 1)), (72, (.iload_n 2, 1)), (73, (.aload_n 0, 1)), (74, (.invokevirtual 398, 3)), (77, (.if_icmp .ge 25, 3)), (80, (.aload_n 0, 1)), (81, (.getfield 70, 3)), (84, (.sipush 16807, 3)), (87, (.aload_n 0, 1)), (88, (.getfield 389, 3)), (91, (.imul, 1)), (92, (.iload_n 2, 1)), (93, (.iadd, 1)), (94, (.lconst 1, 1)), (95, (.lastore, 1)), (96, (.iinc 2 1, 3)), (99, (.goto (-27), 3)), (102, (.iconst 0, 1)), (103, (.istore_n 2, 1)), (104, (.iload_n 2, 1)), (105, (.aload_n 0, 1)), (106, (.getfield 389, 3)), (109, (.if_icmp .ge 14, 3)), (112, (.aload_n 0, 1)), (113, (.iload_n 2, 1)), (114, (.invokevirtual 401, 3)), (117, (.iinc 2 1, 3)), (120, (.goto (-16), 3)), (123, (.aload_n 0, 1)), (124, (.getfield 389, 3)), (127, (.iconst 1, 1)), (128, (.isub, 1)), (129, (.istore_n 2, 1)), (130, (.iload_n 2, 1))]
theorem ok23_dark_0_9 : dcs cX10_findDark tb23_dark_0_9 = true := by decide +kernel
theorem dX10_findDark_63 : decode cX10_findDark 63 = .ok (.aload_n 0, 1) := dcs_at ok23_dark_0_9 0 rfl
theorem dX10_findDark_64 : decode cX10_findDark 64 = .ok (.getfield 66, 3) := dcs_at ok23_dark_0_9 1 rfl
theorem dX10_findDark_67 : decode cX10_findDark 67 = .ok (.iconst 0, 1) := dcs_at ok23_dark_0_9 2 rfl
theorem dX10_findDark_68 : decode cX10_findDark 68 = .ok (.lconst 1, 1) := dcs_at ok23_dark_0_9 3 rfl
theorem dX10_findDark_69 : decode cX10_findDark 69 = .ok (.lastore, 1) := dcs_at ok23_dark_0_9 4 rfl
theorem dX10_findDark_70 : decode cX10_findDark 70 = .ok (.iconst 0, 1) := dcs_at ok23_dark_0_9 5 rfl
theorem dX10_findDark_71 : decode cX10_findDark 71 = .ok (.istore_n 2, 1) := dcs_at ok23_dark_0_9 6 rfl
theorem dX10_findDark_72 : decode cX10_findDark 72 = .ok (.iload_n 2, 1) := dcs_at ok23_dark_0_9 7 rfl
theorem dX10_findDark_73 : decode cX10_findDark 73 = .ok (.aload_n 0, 1) := dcs_at ok23_dark_0_9 8 rfl
theorem dX10_findDark_74 : decode cX10_findDark 74 = .ok (.invokevirtual 398, 3) := dcs_at ok23_dark_0_9 9 rfl
theorem dX10_findDark_77 : decode cX10_findDark 77 = .ok (.if_icmp .ge 25, 3) := dcs_at ok23_dark_0_9 10 rfl
theorem dX10_findDark_80 : decode cX10_findDark 80 = .ok (.aload_n 0, 1) := dcs_at ok23_dark_0_9 11 rfl
theorem dX10_findDark_81 : decode cX10_findDark 81 = .ok (.getfield 70, 3) := dcs_at ok23_dark_0_9 12 rfl
theorem dX10_findDark_84 : decode cX10_findDark 84 = .ok (.sipush 16807, 3) := dcs_at ok23_dark_0_9 13 rfl
theorem dX10_findDark_87 : decode cX10_findDark 87 = .ok (.aload_n 0, 1) := dcs_at ok23_dark_0_9 14 rfl
theorem dX10_findDark_88 : decode cX10_findDark 88 = .ok (.getfield 389, 3) := dcs_at ok23_dark_0_9 15 rfl
theorem dX10_findDark_91 : decode cX10_findDark 91 = .ok (.imul, 1) := dcs_at ok23_dark_0_9 16 rfl
theorem dX10_findDark_92 : decode cX10_findDark 92 = .ok (.iload_n 2, 1) := dcs_at ok23_dark_0_9 17 rfl
theorem dX10_findDark_93 : decode cX10_findDark 93 = .ok (.iadd, 1) := dcs_at ok23_dark_0_9 18 rfl
theorem dX10_findDark_94 : decode cX10_findDark 94 = .ok (.lconst 1, 1) := dcs_at ok23_dark_0_9 19 rfl
theorem dX10_findDark_95 : decode cX10_findDark 95 = .ok (.lastore, 1) := dcs_at ok23_dark_0_9 20 rfl
theorem dX10_findDark_96 : decode cX10_findDark 96 = .ok (.iinc 2 1, 3) := dcs_at ok23_dark_0_9 21 rfl
theorem dX10_findDark_99 : decode cX10_findDark 99 = .ok (.goto (-27), 3) := dcs_at ok23_dark_0_9 22 rfl
theorem dX10_findDark_102 : decode cX10_findDark 102 = .ok (.iconst 0, 1) := dcs_at ok23_dark_0_9 23 rfl
theorem dX10_findDark_103 : decode cX10_findDark 103 = .ok (.istore_n 2, 1) := dcs_at ok23_dark_0_9 24 rfl
theorem dX10_findDark_104 : decode cX10_findDark 104 = .ok (.iload_n 2, 1) := dcs_at ok23_dark_0_9 25 rfl
theorem dX10_findDark_105 : decode cX10_findDark 105 = .ok (.aload_n 0, 1) := dcs_at ok23_dark_0_9 26 rfl
theorem dX10_findDark_106 : decode cX10_findDark 106 = .ok (.getfield 389, 3) := dcs_at ok23_dark_0_9 27 rfl
theorem dX10_findDark_109 : decode cX10_findDark 109 = .ok (.if_icmp .ge 14, 3) := dcs_at ok23_dark_0_9 28 rfl
theorem dX10_findDark_112 : decode cX10_findDark 112 = .ok (.aload_n 0, 1) := dcs_at ok23_dark_0_9 29 rfl
theorem dX10_findDark_113 : decode cX10_findDark 113 = .ok (.iload_n 2, 1) := dcs_at ok23_dark_0_9 30 rfl
theorem dX10_findDark_114 : decode cX10_findDark 114 = .ok (.invokevirtual 401, 3) := dcs_at ok23_dark_0_9 31 rfl
theorem dX10_findDark_117 : decode cX10_findDark 117 = .ok (.iinc 2 1, 3) := dcs_at ok23_dark_0_9 32 rfl
theorem dX10_findDark_120 : decode cX10_findDark 120 = .ok (.goto (-16), 3) := dcs_at ok23_dark_0_9 33 rfl
theorem dX10_findDark_123 : decode cX10_findDark 123 = .ok (.aload_n 0, 1) := dcs_at ok23_dark_0_9 34 rfl
theorem dX10_findDark_124 : decode cX10_findDark 124 = .ok (.getfield 389, 3) := dcs_at ok23_dark_0_9 35 rfl
theorem dX10_findDark_127 : decode cX10_findDark 127 = .ok (.iconst 1, 1) := dcs_at ok23_dark_0_9 36 rfl
theorem dX10_findDark_128 : decode cX10_findDark 128 = .ok (.isub, 1) := dcs_at ok23_dark_0_9 37 rfl
theorem dX10_findDark_129 : decode cX10_findDark 129 = .ok (.istore_n 2, 1) := dcs_at ok23_dark_0_9 38 rfl
theorem dX10_findDark_130 : decode cX10_findDark 130 = .ok (.iload_n 2, 1) := dcs_at ok23_dark_0_9 39 rfl
def tb23_dark_0_10 : List (Nat × (Instr × Nat)) := [(131, (.ifCond .lt 14, 3)), (134, (.aload_n 0, 1)), (135, (.iload_n 2, 1)), (136, (.invokevirtual 404, 3)), (139, (.iinc 2 (-1), 3)), (142, (.goto (-12), 3)), (145, (.return_, 1))]
theorem ok23_dark_0_10 : dcs cX10_findDark tb23_dark_0_10 = true := by decide +kernel
theorem dX10_findDark_131 : decode cX10_findDark 131 = .ok (.ifCond .lt 14, 3) := dcs_at ok23_dark_0_10 0 rfl
theorem dX10_findDark_134 : decode cX10_findDark 134 = .ok (.aload_n 0, 1) := dcs_at ok23_dark_0_10 1 rfl
theorem dX10_findDark_135 : decode cX10_findDark 135 = .ok (.iload_n 2, 1) := dcs_at ok23_dark_0_10 2 rfl
theorem dX10_findDark_136 : decode cX10_findDark 136 = .ok (.invokevirtual 404, 3) := dcs_at ok23_dark_0_10 3 rfl
theorem dX10_findDark_139 : decode cX10_findDark 139 = .ok (.iinc 2 (-1), 3) := dcs_at ok23_dark_0_10 4 rfl
theorem dX10_findDark_142 : decode cX10_findDark 142 = .ok (.goto (-12), 3) := dcs_at ok23_dark_0_10 5 rfl
theorem dX10_findDark_145 : decode cX10_findDark 145 = .ok (.return_, 1) := dcs_at ok23_dark_0_10 6 rfl
def tb23_dark_0_11 : List (Nat × (Instr × Nat)) := [(0, (.iconst 0, 1)), (1, (.istore_n 2, 1)), (2, (.iload_n 2, 1)), (3, (.iconst 1, 1)), (4, (.aload_n 0, 1)), (5, (.getfield 228, 3)), (8, (.ishl, 1)), (9, (.if_icmp .ge 114, 3)), (12, (.aload_n 0, 1)), (13, (.iload_n 2, 1)), (14, (.invokevirtual 407, 3)), (17, (.aload_n 0, 1)), (18, (.iload_n 1, 1)), (19, (.invokevirtual 395, 3)), (22, (.if_icmp .ne 10, 3)), (25, (.aload_n 0, 1)), (26, (.invokevirtual 398, 3)), (29, (.goto 4, 3)), (32, (.iconst 0, 1)), (33, (.istore_n 3, 1)), (34, (.iconst 0, 1)), (35, (.istore 4, 2)), (37, (.iload 4, 2)), (39, (.iload_n 3, 1)), (40, (.if_icmp .ge 77, 3)), (43, (.aload_n 0, 1)), (44, (.getfield 66, 3)), (47, (.sipush 16807, 3)), (50, (.iload_n 1, 1)), (51, (.imul, 1)), (52, (.iload 4, 2)), (54, (.iadd, 1)), (55, (.laload, 1)), (56, (.lconst 0, 1)), (57, (.lcmp, 1)), (58, (.ifCond .ne 7, 3)), (61, (.iconst (-1), 1)), (62, (.goto 10, 3)), (65, (.aload_n 0, 1)), (66, (.iload 4, 2))]
theorem ok23_dark_0_11 : dcs cX10_goOn tb23_dark_0_11 = true := by decide +kernel
theorem dX10_goOn_0 : decode cX10_goOn 0 = .ok (.iconst 0, 1) := dcs_at ok23_dark_0_11 0 rfl
theorem dX10_goOn_1 : decode cX10_goOn 1 = .ok (.istore_n 2, 1) := dcs_at ok23_dark_0_11 1 rfl
theorem dX10_goOn_2 : decode cX10_goOn 2 = .ok (.iload_n 2, 1) := dcs_at ok23_dark_0_11 2 rfl
theorem dX10_goOn_3 : decode cX10_goOn 3 = .ok (.iconst 1, 1) := dcs_at ok23_dark_0_11 3 rfl
theorem dX10_goOn_4 : decode cX10_goOn 4 = .ok (.aload_n 0, 1) := dcs_at ok23_dark_0_11 4 rfl
theorem dX10_goOn_5 : decode cX10_goOn 5 = .ok (.getfield 228, 3) := dcs_at ok23_dark_0_11 5 rfl
theorem dX10_goOn_8 : decode cX10_goOn 8 = .ok (.ishl, 1) := dcs_at ok23_dark_0_11 6 rfl
theorem dX10_goOn_9 : decode cX10_goOn 9 = .ok (.if_icmp .ge 114, 3) := dcs_at ok23_dark_0_11 7 rfl
theorem dX10_goOn_12 : decode cX10_goOn 12 = .ok (.aload_n 0, 1) := dcs_at ok23_dark_0_11 8 rfl
theorem dX10_goOn_13 : decode cX10_goOn 13 = .ok (.iload_n 2, 1) := dcs_at ok23_dark_0_11 9 rfl
theorem dX10_goOn_14 : decode cX10_goOn 14 = .ok (.invokevirtual 407, 3) := dcs_at ok23_dark_0_11 10 rfl
theorem dX10_goOn_17 : decode cX10_goOn 17 = .ok (.aload_n 0, 1) := dcs_at ok23_dark_0_11 11 rfl
theorem dX10_goOn_18 : decode cX10_goOn 18 = .ok (.iload_n 1, 1) := dcs_at ok23_dark_0_11 12 rfl
theorem dX10_goOn_19 : decode cX10_goOn 19 = .ok (.invokevirtual 395, 3) := dcs_at ok23_dark_0_11 13 rfl
theorem dX10_goOn_22 : decode cX10_goOn 22 = .ok (.if_icmp .ne 10, 3) := dcs_at ok23_dark_0_11 14 rfl
theorem dX10_goOn_25 : decode cX10_goOn 25 = .ok (.aload_n 0, 1) := dcs_at ok23_dark_0_11 15 rfl
theorem dX10_goOn_26 : decode cX10_goOn 26 = .ok (.invokevirtual 398, 3) := dcs_at ok23_dark_0_11 16 rfl
theorem dX10_goOn_29 : decode cX10_goOn 29 = .ok (.goto 4, 3) := dcs_at ok23_dark_0_11 17 rfl
theorem dX10_goOn_32 : decode cX10_goOn 32 = .ok (.iconst 0, 1) := dcs_at ok23_dark_0_11 18 rfl
theorem dX10_goOn_33 : decode cX10_goOn 33 = .ok (.istore_n 3, 1) := dcs_at ok23_dark_0_11 19 rfl
theorem dX10_goOn_34 : decode cX10_goOn 34 = .ok (.iconst 0, 1) := dcs_at ok23_dark_0_11 20 rfl
theorem dX10_goOn_35 : decode cX10_goOn 35 = .ok (.istore 4, 2) := dcs_at ok23_dark_0_11 21 rfl
theorem dX10_goOn_37 : decode cX10_goOn 37 = .ok (.iload 4, 2) := dcs_at ok23_dark_0_11 22 rfl
theorem dX10_goOn_39 : decode cX10_goOn 39 = .ok (.iload_n 3, 1) := dcs_at ok23_dark_0_11 23 rfl
theorem dX10_goOn_40 : decode cX10_goOn 40 = .ok (.if_icmp .ge 77, 3) := dcs_at ok23_dark_0_11 24 rfl
theorem dX10_goOn_43 : decode cX10_goOn 43 = .ok (.aload_n 0, 1) := dcs_at ok23_dark_0_11 25 rfl
theorem dX10_goOn_44 : decode cX10_goOn 44 = .ok (.getfield 66, 3) := dcs_at ok23_dark_0_11 26 rfl
theorem dX10_goOn_47 : decode cX10_goOn 47 = .ok (.sipush 16807, 3) := dcs_at ok23_dark_0_11 27 rfl
theorem dX10_goOn_50 : decode cX10_goOn 50 = .ok (.iload_n 1, 1) := dcs_at ok23_dark_0_11 28 rfl
theorem dX10_goOn_51 : decode cX10_goOn 51 = .ok (.imul, 1) := dcs_at ok23_dark_0_11 29 rfl
theorem dX10_goOn_52 : decode cX10_goOn 52 = .ok (.iload 4, 2) := dcs_at ok23_dark_0_11 30 rfl
theorem dX10_goOn_54 : decode cX10_goOn 54 = .ok (.iadd, 1) := dcs_at ok23_dark_0_11 31 rfl
theorem dX10_goOn_55 : decode cX10_goOn 55 = .ok (.laload, 1) := dcs_at ok23_dark_0_11 32 rfl
theorem dX10_goOn_56 : decode cX10_goOn 56 = .ok (.lconst 0, 1) := dcs_at ok23_dark_0_11 33 rfl
theorem dX10_goOn_57 : decode cX10_goOn 57 = .ok (.lcmp, 1) := dcs_at ok23_dark_0_11 34 rfl
theorem dX10_goOn_58 : decode cX10_goOn 58 = .ok (.ifCond .ne 7, 3) := dcs_at ok23_dark_0_11 35 rfl
theorem dX10_goOn_61 : decode cX10_goOn 61 = .ok (.iconst (-1), 1) := dcs_at ok23_dark_0_11 36 rfl
theorem dX10_goOn_62 : decode cX10_goOn 62 = .ok (.goto 10, 3) := dcs_at ok23_dark_0_11 37 rfl
theorem dX10_goOn_65 : decode cX10_goOn 65 = .ok (.aload_n 0, 1) := dcs_at ok23_dark_0_11 38 rfl
theorem dX10_goOn_66 : decode cX10_goOn 66 = .ok (.iload 4, 2) := dcs_at ok23_dark_0_11 39 rfl
def tb23_dark_0_12 : List (Nat × (Instr × Nat)) := [(68, (.iload_n 2, 1)), (69, (.invokevirtual 410, 3)), (72, (.istore 5, 2)), (74, (.iload 5, 2)), (76, (.iconst (-1), 1)), (77, (.if_icmp .eq 34, 3)), (80, (.aload_n 0, 1)), (81, (.getfield 66, 3)), (84, (.sipush 16807, 3)), (87, (.iload_n 1, 1)), (88, (.iconst 1, 1)), (89, (.iadd, 1)), (90, (.imul, 1)), (91, (.iload 5, 2)), (93, (.iadd, 1)), (94, (.dup2, 1)), (95, (.laload, 1)), (96, (.aload_n 0, 1)), (97, (.getfield 66, 3)), (100, (.sipush 16807, 3)), (103, (.iload_n 1, 1)), (104, (.imul, 1)), (105, (.iload 4, 2)), (107, (.iadd, 1)), (108, (.laload, 1)), (109, (.ladd, 1)), (110, (.lastore, 1)), (111, (.iinc 4 1, 3)), (114, (.goto (-77), 3)), (117, (.iinc 2 1, 3)), (120, (.goto (-118), 3)), (123, (.return_, 1))]
theorem ok23_dark_0_12 : dcs cX10_goOn tb23_dark_0_12 = true := by decide +kernel
theorem dX10_goOn_68 : decode cX10_goOn 68 = .ok (.iload_n 2, 1) := dcs_at ok23_dark_0_12 0 rfl
theorem dX10_goOn_69 : decode cX10_goOn 69 = .ok (.invokevirtual 410, 3) := dcs_at ok23_dark_0_12 1 rfl
theorem dX10_goOn_72 : decode cX10_goOn 72 = .ok (.istore 5, 2) := dcs_at ok23_dark_0_12 2 rfl
theorem dX10_goOn_74 : decode cX10_goOn 74 = .ok (.iload 5, 2) := dcs_at ok23_dark_0_12 3 rfl
theorem dX10_goOn_76 : decode cX10_goOn 76 = .ok (.iconst (-1), 1) := dcs_at ok23_dark_0_12 4 rfl
theorem dX10_goOn_77 : decode cX10_goOn 77 = .ok (.if_icmp .eq 34, 3) := dcs_at ok23_dark_0_12 5 rfl
theorem dX10_goOn_80 : decode cX10_goOn 80 = .ok (.aload_n 0, 1) := dcs_at ok23_dark_0_12 6 rfl
theorem dX10_goOn_81 : decode cX10_goOn 81 = .ok (.getfield 66, 3) := dcs_at ok23_dark_0_12 7 rfl
theorem dX10_goOn_84 : decode cX10_goOn 84 = .ok (.sipush 16807, 3) := dcs_at ok23_dark_0_12 8 rfl
theorem dX10_goOn_87 : decode cX10_goOn 87 = .ok (.iload_n 1, 1) := dcs_at ok23_dark_0_12 9 rfl
theorem dX10_goOn_88 : decode cX10_goOn 88 = .ok (.iconst 1, 1) := dcs_at ok23_dark_0_12 10 rfl
theorem dX10_goOn_89 : decode cX10_goOn 89 = .ok (.iadd, 1) := dcs_at ok23_dark_0_12 11 rfl
theorem dX10_goOn_90 : decode cX10_goOn 90 = .ok (.imul, 1) := dcs_at ok23_dark_0_12 12 rfl
theorem dX10_goOn_91 : decode cX10_goOn 91 = .ok (.iload 5, 2) := dcs_at ok23_dark_0_12 13 rfl
theorem dX10_goOn_93 : decode cX10_goOn 93 = .ok (.iadd, 1) := dcs_at ok23_dark_0_12 14 rfl
theorem dX10_goOn_94 : decode cX10_goOn 94 = .ok (.dup2, 1) := dcs_at ok23_dark_0_12 15 rfl
theorem dX10_goOn_95 : decode cX10_goOn 95 = .ok (.laload, 1) := dcs_at ok23_dark_0_12 16 rfl
theorem dX10_goOn_96 : decode cX10_goOn 96 = .ok (.aload_n 0, 1) := dcs_at ok23_dark_0_12 17 rfl
theorem dX10_goOn_97 : decode cX10_goOn 97 = .ok (.getfield 66, 3) := dcs_at ok23_dark_0_12 18 rfl
theorem dX10_goOn_100 : decode cX10_goOn 100 = .ok (.sipush 16807, 3) := dcs_at ok23_dark_0_12 19 rfl
theorem dX10_goOn_103 : decode cX10_goOn 103 = .ok (.iload_n 1, 1) := dcs_at ok23_dark_0_12 20 rfl
theorem dX10_goOn_104 : decode cX10_goOn 104 = .ok (.imul, 1) := dcs_at ok23_dark_0_12 21 rfl
theorem dX10_goOn_105 : decode cX10_goOn 105 = .ok (.iload 4, 2) := dcs_at ok23_dark_0_12 22 rfl
theorem dX10_goOn_107 : decode cX10_goOn 107 = .ok (.iadd, 1) := dcs_at ok23_dark_0_12 23 rfl
theorem dX10_goOn_108 : decode cX10_goOn 108 = .ok (.laload, 1) := dcs_at ok23_dark_0_12 24 rfl
theorem dX10_goOn_109 : decode cX10_goOn 109 = .ok (.ladd, 1) := dcs_at ok23_dark_0_12 25 rfl
theorem dX10_goOn_110 : decode cX10_goOn 110 = .ok (.lastore, 1) := dcs_at ok23_dark_0_12 26 rfl
theorem dX10_goOn_111 : decode cX10_goOn 111 = .ok (.iinc 4 1, 3) := dcs_at ok23_dark_0_12 27 rfl
theorem dX10_goOn_114 : decode cX10_goOn 114 = .ok (.goto (-77), 3) := dcs_at ok23_dark_0_12 28 rfl
theorem dX10_goOn_117 : decode cX10_goOn 117 = .ok (.iinc 2 1, 3) := dcs_at ok23_dark_0_12 29 rfl
theorem dX10_goOn_120 : decode cX10_goOn 120 = .ok (.goto (-118), 3) := dcs_at ok23_dark_0_12 30 rfl
theorem dX10_goOn_123 : decode cX10_goOn 123 = .ok (.return_, 1) := dcs_at ok23_dark_0_12 31 rfl
def tb23_dark_0_13 : List (Nat × (Instr × Nat)) := [(0, (.iconst 0, 1)), (1, (.istore_n 2, 1)), (2, (.iload_n 2, 1)), (3, (.iconst 1, 1)), (4, (.aload_n 0, 1)), (5, (.getfield 228, 3)), (8, (.ishl, 1)), (9, (.if_icmp .ge 114, 3)), (12, (.aload_n 0, 1)), (13, (.iload_n 2, 1)), (14, (.invokevirtual 407, 3)), (17, (.aload_n 0, 1)), (18, (.iload_n 1, 1)), (19, (.invokevirtual 395, 3)), (22, (.if_icmp .ne 10, 3)), (25, (.aload_n 0, 1)), (26, (.invokevirtual 398, 3)), (29, (.goto 4, 3)), (32, (.iconst 0, 1)), (33, (.istore_n 3, 1)), (34, (.iconst 0, 1)), (35, (.istore 4, 2)), (37, (.iload 4, 2)), (39, (.iload_n 3, 1)), (40, (.if_icmp .ge 77, 3)), (43, (.aload_n 0, 1)), (44, (.getfield 66, 3)), (47, (.sipush 16807, 3)), (50, (.iload_n 1, 1)), (51, (.imul, 1)), (52, (.iload 4, 2)), (54, (.iadd, 1)), (55, (.laload, 1)), (56, (.lconst 0, 1)), (57, (.lcmp, 1)), (58, (.ifCond .ne 7, 3)), (61, (.iconst (-1), 1)), (62, (.goto 10, 3)), (65, (.aload_n 0, 1)), (66, (.iload 4, 2))]
theorem ok23_dark_0_13 : dcs cX10_goBack tb23_dark_0_13 = true := by decide +kernel
theorem dX10_goBack_0 : decode cX10_goBack 0 = .ok (.iconst 0, 1) := dcs_at ok23_dark_0_13 0 rfl
theorem dX10_goBack_1 : decode cX10_goBack 1 = .ok (.istore_n 2, 1) := dcs_at ok23_dark_0_13 1 rfl
theorem dX10_goBack_2 : decode cX10_goBack 2 = .ok (.iload_n 2, 1) := dcs_at ok23_dark_0_13 2 rfl
theorem dX10_goBack_3 : decode cX10_goBack 3 = .ok (.iconst 1, 1) := dcs_at ok23_dark_0_13 3 rfl
theorem dX10_goBack_4 : decode cX10_goBack 4 = .ok (.aload_n 0, 1) := dcs_at ok23_dark_0_13 4 rfl
theorem dX10_goBack_5 : decode cX10_goBack 5 = .ok (.getfield 228, 3) := dcs_at ok23_dark_0_13 5 rfl
theorem dX10_goBack_8 : decode cX10_goBack 8 = .ok (.ishl, 1) := dcs_at ok23_dark_0_13 6 rfl
theorem dX10_goBack_9 : decode cX10_goBack 9 = .ok (.if_icmp .ge 114, 3) := dcs_at ok23_dark_0_13 7 rfl
theorem dX10_goBack_12 : decode cX10_goBack 12 = .ok (.aload_n 0, 1) := dcs_at ok23_dark_0_13 8 rfl
theorem dX10_goBack_13 : decode cX10_goBack 13 = .ok (.iload_n 2, 1) := dcs_at ok23_dark_0_13 9 rfl
theorem dX10_goBack_14 : decode cX10_goBack 14 = .ok (.invokevirtual 407, 3) := dcs_at ok23_dark_0_13 10 rfl
theorem dX10_goBack_17 : decode cX10_goBack 17 = .ok (.aload_n 0, 1) := dcs_at ok23_dark_0_13 11 rfl
theorem dX10_goBack_18 : decode cX10_goBack 18 = .ok (.iload_n 1, 1) := dcs_at ok23_dark_0_13 12 rfl
theorem dX10_goBack_19 : decode cX10_goBack 19 = .ok (.invokevirtual 395, 3) := dcs_at ok23_dark_0_13 13 rfl
theorem dX10_goBack_22 : decode cX10_goBack 22 = .ok (.if_icmp .ne 10, 3) := dcs_at ok23_dark_0_13 14 rfl
theorem dX10_goBack_25 : decode cX10_goBack 25 = .ok (.aload_n 0, 1) := dcs_at ok23_dark_0_13 15 rfl
theorem dX10_goBack_26 : decode cX10_goBack 26 = .ok (.invokevirtual 398, 3) := dcs_at ok23_dark_0_13 16 rfl
theorem dX10_goBack_29 : decode cX10_goBack 29 = .ok (.goto 4, 3) := dcs_at ok23_dark_0_13 17 rfl
theorem dX10_goBack_32 : decode cX10_goBack 32 = .ok (.iconst 0, 1) := dcs_at ok23_dark_0_13 18 rfl
theorem dX10_goBack_33 : decode cX10_goBack 33 = .ok (.istore_n 3, 1) := dcs_at ok23_dark_0_13 19 rfl
theorem dX10_goBack_34 : decode cX10_goBack 34 = .ok (.iconst 0, 1) := dcs_at ok23_dark_0_13 20 rfl
theorem dX10_goBack_35 : decode cX10_goBack 35 = .ok (.istore 4, 2) := dcs_at ok23_dark_0_13 21 rfl
theorem dX10_goBack_37 : decode cX10_goBack 37 = .ok (.iload 4, 2) := dcs_at ok23_dark_0_13 22 rfl
theorem dX10_goBack_39 : decode cX10_goBack 39 = .ok (.iload_n 3, 1) := dcs_at ok23_dark_0_13 23 rfl
theorem dX10_goBack_40 : decode cX10_goBack 40 = .ok (.if_icmp .ge 77, 3) := dcs_at ok23_dark_0_13 24 rfl
theorem dX10_goBack_43 : decode cX10_goBack 43 = .ok (.aload_n 0, 1) := dcs_at ok23_dark_0_13 25 rfl
theorem dX10_goBack_44 : decode cX10_goBack 44 = .ok (.getfield 66, 3) := dcs_at ok23_dark_0_13 26 rfl
theorem dX10_goBack_47 : decode cX10_goBack 47 = .ok (.sipush 16807, 3) := dcs_at ok23_dark_0_13 27 rfl
theorem dX10_goBack_50 : decode cX10_goBack 50 = .ok (.iload_n 1, 1) := dcs_at ok23_dark_0_13 28 rfl
theorem dX10_goBack_51 : decode cX10_goBack 51 = .ok (.imul, 1) := dcs_at ok23_dark_0_13 29 rfl
theorem dX10_goBack_52 : decode cX10_goBack 52 = .ok (.iload 4, 2) := dcs_at ok23_dark_0_13 30 rfl
theorem dX10_goBack_54 : decode cX10_goBack 54 = .ok (.iadd, 1) := dcs_at ok23_dark_0_13 31 rfl
theorem dX10_goBack_55 : decode cX10_goBack 55 = .ok (.laload, 1) := dcs_at ok23_dark_0_13 32 rfl
theorem dX10_goBack_56 : decode cX10_goBack 56 = .ok (.lconst 0, 1) := dcs_at ok23_dark_0_13 33 rfl
theorem dX10_goBack_57 : decode cX10_goBack 57 = .ok (.lcmp, 1) := dcs_at ok23_dark_0_13 34 rfl
theorem dX10_goBack_58 : decode cX10_goBack 58 = .ok (.ifCond .ne 7, 3) := dcs_at ok23_dark_0_13 35 rfl
theorem dX10_goBack_61 : decode cX10_goBack 61 = .ok (.iconst (-1), 1) := dcs_at ok23_dark_0_13 36 rfl
theorem dX10_goBack_62 : decode cX10_goBack 62 = .ok (.goto 10, 3) := dcs_at ok23_dark_0_13 37 rfl
theorem dX10_goBack_65 : decode cX10_goBack 65 = .ok (.aload_n 0, 1) := dcs_at ok23_dark_0_13 38 rfl
theorem dX10_goBack_66 : decode cX10_goBack 66 = .ok (.iload 4, 2) := dcs_at ok23_dark_0_13 39 rfl
def tb23_dark_0_14 : List (Nat × (Instr × Nat)) := [(68, (.iload_n 2, 1)), (69, (.invokevirtual 410, 3)), (72, (.istore 5, 2)), (74, (.iload 5, 2)), (76, (.iconst (-1), 1)), (77, (.if_icmp .eq 34, 3)), (80, (.aload_n 0, 1)), (81, (.getfield 70, 3)), (84, (.sipush 16807, 3)), (87, (.iload_n 1, 1)), (88, (.imul, 1)), (89, (.iload 4, 2)), (91, (.iadd, 1)), (92, (.dup2, 1)), (93, (.laload, 1)), (94, (.aload_n 0, 1)), (95, (.getfield 70, 3)), (98, (.sipush 16807, 3)), (101, (.iload_n 1, 1)), (102, (.iconst 1, 1)), (103, (.iadd, 1)), (104, (.imul, 1)), (105, (.iload 5, 2)), (107, (.iadd, 1)), (108, (.laload, 1)), (109, (.ladd, 1)), (110, (.lastore, 1)), (111, (.iinc 4 1, 3)), (114, (.goto (-77), 3)), (117, (.iinc 2 1, 3)), (120, (.goto (-118), 3)), (123, (.return_, 1))]
theorem ok23_dark_0_14 : dcs cX10_goBack tb23_dark_0_14 = true := by decide +kernel
theorem dX10_goBack_68 : decode cX10_goBack 68 = .ok (.iload_n 2, 1) := dcs_at ok23_dark_0_14 0 rfl
theorem dX10_goBack_69 : decode cX10_goBack 69 = .ok (.invokevirtual 410, 3) := dcs_at ok23_dark_0_14 1 rfl
theorem dX10_goBack_72 : decode cX10_goBack 72 = .ok (.istore 5, 2) := dcs_at ok23_dark_0_14 2 rfl
theorem dX10_goBack_74 : decode cX10_goBack 74 = .ok (.iload 5, 2) := dcs_at ok23_dark_0_14 3 rfl
theorem dX10_goBack_76 : decode cX10_goBack 76 = .ok (.iconst (-1), 1) := dcs_at ok23_dark_0_14 4 rfl
theorem dX10_goBack_77 : decode cX10_goBack 77 = .ok (.if_icmp .eq 34, 3) := dcs_at ok23_dark_0_14 5 rfl
theorem dX10_goBack_80 : decode cX10_goBack 80 = .ok (.aload_n 0, 1) := dcs_at ok23_dark_0_14 6 rfl
theorem dX10_goBack_81 : decode cX10_goBack 81 = .ok (.getfield 70, 3) := dcs_at ok23_dark_0_14 7 rfl
theorem dX10_goBack_84 : decode cX10_goBack 84 = .ok (.sipush 16807, 3) := dcs_at ok23_dark_0_14 8 rfl
theorem dX10_goBack_87 : decode cX10_goBack 87 = .ok (.iload_n 1, 1) := dcs_at ok23_dark_0_14 9 rfl
theorem dX10_goBack_88 : decode cX10_goBack 88 = .ok (.imul, 1) := dcs_at ok23_dark_0_14 10 rfl
theorem dX10_goBack_89 : decode cX10_goBack 89 = .ok (.iload 4, 2) := dcs_at ok23_dark_0_14 11 rfl
theorem dX10_goBack_91 : decode cX10_goBack 91 = .ok (.iadd, 1) := dcs_at ok23_dark_0_14 12 rfl
theorem dX10_goBack_92 : decode cX10_goBack 92 = .ok (.dup2, 1) := dcs_at ok23_dark_0_14 13 rfl
theorem dX10_goBack_93 : decode cX10_goBack 93 = .ok (.laload, 1) := dcs_at ok23_dark_0_14 14 rfl
theorem dX10_goBack_94 : decode cX10_goBack 94 = .ok (.aload_n 0, 1) := dcs_at ok23_dark_0_14 15 rfl
theorem dX10_goBack_95 : decode cX10_goBack 95 = .ok (.getfield 70, 3) := dcs_at ok23_dark_0_14 16 rfl
theorem dX10_goBack_98 : decode cX10_goBack 98 = .ok (.sipush 16807, 3) := dcs_at ok23_dark_0_14 17 rfl
theorem dX10_goBack_101 : decode cX10_goBack 101 = .ok (.iload_n 1, 1) := dcs_at ok23_dark_0_14 18 rfl
theorem dX10_goBack_102 : decode cX10_goBack 102 = .ok (.iconst 1, 1) := dcs_at ok23_dark_0_14 19 rfl
theorem dX10_goBack_103 : decode cX10_goBack 103 = .ok (.iadd, 1) := dcs_at ok23_dark_0_14 20 rfl
theorem dX10_goBack_104 : decode cX10_goBack 104 = .ok (.imul, 1) := dcs_at ok23_dark_0_14 21 rfl
theorem dX10_goBack_105 : decode cX10_goBack 105 = .ok (.iload 5, 2) := dcs_at ok23_dark_0_14 22 rfl
theorem dX10_goBack_107 : decode cX10_goBack 107 = .ok (.iadd, 1) := dcs_at ok23_dark_0_14 23 rfl
theorem dX10_goBack_108 : decode cX10_goBack 108 = .ok (.laload, 1) := dcs_at ok23_dark_0_14 24 rfl
theorem dX10_goBack_109 : decode cX10_goBack 109 = .ok (.ladd, 1) := dcs_at ok23_dark_0_14 25 rfl
theorem dX10_goBack_110 : decode cX10_goBack 110 = .ok (.lastore, 1) := dcs_at ok23_dark_0_14 26 rfl
theorem dX10_goBack_111 : decode cX10_goBack 111 = .ok (.iinc 4 1, 3) := dcs_at ok23_dark_0_14 27 rfl
theorem dX10_goBack_114 : decode cX10_goBack 114 = .ok (.goto (-77), 3) := dcs_at ok23_dark_0_14 28 rfl
theorem dX10_goBack_117 : decode cX10_goBack 117 = .ok (.iinc 2 1, 3) := dcs_at ok23_dark_0_14 29 rfl
theorem dX10_goBack_120 : decode cX10_goBack 120 = .ok (.goto (-118), 3) := dcs_at ok23_dark_0_14 30 rfl
theorem dX10_goBack_123 : decode cX10_goBack 123 = .ok (.return_, 1) := dcs_at ok23_dark_0_14 31 rfl
def tb23_dark_0_15 : List (Nat × (Instr × Nat)) := [(0, (.aload_n 0, 1)), (1, (.iconst 0, 1)), (2, (.putfield 80, 3)), (5, (.aload_n 0, 1)), (6, (.iload_n 2, 1)), (7, (.invokevirtual 392, 3)), (10, (.ifCond .eq 11, 3)), (13, (.aload_n 0, 1)), (14, (.iload_n 1, 1)), (15, (.invokevirtual 237, 3)), (18, (.ifCond .ne 7, 3)), (21, (.ldc2_w 413, 3)), (24, (.lreturn, 1)), (25, (.aload_n 0, 1)), (26, (.invokevirtual 415, 3)), (29, (.aload_n 0, 1)), (30, (.getfield 70, 3)), (33, (.iconst 0, 1)), (34, (.laload, 1)), (35, (.lreturn, 1))]
theorem ok23_dark_0_15 : dcs cX10_ways tb23_dark_0_15 = true := by decide +kernel
theorem dX10_ways_0 : decode cX10_ways 0 = .ok (.aload_n 0, 1) := dcs_at ok23_dark_0_15 0 rfl
theorem dX10_ways_1 : decode cX10_ways 1 = .ok (.iconst 0, 1) := dcs_at ok23_dark_0_15 1 rfl
theorem dX10_ways_2 : decode cX10_ways 2 = .ok (.putfield 80, 3) := dcs_at ok23_dark_0_15 2 rfl
theorem dX10_ways_5 : decode cX10_ways 5 = .ok (.aload_n 0, 1) := dcs_at ok23_dark_0_15 3 rfl
theorem dX10_ways_6 : decode cX10_ways 6 = .ok (.iload_n 2, 1) := dcs_at ok23_dark_0_15 4 rfl
theorem dX10_ways_7 : decode cX10_ways 7 = .ok (.invokevirtual 392, 3) := dcs_at ok23_dark_0_15 5 rfl
theorem dX10_ways_10 : decode cX10_ways 10 = .ok (.ifCond .eq 11, 3) := dcs_at ok23_dark_0_15 6 rfl
theorem dX10_ways_13 : decode cX10_ways 13 = .ok (.aload_n 0, 1) := dcs_at ok23_dark_0_15 7 rfl
theorem dX10_ways_14 : decode cX10_ways 14 = .ok (.iload_n 1, 1) := dcs_at ok23_dark_0_15 8 rfl
theorem dX10_ways_15 : decode cX10_ways 15 = .ok (.invokevirtual 237, 3) := dcs_at ok23_dark_0_15 9 rfl
theorem dX10_ways_18 : decode cX10_ways 18 = .ok (.ifCond .ne 7, 3) := dcs_at ok23_dark_0_15 10 rfl
theorem dX10_ways_21 : decode cX10_ways 21 = .ok (.ldc2_w 413, 3) := dcs_at ok23_dark_0_15 11 rfl
theorem dX10_ways_24 : decode cX10_ways 24 = .ok (.lreturn, 1) := dcs_at ok23_dark_0_15 12 rfl
theorem dX10_ways_25 : decode cX10_ways 25 = .ok (.aload_n 0, 1) := dcs_at ok23_dark_0_15 13 rfl
theorem dX10_ways_26 : decode cX10_ways 26 = .ok (.invokevirtual 415, 3) := dcs_at ok23_dark_0_15 14 rfl
theorem dX10_ways_29 : decode cX10_ways 29 = .ok (.aload_n 0, 1) := dcs_at ok23_dark_0_15 15 rfl
theorem dX10_ways_30 : decode cX10_ways 30 = .ok (.getfield 70, 3) := dcs_at ok23_dark_0_15 16 rfl
theorem dX10_ways_33 : decode cX10_ways 33 = .ok (.iconst 0, 1) := dcs_at ok23_dark_0_15 17 rfl
theorem dX10_ways_34 : decode cX10_ways 34 = .ok (.laload, 1) := dcs_at ok23_dark_0_15 18 rfl
theorem dX10_ways_35 : decode cX10_ways 35 = .ok (.lreturn, 1) := dcs_at ok23_dark_0_15 19 rfl
def tb23_dark_0_16 : List (Nat × (Instr × Nat)) := [(0, (.aload_n 0, 1)), (1, (.iload_n 2, 1)), (2, (.invokevirtual 407, 3)), (5, (.aload_n 0, 1)), (6, (.iload_n 1, 1)), (7, (.invokevirtual 395, 3)), (10, (.if_icmp .eq 5, 3)), (13, (.iconst 0, 1)), (14, (.ireturn, 1)), (15, (.iconst 0, 1)), (16, (.istore_n 3, 1)), (17, (.iload_n 3, 1)), (18, (.aload_n 0, 1)), (19, (.invokevirtual 398, 3)), (22, (.if_icmp .ge 66, 3)), (25, (.aload_n 0, 1)), (26, (.getfield 66, 3)), (29, (.sipush 16807, 3)), (32, (.iload_n 1, 1)), (33, (.imul, 1)), (34, (.iload_n 3, 1)), (35, (.iadd, 1)), (36, (.laload, 1)), (37, (.lconst 0, 1)), (38, (.lcmp, 1)), (39, (.ifCond .ne 7, 3)), (42, (.iconst (-1), 1)), (43, (.goto 9, 3)), (46, (.aload_n 0, 1)), (47, (.iload_n 3, 1)), (48, (.iload_n 2, 1)), (49, (.invokevirtual 410, 3)), (52, (.istore 4, 2)), (54, (.iload 4, 2)), (56, (.iconst (-1), 1)), (57, (.if_icmp .eq 25, 3)), (60, (.aload_n 0, 1)), (61, (.getfield 70, 3)), (64, (.sipush 16807, 3)), (67, (.iload_n 1, 1))]
theorem ok23_dark_0_16 : dcs cX10_mayBe tb23_dark_0_16 = true := by decide +kernel
theorem dX10_mayBe_0 : decode cX10_mayBe 0 = .ok (.aload_n 0, 1) := dcs_at ok23_dark_0_16 0 rfl
theorem dX10_mayBe_1 : decode cX10_mayBe 1 = .ok (.iload_n 2, 1) := dcs_at ok23_dark_0_16 1 rfl
theorem dX10_mayBe_2 : decode cX10_mayBe 2 = .ok (.invokevirtual 407, 3) := dcs_at ok23_dark_0_16 2 rfl
theorem dX10_mayBe_5 : decode cX10_mayBe 5 = .ok (.aload_n 0, 1) := dcs_at ok23_dark_0_16 3 rfl
theorem dX10_mayBe_6 : decode cX10_mayBe 6 = .ok (.iload_n 1, 1) := dcs_at ok23_dark_0_16 4 rfl
theorem dX10_mayBe_7 : decode cX10_mayBe 7 = .ok (.invokevirtual 395, 3) := dcs_at ok23_dark_0_16 5 rfl
theorem dX10_mayBe_10 : decode cX10_mayBe 10 = .ok (.if_icmp .eq 5, 3) := dcs_at ok23_dark_0_16 6 rfl
theorem dX10_mayBe_13 : decode cX10_mayBe 13 = .ok (.iconst 0, 1) := dcs_at ok23_dark_0_16 7 rfl
theorem dX10_mayBe_14 : decode cX10_mayBe 14 = .ok (.ireturn, 1) := dcs_at ok23_dark_0_16 8 rfl
theorem dX10_mayBe_15 : decode cX10_mayBe 15 = .ok (.iconst 0, 1) := dcs_at ok23_dark_0_16 9 rfl
theorem dX10_mayBe_16 : decode cX10_mayBe 16 = .ok (.istore_n 3, 1) := dcs_at ok23_dark_0_16 10 rfl
theorem dX10_mayBe_17 : decode cX10_mayBe 17 = .ok (.iload_n 3, 1) := dcs_at ok23_dark_0_16 11 rfl
theorem dX10_mayBe_18 : decode cX10_mayBe 18 = .ok (.aload_n 0, 1) := dcs_at ok23_dark_0_16 12 rfl
theorem dX10_mayBe_19 : decode cX10_mayBe 19 = .ok (.invokevirtual 398, 3) := dcs_at ok23_dark_0_16 13 rfl
theorem dX10_mayBe_22 : decode cX10_mayBe 22 = .ok (.if_icmp .ge 66, 3) := dcs_at ok23_dark_0_16 14 rfl
theorem dX10_mayBe_25 : decode cX10_mayBe 25 = .ok (.aload_n 0, 1) := dcs_at ok23_dark_0_16 15 rfl
theorem dX10_mayBe_26 : decode cX10_mayBe 26 = .ok (.getfield 66, 3) := dcs_at ok23_dark_0_16 16 rfl
theorem dX10_mayBe_29 : decode cX10_mayBe 29 = .ok (.sipush 16807, 3) := dcs_at ok23_dark_0_16 17 rfl
theorem dX10_mayBe_32 : decode cX10_mayBe 32 = .ok (.iload_n 1, 1) := dcs_at ok23_dark_0_16 18 rfl
theorem dX10_mayBe_33 : decode cX10_mayBe 33 = .ok (.imul, 1) := dcs_at ok23_dark_0_16 19 rfl
theorem dX10_mayBe_34 : decode cX10_mayBe 34 = .ok (.iload_n 3, 1) := dcs_at ok23_dark_0_16 20 rfl
theorem dX10_mayBe_35 : decode cX10_mayBe 35 = .ok (.iadd, 1) := dcs_at ok23_dark_0_16 21 rfl
theorem dX10_mayBe_36 : decode cX10_mayBe 36 = .ok (.laload, 1) := dcs_at ok23_dark_0_16 22 rfl
theorem dX10_mayBe_37 : decode cX10_mayBe 37 = .ok (.lconst 0, 1) := dcs_at ok23_dark_0_16 23 rfl
theorem dX10_mayBe_38 : decode cX10_mayBe 38 = .ok (.lcmp, 1) := dcs_at ok23_dark_0_16 24 rfl
theorem dX10_mayBe_39 : decode cX10_mayBe 39 = .ok (.ifCond .ne 7, 3) := dcs_at ok23_dark_0_16 25 rfl
theorem dX10_mayBe_42 : decode cX10_mayBe 42 = .ok (.iconst (-1), 1) := dcs_at ok23_dark_0_16 26 rfl
theorem dX10_mayBe_43 : decode cX10_mayBe 43 = .ok (.goto 9, 3) := dcs_at ok23_dark_0_16 27 rfl
theorem dX10_mayBe_46 : decode cX10_mayBe 46 = .ok (.aload_n 0, 1) := dcs_at ok23_dark_0_16 28 rfl
theorem dX10_mayBe_47 : decode cX10_mayBe 47 = .ok (.iload_n 3, 1) := dcs_at ok23_dark_0_16 29 rfl
theorem dX10_mayBe_48 : decode cX10_mayBe 48 = .ok (.iload_n 2, 1) := dcs_at ok23_dark_0_16 30 rfl
theorem dX10_mayBe_49 : decode cX10_mayBe 49 = .ok (.invokevirtual 410, 3) := dcs_at ok23_dark_0_16 31 rfl
theorem dX10_mayBe_52 : decode cX10_mayBe 52 = .ok (.istore 4, 2) := dcs_at ok23_dark_0_16 32 rfl
theorem dX10_mayBe_54 : decode cX10_mayBe 54 = .ok (.iload 4, 2) := dcs_at ok23_dark_0_16 33 rfl
theorem dX10_mayBe_56 : decode cX10_mayBe 56 = .ok (.iconst (-1), 1) := dcs_at ok23_dark_0_16 34 rfl
theorem dX10_mayBe_57 : decode cX10_mayBe 57 = .ok (.if_icmp .eq 25, 3) := dcs_at ok23_dark_0_16 35 rfl
theorem dX10_mayBe_60 : decode cX10_mayBe 60 = .ok (.aload_n 0, 1) := dcs_at ok23_dark_0_16 36 rfl
theorem dX10_mayBe_61 : decode cX10_mayBe 61 = .ok (.getfield 70, 3) := dcs_at ok23_dark_0_16 37 rfl
theorem dX10_mayBe_64 : decode cX10_mayBe 64 = .ok (.sipush 16807, 3) := dcs_at ok23_dark_0_16 38 rfl
theorem dX10_mayBe_67 : decode cX10_mayBe 67 = .ok (.iload_n 1, 1) := dcs_at ok23_dark_0_16 39 rfl
def tb23_dark_0_17 : List (Nat × (Instr × Nat)) := [(68, (.iconst 1, 1)), (69, (.iadd, 1)), (70, (.imul, 1)), (71, (.iload 4, 2)), (73, (.iadd, 1)), (74, (.laload, 1)), (75, (.lconst 0, 1)), (76, (.lcmp, 1)), (77, (.ifCond .le 5, 3)), (80, (.iconst 1, 1)), (81, (.ireturn, 1)), (82, (.iinc 3 1, 3)), (85, (.goto (-68), 3)), (88, (.iconst 0, 1)), (89, (.ireturn, 1))]
theorem ok23_dark_0_17 : dcs cX10_mayBe tb23_dark_0_17 = true := by decide +kernel
theorem dX10_mayBe_68 : decode cX10_mayBe 68 = .ok (.iconst 1, 1) := dcs_at ok23_dark_0_17 0 rfl
theorem dX10_mayBe_69 : decode cX10_mayBe 69 = .ok (.iadd, 1) := dcs_at ok23_dark_0_17 1 rfl
theorem dX10_mayBe_70 : decode cX10_mayBe 70 = .ok (.imul, 1) := dcs_at ok23_dark_0_17 2 rfl
theorem dX10_mayBe_71 : decode cX10_mayBe 71 = .ok (.iload 4, 2) := dcs_at ok23_dark_0_17 3 rfl
theorem dX10_mayBe_73 : decode cX10_mayBe 73 = .ok (.iadd, 1) := dcs_at ok23_dark_0_17 4 rfl
theorem dX10_mayBe_74 : decode cX10_mayBe 74 = .ok (.laload, 1) := dcs_at ok23_dark_0_17 5 rfl
theorem dX10_mayBe_75 : decode cX10_mayBe 75 = .ok (.lconst 0, 1) := dcs_at ok23_dark_0_17 6 rfl
theorem dX10_mayBe_76 : decode cX10_mayBe 76 = .ok (.lcmp, 1) := dcs_at ok23_dark_0_17 7 rfl
theorem dX10_mayBe_77 : decode cX10_mayBe 77 = .ok (.ifCond .le 5, 3) := dcs_at ok23_dark_0_17 8 rfl
theorem dX10_mayBe_80 : decode cX10_mayBe 80 = .ok (.iconst 1, 1) := dcs_at ok23_dark_0_17 9 rfl
theorem dX10_mayBe_81 : decode cX10_mayBe 81 = .ok (.ireturn, 1) := dcs_at ok23_dark_0_17 10 rfl
theorem dX10_mayBe_82 : decode cX10_mayBe 82 = .ok (.iinc 3 1, 3) := dcs_at ok23_dark_0_17 11 rfl
theorem dX10_mayBe_85 : decode cX10_mayBe 85 = .ok (.goto (-68), 3) := dcs_at ok23_dark_0_17 12 rfl
theorem dX10_mayBe_88 : decode cX10_mayBe 88 = .ok (.iconst 0, 1) := dcs_at ok23_dark_0_17 13 rfl
theorem dX10_mayBe_89 : decode cX10_mayBe 89 = .ok (.ireturn, 1) := dcs_at ok23_dark_0_17 14 rfl
def tb23_dark_0_18 : List (Nat × (Instr × Nat)) := [(0, (.aload_n 0, 1)), (1, (.iconst 0, 1)), (2, (.putfield 80, 3)), (5, (.aload_n 0, 1)), (6, (.iload_n 2, 1)), (7, (.invokevirtual 392, 3)), (10, (.ifCond .eq 25, 3)), (13, (.aload_n 0, 1)), (14, (.iload_n 1, 1)), (15, (.invokevirtual 237, 3)), (18, (.ifCond .eq 17, 3)), (21, (.iload_n 3, 1)), (22, (.iconst 0, 1)), (23, (.aload_n 0, 1)), (24, (.getfield 389, 3)), (27, (.iconst 1, 1)), (28, (.isub, 1)), (29, (.invokestatic 92, 3)), (32, (.ifCond .ne 6, 3)), (35, (.bipush (-2), 2)), (37, (.ireturn, 1)), (38, (.aload_n 0, 1)), (39, (.invokevirtual 415, 3)), (42, (.iconst 0, 1)), (43, (.istore 5, 2)), (45, (.iconst 1, 1)), (46, (.aload_n 0, 1)), (47, (.getfield 228, 3)), (50, (.ishl, 1)), (51, (.iconst 1, 1)), (52, (.isub, 1)), (53, (.istore 6, 2)), (55, (.iconst 0, 1)), (56, (.istore 7, 2)), (58, (.iload 7, 2)), (60, (.iconst 1, 1)), (61, (.aload_n 0, 1)), (62, (.getfield 228, 3)), (65, (.ishl, 1)), (66, (.if_icmp .ge 33, 3))]
theorem ok23_dark_0_18 : dcs cX10_whose tb23_dark_0_18 = true := by decide +kernel
theorem dX10_whose_0 : decode cX10_whose 0 = .ok (.aload_n 0, 1) := dcs_at ok23_dark_0_18 0 rfl
theorem dX10_whose_1 : decode cX10_whose 1 = .ok (.iconst 0, 1) := dcs_at ok23_dark_0_18 1 rfl
theorem dX10_whose_2 : decode cX10_whose 2 = .ok (.putfield 80, 3) := dcs_at ok23_dark_0_18 2 rfl
theorem dX10_whose_5 : decode cX10_whose 5 = .ok (.aload_n 0, 1) := dcs_at ok23_dark_0_18 3 rfl
theorem dX10_whose_6 : decode cX10_whose 6 = .ok (.iload_n 2, 1) := dcs_at ok23_dark_0_18 4 rfl
theorem dX10_whose_7 : decode cX10_whose 7 = .ok (.invokevirtual 392, 3) := dcs_at ok23_dark_0_18 5 rfl
theorem dX10_whose_10 : decode cX10_whose 10 = .ok (.ifCond .eq 25, 3) := dcs_at ok23_dark_0_18 6 rfl
theorem dX10_whose_13 : decode cX10_whose 13 = .ok (.aload_n 0, 1) := dcs_at ok23_dark_0_18 7 rfl
theorem dX10_whose_14 : decode cX10_whose 14 = .ok (.iload_n 1, 1) := dcs_at ok23_dark_0_18 8 rfl
theorem dX10_whose_15 : decode cX10_whose 15 = .ok (.invokevirtual 237, 3) := dcs_at ok23_dark_0_18 9 rfl
theorem dX10_whose_18 : decode cX10_whose 18 = .ok (.ifCond .eq 17, 3) := dcs_at ok23_dark_0_18 10 rfl
theorem dX10_whose_21 : decode cX10_whose 21 = .ok (.iload_n 3, 1) := dcs_at ok23_dark_0_18 11 rfl
theorem dX10_whose_22 : decode cX10_whose 22 = .ok (.iconst 0, 1) := dcs_at ok23_dark_0_18 12 rfl
theorem dX10_whose_23 : decode cX10_whose 23 = .ok (.aload_n 0, 1) := dcs_at ok23_dark_0_18 13 rfl
theorem dX10_whose_24 : decode cX10_whose 24 = .ok (.getfield 389, 3) := dcs_at ok23_dark_0_18 14 rfl
theorem dX10_whose_27 : decode cX10_whose 27 = .ok (.iconst 1, 1) := dcs_at ok23_dark_0_18 15 rfl
theorem dX10_whose_28 : decode cX10_whose 28 = .ok (.isub, 1) := dcs_at ok23_dark_0_18 16 rfl
theorem dX10_whose_29 : decode cX10_whose 29 = .ok (.invokestatic 92, 3) := dcs_at ok23_dark_0_18 17 rfl
theorem dX10_whose_32 : decode cX10_whose 32 = .ok (.ifCond .ne 6, 3) := dcs_at ok23_dark_0_18 18 rfl
theorem dX10_whose_35 : decode cX10_whose 35 = .ok (.bipush (-2), 2) := dcs_at ok23_dark_0_18 19 rfl
theorem dX10_whose_37 : decode cX10_whose 37 = .ok (.ireturn, 1) := dcs_at ok23_dark_0_18 20 rfl
theorem dX10_whose_38 : decode cX10_whose 38 = .ok (.aload_n 0, 1) := dcs_at ok23_dark_0_18 21 rfl
theorem dX10_whose_39 : decode cX10_whose 39 = .ok (.invokevirtual 415, 3) := dcs_at ok23_dark_0_18 22 rfl
theorem dX10_whose_42 : decode cX10_whose 42 = .ok (.iconst 0, 1) := dcs_at ok23_dark_0_18 23 rfl
theorem dX10_whose_43 : decode cX10_whose 43 = .ok (.istore 5, 2) := dcs_at ok23_dark_0_18 24 rfl
theorem dX10_whose_45 : decode cX10_whose 45 = .ok (.iconst 1, 1) := dcs_at ok23_dark_0_18 25 rfl
theorem dX10_whose_46 : decode cX10_whose 46 = .ok (.aload_n 0, 1) := dcs_at ok23_dark_0_18 26 rfl
theorem dX10_whose_47 : decode cX10_whose 47 = .ok (.getfield 228, 3) := dcs_at ok23_dark_0_18 27 rfl
theorem dX10_whose_50 : decode cX10_whose 50 = .ok (.ishl, 1) := dcs_at ok23_dark_0_18 28 rfl
theorem dX10_whose_51 : decode cX10_whose 51 = .ok (.iconst 1, 1) := dcs_at ok23_dark_0_18 29 rfl
theorem dX10_whose_52 : decode cX10_whose 52 = .ok (.isub, 1) := dcs_at ok23_dark_0_18 30 rfl
theorem dX10_whose_53 : decode cX10_whose 53 = .ok (.istore 6, 2) := dcs_at ok23_dark_0_18 31 rfl
theorem dX10_whose_55 : decode cX10_whose 55 = .ok (.iconst 0, 1) := dcs_at ok23_dark_0_18 32 rfl
theorem dX10_whose_56 : decode cX10_whose 56 = .ok (.istore 7, 2) := dcs_at ok23_dark_0_18 33 rfl
theorem dX10_whose_58 : decode cX10_whose 58 = .ok (.iload 7, 2) := dcs_at ok23_dark_0_18 34 rfl
theorem dX10_whose_60 : decode cX10_whose 60 = .ok (.iconst 1, 1) := dcs_at ok23_dark_0_18 35 rfl
theorem dX10_whose_61 : decode cX10_whose 61 = .ok (.aload_n 0, 1) := dcs_at ok23_dark_0_18 36 rfl
theorem dX10_whose_62 : decode cX10_whose 62 = .ok (.getfield 228, 3) := dcs_at ok23_dark_0_18 37 rfl
theorem dX10_whose_65 : decode cX10_whose 65 = .ok (.ishl, 1) := dcs_at ok23_dark_0_18 38 rfl
theorem dX10_whose_66 : decode cX10_whose 66 = .ok (.if_icmp .ge 33, 3) := dcs_at ok23_dark_0_18 39 rfl
def tb23_dark_0_19 : List (Nat × (Instr × Nat)) := [(69, (.aload_n 0, 1)), (70, (.iload_n 3, 1)), (71, (.iload 7, 2)), (73, (.invokevirtual 418, 3)), (76, (.ifCond .eq 17, 3)), (79, (.iload 5, 2)), (81, (.iload 7, 2)), (83, (.ior, 1)), (84, (.istore 5, 2)), (86, (.iload 6, 2)), (88, (.iload 7, 2)), (90, (.iand, 1)), (91, (.istore 6, 2)), (93, (.iinc 7 1, 3)), (96, (.goto (-38), 3)), (99, (.iload 4, 2)), (101, (.ifCond .eq 8, 3)), (104, (.iload 5, 2)), (106, (.goto 20, 3)), (109, (.aload_n 0, 1)), (110, (.getfield 70, 3)), (113, (.iconst 0, 1)), (114, (.laload, 1)), (115, (.lconst 0, 1)), (116, (.lcmp, 1)), (117, (.ifCond .ne 7, 3)), (120, (.iconst (-1), 1)), (121, (.goto 5, 3)), (124, (.iload 6, 2)), (126, (.ireturn, 1))]
theorem ok23_dark_0_19 : dcs cX10_whose tb23_dark_0_19 = true := by decide +kernel
theorem dX10_whose_69 : decode cX10_whose 69 = .ok (.aload_n 0, 1) := dcs_at ok23_dark_0_19 0 rfl
theorem dX10_whose_70 : decode cX10_whose 70 = .ok (.iload_n 3, 1) := dcs_at ok23_dark_0_19 1 rfl
theorem dX10_whose_71 : decode cX10_whose 71 = .ok (.iload 7, 2) := dcs_at ok23_dark_0_19 2 rfl
theorem dX10_whose_73 : decode cX10_whose 73 = .ok (.invokevirtual 418, 3) := dcs_at ok23_dark_0_19 3 rfl
theorem dX10_whose_76 : decode cX10_whose 76 = .ok (.ifCond .eq 17, 3) := dcs_at ok23_dark_0_19 4 rfl
theorem dX10_whose_79 : decode cX10_whose 79 = .ok (.iload 5, 2) := dcs_at ok23_dark_0_19 5 rfl
theorem dX10_whose_81 : decode cX10_whose 81 = .ok (.iload 7, 2) := dcs_at ok23_dark_0_19 6 rfl
theorem dX10_whose_83 : decode cX10_whose 83 = .ok (.ior, 1) := dcs_at ok23_dark_0_19 7 rfl
theorem dX10_whose_84 : decode cX10_whose 84 = .ok (.istore 5, 2) := dcs_at ok23_dark_0_19 8 rfl
theorem dX10_whose_86 : decode cX10_whose 86 = .ok (.iload 6, 2) := dcs_at ok23_dark_0_19 9 rfl
theorem dX10_whose_88 : decode cX10_whose 88 = .ok (.iload 7, 2) := dcs_at ok23_dark_0_19 10 rfl
theorem dX10_whose_90 : decode cX10_whose 90 = .ok (.iand, 1) := dcs_at ok23_dark_0_19 11 rfl
theorem dX10_whose_91 : decode cX10_whose 91 = .ok (.istore 6, 2) := dcs_at ok23_dark_0_19 12 rfl
theorem dX10_whose_93 : decode cX10_whose 93 = .ok (.iinc 7 1, 3) := dcs_at ok23_dark_0_19 13 rfl
theorem dX10_whose_96 : decode cX10_whose 96 = .ok (.goto (-38), 3) := dcs_at ok23_dark_0_19 14 rfl
theorem dX10_whose_99 : decode cX10_whose 99 = .ok (.iload 4, 2) := dcs_at ok23_dark_0_19 15 rfl
theorem dX10_whose_101 : decode cX10_whose 101 = .ok (.ifCond .eq 8, 3) := dcs_at ok23_dark_0_19 16 rfl
theorem dX10_whose_104 : decode cX10_whose 104 = .ok (.iload 5, 2) := dcs_at ok23_dark_0_19 17 rfl
theorem dX10_whose_106 : decode cX10_whose 106 = .ok (.goto 20, 3) := dcs_at ok23_dark_0_19 18 rfl
theorem dX10_whose_109 : decode cX10_whose 109 = .ok (.aload_n 0, 1) := dcs_at ok23_dark_0_19 19 rfl
theorem dX10_whose_110 : decode cX10_whose 110 = .ok (.getfield 70, 3) := dcs_at ok23_dark_0_19 20 rfl
theorem dX10_whose_113 : decode cX10_whose 113 = .ok (.iconst 0, 1) := dcs_at ok23_dark_0_19 21 rfl
theorem dX10_whose_114 : decode cX10_whose 114 = .ok (.laload, 1) := dcs_at ok23_dark_0_19 22 rfl
theorem dX10_whose_115 : decode cX10_whose 115 = .ok (.lconst 0, 1) := dcs_at ok23_dark_0_19 23 rfl
theorem dX10_whose_116 : decode cX10_whose 116 = .ok (.lcmp, 1) := dcs_at ok23_dark_0_19 24 rfl
theorem dX10_whose_117 : decode cX10_whose 117 = .ok (.ifCond .ne 7, 3) := dcs_at ok23_dark_0_19 25 rfl
theorem dX10_whose_120 : decode cX10_whose 120 = .ok (.iconst (-1), 1) := dcs_at ok23_dark_0_19 26 rfl
theorem dX10_whose_121 : decode cX10_whose 121 = .ok (.goto 5, 3) := dcs_at ok23_dark_0_19 27 rfl
theorem dX10_whose_124 : decode cX10_whose 124 = .ok (.iload 6, 2) := dcs_at ok23_dark_0_19 28 rfl
theorem dX10_whose_126 : decode cX10_whose 126 = .ok (.ireturn, 1) := dcs_at ok23_dark_0_19 29 rfl
def tb23_dark_0_20 : List (Nat × (Instr × Nat)) := [(0, (.aload_n 0, 1)), (1, (.aload_n 0, 1)), (2, (.getfield 421, 3)), (5, (.ldc_w 424, 3)), (8, (.imul, 1)), (9, (.sipush 12345, 3)), (12, (.iadd, 1)), (13, (.putfield 421, 3)), (16, (.aload_n 0, 1)), (17, (.getfield 421, 3)), (20, (.bipush 16, 2)), (22, (.iushr, 1)), (23, (.iload_n 1, 1)), (24, (.irem, 1)), (25, (.ireturn, 1))]
theorem ok23_dark_0_20 : dcs cX10_draw tb23_dark_0_20 = true := by decide +kernel
theorem dX10_draw_0 : decode cX10_draw 0 = .ok (.aload_n 0, 1) := dcs_at ok23_dark_0_20 0 rfl
theorem dX10_draw_1 : decode cX10_draw 1 = .ok (.aload_n 0, 1) := dcs_at ok23_dark_0_20 1 rfl
theorem dX10_draw_2 : decode cX10_draw 2 = .ok (.getfield 421, 3) := dcs_at ok23_dark_0_20 2 rfl
theorem dX10_draw_5 : decode cX10_draw 5 = .ok (.ldc_w 424, 3) := dcs_at ok23_dark_0_20 3 rfl
theorem dX10_draw_8 : decode cX10_draw 8 = .ok (.imul, 1) := dcs_at ok23_dark_0_20 4 rfl
theorem dX10_draw_9 : decode cX10_draw 9 = .ok (.sipush 12345, 3) := dcs_at ok23_dark_0_20 5 rfl
theorem dX10_draw_12 : decode cX10_draw 12 = .ok (.iadd, 1) := dcs_at ok23_dark_0_20 6 rfl
theorem dX10_draw_13 : decode cX10_draw 13 = .ok (.putfield 421, 3) := dcs_at ok23_dark_0_20 7 rfl
theorem dX10_draw_16 : decode cX10_draw 16 = .ok (.aload_n 0, 1) := dcs_at ok23_dark_0_20 8 rfl
theorem dX10_draw_17 : decode cX10_draw 17 = .ok (.getfield 421, 3) := dcs_at ok23_dark_0_20 9 rfl
theorem dX10_draw_20 : decode cX10_draw 20 = .ok (.bipush 16, 2) := dcs_at ok23_dark_0_20 10 rfl
theorem dX10_draw_22 : decode cX10_draw 22 = .ok (.iushr, 1) := dcs_at ok23_dark_0_20 11 rfl
theorem dX10_draw_23 : decode cX10_draw 23 = .ok (.iload_n 1, 1) := dcs_at ok23_dark_0_20 12 rfl
theorem dX10_draw_24 : decode cX10_draw 24 = .ok (.irem, 1) := dcs_at ok23_dark_0_20 13 rfl
theorem dX10_draw_25 : decode cX10_draw 25 = .ok (.ireturn, 1) := dcs_at ok23_dark_0_20 14 rfl
def tb23_dark_0_21 : List (Nat × (Instr × Nat)) := [(0, (.iload_n 1, 1)), (1, (.istore_n 2, 1)), (2, (.iconst 0, 1)), (3, (.istore_n 3, 1)), (4, (.aload_n 0, 1)), (5, (.getfield 267, 3)), (8, (.iload_n 3, 1)), (9, (.invokestatic 84, 3)), (12, (.ifCond .eq 7, 3)), (15, (.iload_n 2, 1)), (16, (.ifCond .le 28, 3)), (19, (.iload_n 2, 1)), (20, (.aload_n 0, 1)), (21, (.getfield 267, 3)), (24, (.iload_n 3, 1)), (25, (.invokestatic 84, 3)), (28, (.ifCond .eq 7, 3)), (31, (.iconst 1, 1)), (32, (.goto 4, 3)), (35, (.iconst 0, 1)), (36, (.isub, 1)), (37, (.istore_n 2, 1)), (38, (.iinc 3 1, 3)), (41, (.goto (-37), 3)), (44, (.iload_n 3, 1)), (45, (.ireturn, 1))]
theorem ok23_dark_0_21 : dcs cX10_livingOne tb23_dark_0_21 = true := by decide +kernel
theorem dX10_livingOne_0 : decode cX10_livingOne 0 = .ok (.iload_n 1, 1) := dcs_at ok23_dark_0_21 0 rfl
theorem dX10_livingOne_1 : decode cX10_livingOne 1 = .ok (.istore_n 2, 1) := dcs_at ok23_dark_0_21 1 rfl
theorem dX10_livingOne_2 : decode cX10_livingOne 2 = .ok (.iconst 0, 1) := dcs_at ok23_dark_0_21 2 rfl
theorem dX10_livingOne_3 : decode cX10_livingOne 3 = .ok (.istore_n 3, 1) := dcs_at ok23_dark_0_21 3 rfl
theorem dX10_livingOne_4 : decode cX10_livingOne 4 = .ok (.aload_n 0, 1) := dcs_at ok23_dark_0_21 4 rfl
theorem dX10_livingOne_5 : decode cX10_livingOne 5 = .ok (.getfield 267, 3) := dcs_at ok23_dark_0_21 5 rfl
theorem dX10_livingOne_8 : decode cX10_livingOne 8 = .ok (.iload_n 3, 1) := dcs_at ok23_dark_0_21 6 rfl
theorem dX10_livingOne_9 : decode cX10_livingOne 9 = .ok (.invokestatic 84, 3) := dcs_at ok23_dark_0_21 7 rfl
theorem dX10_livingOne_12 : decode cX10_livingOne 12 = .ok (.ifCond .eq 7, 3) := dcs_at ok23_dark_0_21 8 rfl
theorem dX10_livingOne_15 : decode cX10_livingOne 15 = .ok (.iload_n 2, 1) := dcs_at ok23_dark_0_21 9 rfl
theorem dX10_livingOne_16 : decode cX10_livingOne 16 = .ok (.ifCond .le 28, 3) := dcs_at ok23_dark_0_21 10 rfl
theorem dX10_livingOne_19 : decode cX10_livingOne 19 = .ok (.iload_n 2, 1) := dcs_at ok23_dark_0_21 11 rfl
theorem dX10_livingOne_20 : decode cX10_livingOne 20 = .ok (.aload_n 0, 1) := dcs_at ok23_dark_0_21 12 rfl
theorem dX10_livingOne_21 : decode cX10_livingOne 21 = .ok (.getfield 267, 3) := dcs_at ok23_dark_0_21 13 rfl
theorem dX10_livingOne_24 : decode cX10_livingOne 24 = .ok (.iload_n 3, 1) := dcs_at ok23_dark_0_21 14 rfl
theorem dX10_livingOne_25 : decode cX10_livingOne 25 = .ok (.invokestatic 84, 3) := dcs_at ok23_dark_0_21 15 rfl
theorem dX10_livingOne_28 : decode cX10_livingOne 28 = .ok (.ifCond .eq 7, 3) := dcs_at ok23_dark_0_21 16 rfl
theorem dX10_livingOne_31 : decode cX10_livingOne 31 = .ok (.iconst 1, 1) := dcs_at ok23_dark_0_21 17 rfl
theorem dX10_livingOne_32 : decode cX10_livingOne 32 = .ok (.goto 4, 3) := dcs_at ok23_dark_0_21 18 rfl
theorem dX10_livingOne_35 : decode cX10_livingOne 35 = .ok (.iconst 0, 1) := dcs_at ok23_dark_0_21 19 rfl
theorem dX10_livingOne_36 : decode cX10_livingOne 36 = .ok (.isub, 1) := dcs_at ok23_dark_0_21 20 rfl
theorem dX10_livingOne_37 : decode cX10_livingOne 37 = .ok (.istore_n 2, 1) := dcs_at ok23_dark_0_21 21 rfl
theorem dX10_livingOne_38 : decode cX10_livingOne 38 = .ok (.iinc 3 1, 3) := dcs_at ok23_dark_0_21 22 rfl
theorem dX10_livingOne_41 : decode cX10_livingOne 41 = .ok (.goto (-37), 3) := dcs_at ok23_dark_0_21 23 rfl
theorem dX10_livingOne_44 : decode cX10_livingOne 44 = .ok (.iload_n 3, 1) := dcs_at ok23_dark_0_21 24 rfl
theorem dX10_livingOne_45 : decode cX10_livingOne 45 = .ok (.ireturn, 1) := dcs_at ok23_dark_0_21 25 rfl
def tb23_dark_0_22 : List (Nat × (Instr × Nat)) := [(0, (.aload_n 0, 1)), (1, (.iconst 0, 1)), (2, (.putfield 80, 3)), (5, (.iload_n 3, 1)), (6, (.iconst 0, 1)), (7, (.bipush 20, 2)), (9, (.invokestatic 92, 3)), (12, (.ifCond .eq 38, 3)), (15, (.aload_n 0, 1)), (16, (.iload_n 1, 1)), (17, (.invokevirtual 237, 3)), (20, (.ifCond .eq 30, 3)), (23, (.iload 4, 2)), (25, (.iconst 0, 1)), (26, (.iconst 1, 1)), (27, (.invokestatic 92, 3)), (30, (.ifCond .ne 22, 3)), (33, (.iload 4, 2)), (35, (.bipush 10, 2)), (37, (.bipush 9, 2)), (39, (.aload_n 0, 1)), (40, (.getfield 231, 3)), (43, (.iadd, 1)), (44, (.invokestatic 92, 3)), (47, (.ifCond .ne 5, 3)), (50, (.iconst (-1), 1)), (51, (.ireturn, 1)), (52, (.aload_n 0, 1)), (53, (.iload_n 2, 1)), (54, (.putfield 421, 3)), (57, (.aload_n 0, 1)), (58, (.invokevirtual 323, 3)), (61, (.iconst 0, 1)), (62, (.istore 5, 2)), (64, (.iload 5, 2)), (66, (.iload_n 3, 1)), (67, (.if_icmp .ge 88, 3)), (70, (.iconst 0, 1)), (71, (.istore 6, 2)), (73, (.iload 6, 2))]
theorem ok23_dark_0_22 : dcs cX10_drawn tb23_dark_0_22 = true := by decide +kernel
theorem dX10_drawn_0 : decode cX10_drawn 0 = .ok (.aload_n 0, 1) := dcs_at ok23_dark_0_22 0 rfl
theorem dX10_drawn_1 : decode cX10_drawn 1 = .ok (.iconst 0, 1) := dcs_at ok23_dark_0_22 1 rfl
theorem dX10_drawn_2 : decode cX10_drawn 2 = .ok (.putfield 80, 3) := dcs_at ok23_dark_0_22 2 rfl
theorem dX10_drawn_5 : decode cX10_drawn 5 = .ok (.iload_n 3, 1) := dcs_at ok23_dark_0_22 3 rfl
theorem dX10_drawn_6 : decode cX10_drawn 6 = .ok (.iconst 0, 1) := dcs_at ok23_dark_0_22 4 rfl
theorem dX10_drawn_7 : decode cX10_drawn 7 = .ok (.bipush 20, 2) := dcs_at ok23_dark_0_22 5 rfl
theorem dX10_drawn_9 : decode cX10_drawn 9 = .ok (.invokestatic 92, 3) := dcs_at ok23_dark_0_22 6 rfl
theorem dX10_drawn_12 : decode cX10_drawn 12 = .ok (.ifCond .eq 38, 3) := dcs_at ok23_dark_0_22 7 rfl
theorem dX10_drawn_15 : decode cX10_drawn 15 = .ok (.aload_n 0, 1) := dcs_at ok23_dark_0_22 8 rfl
theorem dX10_drawn_16 : decode cX10_drawn 16 = .ok (.iload_n 1, 1) := dcs_at ok23_dark_0_22 9 rfl
theorem dX10_drawn_17 : decode cX10_drawn 17 = .ok (.invokevirtual 237, 3) := dcs_at ok23_dark_0_22 10 rfl
theorem dX10_drawn_20 : decode cX10_drawn 20 = .ok (.ifCond .eq 30, 3) := dcs_at ok23_dark_0_22 11 rfl
theorem dX10_drawn_23 : decode cX10_drawn 23 = .ok (.iload 4, 2) := dcs_at ok23_dark_0_22 12 rfl
theorem dX10_drawn_25 : decode cX10_drawn 25 = .ok (.iconst 0, 1) := dcs_at ok23_dark_0_22 13 rfl
theorem dX10_drawn_26 : decode cX10_drawn 26 = .ok (.iconst 1, 1) := dcs_at ok23_dark_0_22 14 rfl
theorem dX10_drawn_27 : decode cX10_drawn 27 = .ok (.invokestatic 92, 3) := dcs_at ok23_dark_0_22 15 rfl
theorem dX10_drawn_30 : decode cX10_drawn 30 = .ok (.ifCond .ne 22, 3) := dcs_at ok23_dark_0_22 16 rfl
theorem dX10_drawn_33 : decode cX10_drawn 33 = .ok (.iload 4, 2) := dcs_at ok23_dark_0_22 17 rfl
theorem dX10_drawn_35 : decode cX10_drawn 35 = .ok (.bipush 10, 2) := dcs_at ok23_dark_0_22 18 rfl
theorem dX10_drawn_37 : decode cX10_drawn 37 = .ok (.bipush 9, 2) := dcs_at ok23_dark_0_22 19 rfl
theorem dX10_drawn_39 : decode cX10_drawn 39 = .ok (.aload_n 0, 1) := dcs_at ok23_dark_0_22 20 rfl
theorem dX10_drawn_40 : decode cX10_drawn 40 = .ok (.getfield 231, 3) := dcs_at ok23_dark_0_22 21 rfl
theorem dX10_drawn_43 : decode cX10_drawn 43 = .ok (.iadd, 1) := dcs_at ok23_dark_0_22 22 rfl
theorem dX10_drawn_44 : decode cX10_drawn 44 = .ok (.invokestatic 92, 3) := dcs_at ok23_dark_0_22 23 rfl
theorem dX10_drawn_47 : decode cX10_drawn 47 = .ok (.ifCond .ne 5, 3) := dcs_at ok23_dark_0_22 24 rfl
theorem dX10_drawn_50 : decode cX10_drawn 50 = .ok (.iconst (-1), 1) := dcs_at ok23_dark_0_22 25 rfl
theorem dX10_drawn_51 : decode cX10_drawn 51 = .ok (.ireturn, 1) := dcs_at ok23_dark_0_22 26 rfl
theorem dX10_drawn_52 : decode cX10_drawn 52 = .ok (.aload_n 0, 1) := dcs_at ok23_dark_0_22 27 rfl
theorem dX10_drawn_53 : decode cX10_drawn 53 = .ok (.iload_n 2, 1) := dcs_at ok23_dark_0_22 28 rfl
theorem dX10_drawn_54 : decode cX10_drawn 54 = .ok (.putfield 421, 3) := dcs_at ok23_dark_0_22 29 rfl
theorem dX10_drawn_57 : decode cX10_drawn 57 = .ok (.aload_n 0, 1) := dcs_at ok23_dark_0_22 30 rfl
theorem dX10_drawn_58 : decode cX10_drawn 58 = .ok (.invokevirtual 323, 3) := dcs_at ok23_dark_0_22 31 rfl
theorem dX10_drawn_61 : decode cX10_drawn 61 = .ok (.iconst 0, 1) := dcs_at ok23_dark_0_22 32 rfl
theorem dX10_drawn_62 : decode cX10_drawn 62 = .ok (.istore 5, 2) := dcs_at ok23_dark_0_22 33 rfl
theorem dX10_drawn_64 : decode cX10_drawn 64 = .ok (.iload 5, 2) := dcs_at ok23_dark_0_22 34 rfl
theorem dX10_drawn_66 : decode cX10_drawn 66 = .ok (.iload_n 3, 1) := dcs_at ok23_dark_0_22 35 rfl
theorem dX10_drawn_67 : decode cX10_drawn 67 = .ok (.if_icmp .ge 88, 3) := dcs_at ok23_dark_0_22 36 rfl
theorem dX10_drawn_70 : decode cX10_drawn 70 = .ok (.iconst 0, 1) := dcs_at ok23_dark_0_22 37 rfl
theorem dX10_drawn_71 : decode cX10_drawn 71 = .ok (.istore 6, 2) := dcs_at ok23_dark_0_22 38 rfl
theorem dX10_drawn_73 : decode cX10_drawn 73 = .ok (.iload 6, 2) := dcs_at ok23_dark_0_22 39 rfl
def tb23_dark_0_23 : List (Nat × (Instr × Nat)) := [(75, (.aload_n 0, 1)), (76, (.getfield 228, 3)), (79, (.if_icmp .ge 66, 3)), (82, (.iconst 0, 1)), (83, (.istore 7, 2)), (85, (.iload 7, 2)), (87, (.aload_n 0, 1)), (88, (.bipush 6, 2)), (90, (.iconst 2, 1)), (91, (.iload 6, 2)), (93, (.imul, 1)), (94, (.iadd, 1)), (95, (.invokevirtual 224, 3)), (98, (.if_icmp .ge 41, 3)), (101, (.aload_n 0, 1)), (102, (.getfield 267, 3)), (105, (.ifCond .eq 34, 3)), (108, (.aload_n 0, 1)), (109, (.aload_n 0, 1)), (110, (.aload_n 0, 1)), (111, (.aload_n 0, 1)), (112, (.getfield 267, 3)), (115, (.invokestatic 368, 3)), (118, (.invokevirtual 425, 3)), (121, (.invokevirtual 428, 3)), (124, (.aload_n 0, 1)), (125, (.iload 6, 2)), (127, (.invokevirtual 288, 3)), (130, (.invokevirtual 291, 3)), (133, (.iinc 7 1, 3)), (136, (.goto (-51), 3)), (139, (.iinc 6 1, 3)), (142, (.goto (-69), 3)), (145, (.aload_n 0, 1)), (146, (.invokevirtual 317, 3)), (149, (.iinc 5 1, 3)), (152, (.goto (-88), 3)), (155, (.iload 4, 2)), (157, (.ifCond .ne 10, 3)), (160, (.aload_n 0, 1))]
theorem ok23_dark_0_23 : dcs cX10_drawn tb23_dark_0_23 = true := by decide +kernel
theorem dX10_drawn_75 : decode cX10_drawn 75 = .ok (.aload_n 0, 1) := dcs_at ok23_dark_0_23 0 rfl
theorem dX10_drawn_76 : decode cX10_drawn 76 = .ok (.getfield 228, 3) := dcs_at ok23_dark_0_23 1 rfl
theorem dX10_drawn_79 : decode cX10_drawn 79 = .ok (.if_icmp .ge 66, 3) := dcs_at ok23_dark_0_23 2 rfl
theorem dX10_drawn_82 : decode cX10_drawn 82 = .ok (.iconst 0, 1) := dcs_at ok23_dark_0_23 3 rfl
theorem dX10_drawn_83 : decode cX10_drawn 83 = .ok (.istore 7, 2) := dcs_at ok23_dark_0_23 4 rfl
theorem dX10_drawn_85 : decode cX10_drawn 85 = .ok (.iload 7, 2) := dcs_at ok23_dark_0_23 5 rfl
theorem dX10_drawn_87 : decode cX10_drawn 87 = .ok (.aload_n 0, 1) := dcs_at ok23_dark_0_23 6 rfl
theorem dX10_drawn_88 : decode cX10_drawn 88 = .ok (.bipush 6, 2) := dcs_at ok23_dark_0_23 7 rfl
theorem dX10_drawn_90 : decode cX10_drawn 90 = .ok (.iconst 2, 1) := dcs_at ok23_dark_0_23 8 rfl
theorem dX10_drawn_91 : decode cX10_drawn 91 = .ok (.iload 6, 2) := dcs_at ok23_dark_0_23 9 rfl
theorem dX10_drawn_93 : decode cX10_drawn 93 = .ok (.imul, 1) := dcs_at ok23_dark_0_23 10 rfl
theorem dX10_drawn_94 : decode cX10_drawn 94 = .ok (.iadd, 1) := dcs_at ok23_dark_0_23 11 rfl
theorem dX10_drawn_95 : decode cX10_drawn 95 = .ok (.invokevirtual 224, 3) := dcs_at ok23_dark_0_23 12 rfl
theorem dX10_drawn_98 : decode cX10_drawn 98 = .ok (.if_icmp .ge 41, 3) := dcs_at ok23_dark_0_23 13 rfl
theorem dX10_drawn_101 : decode cX10_drawn 101 = .ok (.aload_n 0, 1) := dcs_at ok23_dark_0_23 14 rfl
theorem dX10_drawn_102 : decode cX10_drawn 102 = .ok (.getfield 267, 3) := dcs_at ok23_dark_0_23 15 rfl
theorem dX10_drawn_105 : decode cX10_drawn 105 = .ok (.ifCond .eq 34, 3) := dcs_at ok23_dark_0_23 16 rfl
theorem dX10_drawn_108 : decode cX10_drawn 108 = .ok (.aload_n 0, 1) := dcs_at ok23_dark_0_23 17 rfl
theorem dX10_drawn_109 : decode cX10_drawn 109 = .ok (.aload_n 0, 1) := dcs_at ok23_dark_0_23 18 rfl
theorem dX10_drawn_110 : decode cX10_drawn 110 = .ok (.aload_n 0, 1) := dcs_at ok23_dark_0_23 19 rfl
theorem dX10_drawn_111 : decode cX10_drawn 111 = .ok (.aload_n 0, 1) := dcs_at ok23_dark_0_23 20 rfl
theorem dX10_drawn_112 : decode cX10_drawn 112 = .ok (.getfield 267, 3) := dcs_at ok23_dark_0_23 21 rfl
theorem dX10_drawn_115 : decode cX10_drawn 115 = .ok (.invokestatic 368, 3) := dcs_at ok23_dark_0_23 22 rfl
theorem dX10_drawn_118 : decode cX10_drawn 118 = .ok (.invokevirtual 425, 3) := dcs_at ok23_dark_0_23 23 rfl
theorem dX10_drawn_121 : decode cX10_drawn 121 = .ok (.invokevirtual 428, 3) := dcs_at ok23_dark_0_23 24 rfl
theorem dX10_drawn_124 : decode cX10_drawn 124 = .ok (.aload_n 0, 1) := dcs_at ok23_dark_0_23 25 rfl
theorem dX10_drawn_125 : decode cX10_drawn 125 = .ok (.iload 6, 2) := dcs_at ok23_dark_0_23 26 rfl
theorem dX10_drawn_127 : decode cX10_drawn 127 = .ok (.invokevirtual 288, 3) := dcs_at ok23_dark_0_23 27 rfl
theorem dX10_drawn_130 : decode cX10_drawn 130 = .ok (.invokevirtual 291, 3) := dcs_at ok23_dark_0_23 28 rfl
theorem dX10_drawn_133 : decode cX10_drawn 133 = .ok (.iinc 7 1, 3) := dcs_at ok23_dark_0_23 29 rfl
theorem dX10_drawn_136 : decode cX10_drawn 136 = .ok (.goto (-51), 3) := dcs_at ok23_dark_0_23 30 rfl
theorem dX10_drawn_139 : decode cX10_drawn 139 = .ok (.iinc 6 1, 3) := dcs_at ok23_dark_0_23 31 rfl
theorem dX10_drawn_142 : decode cX10_drawn 142 = .ok (.goto (-69), 3) := dcs_at ok23_dark_0_23 32 rfl
theorem dX10_drawn_145 : decode cX10_drawn 145 = .ok (.aload_n 0, 1) := dcs_at ok23_dark_0_23 33 rfl
theorem dX10_drawn_146 : decode cX10_drawn 146 = .ok (.invokevirtual 317, 3) := dcs_at ok23_dark_0_23 34 rfl
theorem dX10_drawn_149 : decode cX10_drawn 149 = .ok (.iinc 5 1, 3) := dcs_at ok23_dark_0_23 35 rfl
theorem dX10_drawn_152 : decode cX10_drawn 152 = .ok (.goto (-88), 3) := dcs_at ok23_dark_0_23 36 rfl
theorem dX10_drawn_155 : decode cX10_drawn 155 = .ok (.iload 4, 2) := dcs_at ok23_dark_0_23 37 rfl
theorem dX10_drawn_157 : decode cX10_drawn 157 = .ok (.ifCond .ne 10, 3) := dcs_at ok23_dark_0_23 38 rfl
theorem dX10_drawn_160 : decode cX10_drawn 160 = .ok (.aload_n 0, 1) := dcs_at ok23_dark_0_23 39 rfl
def tb23_dark_0_24 : List (Nat × (Instr × Nat)) := [(161, (.getfield 267, 3)), (164, (.goto 26, 3)), (167, (.iload 4, 2)), (169, (.iconst 1, 1)), (170, (.if_icmp .ne 10, 3)), (173, (.aload_n 0, 1)), (174, (.getfield 258, 3)), (177, (.goto 13, 3)), (180, (.aload_n 0, 1)), (181, (.getfield 50, 3)), (184, (.iload 4, 2)), (186, (.bipush 10, 2)), (188, (.isub, 1)), (189, (.iaload, 1)), (190, (.ireturn, 1))]
theorem ok23_dark_0_24 : dcs cX10_drawn tb23_dark_0_24 = true := by decide +kernel
theorem dX10_drawn_161 : decode cX10_drawn 161 = .ok (.getfield 267, 3) := dcs_at ok23_dark_0_24 0 rfl
theorem dX10_drawn_164 : decode cX10_drawn 164 = .ok (.goto 26, 3) := dcs_at ok23_dark_0_24 1 rfl
theorem dX10_drawn_167 : decode cX10_drawn 167 = .ok (.iload 4, 2) := dcs_at ok23_dark_0_24 2 rfl
theorem dX10_drawn_169 : decode cX10_drawn 169 = .ok (.iconst 1, 1) := dcs_at ok23_dark_0_24 3 rfl
theorem dX10_drawn_170 : decode cX10_drawn 170 = .ok (.if_icmp .ne 10, 3) := dcs_at ok23_dark_0_24 4 rfl
theorem dX10_drawn_173 : decode cX10_drawn 173 = .ok (.aload_n 0, 1) := dcs_at ok23_dark_0_24 5 rfl
theorem dX10_drawn_174 : decode cX10_drawn 174 = .ok (.getfield 258, 3) := dcs_at ok23_dark_0_24 6 rfl
theorem dX10_drawn_177 : decode cX10_drawn 177 = .ok (.goto 13, 3) := dcs_at ok23_dark_0_24 7 rfl
theorem dX10_drawn_180 : decode cX10_drawn 180 = .ok (.aload_n 0, 1) := dcs_at ok23_dark_0_24 8 rfl
theorem dX10_drawn_181 : decode cX10_drawn 181 = .ok (.getfield 50, 3) := dcs_at ok23_dark_0_24 9 rfl
theorem dX10_drawn_184 : decode cX10_drawn 184 = .ok (.iload 4, 2) := dcs_at ok23_dark_0_24 10 rfl
theorem dX10_drawn_186 : decode cX10_drawn 186 = .ok (.bipush 10, 2) := dcs_at ok23_dark_0_24 11 rfl
theorem dX10_drawn_188 : decode cX10_drawn 188 = .ok (.isub, 1) := dcs_at ok23_dark_0_24 12 rfl
theorem dX10_drawn_189 : decode cX10_drawn 189 = .ok (.iaload, 1) := dcs_at ok23_dark_0_24 13 rfl
theorem dX10_drawn_190 : decode cX10_drawn 190 = .ok (.ireturn, 1) := dcs_at ok23_dark_0_24 14 rfl
