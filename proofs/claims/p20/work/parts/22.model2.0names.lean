def tb22_model2_0_1 : List (Nat × (Instr × Nat)) := [(0, (.aload_n 0, 1)), (1, (.iconst 0, 1)), (2, (.putfield 80, 3)), (5, (.aload_n 0, 1)), (6, (.getfield 13, 3)), (9, (.iconst 0, 1)), (10, (.iaload, 1)), (11, (.bipush 20, 2)), (13, (.iadd, 1)), (14, (.sipush 600, 3)), (17, (.if_icmp .le 5, 3)), (20, (.iconst (-1), 1)), (21, (.ireturn, 1)), (22, (.aload_n 0, 1)), (23, (.iload_n 1, 1)), (24, (.invokevirtual 96, 3)), (27, (.aload_n 0, 1)), (28, (.iload_n 2, 1)), (29, (.invokevirtual 96, 3)), (32, (.aload_n 0, 1)), (33, (.iload_n 3, 1)), (34, (.invokevirtual 96, 3)), (37, (.aload_n 0, 1)), (38, (.iload 4, 2)), (40, (.invokevirtual 96, 3)), (43, (.aload_n 0, 1)), (44, (.iload 5, 2)), (46, (.invokevirtual 96, 3)), (49, (.aload_n 0, 1)), (50, (.getfield 13, 3)), (53, (.iconst 0, 1)), (54, (.iaload, 1)), (55, (.ireturn, 1))]
theorem ok22_model2_0_1 : dcs cX10_feed tb22_model2_0_1 = true := by decide +kernel
theorem dX10_feed_0 : decode cX10_feed 0 = .ok (.aload_n 0, 1) := dcs_at ok22_model2_0_1 0 rfl
theorem dX10_feed_1 : decode cX10_feed 1 = .ok (.iconst 0, 1) := dcs_at ok22_model2_0_1 1 rfl
theorem dX10_feed_2 : decode cX10_feed 2 = .ok (.putfield 80, 3) := dcs_at ok22_model2_0_1 2 rfl
theorem dX10_feed_5 : decode cX10_feed 5 = .ok (.aload_n 0, 1) := dcs_at ok22_model2_0_1 3 rfl
theorem dX10_feed_6 : decode cX10_feed 6 = .ok (.getfield 13, 3) := dcs_at ok22_model2_0_1 4 rfl
theorem dX10_feed_9 : decode cX10_feed 9 = .ok (.iconst 0, 1) := dcs_at ok22_model2_0_1 5 rfl
theorem dX10_feed_10 : decode cX10_feed 10 = .ok (.iaload, 1) := dcs_at ok22_model2_0_1 6 rfl
theorem dX10_feed_11 : decode cX10_feed 11 = .ok (.bipush 20, 2) := dcs_at ok22_model2_0_1 7 rfl
theorem dX10_feed_13 : decode cX10_feed 13 = .ok (.iadd, 1) := dcs_at ok22_model2_0_1 8 rfl
theorem dX10_feed_14 : decode cX10_feed 14 = .ok (.sipush 600, 3) := dcs_at ok22_model2_0_1 9 rfl
theorem dX10_feed_17 : decode cX10_feed 17 = .ok (.if_icmp .le 5, 3) := dcs_at ok22_model2_0_1 10 rfl
theorem dX10_feed_20 : decode cX10_feed 20 = .ok (.iconst (-1), 1) := dcs_at ok22_model2_0_1 11 rfl
theorem dX10_feed_21 : decode cX10_feed 21 = .ok (.ireturn, 1) := dcs_at ok22_model2_0_1 12 rfl
theorem dX10_feed_22 : decode cX10_feed 22 = .ok (.aload_n 0, 1) := dcs_at ok22_model2_0_1 13 rfl
theorem dX10_feed_23 : decode cX10_feed 23 = .ok (.iload_n 1, 1) := dcs_at ok22_model2_0_1 14 rfl
theorem dX10_feed_24 : decode cX10_feed 24 = .ok (.invokevirtual 96, 3) := dcs_at ok22_model2_0_1 15 rfl
theorem dX10_feed_27 : decode cX10_feed 27 = .ok (.aload_n 0, 1) := dcs_at ok22_model2_0_1 16 rfl
theorem dX10_feed_28 : decode cX10_feed 28 = .ok (.iload_n 2, 1) := dcs_at ok22_model2_0_1 17 rfl
theorem dX10_feed_29 : decode cX10_feed 29 = .ok (.invokevirtual 96, 3) := dcs_at ok22_model2_0_1 18 rfl
theorem dX10_feed_32 : decode cX10_feed 32 = .ok (.aload_n 0, 1) := dcs_at ok22_model2_0_1 19 rfl
theorem dX10_feed_33 : decode cX10_feed 33 = .ok (.iload_n 3, 1) := dcs_at ok22_model2_0_1 20 rfl
theorem dX10_feed_34 : decode cX10_feed 34 = .ok (.invokevirtual 96, 3) := dcs_at ok22_model2_0_1 21 rfl
theorem dX10_feed_37 : decode cX10_feed 37 = .ok (.aload_n 0, 1) := dcs_at ok22_model2_0_1 22 rfl
theorem dX10_feed_38 : decode cX10_feed 38 = .ok (.iload 4, 2) := dcs_at ok22_model2_0_1 23 rfl
theorem dX10_feed_40 : decode cX10_feed 40 = .ok (.invokevirtual 96, 3) := dcs_at ok22_model2_0_1 24 rfl
theorem dX10_feed_43 : decode cX10_feed 43 = .ok (.aload_n 0, 1) := dcs_at ok22_model2_0_1 25 rfl
theorem dX10_feed_44 : decode cX10_feed 44 = .ok (.iload 5, 2) := dcs_at ok22_model2_0_1 26 rfl
theorem dX10_feed_46 : decode cX10_feed 46 = .ok (.invokevirtual 96, 3) := dcs_at ok22_model2_0_1 27 rfl
theorem dX10_feed_49 : decode cX10_feed 49 = .ok (.aload_n 0, 1) := dcs_at ok22_model2_0_1 28 rfl
theorem dX10_feed_50 : decode cX10_feed 50 = .ok (.getfield 13, 3) := dcs_at ok22_model2_0_1 29 rfl
theorem dX10_feed_53 : decode cX10_feed 53 = .ok (.iconst 0, 1) := dcs_at ok22_model2_0_1 30 rfl
theorem dX10_feed_54 : decode cX10_feed 54 = .ok (.iaload, 1) := dcs_at ok22_model2_0_1 31 rfl
theorem dX10_feed_55 : decode cX10_feed 55 = .ok (.ireturn, 1) := dcs_at ok22_model2_0_1 32 rfl
def tb22_model2_0_2 : List (Nat × (Instr × Nat)) := [(0, (.bipush 24, 2)), (2, (.istore_n 2, 1)), (3, (.iload_n 2, 1)), (4, (.ifCond .lt 34, 3)), (7, (.aload_n 0, 1)), (8, (.getfield 7, 3)), (11, (.aload_n 0, 1)), (12, (.getfield 13, 3)), (15, (.iconst 0, 1)), (16, (.iaload, 1)), (17, (.iload_n 1, 1)), (18, (.iload_n 2, 1)), (19, (.ishr, 1)), (20, (.i2b, 1)), (21, (.bastore, 1)), (22, (.aload_n 0, 1)), (23, (.getfield 13, 3)), (26, (.iconst 0, 1)), (27, (.dup2, 1)), (28, (.iaload, 1)), (29, (.iconst 1, 1)), (30, (.iadd, 1)), (31, (.iastore, 1)), (32, (.iinc 2 (-8), 3)), (35, (.goto (-32), 3)), (38, (.return_, 1))]
theorem ok22_model2_0_2 : dcs cX10_four tb22_model2_0_2 = true := by decide +kernel
theorem dX10_four_0 : decode cX10_four 0 = .ok (.bipush 24, 2) := dcs_at ok22_model2_0_2 0 rfl
theorem dX10_four_2 : decode cX10_four 2 = .ok (.istore_n 2, 1) := dcs_at ok22_model2_0_2 1 rfl
theorem dX10_four_3 : decode cX10_four 3 = .ok (.iload_n 2, 1) := dcs_at ok22_model2_0_2 2 rfl
theorem dX10_four_4 : decode cX10_four 4 = .ok (.ifCond .lt 34, 3) := dcs_at ok22_model2_0_2 3 rfl
theorem dX10_four_7 : decode cX10_four 7 = .ok (.aload_n 0, 1) := dcs_at ok22_model2_0_2 4 rfl
theorem dX10_four_8 : decode cX10_four 8 = .ok (.getfield 7, 3) := dcs_at ok22_model2_0_2 5 rfl
theorem dX10_four_11 : decode cX10_four 11 = .ok (.aload_n 0, 1) := dcs_at ok22_model2_0_2 6 rfl
theorem dX10_four_12 : decode cX10_four 12 = .ok (.getfield 13, 3) := dcs_at ok22_model2_0_2 7 rfl
theorem dX10_four_15 : decode cX10_four 15 = .ok (.iconst 0, 1) := dcs_at ok22_model2_0_2 8 rfl
theorem dX10_four_16 : decode cX10_four 16 = .ok (.iaload, 1) := dcs_at ok22_model2_0_2 9 rfl
theorem dX10_four_17 : decode cX10_four 17 = .ok (.iload_n 1, 1) := dcs_at ok22_model2_0_2 10 rfl
theorem dX10_four_18 : decode cX10_four 18 = .ok (.iload_n 2, 1) := dcs_at ok22_model2_0_2 11 rfl
theorem dX10_four_19 : decode cX10_four 19 = .ok (.ishr, 1) := dcs_at ok22_model2_0_2 12 rfl
theorem dX10_four_20 : decode cX10_four 20 = .ok (.i2b, 1) := dcs_at ok22_model2_0_2 13 rfl
theorem dX10_four_21 : decode cX10_four 21 = .ok (.bastore, 1) := dcs_at ok22_model2_0_2 14 rfl
theorem dX10_four_22 : decode cX10_four 22 = .ok (.aload_n 0, 1) := dcs_at ok22_model2_0_2 15 rfl
theorem dX10_four_23 : decode cX10_four 23 = .ok (.getfield 13, 3) := dcs_at ok22_model2_0_2 16 rfl
theorem dX10_four_26 : decode cX10_four 26 = .ok (.iconst 0, 1) := dcs_at ok22_model2_0_2 17 rfl
theorem dX10_four_27 : decode cX10_four 27 = .ok (.dup2, 1) := dcs_at ok22_model2_0_2 18 rfl
theorem dX10_four_28 : decode cX10_four 28 = .ok (.iaload, 1) := dcs_at ok22_model2_0_2 19 rfl
theorem dX10_four_29 : decode cX10_four 29 = .ok (.iconst 1, 1) := dcs_at ok22_model2_0_2 20 rfl
theorem dX10_four_30 : decode cX10_four 30 = .ok (.iadd, 1) := dcs_at ok22_model2_0_2 21 rfl
theorem dX10_four_31 : decode cX10_four 31 = .ok (.iastore, 1) := dcs_at ok22_model2_0_2 22 rfl
theorem dX10_four_32 : decode cX10_four 32 = .ok (.iinc 2 (-8), 3) := dcs_at ok22_model2_0_2 23 rfl
theorem dX10_four_35 : decode cX10_four 35 = .ok (.goto (-32), 3) := dcs_at ok22_model2_0_2 24 rfl
theorem dX10_four_38 : decode cX10_four 38 = .ok (.return_, 1) := dcs_at ok22_model2_0_2 25 rfl
def tb22_model2_0_3 : List (Nat × (Instr × Nat)) := [(0, (.aload_n 0, 1)), (1, (.iconst 0, 1)), (2, (.putfield 80, 3)), (5, (.iload_n 1, 1)), (6, (.iconst 0, 1)), (7, (.aload_n 0, 1)), (8, (.getfield 13, 3)), (11, (.iconst 0, 1)), (12, (.iaload, 1)), (13, (.invokestatic 92, 3)), (16, (.ifCond .ne 5, 3)), (19, (.iconst (-1), 1)), (20, (.ireturn, 1)), (21, (.aload_n 0, 1)), (22, (.getfield 13, 3)), (25, (.iconst 0, 1)), (26, (.iload_n 1, 1)), (27, (.iastore, 1)), (28, (.iload_n 1, 1)), (29, (.ireturn, 1))]
theorem ok22_model2_0_3 : dcs cX10_end tb22_model2_0_3 = true := by decide +kernel
theorem dX10_end_0 : decode cX10_end 0 = .ok (.aload_n 0, 1) := dcs_at ok22_model2_0_3 0 rfl
theorem dX10_end_1 : decode cX10_end 1 = .ok (.iconst 0, 1) := dcs_at ok22_model2_0_3 1 rfl
theorem dX10_end_2 : decode cX10_end 2 = .ok (.putfield 80, 3) := dcs_at ok22_model2_0_3 2 rfl
theorem dX10_end_5 : decode cX10_end 5 = .ok (.iload_n 1, 1) := dcs_at ok22_model2_0_3 3 rfl
theorem dX10_end_6 : decode cX10_end 6 = .ok (.iconst 0, 1) := dcs_at ok22_model2_0_3 4 rfl
theorem dX10_end_7 : decode cX10_end 7 = .ok (.aload_n 0, 1) := dcs_at ok22_model2_0_3 5 rfl
theorem dX10_end_8 : decode cX10_end 8 = .ok (.getfield 13, 3) := dcs_at ok22_model2_0_3 6 rfl
theorem dX10_end_11 : decode cX10_end 11 = .ok (.iconst 0, 1) := dcs_at ok22_model2_0_3 7 rfl
theorem dX10_end_12 : decode cX10_end 12 = .ok (.iaload, 1) := dcs_at ok22_model2_0_3 8 rfl
theorem dX10_end_13 : decode cX10_end 13 = .ok (.invokestatic 92, 3) := dcs_at ok22_model2_0_3 9 rfl
theorem dX10_end_16 : decode cX10_end 16 = .ok (.ifCond .ne 5, 3) := dcs_at ok22_model2_0_3 10 rfl
theorem dX10_end_19 : decode cX10_end 19 = .ok (.iconst (-1), 1) := dcs_at ok22_model2_0_3 11 rfl
theorem dX10_end_20 : decode cX10_end 20 = .ok (.ireturn, 1) := dcs_at ok22_model2_0_3 12 rfl
theorem dX10_end_21 : decode cX10_end 21 = .ok (.aload_n 0, 1) := dcs_at ok22_model2_0_3 13 rfl
theorem dX10_end_22 : decode cX10_end 22 = .ok (.getfield 13, 3) := dcs_at ok22_model2_0_3 14 rfl
theorem dX10_end_25 : decode cX10_end 25 = .ok (.iconst 0, 1) := dcs_at ok22_model2_0_3 15 rfl
theorem dX10_end_26 : decode cX10_end 26 = .ok (.iload_n 1, 1) := dcs_at ok22_model2_0_3 16 rfl
theorem dX10_end_27 : decode cX10_end 27 = .ok (.iastore, 1) := dcs_at ok22_model2_0_3 17 rfl
theorem dX10_end_28 : decode cX10_end 28 = .ok (.iload_n 1, 1) := dcs_at ok22_model2_0_3 18 rfl
theorem dX10_end_29 : decode cX10_end 29 = .ok (.ireturn, 1) := dcs_at ok22_model2_0_3 19 rfl
def tb22_model2_0_4 : List (Nat × (Instr × Nat)) := [(0, (.aload_n 0, 1)), (1, (.iconst 0, 1)), (2, (.putfield 80, 3)), (5, (.iload_n 1, 1)), (6, (.ifCond .ne 12, 3)), (9, (.aload_n 0, 1)), (10, (.getfield 17, 3)), (13, (.iconst 0, 1)), (14, (.iaload, 1)), (15, (.goto 18, 3)), (18, (.iload_n 1, 1)), (19, (.iconst 1, 1)), (20, (.if_icmp .ne 12, 3)), (23, (.aload_n 0, 1)), (24, (.getfield 20, 3)), (27, (.iconst 0, 1)), (28, (.iaload, 1)), (29, (.goto 4, 3)), (32, (.iconst (-1), 1)), (33, (.ireturn, 1))]
theorem ok22_model2_0_4 : dcs cX10_fault tb22_model2_0_4 = true := by decide +kernel
theorem dX10_fault_0 : decode cX10_fault 0 = .ok (.aload_n 0, 1) := dcs_at ok22_model2_0_4 0 rfl
theorem dX10_fault_1 : decode cX10_fault 1 = .ok (.iconst 0, 1) := dcs_at ok22_model2_0_4 1 rfl
theorem dX10_fault_2 : decode cX10_fault 2 = .ok (.putfield 80, 3) := dcs_at ok22_model2_0_4 2 rfl
theorem dX10_fault_5 : decode cX10_fault 5 = .ok (.iload_n 1, 1) := dcs_at ok22_model2_0_4 3 rfl
theorem dX10_fault_6 : decode cX10_fault 6 = .ok (.ifCond .ne 12, 3) := dcs_at ok22_model2_0_4 4 rfl
theorem dX10_fault_9 : decode cX10_fault 9 = .ok (.aload_n 0, 1) := dcs_at ok22_model2_0_4 5 rfl
theorem dX10_fault_10 : decode cX10_fault 10 = .ok (.getfield 17, 3) := dcs_at ok22_model2_0_4 6 rfl
theorem dX10_fault_13 : decode cX10_fault 13 = .ok (.iconst 0, 1) := dcs_at ok22_model2_0_4 7 rfl
theorem dX10_fault_14 : decode cX10_fault 14 = .ok (.iaload, 1) := dcs_at ok22_model2_0_4 8 rfl
theorem dX10_fault_15 : decode cX10_fault 15 = .ok (.goto 18, 3) := dcs_at ok22_model2_0_4 9 rfl
theorem dX10_fault_18 : decode cX10_fault 18 = .ok (.iload_n 1, 1) := dcs_at ok22_model2_0_4 10 rfl
theorem dX10_fault_19 : decode cX10_fault 19 = .ok (.iconst 1, 1) := dcs_at ok22_model2_0_4 11 rfl
theorem dX10_fault_20 : decode cX10_fault 20 = .ok (.if_icmp .ne 12, 3) := dcs_at ok22_model2_0_4 12 rfl
theorem dX10_fault_23 : decode cX10_fault 23 = .ok (.aload_n 0, 1) := dcs_at ok22_model2_0_4 13 rfl
theorem dX10_fault_24 : decode cX10_fault 24 = .ok (.getfield 20, 3) := dcs_at ok22_model2_0_4 14 rfl
theorem dX10_fault_27 : decode cX10_fault 27 = .ok (.iconst 0, 1) := dcs_at ok22_model2_0_4 15 rfl
theorem dX10_fault_28 : decode cX10_fault 28 = .ok (.iaload, 1) := dcs_at ok22_model2_0_4 16 rfl
theorem dX10_fault_29 : decode cX10_fault 29 = .ok (.goto 4, 3) := dcs_at ok22_model2_0_4 17 rfl
theorem dX10_fault_32 : decode cX10_fault 32 = .ok (.iconst (-1), 1) := dcs_at ok22_model2_0_4 18 rfl
theorem dX10_fault_33 : decode cX10_fault 33 = .ok (.ireturn, 1) := dcs_at ok22_model2_0_4 19 rfl
def tb22_model2_0_5 : List (Nat × (Instr × Nat)) := [(0, (.iload_n 0, 1)), (1, (.istore_n 2, 1)), (2, (.iload_n 1, 1)), (3, (.istore_n 3, 1)), (4, (.iload_n 3, 1)), (5, (.ifCond .eq 16, 3)), (8, (.iload_n 2, 1)), (9, (.iload_n 3, 1)), (10, (.irem, 1)), (11, (.istore 4, 2)), (13, (.iload_n 3, 1)), (14, (.istore_n 2, 1)), (15, (.iload 4, 2)), (17, (.istore_n 3, 1)), (18, (.goto (-14), 3)), (21, (.iload_n 2, 1)), (22, (.ireturn, 1))]
theorem ok22_model2_0_5 : dcs cX10_common tb22_model2_0_5 = true := by decide +kernel
theorem dX10_common_0 : decode cX10_common 0 = .ok (.iload_n 0, 1) := dcs_at ok22_model2_0_5 0 rfl
theorem dX10_common_1 : decode cX10_common 1 = .ok (.istore_n 2, 1) := dcs_at ok22_model2_0_5 1 rfl
theorem dX10_common_2 : decode cX10_common 2 = .ok (.iload_n 1, 1) := dcs_at ok22_model2_0_5 2 rfl
theorem dX10_common_3 : decode cX10_common 3 = .ok (.istore_n 3, 1) := dcs_at ok22_model2_0_5 3 rfl
theorem dX10_common_4 : decode cX10_common 4 = .ok (.iload_n 3, 1) := dcs_at ok22_model2_0_5 4 rfl
theorem dX10_common_5 : decode cX10_common 5 = .ok (.ifCond .eq 16, 3) := dcs_at ok22_model2_0_5 5 rfl
theorem dX10_common_8 : decode cX10_common 8 = .ok (.iload_n 2, 1) := dcs_at ok22_model2_0_5 6 rfl
theorem dX10_common_9 : decode cX10_common 9 = .ok (.iload_n 3, 1) := dcs_at ok22_model2_0_5 7 rfl
theorem dX10_common_10 : decode cX10_common 10 = .ok (.irem, 1) := dcs_at ok22_model2_0_5 8 rfl
theorem dX10_common_11 : decode cX10_common 11 = .ok (.istore 4, 2) := dcs_at ok22_model2_0_5 9 rfl
theorem dX10_common_13 : decode cX10_common 13 = .ok (.iload_n 3, 1) := dcs_at ok22_model2_0_5 10 rfl
theorem dX10_common_14 : decode cX10_common 14 = .ok (.istore_n 2, 1) := dcs_at ok22_model2_0_5 11 rfl
theorem dX10_common_15 : decode cX10_common 15 = .ok (.iload 4, 2) := dcs_at ok22_model2_0_5 12 rfl
theorem dX10_common_17 : decode cX10_common 17 = .ok (.istore_n 3, 1) := dcs_at ok22_model2_0_5 13 rfl
theorem dX10_common_18 : decode cX10_common 18 = .ok (.goto (-14), 3) := dcs_at ok22_model2_0_5 14 rfl
theorem dX10_common_21 : decode cX10_common 21 = .ok (.iload_n 2, 1) := dcs_at ok22_model2_0_5 15 rfl
theorem dX10_common_22 : decode cX10_common 22 = .ok (.ireturn, 1) := dcs_at ok22_model2_0_5 16 rfl
def tb22_model2_0_6 : List (Nat × (Instr × Nat)) := [(0, (.aload_n 0, 1)), (1, (.iconst 0, 1)), (2, (.putfield 80, 3)), (5, (.aload_n 0, 1)), (6, (.iload_n 1, 1)), (7, (.iload_n 2, 1)), (8, (.iload_n 3, 1)), (9, (.invokevirtual 332, 3)), (12, (.ifCond .ne 6, 3)), (15, (.bipush (-2), 2)), (17, (.ireturn, 1)), (18, (.iconst 0, 1)), (19, (.istore 5, 2)), (21, (.iconst 0, 1)), (22, (.istore 6, 2)), (24, (.iconst 0, 1)), (25, (.istore 7, 2)), (27, (.iload 7, 2)), (29, (.aload_n 0, 1)), (30, (.getfield 231, 3)), (33, (.if_icmp .ge 20, 3)), (36, (.iload 5, 2)), (38, (.aload_n 0, 1)), (39, (.iload 7, 2)), (41, (.invokevirtual 341, 3)), (44, (.iadd, 1)), (45, (.istore 5, 2)), (47, (.iinc 7 1, 3)), (50, (.goto (-23), 3)), (53, (.iconst 0, 1)), (54, (.istore 7, 2)), (56, (.iload 7, 2)), (58, (.aload_n 0, 1)), (59, (.getfield 228, 3)), (62, (.if_icmp .ge 21, 3)), (65, (.iload 6, 2)), (67, (.aload_n 0, 1)), (68, (.getfield 41, 3)), (71, (.iload 7, 2)), (73, (.iaload, 1))]
theorem ok22_model2_0_6 : dcs cX10_fair tb22_model2_0_6 = true := by decide +kernel
theorem dX10_fair_0 : decode cX10_fair 0 = .ok (.aload_n 0, 1) := dcs_at ok22_model2_0_6 0 rfl
theorem dX10_fair_1 : decode cX10_fair 1 = .ok (.iconst 0, 1) := dcs_at ok22_model2_0_6 1 rfl
theorem dX10_fair_2 : decode cX10_fair 2 = .ok (.putfield 80, 3) := dcs_at ok22_model2_0_6 2 rfl
theorem dX10_fair_5 : decode cX10_fair 5 = .ok (.aload_n 0, 1) := dcs_at ok22_model2_0_6 3 rfl
theorem dX10_fair_6 : decode cX10_fair 6 = .ok (.iload_n 1, 1) := dcs_at ok22_model2_0_6 4 rfl
theorem dX10_fair_7 : decode cX10_fair 7 = .ok (.iload_n 2, 1) := dcs_at ok22_model2_0_6 5 rfl
theorem dX10_fair_8 : decode cX10_fair 8 = .ok (.iload_n 3, 1) := dcs_at ok22_model2_0_6 6 rfl
theorem dX10_fair_9 : decode cX10_fair 9 = .ok (.invokevirtual 332, 3) := dcs_at ok22_model2_0_6 7 rfl
theorem dX10_fair_12 : decode cX10_fair 12 = .ok (.ifCond .ne 6, 3) := dcs_at ok22_model2_0_6 8 rfl
theorem dX10_fair_15 : decode cX10_fair 15 = .ok (.bipush (-2), 2) := dcs_at ok22_model2_0_6 9 rfl
theorem dX10_fair_17 : decode cX10_fair 17 = .ok (.ireturn, 1) := dcs_at ok22_model2_0_6 10 rfl
theorem dX10_fair_18 : decode cX10_fair 18 = .ok (.iconst 0, 1) := dcs_at ok22_model2_0_6 11 rfl
theorem dX10_fair_19 : decode cX10_fair 19 = .ok (.istore 5, 2) := dcs_at ok22_model2_0_6 12 rfl
theorem dX10_fair_21 : decode cX10_fair 21 = .ok (.iconst 0, 1) := dcs_at ok22_model2_0_6 13 rfl
theorem dX10_fair_22 : decode cX10_fair 22 = .ok (.istore 6, 2) := dcs_at ok22_model2_0_6 14 rfl
theorem dX10_fair_24 : decode cX10_fair 24 = .ok (.iconst 0, 1) := dcs_at ok22_model2_0_6 15 rfl
theorem dX10_fair_25 : decode cX10_fair 25 = .ok (.istore 7, 2) := dcs_at ok22_model2_0_6 16 rfl
theorem dX10_fair_27 : decode cX10_fair 27 = .ok (.iload 7, 2) := dcs_at ok22_model2_0_6 17 rfl
theorem dX10_fair_29 : decode cX10_fair 29 = .ok (.aload_n 0, 1) := dcs_at ok22_model2_0_6 18 rfl
theorem dX10_fair_30 : decode cX10_fair 30 = .ok (.getfield 231, 3) := dcs_at ok22_model2_0_6 19 rfl
theorem dX10_fair_33 : decode cX10_fair 33 = .ok (.if_icmp .ge 20, 3) := dcs_at ok22_model2_0_6 20 rfl
theorem dX10_fair_36 : decode cX10_fair 36 = .ok (.iload 5, 2) := dcs_at ok22_model2_0_6 21 rfl
theorem dX10_fair_38 : decode cX10_fair 38 = .ok (.aload_n 0, 1) := dcs_at ok22_model2_0_6 22 rfl
theorem dX10_fair_39 : decode cX10_fair 39 = .ok (.iload 7, 2) := dcs_at ok22_model2_0_6 23 rfl
theorem dX10_fair_41 : decode cX10_fair 41 = .ok (.invokevirtual 341, 3) := dcs_at ok22_model2_0_6 24 rfl
theorem dX10_fair_44 : decode cX10_fair 44 = .ok (.iadd, 1) := dcs_at ok22_model2_0_6 25 rfl
theorem dX10_fair_45 : decode cX10_fair 45 = .ok (.istore 5, 2) := dcs_at ok22_model2_0_6 26 rfl
theorem dX10_fair_47 : decode cX10_fair 47 = .ok (.iinc 7 1, 3) := dcs_at ok22_model2_0_6 27 rfl
theorem dX10_fair_50 : decode cX10_fair 50 = .ok (.goto (-23), 3) := dcs_at ok22_model2_0_6 28 rfl
theorem dX10_fair_53 : decode cX10_fair 53 = .ok (.iconst 0, 1) := dcs_at ok22_model2_0_6 29 rfl
theorem dX10_fair_54 : decode cX10_fair 54 = .ok (.istore 7, 2) := dcs_at ok22_model2_0_6 30 rfl
theorem dX10_fair_56 : decode cX10_fair 56 = .ok (.iload 7, 2) := dcs_at ok22_model2_0_6 31 rfl
theorem dX10_fair_58 : decode cX10_fair 58 = .ok (.aload_n 0, 1) := dcs_at ok22_model2_0_6 32 rfl
theorem dX10_fair_59 : decode cX10_fair 59 = .ok (.getfield 228, 3) := dcs_at ok22_model2_0_6 33 rfl
theorem dX10_fair_62 : decode cX10_fair 62 = .ok (.if_icmp .ge 21, 3) := dcs_at ok22_model2_0_6 34 rfl
theorem dX10_fair_65 : decode cX10_fair 65 = .ok (.iload 6, 2) := dcs_at ok22_model2_0_6 35 rfl
theorem dX10_fair_67 : decode cX10_fair 67 = .ok (.aload_n 0, 1) := dcs_at ok22_model2_0_6 36 rfl
theorem dX10_fair_68 : decode cX10_fair 68 = .ok (.getfield 41, 3) := dcs_at ok22_model2_0_6 37 rfl
theorem dX10_fair_71 : decode cX10_fair 71 = .ok (.iload 7, 2) := dcs_at ok22_model2_0_6 38 rfl
theorem dX10_fair_73 : decode cX10_fair 73 = .ok (.iaload, 1) := dcs_at ok22_model2_0_6 39 rfl
def tb22_model2_0_7 : List (Nat × (Instr × Nat)) := [(74, (.iadd, 1)), (75, (.istore 6, 2)), (77, (.iinc 7 1, 3)), (80, (.goto (-24), 3)), (83, (.iload 6, 2)), (85, (.ifCond .ne 6, 3)), (88, (.bipush (-2), 2)), (90, (.ireturn, 1)), (91, (.iload 5, 2)), (93, (.iload 6, 2)), (95, (.invokestatic 371, 3)), (98, (.istore 7, 2)), (100, (.iload 4, 2)), (102, (.ifCond .eq 11, 3)), (105, (.iload 6, 2)), (107, (.iload 7, 2)), (109, (.idiv, 1)), (110, (.goto 8, 3)), (113, (.iload 5, 2)), (115, (.iload 7, 2)), (117, (.idiv, 1)), (118, (.ireturn, 1))]
theorem ok22_model2_0_7 : dcs cX10_fair tb22_model2_0_7 = true := by decide +kernel
theorem dX10_fair_74 : decode cX10_fair 74 = .ok (.iadd, 1) := dcs_at ok22_model2_0_7 0 rfl
theorem dX10_fair_75 : decode cX10_fair 75 = .ok (.istore 6, 2) := dcs_at ok22_model2_0_7 1 rfl
theorem dX10_fair_77 : decode cX10_fair 77 = .ok (.iinc 7 1, 3) := dcs_at ok22_model2_0_7 2 rfl
theorem dX10_fair_80 : decode cX10_fair 80 = .ok (.goto (-24), 3) := dcs_at ok22_model2_0_7 3 rfl
theorem dX10_fair_83 : decode cX10_fair 83 = .ok (.iload 6, 2) := dcs_at ok22_model2_0_7 4 rfl
theorem dX10_fair_85 : decode cX10_fair 85 = .ok (.ifCond .ne 6, 3) := dcs_at ok22_model2_0_7 5 rfl
theorem dX10_fair_88 : decode cX10_fair 88 = .ok (.bipush (-2), 2) := dcs_at ok22_model2_0_7 6 rfl
theorem dX10_fair_90 : decode cX10_fair 90 = .ok (.ireturn, 1) := dcs_at ok22_model2_0_7 7 rfl
theorem dX10_fair_91 : decode cX10_fair 91 = .ok (.iload 5, 2) := dcs_at ok22_model2_0_7 8 rfl
theorem dX10_fair_93 : decode cX10_fair 93 = .ok (.iload 6, 2) := dcs_at ok22_model2_0_7 9 rfl
theorem dX10_fair_95 : decode cX10_fair 95 = .ok (.invokestatic 371, 3) := dcs_at ok22_model2_0_7 10 rfl
theorem dX10_fair_98 : decode cX10_fair 98 = .ok (.istore 7, 2) := dcs_at ok22_model2_0_7 11 rfl
theorem dX10_fair_100 : decode cX10_fair 100 = .ok (.iload 4, 2) := dcs_at ok22_model2_0_7 12 rfl
theorem dX10_fair_102 : decode cX10_fair 102 = .ok (.ifCond .eq 11, 3) := dcs_at ok22_model2_0_7 13 rfl
theorem dX10_fair_105 : decode cX10_fair 105 = .ok (.iload 6, 2) := dcs_at ok22_model2_0_7 14 rfl
theorem dX10_fair_107 : decode cX10_fair 107 = .ok (.iload 7, 2) := dcs_at ok22_model2_0_7 15 rfl
theorem dX10_fair_109 : decode cX10_fair 109 = .ok (.idiv, 1) := dcs_at ok22_model2_0_7 16 rfl
theorem dX10_fair_110 : decode cX10_fair 110 = .ok (.goto 8, 3) := dcs_at ok22_model2_0_7 17 rfl
theorem dX10_fair_113 : decode cX10_fair 113 = .ok (.iload 5, 2) := dcs_at ok22_model2_0_7 18 rfl
theorem dX10_fair_115 : decode cX10_fair 115 = .ok (.iload 7, 2) := dcs_at ok22_model2_0_7 19 rfl
theorem dX10_fair_117 : decode cX10_fair 117 = .ok (.idiv, 1) := dcs_at ok22_model2_0_7 20 rfl
theorem dX10_fair_118 : decode cX10_fair 118 = .ok (.ireturn, 1) := dcs_at ok22_model2_0_7 21 rfl
def tb22_model2_0_8 : List (Nat × (Instr × Nat)) := [(0, (.aload_n 0, 1)), (1, (.iconst 4, 1)), (2, (.invokevirtual 224, 3)), (5, (.ireturn, 1))]
theorem ok22_model2_0_8 : dcs cX10_usurers tb22_model2_0_8 = true := by decide +kernel
theorem dX10_usurers_0 : decode cX10_usurers 0 = .ok (.aload_n 0, 1) := dcs_at ok22_model2_0_8 0 rfl
theorem dX10_usurers_1 : decode cX10_usurers 1 = .ok (.iconst 4, 1) := dcs_at ok22_model2_0_8 1 rfl
theorem dX10_usurers_2 : decode cX10_usurers 2 = .ok (.invokevirtual 224, 3) := dcs_at ok22_model2_0_8 2 rfl
theorem dX10_usurers_5 : decode cX10_usurers 5 = .ok (.ireturn, 1) := dcs_at ok22_model2_0_8 3 rfl
def tb22_model2_0_9 : List (Nat × (Instr × Nat)) := [(0, (.iconst 0, 1)), (1, (.istore_n 1, 1)), (2, (.iload_n 1, 1)), (3, (.aload_n 0, 1)), (4, (.invokevirtual 374, 3)), (7, (.if_icmp .ge 25, 3)), (10, (.aload_n 0, 1)), (11, (.getfield 59, 3)), (14, (.iload_n 1, 1)), (15, (.aload_n 0, 1)), (16, (.bipush 28, 2)), (18, (.iconst 2, 1)), (19, (.iload_n 1, 1)), (20, (.imul, 1)), (21, (.iadd, 1)), (22, (.invokevirtual 224, 3)), (25, (.iastore, 1)), (26, (.iinc 1 1, 3)), (29, (.goto (-27), 3)), (32, (.iconst 0, 1)), (33, (.istore_n 1, 1)), (34, (.iload_n 1, 1)), (35, (.sipush 200, 3)), (38, (.if_icmp .ge 156, 3)), (41, (.iconst 0, 1)), (42, (.istore_n 2, 1)), (43, (.iconst 1, 1)), (44, (.istore_n 3, 1)), (45, (.iload_n 3, 1)), (46, (.aload_n 0, 1)), (47, (.invokevirtual 374, 3)), (50, (.if_icmp .ge 38, 3)), (53, (.aload_n 0, 1)), (54, (.getfield 59, 3)), (57, (.iconst 4, 1)), (58, (.iload_n 1, 1)), (59, (.imul, 1)), (60, (.iload_n 3, 1)), (61, (.iadd, 1)), (62, (.iaload, 1))]
theorem ok22_model2_0_9 : dcs cX10_findAsks tb22_model2_0_9 = true := by decide +kernel
theorem dX10_findAsks_0 : decode cX10_findAsks 0 = .ok (.iconst 0, 1) := dcs_at ok22_model2_0_9 0 rfl
theorem dX10_findAsks_1 : decode cX10_findAsks 1 = .ok (.istore_n 1, 1) := dcs_at ok22_model2_0_9 1 rfl
theorem dX10_findAsks_2 : decode cX10_findAsks 2 = .ok (.iload_n 1, 1) := dcs_at ok22_model2_0_9 2 rfl
theorem dX10_findAsks_3 : decode cX10_findAsks 3 = .ok (.aload_n 0, 1) := dcs_at ok22_model2_0_9 3 rfl
theorem dX10_findAsks_4 : decode cX10_findAsks 4 = .ok (.invokevirtual 374, 3) := dcs_at ok22_model2_0_9 4 rfl
theorem dX10_findAsks_7 : decode cX10_findAsks 7 = .ok (.if_icmp .ge 25, 3) := dcs_at ok22_model2_0_9 5 rfl
theorem dX10_findAsks_10 : decode cX10_findAsks 10 = .ok (.aload_n 0, 1) := dcs_at ok22_model2_0_9 6 rfl
theorem dX10_findAsks_11 : decode cX10_findAsks 11 = .ok (.getfield 59, 3) := dcs_at ok22_model2_0_9 7 rfl
theorem dX10_findAsks_14 : decode cX10_findAsks 14 = .ok (.iload_n 1, 1) := dcs_at ok22_model2_0_9 8 rfl
theorem dX10_findAsks_15 : decode cX10_findAsks 15 = .ok (.aload_n 0, 1) := dcs_at ok22_model2_0_9 9 rfl
theorem dX10_findAsks_16 : decode cX10_findAsks 16 = .ok (.bipush 28, 2) := dcs_at ok22_model2_0_9 10 rfl
theorem dX10_findAsks_18 : decode cX10_findAsks 18 = .ok (.iconst 2, 1) := dcs_at ok22_model2_0_9 11 rfl
theorem dX10_findAsks_19 : decode cX10_findAsks 19 = .ok (.iload_n 1, 1) := dcs_at ok22_model2_0_9 12 rfl
theorem dX10_findAsks_20 : decode cX10_findAsks 20 = .ok (.imul, 1) := dcs_at ok22_model2_0_9 13 rfl
theorem dX10_findAsks_21 : decode cX10_findAsks 21 = .ok (.iadd, 1) := dcs_at ok22_model2_0_9 14 rfl
theorem dX10_findAsks_22 : decode cX10_findAsks 22 = .ok (.invokevirtual 224, 3) := dcs_at ok22_model2_0_9 15 rfl
theorem dX10_findAsks_25 : decode cX10_findAsks 25 = .ok (.iastore, 1) := dcs_at ok22_model2_0_9 16 rfl
theorem dX10_findAsks_26 : decode cX10_findAsks 26 = .ok (.iinc 1 1, 3) := dcs_at ok22_model2_0_9 17 rfl
theorem dX10_findAsks_29 : decode cX10_findAsks 29 = .ok (.goto (-27), 3) := dcs_at ok22_model2_0_9 18 rfl
theorem dX10_findAsks_32 : decode cX10_findAsks 32 = .ok (.iconst 0, 1) := dcs_at ok22_model2_0_9 19 rfl
theorem dX10_findAsks_33 : decode cX10_findAsks 33 = .ok (.istore_n 1, 1) := dcs_at ok22_model2_0_9 20 rfl
theorem dX10_findAsks_34 : decode cX10_findAsks 34 = .ok (.iload_n 1, 1) := dcs_at ok22_model2_0_9 21 rfl
theorem dX10_findAsks_35 : decode cX10_findAsks 35 = .ok (.sipush 200, 3) := dcs_at ok22_model2_0_9 22 rfl
theorem dX10_findAsks_38 : decode cX10_findAsks 38 = .ok (.if_icmp .ge 156, 3) := dcs_at ok22_model2_0_9 23 rfl
theorem dX10_findAsks_41 : decode cX10_findAsks 41 = .ok (.iconst 0, 1) := dcs_at ok22_model2_0_9 24 rfl
theorem dX10_findAsks_42 : decode cX10_findAsks 42 = .ok (.istore_n 2, 1) := dcs_at ok22_model2_0_9 25 rfl
theorem dX10_findAsks_43 : decode cX10_findAsks 43 = .ok (.iconst 1, 1) := dcs_at ok22_model2_0_9 26 rfl
theorem dX10_findAsks_44 : decode cX10_findAsks 44 = .ok (.istore_n 3, 1) := dcs_at ok22_model2_0_9 27 rfl
theorem dX10_findAsks_45 : decode cX10_findAsks 45 = .ok (.iload_n 3, 1) := dcs_at ok22_model2_0_9 28 rfl
theorem dX10_findAsks_46 : decode cX10_findAsks 46 = .ok (.aload_n 0, 1) := dcs_at ok22_model2_0_9 29 rfl
theorem dX10_findAsks_47 : decode cX10_findAsks 47 = .ok (.invokevirtual 374, 3) := dcs_at ok22_model2_0_9 30 rfl
theorem dX10_findAsks_50 : decode cX10_findAsks 50 = .ok (.if_icmp .ge 38, 3) := dcs_at ok22_model2_0_9 31 rfl
theorem dX10_findAsks_53 : decode cX10_findAsks 53 = .ok (.aload_n 0, 1) := dcs_at ok22_model2_0_9 32 rfl
theorem dX10_findAsks_54 : decode cX10_findAsks 54 = .ok (.getfield 59, 3) := dcs_at ok22_model2_0_9 33 rfl
theorem dX10_findAsks_57 : decode cX10_findAsks 57 = .ok (.iconst 4, 1) := dcs_at ok22_model2_0_9 34 rfl
theorem dX10_findAsks_58 : decode cX10_findAsks 58 = .ok (.iload_n 1, 1) := dcs_at ok22_model2_0_9 35 rfl
theorem dX10_findAsks_59 : decode cX10_findAsks 59 = .ok (.imul, 1) := dcs_at ok22_model2_0_9 36 rfl
theorem dX10_findAsks_60 : decode cX10_findAsks 60 = .ok (.iload_n 3, 1) := dcs_at ok22_model2_0_9 37 rfl
theorem dX10_findAsks_61 : decode cX10_findAsks 61 = .ok (.iadd, 1) := dcs_at ok22_model2_0_9 38 rfl
theorem dX10_findAsks_62 : decode cX10_findAsks 62 = .ok (.iaload, 1) := dcs_at ok22_model2_0_9 39 rfl
def tb22_model2_0_10 : List (Nat × (Instr × Nat)) := [(63, (.aload_n 0, 1)), (64, (.getfield 59, 3)), (67, (.iconst 4, 1)), (68, (.iload_n 1, 1)), (69, (.imul, 1)), (70, (.iload_n 2, 1)), (71, (.iadd, 1)), (72, (.iaload, 1)), (73, (.if_icmp .ge 7, 3)), (76, (.iload_n 3, 1)), (77, (.goto 4, 3)), (80, (.iload_n 2, 1)), (81, (.istore_n 2, 1)), (82, (.iinc 3 1, 3)), (85, (.goto (-40), 3)), (88, (.aload_n 0, 1)), (89, (.getfield 62, 3)), (92, (.iload_n 1, 1)), (93, (.aload_n 0, 1)), (94, (.iconst 5, 1)), (95, (.invokevirtual 224, 3)), (98, (.ifCond .le 7, 3)), (101, (.iload_n 2, 1)), (102, (.goto 4, 3)), (105, (.iconst (-1), 1)), (106, (.iastore, 1)), (107, (.iconst 0, 1)), (108, (.istore_n 3, 1)), (109, (.iload_n 3, 1)), (110, (.aload_n 0, 1)), (111, (.invokevirtual 374, 3)), (114, (.if_icmp .ge 74, 3)), (117, (.aload_n 0, 1)), (118, (.getfield 59, 3)), (121, (.iconst 4, 1)), (122, (.iload_n 1, 1)), (123, (.imul, 1)), (124, (.iload_n 3, 1)), (125, (.iadd, 1)), (126, (.iaload, 1))]
theorem ok22_model2_0_10 : dcs cX10_findAsks tb22_model2_0_10 = true := by decide +kernel
theorem dX10_findAsks_63 : decode cX10_findAsks 63 = .ok (.aload_n 0, 1) := dcs_at ok22_model2_0_10 0 rfl
theorem dX10_findAsks_64 : decode cX10_findAsks 64 = .ok (.getfield 59, 3) := dcs_at ok22_model2_0_10 1 rfl
theorem dX10_findAsks_67 : decode cX10_findAsks 67 = .ok (.iconst 4, 1) := dcs_at ok22_model2_0_10 2 rfl
theorem dX10_findAsks_68 : decode cX10_findAsks 68 = .ok (.iload_n 1, 1) := dcs_at ok22_model2_0_10 3 rfl
theorem dX10_findAsks_69 : decode cX10_findAsks 69 = .ok (.imul, 1) := dcs_at ok22_model2_0_10 4 rfl
theorem dX10_findAsks_70 : decode cX10_findAsks 70 = .ok (.iload_n 2, 1) := dcs_at ok22_model2_0_10 5 rfl
theorem dX10_findAsks_71 : decode cX10_findAsks 71 = .ok (.iadd, 1) := dcs_at ok22_model2_0_10 6 rfl
theorem dX10_findAsks_72 : decode cX10_findAsks 72 = .ok (.iaload, 1) := dcs_at ok22_model2_0_10 7 rfl
theorem dX10_findAsks_73 : decode cX10_findAsks 73 = .ok (.if_icmp .ge 7, 3) := dcs_at ok22_model2_0_10 8 rfl
theorem dX10_findAsks_76 : decode cX10_findAsks 76 = .ok (.iload_n 3, 1) := dcs_at ok22_model2_0_10 9 rfl
theorem dX10_findAsks_77 : decode cX10_findAsks 77 = .ok (.goto 4, 3) := dcs_at ok22_model2_0_10 10 rfl
theorem dX10_findAsks_80 : decode cX10_findAsks 80 = .ok (.iload_n 2, 1) := dcs_at ok22_model2_0_10 11 rfl
theorem dX10_findAsks_81 : decode cX10_findAsks 81 = .ok (.istore_n 2, 1) := dcs_at ok22_model2_0_10 12 rfl
theorem dX10_findAsks_82 : decode cX10_findAsks 82 = .ok (.iinc 3 1, 3) := dcs_at ok22_model2_0_10 13 rfl
theorem dX10_findAsks_85 : decode cX10_findAsks 85 = .ok (.goto (-40), 3) := dcs_at ok22_model2_0_10 14 rfl
theorem dX10_findAsks_88 : decode cX10_findAsks 88 = .ok (.aload_n 0, 1) := dcs_at ok22_model2_0_10 15 rfl
theorem dX10_findAsks_89 : decode cX10_findAsks 89 = .ok (.getfield 62, 3) := dcs_at ok22_model2_0_10 16 rfl
theorem dX10_findAsks_92 : decode cX10_findAsks 92 = .ok (.iload_n 1, 1) := dcs_at ok22_model2_0_10 17 rfl
theorem dX10_findAsks_93 : decode cX10_findAsks 93 = .ok (.aload_n 0, 1) := dcs_at ok22_model2_0_10 18 rfl
theorem dX10_findAsks_94 : decode cX10_findAsks 94 = .ok (.iconst 5, 1) := dcs_at ok22_model2_0_10 19 rfl
theorem dX10_findAsks_95 : decode cX10_findAsks 95 = .ok (.invokevirtual 224, 3) := dcs_at ok22_model2_0_10 20 rfl
theorem dX10_findAsks_98 : decode cX10_findAsks 98 = .ok (.ifCond .le 7, 3) := dcs_at ok22_model2_0_10 21 rfl
theorem dX10_findAsks_101 : decode cX10_findAsks 101 = .ok (.iload_n 2, 1) := dcs_at ok22_model2_0_10 22 rfl
theorem dX10_findAsks_102 : decode cX10_findAsks 102 = .ok (.goto 4, 3) := dcs_at ok22_model2_0_10 23 rfl
theorem dX10_findAsks_105 : decode cX10_findAsks 105 = .ok (.iconst (-1), 1) := dcs_at ok22_model2_0_10 24 rfl
theorem dX10_findAsks_106 : decode cX10_findAsks 106 = .ok (.iastore, 1) := dcs_at ok22_model2_0_10 25 rfl
theorem dX10_findAsks_107 : decode cX10_findAsks 107 = .ok (.iconst 0, 1) := dcs_at ok22_model2_0_10 26 rfl
theorem dX10_findAsks_108 : decode cX10_findAsks 108 = .ok (.istore_n 3, 1) := dcs_at ok22_model2_0_10 27 rfl
theorem dX10_findAsks_109 : decode cX10_findAsks 109 = .ok (.iload_n 3, 1) := dcs_at ok22_model2_0_10 28 rfl
theorem dX10_findAsks_110 : decode cX10_findAsks 110 = .ok (.aload_n 0, 1) := dcs_at ok22_model2_0_10 29 rfl
theorem dX10_findAsks_111 : decode cX10_findAsks 111 = .ok (.invokevirtual 374, 3) := dcs_at ok22_model2_0_10 30 rfl
theorem dX10_findAsks_114 : decode cX10_findAsks 114 = .ok (.if_icmp .ge 74, 3) := dcs_at ok22_model2_0_10 31 rfl
theorem dX10_findAsks_117 : decode cX10_findAsks 117 = .ok (.aload_n 0, 1) := dcs_at ok22_model2_0_10 32 rfl
theorem dX10_findAsks_118 : decode cX10_findAsks 118 = .ok (.getfield 59, 3) := dcs_at ok22_model2_0_10 33 rfl
theorem dX10_findAsks_121 : decode cX10_findAsks 121 = .ok (.iconst 4, 1) := dcs_at ok22_model2_0_10 34 rfl
theorem dX10_findAsks_122 : decode cX10_findAsks 122 = .ok (.iload_n 1, 1) := dcs_at ok22_model2_0_10 35 rfl
theorem dX10_findAsks_123 : decode cX10_findAsks 123 = .ok (.imul, 1) := dcs_at ok22_model2_0_10 36 rfl
theorem dX10_findAsks_124 : decode cX10_findAsks 124 = .ok (.iload_n 3, 1) := dcs_at ok22_model2_0_10 37 rfl
theorem dX10_findAsks_125 : decode cX10_findAsks 125 = .ok (.iadd, 1) := dcs_at ok22_model2_0_10 38 rfl
theorem dX10_findAsks_126 : decode cX10_findAsks 126 = .ok (.iaload, 1) := dcs_at ok22_model2_0_10 39 rfl
def tb22_model2_0_11 : List (Nat × (Instr × Nat)) := [(127, (.istore 4, 2)), (129, (.aload_n 0, 1)), (130, (.getfield 59, 3)), (133, (.iconst 4, 1)), (134, (.iload_n 1, 1)), (135, (.iconst 1, 1)), (136, (.iadd, 1)), (137, (.imul, 1)), (138, (.iload_n 3, 1)), (139, (.iadd, 1)), (140, (.iload_n 3, 1)), (141, (.aload_n 0, 1)), (142, (.getfield 62, 3)), (145, (.iload_n 1, 1)), (146, (.iaload, 1)), (147, (.if_icmp .ne 15, 3)), (150, (.bipush 30, 2)), (152, (.iload 4, 2)), (154, (.iconst 1, 1)), (155, (.iadd, 1)), (156, (.invokestatic 170, 3)), (159, (.goto 22, 3)), (162, (.aload_n 0, 1)), (163, (.bipush 28, 2)), (165, (.iconst 2, 1)), (166, (.iload_n 3, 1)), (167, (.imul, 1)), (168, (.iadd, 1)), (169, (.iconst 1, 1)), (170, (.iadd, 1)), (171, (.invokevirtual 224, 3)), (174, (.iload 4, 2)), (176, (.iconst 1, 1)), (177, (.isub, 1)), (178, (.invokestatic 338, 3)), (181, (.iastore, 1)), (182, (.iinc 3 1, 3)), (185, (.goto (-76), 3)), (188, (.iinc 1 1, 3)), (191, (.goto (-157), 3))]
theorem ok22_model2_0_11 : dcs cX10_findAsks tb22_model2_0_11 = true := by decide +kernel
theorem dX10_findAsks_127 : decode cX10_findAsks 127 = .ok (.istore 4, 2) := dcs_at ok22_model2_0_11 0 rfl
theorem dX10_findAsks_129 : decode cX10_findAsks 129 = .ok (.aload_n 0, 1) := dcs_at ok22_model2_0_11 1 rfl
theorem dX10_findAsks_130 : decode cX10_findAsks 130 = .ok (.getfield 59, 3) := dcs_at ok22_model2_0_11 2 rfl
theorem dX10_findAsks_133 : decode cX10_findAsks 133 = .ok (.iconst 4, 1) := dcs_at ok22_model2_0_11 3 rfl
theorem dX10_findAsks_134 : decode cX10_findAsks 134 = .ok (.iload_n 1, 1) := dcs_at ok22_model2_0_11 4 rfl
theorem dX10_findAsks_135 : decode cX10_findAsks 135 = .ok (.iconst 1, 1) := dcs_at ok22_model2_0_11 5 rfl
theorem dX10_findAsks_136 : decode cX10_findAsks 136 = .ok (.iadd, 1) := dcs_at ok22_model2_0_11 6 rfl
theorem dX10_findAsks_137 : decode cX10_findAsks 137 = .ok (.imul, 1) := dcs_at ok22_model2_0_11 7 rfl
theorem dX10_findAsks_138 : decode cX10_findAsks 138 = .ok (.iload_n 3, 1) := dcs_at ok22_model2_0_11 8 rfl
theorem dX10_findAsks_139 : decode cX10_findAsks 139 = .ok (.iadd, 1) := dcs_at ok22_model2_0_11 9 rfl
theorem dX10_findAsks_140 : decode cX10_findAsks 140 = .ok (.iload_n 3, 1) := dcs_at ok22_model2_0_11 10 rfl
theorem dX10_findAsks_141 : decode cX10_findAsks 141 = .ok (.aload_n 0, 1) := dcs_at ok22_model2_0_11 11 rfl
theorem dX10_findAsks_142 : decode cX10_findAsks 142 = .ok (.getfield 62, 3) := dcs_at ok22_model2_0_11 12 rfl
theorem dX10_findAsks_145 : decode cX10_findAsks 145 = .ok (.iload_n 1, 1) := dcs_at ok22_model2_0_11 13 rfl
theorem dX10_findAsks_146 : decode cX10_findAsks 146 = .ok (.iaload, 1) := dcs_at ok22_model2_0_11 14 rfl
theorem dX10_findAsks_147 : decode cX10_findAsks 147 = .ok (.if_icmp .ne 15, 3) := dcs_at ok22_model2_0_11 15 rfl
theorem dX10_findAsks_150 : decode cX10_findAsks 150 = .ok (.bipush 30, 2) := dcs_at ok22_model2_0_11 16 rfl
theorem dX10_findAsks_152 : decode cX10_findAsks 152 = .ok (.iload 4, 2) := dcs_at ok22_model2_0_11 17 rfl
theorem dX10_findAsks_154 : decode cX10_findAsks 154 = .ok (.iconst 1, 1) := dcs_at ok22_model2_0_11 18 rfl
theorem dX10_findAsks_155 : decode cX10_findAsks 155 = .ok (.iadd, 1) := dcs_at ok22_model2_0_11 19 rfl
theorem dX10_findAsks_156 : decode cX10_findAsks 156 = .ok (.invokestatic 170, 3) := dcs_at ok22_model2_0_11 20 rfl
theorem dX10_findAsks_159 : decode cX10_findAsks 159 = .ok (.goto 22, 3) := dcs_at ok22_model2_0_11 21 rfl
theorem dX10_findAsks_162 : decode cX10_findAsks 162 = .ok (.aload_n 0, 1) := dcs_at ok22_model2_0_11 22 rfl
theorem dX10_findAsks_163 : decode cX10_findAsks 163 = .ok (.bipush 28, 2) := dcs_at ok22_model2_0_11 23 rfl
theorem dX10_findAsks_165 : decode cX10_findAsks 165 = .ok (.iconst 2, 1) := dcs_at ok22_model2_0_11 24 rfl
theorem dX10_findAsks_166 : decode cX10_findAsks 166 = .ok (.iload_n 3, 1) := dcs_at ok22_model2_0_11 25 rfl
theorem dX10_findAsks_167 : decode cX10_findAsks 167 = .ok (.imul, 1) := dcs_at ok22_model2_0_11 26 rfl
theorem dX10_findAsks_168 : decode cX10_findAsks 168 = .ok (.iadd, 1) := dcs_at ok22_model2_0_11 27 rfl
theorem dX10_findAsks_169 : decode cX10_findAsks 169 = .ok (.iconst 1, 1) := dcs_at ok22_model2_0_11 28 rfl
theorem dX10_findAsks_170 : decode cX10_findAsks 170 = .ok (.iadd, 1) := dcs_at ok22_model2_0_11 29 rfl
theorem dX10_findAsks_171 : decode cX10_findAsks 171 = .ok (.invokevirtual 224, 3) := dcs_at ok22_model2_0_11 30 rfl
theorem dX10_findAsks_174 : decode cX10_findAsks 174 = .ok (.iload 4, 2) := dcs_at ok22_model2_0_11 31 rfl
theorem dX10_findAsks_176 : decode cX10_findAsks 176 = .ok (.iconst 1, 1) := dcs_at ok22_model2_0_11 32 rfl
theorem dX10_findAsks_177 : decode cX10_findAsks 177 = .ok (.isub, 1) := dcs_at ok22_model2_0_11 33 rfl
theorem dX10_findAsks_178 : decode cX10_findAsks 178 = .ok (.invokestatic 338, 3) := dcs_at ok22_model2_0_11 34 rfl
theorem dX10_findAsks_181 : decode cX10_findAsks 181 = .ok (.iastore, 1) := dcs_at ok22_model2_0_11 35 rfl
theorem dX10_findAsks_182 : decode cX10_findAsks 182 = .ok (.iinc 3 1, 3) := dcs_at ok22_model2_0_11 36 rfl
theorem dX10_findAsks_185 : decode cX10_findAsks 185 = .ok (.goto (-76), 3) := dcs_at ok22_model2_0_11 37 rfl
theorem dX10_findAsks_188 : decode cX10_findAsks 188 = .ok (.iinc 1 1, 3) := dcs_at ok22_model2_0_11 38 rfl
theorem dX10_findAsks_191 : decode cX10_findAsks 191 = .ok (.goto (-157), 3) := dcs_at ok22_model2_0_11 39 rfl
def tb22_model2_0_12 : List (Nat × (Instr × Nat)) := [(194, (.return_, 1))]
theorem ok22_model2_0_12 : dcs cX10_findAsks tb22_model2_0_12 = true := by decide +kernel
theorem dX10_findAsks_194 : decode cX10_findAsks 194 = .ok (.return_, 1) := dcs_at ok22_model2_0_12 0 rfl
def tb22_model2_0_13 : List (Nat × (Instr × Nat)) := [(0, (.aload_n 0, 1)), (1, (.iload_n 1, 1)), (2, (.invokevirtual 237, 3)), (5, (.ifCond .eq 28, 3)), (8, (.iload_n 2, 1)), (9, (.iconst 0, 1)), (10, (.aload_n 0, 1)), (11, (.invokevirtual 374, 3)), (14, (.iconst 1, 1)), (15, (.isub, 1)), (16, (.invokestatic 92, 3)), (19, (.ifCond .eq 14, 3)), (22, (.iload_n 3, 1)), (23, (.iconst 0, 1)), (24, (.sipush 200, 3)), (27, (.invokestatic 92, 3)), (30, (.ifCond .ne 5, 3)), (33, (.iconst 0, 1)), (34, (.ireturn, 1)), (35, (.aload_n 0, 1)), (36, (.invokevirtual 377, 3)), (39, (.iconst 1, 1)), (40, (.ireturn, 1))]
theorem ok22_model2_0_13 : dcs cX10_layUsurer tb22_model2_0_13 = true := by decide +kernel
theorem dX10_layUsurer_0 : decode cX10_layUsurer 0 = .ok (.aload_n 0, 1) := dcs_at ok22_model2_0_13 0 rfl
theorem dX10_layUsurer_1 : decode cX10_layUsurer 1 = .ok (.iload_n 1, 1) := dcs_at ok22_model2_0_13 1 rfl
theorem dX10_layUsurer_2 : decode cX10_layUsurer 2 = .ok (.invokevirtual 237, 3) := dcs_at ok22_model2_0_13 2 rfl
theorem dX10_layUsurer_5 : decode cX10_layUsurer 5 = .ok (.ifCond .eq 28, 3) := dcs_at ok22_model2_0_13 3 rfl
theorem dX10_layUsurer_8 : decode cX10_layUsurer 8 = .ok (.iload_n 2, 1) := dcs_at ok22_model2_0_13 4 rfl
theorem dX10_layUsurer_9 : decode cX10_layUsurer 9 = .ok (.iconst 0, 1) := dcs_at ok22_model2_0_13 5 rfl
theorem dX10_layUsurer_10 : decode cX10_layUsurer 10 = .ok (.aload_n 0, 1) := dcs_at ok22_model2_0_13 6 rfl
theorem dX10_layUsurer_11 : decode cX10_layUsurer 11 = .ok (.invokevirtual 374, 3) := dcs_at ok22_model2_0_13 7 rfl
theorem dX10_layUsurer_14 : decode cX10_layUsurer 14 = .ok (.iconst 1, 1) := dcs_at ok22_model2_0_13 8 rfl
theorem dX10_layUsurer_15 : decode cX10_layUsurer 15 = .ok (.isub, 1) := dcs_at ok22_model2_0_13 9 rfl
theorem dX10_layUsurer_16 : decode cX10_layUsurer 16 = .ok (.invokestatic 92, 3) := dcs_at ok22_model2_0_13 10 rfl
theorem dX10_layUsurer_19 : decode cX10_layUsurer 19 = .ok (.ifCond .eq 14, 3) := dcs_at ok22_model2_0_13 11 rfl
theorem dX10_layUsurer_22 : decode cX10_layUsurer 22 = .ok (.iload_n 3, 1) := dcs_at ok22_model2_0_13 12 rfl
theorem dX10_layUsurer_23 : decode cX10_layUsurer 23 = .ok (.iconst 0, 1) := dcs_at ok22_model2_0_13 13 rfl
theorem dX10_layUsurer_24 : decode cX10_layUsurer 24 = .ok (.sipush 200, 3) := dcs_at ok22_model2_0_13 14 rfl
theorem dX10_layUsurer_27 : decode cX10_layUsurer 27 = .ok (.invokestatic 92, 3) := dcs_at ok22_model2_0_13 15 rfl
theorem dX10_layUsurer_30 : decode cX10_layUsurer 30 = .ok (.ifCond .ne 5, 3) := dcs_at ok22_model2_0_13 16 rfl
theorem dX10_layUsurer_33 : decode cX10_layUsurer 33 = .ok (.iconst 0, 1) := dcs_at ok22_model2_0_13 17 rfl
theorem dX10_layUsurer_34 : decode cX10_layUsurer 34 = .ok (.ireturn, 1) := dcs_at ok22_model2_0_13 18 rfl
theorem dX10_layUsurer_35 : decode cX10_layUsurer 35 = .ok (.aload_n 0, 1) := dcs_at ok22_model2_0_13 19 rfl
theorem dX10_layUsurer_36 : decode cX10_layUsurer 36 = .ok (.invokevirtual 377, 3) := dcs_at ok22_model2_0_13 20 rfl
theorem dX10_layUsurer_39 : decode cX10_layUsurer 39 = .ok (.iconst 1, 1) := dcs_at ok22_model2_0_13 21 rfl
theorem dX10_layUsurer_40 : decode cX10_layUsurer 40 = .ok (.ireturn, 1) := dcs_at ok22_model2_0_13 22 rfl
def tb22_model2_0_14 : List (Nat × (Instr × Nat)) := [(0, (.aload_n 0, 1)), (1, (.iconst 0, 1)), (2, (.putfield 80, 3)), (5, (.aload_n 0, 1)), (6, (.iload_n 1, 1)), (7, (.iload_n 2, 1)), (8, (.iload_n 3, 1)), (9, (.invokevirtual 380, 3)), (12, (.ifCond .eq 16, 3)), (15, (.aload_n 0, 1)), (16, (.getfield 59, 3)), (19, (.iconst 4, 1)), (20, (.iload_n 3, 1)), (21, (.imul, 1)), (22, (.iload_n 2, 1)), (23, (.iadd, 1)), (24, (.iaload, 1)), (25, (.goto 4, 3)), (28, (.iconst (-1), 1)), (29, (.ireturn, 1))]
theorem ok22_model2_0_14 : dcs cX10_ask tb22_model2_0_14 = true := by decide +kernel
theorem dX10_ask_0 : decode cX10_ask 0 = .ok (.aload_n 0, 1) := dcs_at ok22_model2_0_14 0 rfl
theorem dX10_ask_1 : decode cX10_ask 1 = .ok (.iconst 0, 1) := dcs_at ok22_model2_0_14 1 rfl
theorem dX10_ask_2 : decode cX10_ask 2 = .ok (.putfield 80, 3) := dcs_at ok22_model2_0_14 2 rfl
theorem dX10_ask_5 : decode cX10_ask 5 = .ok (.aload_n 0, 1) := dcs_at ok22_model2_0_14 3 rfl
theorem dX10_ask_6 : decode cX10_ask 6 = .ok (.iload_n 1, 1) := dcs_at ok22_model2_0_14 4 rfl
theorem dX10_ask_7 : decode cX10_ask 7 = .ok (.iload_n 2, 1) := dcs_at ok22_model2_0_14 5 rfl
theorem dX10_ask_8 : decode cX10_ask 8 = .ok (.iload_n 3, 1) := dcs_at ok22_model2_0_14 6 rfl
theorem dX10_ask_9 : decode cX10_ask 9 = .ok (.invokevirtual 380, 3) := dcs_at ok22_model2_0_14 7 rfl
theorem dX10_ask_12 : decode cX10_ask 12 = .ok (.ifCond .eq 16, 3) := dcs_at ok22_model2_0_14 8 rfl
theorem dX10_ask_15 : decode cX10_ask 15 = .ok (.aload_n 0, 1) := dcs_at ok22_model2_0_14 9 rfl
theorem dX10_ask_16 : decode cX10_ask 16 = .ok (.getfield 59, 3) := dcs_at ok22_model2_0_14 10 rfl
theorem dX10_ask_19 : decode cX10_ask 19 = .ok (.iconst 4, 1) := dcs_at ok22_model2_0_14 11 rfl
theorem dX10_ask_20 : decode cX10_ask 20 = .ok (.iload_n 3, 1) := dcs_at ok22_model2_0_14 12 rfl
theorem dX10_ask_21 : decode cX10_ask 21 = .ok (.imul, 1) := dcs_at ok22_model2_0_14 13 rfl
theorem dX10_ask_22 : decode cX10_ask 22 = .ok (.iload_n 2, 1) := dcs_at ok22_model2_0_14 14 rfl
theorem dX10_ask_23 : decode cX10_ask 23 = .ok (.iadd, 1) := dcs_at ok22_model2_0_14 15 rfl
theorem dX10_ask_24 : decode cX10_ask 24 = .ok (.iaload, 1) := dcs_at ok22_model2_0_14 16 rfl
theorem dX10_ask_25 : decode cX10_ask 25 = .ok (.goto 4, 3) := dcs_at ok22_model2_0_14 17 rfl
theorem dX10_ask_28 : decode cX10_ask 28 = .ok (.iconst (-1), 1) := dcs_at ok22_model2_0_14 18 rfl
theorem dX10_ask_29 : decode cX10_ask 29 = .ok (.ireturn, 1) := dcs_at ok22_model2_0_14 19 rfl
def tb22_model2_0_15 : List (Nat × (Instr × Nat)) := [(0, (.aload_n 0, 1)), (1, (.iconst 0, 1)), (2, (.putfield 80, 3)), (5, (.aload_n 0, 1)), (6, (.iload_n 1, 1)), (7, (.iload_n 2, 1)), (8, (.iload_n 3, 1)), (9, (.invokevirtual 380, 3)), (12, (.ifCond .ne 5, 3)), (15, (.iconst (-1), 1)), (16, (.ireturn, 1)), (17, (.iconst 0, 1)), (18, (.istore 4, 2)), (20, (.iconst 0, 1)), (21, (.istore 5, 2)), (23, (.iload 5, 2)), (25, (.iload_n 3, 1)), (26, (.if_icmp .ge 46, 3)), (29, (.iload 4, 2)), (31, (.aload_n 0, 1)), (32, (.getfield 62, 3)), (35, (.iload 5, 2)), (37, (.iaload, 1)), (38, (.iload_n 2, 1)), (39, (.if_icmp .ne 23, 3)), (42, (.aload_n 0, 1)), (43, (.iconst 5, 1)), (44, (.invokevirtual 224, 3)), (47, (.aload_n 0, 1)), (48, (.getfield 59, 3)), (51, (.iconst 4, 1)), (52, (.iload 5, 2)), (54, (.imul, 1)), (55, (.iload_n 2, 1)), (56, (.iadd, 1)), (57, (.iaload, 1)), (58, (.imul, 1)), (59, (.goto 4, 3)), (62, (.iconst 0, 1)), (63, (.iadd, 1))]
theorem ok22_model2_0_15 : dcs cX10_taken tb22_model2_0_15 = true := by decide +kernel
theorem dX10_taken_0 : decode cX10_taken 0 = .ok (.aload_n 0, 1) := dcs_at ok22_model2_0_15 0 rfl
theorem dX10_taken_1 : decode cX10_taken 1 = .ok (.iconst 0, 1) := dcs_at ok22_model2_0_15 1 rfl
theorem dX10_taken_2 : decode cX10_taken 2 = .ok (.putfield 80, 3) := dcs_at ok22_model2_0_15 2 rfl
theorem dX10_taken_5 : decode cX10_taken 5 = .ok (.aload_n 0, 1) := dcs_at ok22_model2_0_15 3 rfl
theorem dX10_taken_6 : decode cX10_taken 6 = .ok (.iload_n 1, 1) := dcs_at ok22_model2_0_15 4 rfl
theorem dX10_taken_7 : decode cX10_taken 7 = .ok (.iload_n 2, 1) := dcs_at ok22_model2_0_15 5 rfl
theorem dX10_taken_8 : decode cX10_taken 8 = .ok (.iload_n 3, 1) := dcs_at ok22_model2_0_15 6 rfl
theorem dX10_taken_9 : decode cX10_taken 9 = .ok (.invokevirtual 380, 3) := dcs_at ok22_model2_0_15 7 rfl
theorem dX10_taken_12 : decode cX10_taken 12 = .ok (.ifCond .ne 5, 3) := dcs_at ok22_model2_0_15 8 rfl
theorem dX10_taken_15 : decode cX10_taken 15 = .ok (.iconst (-1), 1) := dcs_at ok22_model2_0_15 9 rfl
theorem dX10_taken_16 : decode cX10_taken 16 = .ok (.ireturn, 1) := dcs_at ok22_model2_0_15 10 rfl
theorem dX10_taken_17 : decode cX10_taken 17 = .ok (.iconst 0, 1) := dcs_at ok22_model2_0_15 11 rfl
theorem dX10_taken_18 : decode cX10_taken 18 = .ok (.istore 4, 2) := dcs_at ok22_model2_0_15 12 rfl
theorem dX10_taken_20 : decode cX10_taken 20 = .ok (.iconst 0, 1) := dcs_at ok22_model2_0_15 13 rfl
theorem dX10_taken_21 : decode cX10_taken 21 = .ok (.istore 5, 2) := dcs_at ok22_model2_0_15 14 rfl
theorem dX10_taken_23 : decode cX10_taken 23 = .ok (.iload 5, 2) := dcs_at ok22_model2_0_15 15 rfl
theorem dX10_taken_25 : decode cX10_taken 25 = .ok (.iload_n 3, 1) := dcs_at ok22_model2_0_15 16 rfl
theorem dX10_taken_26 : decode cX10_taken 26 = .ok (.if_icmp .ge 46, 3) := dcs_at ok22_model2_0_15 17 rfl
theorem dX10_taken_29 : decode cX10_taken 29 = .ok (.iload 4, 2) := dcs_at ok22_model2_0_15 18 rfl
theorem dX10_taken_31 : decode cX10_taken 31 = .ok (.aload_n 0, 1) := dcs_at ok22_model2_0_15 19 rfl
theorem dX10_taken_32 : decode cX10_taken 32 = .ok (.getfield 62, 3) := dcs_at ok22_model2_0_15 20 rfl
theorem dX10_taken_35 : decode cX10_taken 35 = .ok (.iload 5, 2) := dcs_at ok22_model2_0_15 21 rfl
theorem dX10_taken_37 : decode cX10_taken 37 = .ok (.iaload, 1) := dcs_at ok22_model2_0_15 22 rfl
theorem dX10_taken_38 : decode cX10_taken 38 = .ok (.iload_n 2, 1) := dcs_at ok22_model2_0_15 23 rfl
theorem dX10_taken_39 : decode cX10_taken 39 = .ok (.if_icmp .ne 23, 3) := dcs_at ok22_model2_0_15 24 rfl
theorem dX10_taken_42 : decode cX10_taken 42 = .ok (.aload_n 0, 1) := dcs_at ok22_model2_0_15 25 rfl
theorem dX10_taken_43 : decode cX10_taken 43 = .ok (.iconst 5, 1) := dcs_at ok22_model2_0_15 26 rfl
theorem dX10_taken_44 : decode cX10_taken 44 = .ok (.invokevirtual 224, 3) := dcs_at ok22_model2_0_15 27 rfl
theorem dX10_taken_47 : decode cX10_taken 47 = .ok (.aload_n 0, 1) := dcs_at ok22_model2_0_15 28 rfl
theorem dX10_taken_48 : decode cX10_taken 48 = .ok (.getfield 59, 3) := dcs_at ok22_model2_0_15 29 rfl
theorem dX10_taken_51 : decode cX10_taken 51 = .ok (.iconst 4, 1) := dcs_at ok22_model2_0_15 30 rfl
theorem dX10_taken_52 : decode cX10_taken 52 = .ok (.iload 5, 2) := dcs_at ok22_model2_0_15 31 rfl
theorem dX10_taken_54 : decode cX10_taken 54 = .ok (.imul, 1) := dcs_at ok22_model2_0_15 32 rfl
theorem dX10_taken_55 : decode cX10_taken 55 = .ok (.iload_n 2, 1) := dcs_at ok22_model2_0_15 33 rfl
theorem dX10_taken_56 : decode cX10_taken 56 = .ok (.iadd, 1) := dcs_at ok22_model2_0_15 34 rfl
theorem dX10_taken_57 : decode cX10_taken 57 = .ok (.iaload, 1) := dcs_at ok22_model2_0_15 35 rfl
theorem dX10_taken_58 : decode cX10_taken 58 = .ok (.imul, 1) := dcs_at ok22_model2_0_15 36 rfl
theorem dX10_taken_59 : decode cX10_taken 59 = .ok (.goto 4, 3) := dcs_at ok22_model2_0_15 37 rfl
theorem dX10_taken_62 : decode cX10_taken 62 = .ok (.iconst 0, 1) := dcs_at ok22_model2_0_15 38 rfl
theorem dX10_taken_63 : decode cX10_taken 63 = .ok (.iadd, 1) := dcs_at ok22_model2_0_15 39 rfl
def tb22_model2_0_16 : List (Nat × (Instr × Nat)) := [(64, (.istore 4, 2)), (66, (.iinc 5 1, 3)), (69, (.goto (-46), 3)), (72, (.iload 4, 2)), (74, (.ireturn, 1))]
theorem ok22_model2_0_16 : dcs cX10_taken tb22_model2_0_16 = true := by decide +kernel
theorem dX10_taken_64 : decode cX10_taken 64 = .ok (.istore 4, 2) := dcs_at ok22_model2_0_16 0 rfl
theorem dX10_taken_66 : decode cX10_taken 66 = .ok (.iinc 5 1, 3) := dcs_at ok22_model2_0_16 1 rfl
theorem dX10_taken_69 : decode cX10_taken 69 = .ok (.goto (-46), 3) := dcs_at ok22_model2_0_16 2 rfl
theorem dX10_taken_72 : decode cX10_taken 72 = .ok (.iload 4, 2) := dcs_at ok22_model2_0_16 3 rfl
theorem dX10_taken_74 : decode cX10_taken 74 = .ok (.ireturn, 1) := dcs_at ok22_model2_0_16 4 rfl
def tb22_model2_0_17 : List (Nat × (Instr × Nat)) := [(0, (.iconst 0, 1)), (1, (.istore_n 3, 1)), (2, (.iload_n 3, 1)), (3, (.aload_n 0, 1)), (4, (.invokevirtual 374, 3)), (7, (.if_icmp .ge 34, 3)), (10, (.aload_n 0, 1)), (11, (.getfield 59, 3)), (14, (.iconst 4, 1)), (15, (.iload_n 1, 1)), (16, (.imul, 1)), (17, (.iload_n 3, 1)), (18, (.iadd, 1)), (19, (.iaload, 1)), (20, (.aload_n 0, 1)), (21, (.getfield 59, 3)), (24, (.iconst 4, 1)), (25, (.iload_n 2, 1)), (26, (.imul, 1)), (27, (.iload_n 3, 1)), (28, (.iadd, 1)), (29, (.iaload, 1)), (30, (.if_icmp .eq 5, 3)), (33, (.iconst 0, 1)), (34, (.ireturn, 1)), (35, (.iinc 3 1, 3)), (38, (.goto (-36), 3)), (41, (.iconst 1, 1)), (42, (.ireturn, 1))]
theorem ok22_model2_0_17 : dcs cX10_areAlike tb22_model2_0_17 = true := by decide +kernel
theorem dX10_areAlike_0 : decode cX10_areAlike 0 = .ok (.iconst 0, 1) := dcs_at ok22_model2_0_17 0 rfl
theorem dX10_areAlike_1 : decode cX10_areAlike 1 = .ok (.istore_n 3, 1) := dcs_at ok22_model2_0_17 1 rfl
theorem dX10_areAlike_2 : decode cX10_areAlike 2 = .ok (.iload_n 3, 1) := dcs_at ok22_model2_0_17 2 rfl
theorem dX10_areAlike_3 : decode cX10_areAlike 3 = .ok (.aload_n 0, 1) := dcs_at ok22_model2_0_17 3 rfl
theorem dX10_areAlike_4 : decode cX10_areAlike 4 = .ok (.invokevirtual 374, 3) := dcs_at ok22_model2_0_17 4 rfl
theorem dX10_areAlike_7 : decode cX10_areAlike 7 = .ok (.if_icmp .ge 34, 3) := dcs_at ok22_model2_0_17 5 rfl
theorem dX10_areAlike_10 : decode cX10_areAlike 10 = .ok (.aload_n 0, 1) := dcs_at ok22_model2_0_17 6 rfl
theorem dX10_areAlike_11 : decode cX10_areAlike 11 = .ok (.getfield 59, 3) := dcs_at ok22_model2_0_17 7 rfl
theorem dX10_areAlike_14 : decode cX10_areAlike 14 = .ok (.iconst 4, 1) := dcs_at ok22_model2_0_17 8 rfl
theorem dX10_areAlike_15 : decode cX10_areAlike 15 = .ok (.iload_n 1, 1) := dcs_at ok22_model2_0_17 9 rfl
theorem dX10_areAlike_16 : decode cX10_areAlike 16 = .ok (.imul, 1) := dcs_at ok22_model2_0_17 10 rfl
theorem dX10_areAlike_17 : decode cX10_areAlike 17 = .ok (.iload_n 3, 1) := dcs_at ok22_model2_0_17 11 rfl
theorem dX10_areAlike_18 : decode cX10_areAlike 18 = .ok (.iadd, 1) := dcs_at ok22_model2_0_17 12 rfl
theorem dX10_areAlike_19 : decode cX10_areAlike 19 = .ok (.iaload, 1) := dcs_at ok22_model2_0_17 13 rfl
theorem dX10_areAlike_20 : decode cX10_areAlike 20 = .ok (.aload_n 0, 1) := dcs_at ok22_model2_0_17 14 rfl
theorem dX10_areAlike_21 : decode cX10_areAlike 21 = .ok (.getfield 59, 3) := dcs_at ok22_model2_0_17 15 rfl
theorem dX10_areAlike_24 : decode cX10_areAlike 24 = .ok (.iconst 4, 1) := dcs_at ok22_model2_0_17 16 rfl
theorem dX10_areAlike_25 : decode cX10_areAlike 25 = .ok (.iload_n 2, 1) := dcs_at ok22_model2_0_17 17 rfl
theorem dX10_areAlike_26 : decode cX10_areAlike 26 = .ok (.imul, 1) := dcs_at ok22_model2_0_17 18 rfl
theorem dX10_areAlike_27 : decode cX10_areAlike 27 = .ok (.iload_n 3, 1) := dcs_at ok22_model2_0_17 19 rfl
theorem dX10_areAlike_28 : decode cX10_areAlike 28 = .ok (.iadd, 1) := dcs_at ok22_model2_0_17 20 rfl
theorem dX10_areAlike_29 : decode cX10_areAlike 29 = .ok (.iaload, 1) := dcs_at ok22_model2_0_17 21 rfl
theorem dX10_areAlike_30 : decode cX10_areAlike 30 = .ok (.if_icmp .eq 5, 3) := dcs_at ok22_model2_0_17 22 rfl
theorem dX10_areAlike_33 : decode cX10_areAlike 33 = .ok (.iconst 0, 1) := dcs_at ok22_model2_0_17 23 rfl
theorem dX10_areAlike_34 : decode cX10_areAlike 34 = .ok (.ireturn, 1) := dcs_at ok22_model2_0_17 24 rfl
theorem dX10_areAlike_35 : decode cX10_areAlike 35 = .ok (.iinc 3 1, 3) := dcs_at ok22_model2_0_17 25 rfl
theorem dX10_areAlike_38 : decode cX10_areAlike 38 = .ok (.goto (-36), 3) := dcs_at ok22_model2_0_17 26 rfl
theorem dX10_areAlike_41 : decode cX10_areAlike 41 = .ok (.iconst 1, 1) := dcs_at ok22_model2_0_17 27 rfl
theorem dX10_areAlike_42 : decode cX10_areAlike 42 = .ok (.ireturn, 1) := dcs_at ok22_model2_0_17 28 rfl
def tb22_model2_0_18 : List (Nat × (Instr × Nat)) := [(0, (.aload_n 0, 1)), (1, (.iconst 0, 1)), (2, (.putfield 80, 3)), (5, (.iload_n 2, 1)), (6, (.iconst 0, 1)), (7, (.iconst 1, 1)), (8, (.invokestatic 92, 3)), (11, (.ifCond .eq 18, 3)), (14, (.aload_n 0, 1)), (15, (.iload_n 1, 1)), (16, (.invokevirtual 237, 3)), (19, (.ifCond .eq 10, 3)), (22, (.aload_n 0, 1)), (23, (.invokevirtual 374, 3)), (26, (.ifCond .ne 5, 3)), (29, (.iconst (-1), 1)), (30, (.ireturn, 1)), (31, (.aload_n 0, 1)), (32, (.invokevirtual 377, 3)), (35, (.iconst 1, 1)), (36, (.istore_n 3, 1)), (37, (.iload_n 3, 1)), (38, (.sipush 200, 3)), (41, (.if_icmp .gt 48, 3)), (44, (.iload_n 3, 1)), (45, (.iconst 1, 1)), (46, (.isub, 1)), (47, (.istore 4, 2)), (49, (.iload 4, 2)), (51, (.ifCond .lt 32, 3)), (54, (.aload_n 0, 1)), (55, (.iload_n 3, 1)), (56, (.iload 4, 2)), (58, (.invokevirtual 383, 3)), (61, (.ifCond .eq 16, 3)), (64, (.iload_n 2, 1)), (65, (.ifCond .ne 7, 3)), (68, (.iload_n 3, 1)), (69, (.goto 7, 3)), (72, (.iload_n 3, 1))]
theorem ok22_model2_0_18 : dcs cX10_stands tb22_model2_0_18 = true := by decide +kernel
theorem dX10_stands_0 : decode cX10_stands 0 = .ok (.aload_n 0, 1) := dcs_at ok22_model2_0_18 0 rfl
theorem dX10_stands_1 : decode cX10_stands 1 = .ok (.iconst 0, 1) := dcs_at ok22_model2_0_18 1 rfl
theorem dX10_stands_2 : decode cX10_stands 2 = .ok (.putfield 80, 3) := dcs_at ok22_model2_0_18 2 rfl
theorem dX10_stands_5 : decode cX10_stands 5 = .ok (.iload_n 2, 1) := dcs_at ok22_model2_0_18 3 rfl
theorem dX10_stands_6 : decode cX10_stands 6 = .ok (.iconst 0, 1) := dcs_at ok22_model2_0_18 4 rfl
theorem dX10_stands_7 : decode cX10_stands 7 = .ok (.iconst 1, 1) := dcs_at ok22_model2_0_18 5 rfl
theorem dX10_stands_8 : decode cX10_stands 8 = .ok (.invokestatic 92, 3) := dcs_at ok22_model2_0_18 6 rfl
theorem dX10_stands_11 : decode cX10_stands 11 = .ok (.ifCond .eq 18, 3) := dcs_at ok22_model2_0_18 7 rfl
theorem dX10_stands_14 : decode cX10_stands 14 = .ok (.aload_n 0, 1) := dcs_at ok22_model2_0_18 8 rfl
theorem dX10_stands_15 : decode cX10_stands 15 = .ok (.iload_n 1, 1) := dcs_at ok22_model2_0_18 9 rfl
theorem dX10_stands_16 : decode cX10_stands 16 = .ok (.invokevirtual 237, 3) := dcs_at ok22_model2_0_18 10 rfl
theorem dX10_stands_19 : decode cX10_stands 19 = .ok (.ifCond .eq 10, 3) := dcs_at ok22_model2_0_18 11 rfl
theorem dX10_stands_22 : decode cX10_stands 22 = .ok (.aload_n 0, 1) := dcs_at ok22_model2_0_18 12 rfl
theorem dX10_stands_23 : decode cX10_stands 23 = .ok (.invokevirtual 374, 3) := dcs_at ok22_model2_0_18 13 rfl
theorem dX10_stands_26 : decode cX10_stands 26 = .ok (.ifCond .ne 5, 3) := dcs_at ok22_model2_0_18 14 rfl
theorem dX10_stands_29 : decode cX10_stands 29 = .ok (.iconst (-1), 1) := dcs_at ok22_model2_0_18 15 rfl
theorem dX10_stands_30 : decode cX10_stands 30 = .ok (.ireturn, 1) := dcs_at ok22_model2_0_18 16 rfl
theorem dX10_stands_31 : decode cX10_stands 31 = .ok (.aload_n 0, 1) := dcs_at ok22_model2_0_18 17 rfl
theorem dX10_stands_32 : decode cX10_stands 32 = .ok (.invokevirtual 377, 3) := dcs_at ok22_model2_0_18 18 rfl
theorem dX10_stands_35 : decode cX10_stands 35 = .ok (.iconst 1, 1) := dcs_at ok22_model2_0_18 19 rfl
theorem dX10_stands_36 : decode cX10_stands 36 = .ok (.istore_n 3, 1) := dcs_at ok22_model2_0_18 20 rfl
theorem dX10_stands_37 : decode cX10_stands 37 = .ok (.iload_n 3, 1) := dcs_at ok22_model2_0_18 21 rfl
theorem dX10_stands_38 : decode cX10_stands 38 = .ok (.sipush 200, 3) := dcs_at ok22_model2_0_18 22 rfl
theorem dX10_stands_41 : decode cX10_stands 41 = .ok (.if_icmp .gt 48, 3) := dcs_at ok22_model2_0_18 23 rfl
theorem dX10_stands_44 : decode cX10_stands 44 = .ok (.iload_n 3, 1) := dcs_at ok22_model2_0_18 24 rfl
theorem dX10_stands_45 : decode cX10_stands 45 = .ok (.iconst 1, 1) := dcs_at ok22_model2_0_18 25 rfl
theorem dX10_stands_46 : decode cX10_stands 46 = .ok (.isub, 1) := dcs_at ok22_model2_0_18 26 rfl
theorem dX10_stands_47 : decode cX10_stands 47 = .ok (.istore 4, 2) := dcs_at ok22_model2_0_18 27 rfl
theorem dX10_stands_49 : decode cX10_stands 49 = .ok (.iload 4, 2) := dcs_at ok22_model2_0_18 28 rfl
theorem dX10_stands_51 : decode cX10_stands 51 = .ok (.ifCond .lt 32, 3) := dcs_at ok22_model2_0_18 29 rfl
theorem dX10_stands_54 : decode cX10_stands 54 = .ok (.aload_n 0, 1) := dcs_at ok22_model2_0_18 30 rfl
theorem dX10_stands_55 : decode cX10_stands 55 = .ok (.iload_n 3, 1) := dcs_at ok22_model2_0_18 31 rfl
theorem dX10_stands_56 : decode cX10_stands 56 = .ok (.iload 4, 2) := dcs_at ok22_model2_0_18 32 rfl
theorem dX10_stands_58 : decode cX10_stands 58 = .ok (.invokevirtual 383, 3) := dcs_at ok22_model2_0_18 33 rfl
theorem dX10_stands_61 : decode cX10_stands 61 = .ok (.ifCond .eq 16, 3) := dcs_at ok22_model2_0_18 34 rfl
theorem dX10_stands_64 : decode cX10_stands 64 = .ok (.iload_n 2, 1) := dcs_at ok22_model2_0_18 35 rfl
theorem dX10_stands_65 : decode cX10_stands 65 = .ok (.ifCond .ne 7, 3) := dcs_at ok22_model2_0_18 36 rfl
theorem dX10_stands_68 : decode cX10_stands 68 = .ok (.iload_n 3, 1) := dcs_at ok22_model2_0_18 37 rfl
theorem dX10_stands_69 : decode cX10_stands 69 = .ok (.goto 7, 3) := dcs_at ok22_model2_0_18 38 rfl
theorem dX10_stands_72 : decode cX10_stands 72 = .ok (.iload_n 3, 1) := dcs_at ok22_model2_0_18 39 rfl
def tb22_model2_0_19 : List (Nat × (Instr × Nat)) := [(73, (.iload 4, 2)), (75, (.isub, 1)), (76, (.ireturn, 1)), (77, (.iinc 4 (-1), 3)), (80, (.goto (-31), 3)), (83, (.iinc 3 1, 3)), (86, (.goto (-49), 3)), (89, (.iconst (-1), 1)), (90, (.ireturn, 1))]
theorem ok22_model2_0_19 : dcs cX10_stands tb22_model2_0_19 = true := by decide +kernel
theorem dX10_stands_73 : decode cX10_stands 73 = .ok (.iload 4, 2) := dcs_at ok22_model2_0_19 0 rfl
theorem dX10_stands_75 : decode cX10_stands 75 = .ok (.isub, 1) := dcs_at ok22_model2_0_19 1 rfl
theorem dX10_stands_76 : decode cX10_stands 76 = .ok (.ireturn, 1) := dcs_at ok22_model2_0_19 2 rfl
theorem dX10_stands_77 : decode cX10_stands 77 = .ok (.iinc 4 (-1), 3) := dcs_at ok22_model2_0_19 3 rfl
theorem dX10_stands_80 : decode cX10_stands 80 = .ok (.goto (-31), 3) := dcs_at ok22_model2_0_19 4 rfl
theorem dX10_stands_83 : decode cX10_stands 83 = .ok (.iinc 3 1, 3) := dcs_at ok22_model2_0_19 5 rfl
theorem dX10_stands_86 : decode cX10_stands 86 = .ok (.goto (-49), 3) := dcs_at ok22_model2_0_19 6 rfl
theorem dX10_stands_89 : decode cX10_stands 89 = .ok (.iconst (-1), 1) := dcs_at ok22_model2_0_19 7 rfl
theorem dX10_stands_90 : decode cX10_stands 90 = .ok (.ireturn, 1) := dcs_at ok22_model2_0_19 8 rfl
def tb22_model2_0_20 : List (Nat × (Instr × Nat)) := [(0, (.iconst (-1), 1)), (1, (.istore_n 1, 1)), (2, (.iconst 0, 1)), (3, (.istore_n 2, 1)), (4, (.iconst 0, 1)), (5, (.istore_n 3, 1)), (6, (.iload_n 3, 1)), (7, (.aload_n 0, 1)), (8, (.getfield 228, 3)), (11, (.if_icmp .ge 65, 3)), (14, (.iconst 0, 1)), (15, (.istore 4, 2)), (17, (.iconst 0, 1)), (18, (.istore 5, 2)), (20, (.iload 5, 2)), (22, (.aload_n 0, 1)), (23, (.getfield 228, 3)), (26, (.if_icmp .ge 25, 3)), (29, (.iload 4, 2)), (31, (.aload_n 0, 1)), (32, (.getfield 44, 3)), (35, (.iconst 5, 1)), (36, (.iload_n 3, 1)), (37, (.imul, 1)), (38, (.iload 5, 2)), (40, (.iadd, 1)), (41, (.iaload, 1)), (42, (.iadd, 1)), (43, (.istore 4, 2)), (45, (.iinc 5 1, 3)), (48, (.goto (-28), 3)), (51, (.iload 4, 2)), (53, (.iload_n 2, 1)), (54, (.if_icmp .le 7, 3)), (57, (.iload_n 3, 1)), (58, (.goto 4, 3)), (61, (.iload_n 1, 1)), (62, (.istore_n 1, 1)), (63, (.iload_n 2, 1)), (64, (.iload 4, 2))]
theorem ok22_model2_0_20 : dcs cX10_mostOwing tb22_model2_0_20 = true := by decide +kernel
theorem dX10_mostOwing_0 : decode cX10_mostOwing 0 = .ok (.iconst (-1), 1) := dcs_at ok22_model2_0_20 0 rfl
theorem dX10_mostOwing_1 : decode cX10_mostOwing 1 = .ok (.istore_n 1, 1) := dcs_at ok22_model2_0_20 1 rfl
theorem dX10_mostOwing_2 : decode cX10_mostOwing 2 = .ok (.iconst 0, 1) := dcs_at ok22_model2_0_20 2 rfl
theorem dX10_mostOwing_3 : decode cX10_mostOwing 3 = .ok (.istore_n 2, 1) := dcs_at ok22_model2_0_20 3 rfl
theorem dX10_mostOwing_4 : decode cX10_mostOwing 4 = .ok (.iconst 0, 1) := dcs_at ok22_model2_0_20 4 rfl
theorem dX10_mostOwing_5 : decode cX10_mostOwing 5 = .ok (.istore_n 3, 1) := dcs_at ok22_model2_0_20 5 rfl
theorem dX10_mostOwing_6 : decode cX10_mostOwing 6 = .ok (.iload_n 3, 1) := dcs_at ok22_model2_0_20 6 rfl
theorem dX10_mostOwing_7 : decode cX10_mostOwing 7 = .ok (.aload_n 0, 1) := dcs_at ok22_model2_0_20 7 rfl
theorem dX10_mostOwing_8 : decode cX10_mostOwing 8 = .ok (.getfield 228, 3) := dcs_at ok22_model2_0_20 8 rfl
theorem dX10_mostOwing_11 : decode cX10_mostOwing 11 = .ok (.if_icmp .ge 65, 3) := dcs_at ok22_model2_0_20 9 rfl
theorem dX10_mostOwing_14 : decode cX10_mostOwing 14 = .ok (.iconst 0, 1) := dcs_at ok22_model2_0_20 10 rfl
theorem dX10_mostOwing_15 : decode cX10_mostOwing 15 = .ok (.istore 4, 2) := dcs_at ok22_model2_0_20 11 rfl
theorem dX10_mostOwing_17 : decode cX10_mostOwing 17 = .ok (.iconst 0, 1) := dcs_at ok22_model2_0_20 12 rfl
theorem dX10_mostOwing_18 : decode cX10_mostOwing 18 = .ok (.istore 5, 2) := dcs_at ok22_model2_0_20 13 rfl
theorem dX10_mostOwing_20 : decode cX10_mostOwing 20 = .ok (.iload 5, 2) := dcs_at ok22_model2_0_20 14 rfl
theorem dX10_mostOwing_22 : decode cX10_mostOwing 22 = .ok (.aload_n 0, 1) := dcs_at ok22_model2_0_20 15 rfl
theorem dX10_mostOwing_23 : decode cX10_mostOwing 23 = .ok (.getfield 228, 3) := dcs_at ok22_model2_0_20 16 rfl
theorem dX10_mostOwing_26 : decode cX10_mostOwing 26 = .ok (.if_icmp .ge 25, 3) := dcs_at ok22_model2_0_20 17 rfl
theorem dX10_mostOwing_29 : decode cX10_mostOwing 29 = .ok (.iload 4, 2) := dcs_at ok22_model2_0_20 18 rfl
theorem dX10_mostOwing_31 : decode cX10_mostOwing 31 = .ok (.aload_n 0, 1) := dcs_at ok22_model2_0_20 19 rfl
theorem dX10_mostOwing_32 : decode cX10_mostOwing 32 = .ok (.getfield 44, 3) := dcs_at ok22_model2_0_20 20 rfl
theorem dX10_mostOwing_35 : decode cX10_mostOwing 35 = .ok (.iconst 5, 1) := dcs_at ok22_model2_0_20 21 rfl
theorem dX10_mostOwing_36 : decode cX10_mostOwing 36 = .ok (.iload_n 3, 1) := dcs_at ok22_model2_0_20 22 rfl
theorem dX10_mostOwing_37 : decode cX10_mostOwing 37 = .ok (.imul, 1) := dcs_at ok22_model2_0_20 23 rfl
theorem dX10_mostOwing_38 : decode cX10_mostOwing 38 = .ok (.iload 5, 2) := dcs_at ok22_model2_0_20 24 rfl
theorem dX10_mostOwing_40 : decode cX10_mostOwing 40 = .ok (.iadd, 1) := dcs_at ok22_model2_0_20 25 rfl
theorem dX10_mostOwing_41 : decode cX10_mostOwing 41 = .ok (.iaload, 1) := dcs_at ok22_model2_0_20 26 rfl
theorem dX10_mostOwing_42 : decode cX10_mostOwing 42 = .ok (.iadd, 1) := dcs_at ok22_model2_0_20 27 rfl
theorem dX10_mostOwing_43 : decode cX10_mostOwing 43 = .ok (.istore 4, 2) := dcs_at ok22_model2_0_20 28 rfl
theorem dX10_mostOwing_45 : decode cX10_mostOwing 45 = .ok (.iinc 5 1, 3) := dcs_at ok22_model2_0_20 29 rfl
theorem dX10_mostOwing_48 : decode cX10_mostOwing 48 = .ok (.goto (-28), 3) := dcs_at ok22_model2_0_20 30 rfl
theorem dX10_mostOwing_51 : decode cX10_mostOwing 51 = .ok (.iload 4, 2) := dcs_at ok22_model2_0_20 31 rfl
theorem dX10_mostOwing_53 : decode cX10_mostOwing 53 = .ok (.iload_n 2, 1) := dcs_at ok22_model2_0_20 32 rfl
theorem dX10_mostOwing_54 : decode cX10_mostOwing 54 = .ok (.if_icmp .le 7, 3) := dcs_at ok22_model2_0_20 33 rfl
theorem dX10_mostOwing_57 : decode cX10_mostOwing 57 = .ok (.iload_n 3, 1) := dcs_at ok22_model2_0_20 34 rfl
theorem dX10_mostOwing_58 : decode cX10_mostOwing 58 = .ok (.goto 4, 3) := dcs_at ok22_model2_0_20 35 rfl
theorem dX10_mostOwing_61 : decode cX10_mostOwing 61 = .ok (.iload_n 1, 1) := dcs_at ok22_model2_0_20 36 rfl
theorem dX10_mostOwing_62 : decode cX10_mostOwing 62 = .ok (.istore_n 1, 1) := dcs_at ok22_model2_0_20 37 rfl
theorem dX10_mostOwing_63 : decode cX10_mostOwing 63 = .ok (.iload_n 2, 1) := dcs_at ok22_model2_0_20 38 rfl
theorem dX10_mostOwing_64 : decode cX10_mostOwing 64 = .ok (.iload 4, 2) := dcs_at ok22_model2_0_20 39 rfl
def tb22_model2_0_21 : List (Nat × (Instr × Nat)) := [(66, (.invokestatic 338, 3)), (69, (.istore_n 2, 1)), (70, (.iinc 3 1, 3)), (73, (.goto (-67), 3)), (76, (.iload_n 1, 1)), (77, (.ireturn, 1))]
theorem ok22_model2_0_21 : dcs cX10_mostOwing tb22_model2_0_21 = true := by decide +kernel
theorem dX10_mostOwing_66 : decode cX10_mostOwing 66 = .ok (.invokestatic 338, 3) := dcs_at ok22_model2_0_21 0 rfl
theorem dX10_mostOwing_69 : decode cX10_mostOwing 69 = .ok (.istore_n 2, 1) := dcs_at ok22_model2_0_21 1 rfl
theorem dX10_mostOwing_70 : decode cX10_mostOwing 70 = .ok (.iinc 3 1, 3) := dcs_at ok22_model2_0_21 2 rfl
theorem dX10_mostOwing_73 : decode cX10_mostOwing 73 = .ok (.goto (-67), 3) := dcs_at ok22_model2_0_21 3 rfl
theorem dX10_mostOwing_76 : decode cX10_mostOwing 76 = .ok (.iload_n 1, 1) := dcs_at ok22_model2_0_21 4 rfl
theorem dX10_mostOwing_77 : decode cX10_mostOwing 77 = .ok (.ireturn, 1) := dcs_at ok22_model2_0_21 5 rfl
def tb22_model2_0_22 : List (Nat × (Instr × Nat)) := [(0, (.iconst (-1), 1)), (1, (.istore_n 1, 1)), (2, (.iconst 0, 1)), (3, (.istore_n 2, 1)), (4, (.iconst 0, 1)), (5, (.istore_n 3, 1)), (6, (.iload_n 3, 1)), (7, (.aload_n 0, 1)), (8, (.getfield 231, 3)), (11, (.if_icmp .ge 66, 3)), (14, (.iconst 0, 1)), (15, (.istore 4, 2)), (17, (.iconst 0, 1)), (18, (.istore 5, 2)), (20, (.iload 5, 2)), (22, (.aload_n 0, 1)), (23, (.getfield 228, 3)), (26, (.if_icmp .ge 26, 3)), (29, (.iload 4, 2)), (31, (.aload_n 0, 1)), (32, (.getfield 47, 3)), (35, (.bipush 6, 2)), (37, (.iload 5, 2)), (39, (.imul, 1)), (40, (.iload_n 3, 1)), (41, (.iadd, 1)), (42, (.iaload, 1)), (43, (.iadd, 1)), (44, (.istore 4, 2)), (46, (.iinc 5 1, 3)), (49, (.goto (-29), 3)), (52, (.iload 4, 2)), (54, (.iload_n 2, 1)), (55, (.if_icmp .le 7, 3)), (58, (.iload_n 3, 1)), (59, (.goto 4, 3)), (62, (.iload_n 1, 1)), (63, (.istore_n 1, 1)), (64, (.iload_n 2, 1)), (65, (.iload 4, 2))]
theorem ok22_model2_0_22 : dcs cX10_idol tb22_model2_0_22 = true := by decide +kernel
theorem dX10_idol_0 : decode cX10_idol 0 = .ok (.iconst (-1), 1) := dcs_at ok22_model2_0_22 0 rfl
theorem dX10_idol_1 : decode cX10_idol 1 = .ok (.istore_n 1, 1) := dcs_at ok22_model2_0_22 1 rfl
theorem dX10_idol_2 : decode cX10_idol 2 = .ok (.iconst 0, 1) := dcs_at ok22_model2_0_22 2 rfl
theorem dX10_idol_3 : decode cX10_idol 3 = .ok (.istore_n 2, 1) := dcs_at ok22_model2_0_22 3 rfl
theorem dX10_idol_4 : decode cX10_idol 4 = .ok (.iconst 0, 1) := dcs_at ok22_model2_0_22 4 rfl
theorem dX10_idol_5 : decode cX10_idol 5 = .ok (.istore_n 3, 1) := dcs_at ok22_model2_0_22 5 rfl
theorem dX10_idol_6 : decode cX10_idol 6 = .ok (.iload_n 3, 1) := dcs_at ok22_model2_0_22 6 rfl
theorem dX10_idol_7 : decode cX10_idol 7 = .ok (.aload_n 0, 1) := dcs_at ok22_model2_0_22 7 rfl
theorem dX10_idol_8 : decode cX10_idol 8 = .ok (.getfield 231, 3) := dcs_at ok22_model2_0_22 8 rfl
theorem dX10_idol_11 : decode cX10_idol 11 = .ok (.if_icmp .ge 66, 3) := dcs_at ok22_model2_0_22 9 rfl
theorem dX10_idol_14 : decode cX10_idol 14 = .ok (.iconst 0, 1) := dcs_at ok22_model2_0_22 10 rfl
theorem dX10_idol_15 : decode cX10_idol 15 = .ok (.istore 4, 2) := dcs_at ok22_model2_0_22 11 rfl
theorem dX10_idol_17 : decode cX10_idol 17 = .ok (.iconst 0, 1) := dcs_at ok22_model2_0_22 12 rfl
theorem dX10_idol_18 : decode cX10_idol 18 = .ok (.istore 5, 2) := dcs_at ok22_model2_0_22 13 rfl
theorem dX10_idol_20 : decode cX10_idol 20 = .ok (.iload 5, 2) := dcs_at ok22_model2_0_22 14 rfl
theorem dX10_idol_22 : decode cX10_idol 22 = .ok (.aload_n 0, 1) := dcs_at ok22_model2_0_22 15 rfl
theorem dX10_idol_23 : decode cX10_idol 23 = .ok (.getfield 228, 3) := dcs_at ok22_model2_0_22 16 rfl
theorem dX10_idol_26 : decode cX10_idol 26 = .ok (.if_icmp .ge 26, 3) := dcs_at ok22_model2_0_22 17 rfl
theorem dX10_idol_29 : decode cX10_idol 29 = .ok (.iload 4, 2) := dcs_at ok22_model2_0_22 18 rfl
theorem dX10_idol_31 : decode cX10_idol 31 = .ok (.aload_n 0, 1) := dcs_at ok22_model2_0_22 19 rfl
theorem dX10_idol_32 : decode cX10_idol 32 = .ok (.getfield 47, 3) := dcs_at ok22_model2_0_22 20 rfl
theorem dX10_idol_35 : decode cX10_idol 35 = .ok (.bipush 6, 2) := dcs_at ok22_model2_0_22 21 rfl
theorem dX10_idol_37 : decode cX10_idol 37 = .ok (.iload 5, 2) := dcs_at ok22_model2_0_22 22 rfl
theorem dX10_idol_39 : decode cX10_idol 39 = .ok (.imul, 1) := dcs_at ok22_model2_0_22 23 rfl
theorem dX10_idol_40 : decode cX10_idol 40 = .ok (.iload_n 3, 1) := dcs_at ok22_model2_0_22 24 rfl
theorem dX10_idol_41 : decode cX10_idol 41 = .ok (.iadd, 1) := dcs_at ok22_model2_0_22 25 rfl
theorem dX10_idol_42 : decode cX10_idol 42 = .ok (.iaload, 1) := dcs_at ok22_model2_0_22 26 rfl
theorem dX10_idol_43 : decode cX10_idol 43 = .ok (.iadd, 1) := dcs_at ok22_model2_0_22 27 rfl
theorem dX10_idol_44 : decode cX10_idol 44 = .ok (.istore 4, 2) := dcs_at ok22_model2_0_22 28 rfl
theorem dX10_idol_46 : decode cX10_idol 46 = .ok (.iinc 5 1, 3) := dcs_at ok22_model2_0_22 29 rfl
theorem dX10_idol_49 : decode cX10_idol 49 = .ok (.goto (-29), 3) := dcs_at ok22_model2_0_22 30 rfl
theorem dX10_idol_52 : decode cX10_idol 52 = .ok (.iload 4, 2) := dcs_at ok22_model2_0_22 31 rfl
theorem dX10_idol_54 : decode cX10_idol 54 = .ok (.iload_n 2, 1) := dcs_at ok22_model2_0_22 32 rfl
theorem dX10_idol_55 : decode cX10_idol 55 = .ok (.if_icmp .le 7, 3) := dcs_at ok22_model2_0_22 33 rfl
theorem dX10_idol_58 : decode cX10_idol 58 = .ok (.iload_n 3, 1) := dcs_at ok22_model2_0_22 34 rfl
theorem dX10_idol_59 : decode cX10_idol 59 = .ok (.goto 4, 3) := dcs_at ok22_model2_0_22 35 rfl
theorem dX10_idol_62 : decode cX10_idol 62 = .ok (.iload_n 1, 1) := dcs_at ok22_model2_0_22 36 rfl
theorem dX10_idol_63 : decode cX10_idol 63 = .ok (.istore_n 1, 1) := dcs_at ok22_model2_0_22 37 rfl
theorem dX10_idol_64 : decode cX10_idol 64 = .ok (.iload_n 2, 1) := dcs_at ok22_model2_0_22 38 rfl
theorem dX10_idol_65 : decode cX10_idol 65 = .ok (.iload 4, 2) := dcs_at ok22_model2_0_22 39 rfl
def tb22_model2_0_23 : List (Nat × (Instr × Nat)) := [(67, (.invokestatic 338, 3)), (70, (.istore_n 2, 1)), (71, (.iinc 3 1, 3)), (74, (.goto (-68), 3)), (77, (.iload_n 1, 1)), (78, (.ireturn, 1))]
theorem ok22_model2_0_23 : dcs cX10_idol tb22_model2_0_23 = true := by decide +kernel
theorem dX10_idol_67 : decode cX10_idol 67 = .ok (.invokestatic 338, 3) := dcs_at ok22_model2_0_23 0 rfl
theorem dX10_idol_70 : decode cX10_idol 70 = .ok (.istore_n 2, 1) := dcs_at ok22_model2_0_23 1 rfl
theorem dX10_idol_71 : decode cX10_idol 71 = .ok (.iinc 3 1, 3) := dcs_at ok22_model2_0_23 2 rfl
theorem dX10_idol_74 : decode cX10_idol 74 = .ok (.goto (-68), 3) := dcs_at ok22_model2_0_23 3 rfl
theorem dX10_idol_77 : decode cX10_idol 77 = .ok (.iload_n 1, 1) := dcs_at ok22_model2_0_23 4 rfl
theorem dX10_idol_78 : decode cX10_idol 78 = .ok (.ireturn, 1) := dcs_at ok22_model2_0_23 5 rfl
def tb22_model2_0_24 : List (Nat × (Instr × Nat)) := [(0, (.aload_n 0, 1)), (1, (.getfield 258, 3)), (4, (.iload_n 2, 1)), (5, (.iadd, 1)), (6, (.istore_n 3, 1)), (7, (.iconst 0, 1)), (8, (.istore 4, 2)), (10, (.iload 4, 2)), (12, (.iload_n 1, 1)), (13, (.if_icmp .ge 63, 3)), (16, (.iload_n 3, 1)), (17, (.aload_n 0, 1)), (18, (.getfield 267, 3)), (21, (.iload 4, 2)), (23, (.invokestatic 84, 3)), (26, (.ifCond .eq 41, 3)), (29, (.aload_n 0, 1)), (30, (.getfield 50, 3)), (33, (.iload 4, 2)), (35, (.iaload, 1)), (36, (.aload_n 0, 1)), (37, (.iload 4, 2)), (39, (.iconst 0, 1)), (40, (.invokevirtual 294, 3)), (43, (.if_icmp .lt 24, 3)), (46, (.iload_n 3, 1)), (47, (.aload_n 0, 1)), (48, (.iload 4, 2)), (50, (.iconst 0, 1)), (51, (.invokevirtual 294, 3)), (54, (.if_icmp .lt 13, 3)), (57, (.aload_n 0, 1)), (58, (.iload 4, 2)), (60, (.iconst 0, 1)), (61, (.invokevirtual 294, 3)), (64, (.goto 4, 3)), (67, (.iconst 0, 1)), (68, (.isub, 1)), (69, (.istore_n 3, 1)), (70, (.iinc 4 1, 3))]
theorem ok22_model2_0_24 : dcs cX10_eatsBy tb22_model2_0_24 = true := by decide +kernel
theorem dX10_eatsBy_0 : decode cX10_eatsBy 0 = .ok (.aload_n 0, 1) := dcs_at ok22_model2_0_24 0 rfl
theorem dX10_eatsBy_1 : decode cX10_eatsBy 1 = .ok (.getfield 258, 3) := dcs_at ok22_model2_0_24 1 rfl
theorem dX10_eatsBy_4 : decode cX10_eatsBy 4 = .ok (.iload_n 2, 1) := dcs_at ok22_model2_0_24 2 rfl
theorem dX10_eatsBy_5 : decode cX10_eatsBy 5 = .ok (.iadd, 1) := dcs_at ok22_model2_0_24 3 rfl
theorem dX10_eatsBy_6 : decode cX10_eatsBy 6 = .ok (.istore_n 3, 1) := dcs_at ok22_model2_0_24 4 rfl
theorem dX10_eatsBy_7 : decode cX10_eatsBy 7 = .ok (.iconst 0, 1) := dcs_at ok22_model2_0_24 5 rfl
theorem dX10_eatsBy_8 : decode cX10_eatsBy 8 = .ok (.istore 4, 2) := dcs_at ok22_model2_0_24 6 rfl
theorem dX10_eatsBy_10 : decode cX10_eatsBy 10 = .ok (.iload 4, 2) := dcs_at ok22_model2_0_24 7 rfl
theorem dX10_eatsBy_12 : decode cX10_eatsBy 12 = .ok (.iload_n 1, 1) := dcs_at ok22_model2_0_24 8 rfl
theorem dX10_eatsBy_13 : decode cX10_eatsBy 13 = .ok (.if_icmp .ge 63, 3) := dcs_at ok22_model2_0_24 9 rfl
theorem dX10_eatsBy_16 : decode cX10_eatsBy 16 = .ok (.iload_n 3, 1) := dcs_at ok22_model2_0_24 10 rfl
theorem dX10_eatsBy_17 : decode cX10_eatsBy 17 = .ok (.aload_n 0, 1) := dcs_at ok22_model2_0_24 11 rfl
theorem dX10_eatsBy_18 : decode cX10_eatsBy 18 = .ok (.getfield 267, 3) := dcs_at ok22_model2_0_24 12 rfl
theorem dX10_eatsBy_21 : decode cX10_eatsBy 21 = .ok (.iload 4, 2) := dcs_at ok22_model2_0_24 13 rfl
theorem dX10_eatsBy_23 : decode cX10_eatsBy 23 = .ok (.invokestatic 84, 3) := dcs_at ok22_model2_0_24 14 rfl
theorem dX10_eatsBy_26 : decode cX10_eatsBy 26 = .ok (.ifCond .eq 41, 3) := dcs_at ok22_model2_0_24 15 rfl
theorem dX10_eatsBy_29 : decode cX10_eatsBy 29 = .ok (.aload_n 0, 1) := dcs_at ok22_model2_0_24 16 rfl
theorem dX10_eatsBy_30 : decode cX10_eatsBy 30 = .ok (.getfield 50, 3) := dcs_at ok22_model2_0_24 17 rfl
theorem dX10_eatsBy_33 : decode cX10_eatsBy 33 = .ok (.iload 4, 2) := dcs_at ok22_model2_0_24 18 rfl
theorem dX10_eatsBy_35 : decode cX10_eatsBy 35 = .ok (.iaload, 1) := dcs_at ok22_model2_0_24 19 rfl
theorem dX10_eatsBy_36 : decode cX10_eatsBy 36 = .ok (.aload_n 0, 1) := dcs_at ok22_model2_0_24 20 rfl
theorem dX10_eatsBy_37 : decode cX10_eatsBy 37 = .ok (.iload 4, 2) := dcs_at ok22_model2_0_24 21 rfl
theorem dX10_eatsBy_39 : decode cX10_eatsBy 39 = .ok (.iconst 0, 1) := dcs_at ok22_model2_0_24 22 rfl
theorem dX10_eatsBy_40 : decode cX10_eatsBy 40 = .ok (.invokevirtual 294, 3) := dcs_at ok22_model2_0_24 23 rfl
theorem dX10_eatsBy_43 : decode cX10_eatsBy 43 = .ok (.if_icmp .lt 24, 3) := dcs_at ok22_model2_0_24 24 rfl
theorem dX10_eatsBy_46 : decode cX10_eatsBy 46 = .ok (.iload_n 3, 1) := dcs_at ok22_model2_0_24 25 rfl
theorem dX10_eatsBy_47 : decode cX10_eatsBy 47 = .ok (.aload_n 0, 1) := dcs_at ok22_model2_0_24 26 rfl
theorem dX10_eatsBy_48 : decode cX10_eatsBy 48 = .ok (.iload 4, 2) := dcs_at ok22_model2_0_24 27 rfl
theorem dX10_eatsBy_50 : decode cX10_eatsBy 50 = .ok (.iconst 0, 1) := dcs_at ok22_model2_0_24 28 rfl
theorem dX10_eatsBy_51 : decode cX10_eatsBy 51 = .ok (.invokevirtual 294, 3) := dcs_at ok22_model2_0_24 29 rfl
theorem dX10_eatsBy_54 : decode cX10_eatsBy 54 = .ok (.if_icmp .lt 13, 3) := dcs_at ok22_model2_0_24 30 rfl
theorem dX10_eatsBy_57 : decode cX10_eatsBy 57 = .ok (.aload_n 0, 1) := dcs_at ok22_model2_0_24 31 rfl
theorem dX10_eatsBy_58 : decode cX10_eatsBy 58 = .ok (.iload 4, 2) := dcs_at ok22_model2_0_24 32 rfl
theorem dX10_eatsBy_60 : decode cX10_eatsBy 60 = .ok (.iconst 0, 1) := dcs_at ok22_model2_0_24 33 rfl
theorem dX10_eatsBy_61 : decode cX10_eatsBy 61 = .ok (.invokevirtual 294, 3) := dcs_at ok22_model2_0_24 34 rfl
theorem dX10_eatsBy_64 : decode cX10_eatsBy 64 = .ok (.goto 4, 3) := dcs_at ok22_model2_0_24 35 rfl
theorem dX10_eatsBy_67 : decode cX10_eatsBy 67 = .ok (.iconst 0, 1) := dcs_at ok22_model2_0_24 36 rfl
theorem dX10_eatsBy_68 : decode cX10_eatsBy 68 = .ok (.isub, 1) := dcs_at ok22_model2_0_24 37 rfl
theorem dX10_eatsBy_69 : decode cX10_eatsBy 69 = .ok (.istore_n 3, 1) := dcs_at ok22_model2_0_24 38 rfl
theorem dX10_eatsBy_70 : decode cX10_eatsBy 70 = .ok (.iinc 4 1, 3) := dcs_at ok22_model2_0_24 39 rfl
def tb22_model2_0_25 : List (Nat × (Instr × Nat)) := [(73, (.goto (-63), 3)), (76, (.aload_n 0, 1)), (77, (.getfield 50, 3)), (80, (.iload_n 1, 1)), (81, (.iaload, 1)), (82, (.iload_n 2, 1)), (83, (.iadd, 1)), (84, (.aload_n 0, 1)), (85, (.iload_n 1, 1)), (86, (.iconst 0, 1)), (87, (.invokevirtual 294, 3)), (90, (.if_icmp .lt 17, 3)), (93, (.iload_n 3, 1)), (94, (.aload_n 0, 1)), (95, (.iload_n 1, 1)), (96, (.iconst 0, 1)), (97, (.invokevirtual 294, 3)), (100, (.if_icmp .lt 7, 3)), (103, (.iconst 1, 1)), (104, (.goto 4, 3)), (107, (.iconst 0, 1)), (108, (.ireturn, 1))]
theorem ok22_model2_0_25 : dcs cX10_eatsBy tb22_model2_0_25 = true := by decide +kernel
theorem dX10_eatsBy_73 : decode cX10_eatsBy 73 = .ok (.goto (-63), 3) := dcs_at ok22_model2_0_25 0 rfl
theorem dX10_eatsBy_76 : decode cX10_eatsBy 76 = .ok (.aload_n 0, 1) := dcs_at ok22_model2_0_25 1 rfl
theorem dX10_eatsBy_77 : decode cX10_eatsBy 77 = .ok (.getfield 50, 3) := dcs_at ok22_model2_0_25 2 rfl
theorem dX10_eatsBy_80 : decode cX10_eatsBy 80 = .ok (.iload_n 1, 1) := dcs_at ok22_model2_0_25 3 rfl
theorem dX10_eatsBy_81 : decode cX10_eatsBy 81 = .ok (.iaload, 1) := dcs_at ok22_model2_0_25 4 rfl
theorem dX10_eatsBy_82 : decode cX10_eatsBy 82 = .ok (.iload_n 2, 1) := dcs_at ok22_model2_0_25 5 rfl
theorem dX10_eatsBy_83 : decode cX10_eatsBy 83 = .ok (.iadd, 1) := dcs_at ok22_model2_0_25 6 rfl
theorem dX10_eatsBy_84 : decode cX10_eatsBy 84 = .ok (.aload_n 0, 1) := dcs_at ok22_model2_0_25 7 rfl
theorem dX10_eatsBy_85 : decode cX10_eatsBy 85 = .ok (.iload_n 1, 1) := dcs_at ok22_model2_0_25 8 rfl
theorem dX10_eatsBy_86 : decode cX10_eatsBy 86 = .ok (.iconst 0, 1) := dcs_at ok22_model2_0_25 9 rfl
theorem dX10_eatsBy_87 : decode cX10_eatsBy 87 = .ok (.invokevirtual 294, 3) := dcs_at ok22_model2_0_25 10 rfl
theorem dX10_eatsBy_90 : decode cX10_eatsBy 90 = .ok (.if_icmp .lt 17, 3) := dcs_at ok22_model2_0_25 11 rfl
theorem dX10_eatsBy_93 : decode cX10_eatsBy 93 = .ok (.iload_n 3, 1) := dcs_at ok22_model2_0_25 12 rfl
theorem dX10_eatsBy_94 : decode cX10_eatsBy 94 = .ok (.aload_n 0, 1) := dcs_at ok22_model2_0_25 13 rfl
theorem dX10_eatsBy_95 : decode cX10_eatsBy 95 = .ok (.iload_n 1, 1) := dcs_at ok22_model2_0_25 14 rfl
theorem dX10_eatsBy_96 : decode cX10_eatsBy 96 = .ok (.iconst 0, 1) := dcs_at ok22_model2_0_25 15 rfl
theorem dX10_eatsBy_97 : decode cX10_eatsBy 97 = .ok (.invokevirtual 294, 3) := dcs_at ok22_model2_0_25 16 rfl
theorem dX10_eatsBy_100 : decode cX10_eatsBy 100 = .ok (.if_icmp .lt 7, 3) := dcs_at ok22_model2_0_25 17 rfl
theorem dX10_eatsBy_103 : decode cX10_eatsBy 103 = .ok (.iconst 1, 1) := dcs_at ok22_model2_0_25 18 rfl
theorem dX10_eatsBy_104 : decode cX10_eatsBy 104 = .ok (.goto 4, 3) := dcs_at ok22_model2_0_25 19 rfl
theorem dX10_eatsBy_107 : decode cX10_eatsBy 107 = .ok (.iconst 0, 1) := dcs_at ok22_model2_0_25 20 rfl
theorem dX10_eatsBy_108 : decode cX10_eatsBy 108 = .ok (.ireturn, 1) := dcs_at ok22_model2_0_25 21 rfl
def tb22_model2_0_26 : List (Nat × (Instr × Nat)) := [(0, (.iconst 0, 1)), (1, (.istore_n 2, 1)), (2, (.iload_n 2, 1)), (3, (.bipush 99, 2)), (5, (.if_icmp .gt 33, 3)), (8, (.aload_n 0, 1)), (9, (.getfield 267, 3)), (12, (.iload_n 1, 1)), (13, (.invokestatic 84, 3)), (16, (.ifCond .eq 22, 3)), (19, (.aload_n 0, 1)), (20, (.iload_n 1, 1)), (21, (.iconst 2, 1)), (22, (.iload_n 2, 1)), (23, (.imul, 1)), (24, (.invokevirtual 431, 3)), (27, (.ifCond .eq 5, 3)), (30, (.iload_n 2, 1)), (31, (.ireturn, 1)), (32, (.iinc 2 1, 3)), (35, (.goto (-33), 3)), (38, (.iconst (-1), 1)), (39, (.ireturn, 1))]
theorem ok22_model2_0_26 : dcs cX10_tip tb22_model2_0_26 = true := by decide +kernel
theorem dX10_tip_0 : decode cX10_tip 0 = .ok (.iconst 0, 1) := dcs_at ok22_model2_0_26 0 rfl
theorem dX10_tip_1 : decode cX10_tip 1 = .ok (.istore_n 2, 1) := dcs_at ok22_model2_0_26 1 rfl
theorem dX10_tip_2 : decode cX10_tip 2 = .ok (.iload_n 2, 1) := dcs_at ok22_model2_0_26 2 rfl
theorem dX10_tip_3 : decode cX10_tip 3 = .ok (.bipush 99, 2) := dcs_at ok22_model2_0_26 3 rfl
theorem dX10_tip_5 : decode cX10_tip 5 = .ok (.if_icmp .gt 33, 3) := dcs_at ok22_model2_0_26 4 rfl
theorem dX10_tip_8 : decode cX10_tip 8 = .ok (.aload_n 0, 1) := dcs_at ok22_model2_0_26 5 rfl
theorem dX10_tip_9 : decode cX10_tip 9 = .ok (.getfield 267, 3) := dcs_at ok22_model2_0_26 6 rfl
theorem dX10_tip_12 : decode cX10_tip 12 = .ok (.iload_n 1, 1) := dcs_at ok22_model2_0_26 7 rfl
theorem dX10_tip_13 : decode cX10_tip 13 = .ok (.invokestatic 84, 3) := dcs_at ok22_model2_0_26 8 rfl
theorem dX10_tip_16 : decode cX10_tip 16 = .ok (.ifCond .eq 22, 3) := dcs_at ok22_model2_0_26 9 rfl
theorem dX10_tip_19 : decode cX10_tip 19 = .ok (.aload_n 0, 1) := dcs_at ok22_model2_0_26 10 rfl
theorem dX10_tip_20 : decode cX10_tip 20 = .ok (.iload_n 1, 1) := dcs_at ok22_model2_0_26 11 rfl
theorem dX10_tip_21 : decode cX10_tip 21 = .ok (.iconst 2, 1) := dcs_at ok22_model2_0_26 12 rfl
theorem dX10_tip_22 : decode cX10_tip 22 = .ok (.iload_n 2, 1) := dcs_at ok22_model2_0_26 13 rfl
theorem dX10_tip_23 : decode cX10_tip 23 = .ok (.imul, 1) := dcs_at ok22_model2_0_26 14 rfl
theorem dX10_tip_24 : decode cX10_tip 24 = .ok (.invokevirtual 431, 3) := dcs_at ok22_model2_0_26 15 rfl
theorem dX10_tip_27 : decode cX10_tip 27 = .ok (.ifCond .eq 5, 3) := dcs_at ok22_model2_0_26 16 rfl
theorem dX10_tip_30 : decode cX10_tip 30 = .ok (.iload_n 2, 1) := dcs_at ok22_model2_0_26 17 rfl
theorem dX10_tip_31 : decode cX10_tip 31 = .ok (.ireturn, 1) := dcs_at ok22_model2_0_26 18 rfl
theorem dX10_tip_32 : decode cX10_tip 32 = .ok (.iinc 2 1, 3) := dcs_at ok22_model2_0_26 19 rfl
theorem dX10_tip_35 : decode cX10_tip 35 = .ok (.goto (-33), 3) := dcs_at ok22_model2_0_26 20 rfl
theorem dX10_tip_38 : decode cX10_tip 38 = .ok (.iconst (-1), 1) := dcs_at ok22_model2_0_26 21 rfl
theorem dX10_tip_39 : decode cX10_tip 39 = .ok (.ireturn, 1) := dcs_at ok22_model2_0_26 22 rfl
def tb22_model2_0_27 : List (Nat × (Instr × Nat)) := [(0, (.iconst 0, 1)), (1, (.istore_n 2, 1)), (2, (.iload_n 2, 1)), (3, (.bipush 99, 2)), (5, (.if_icmp .ge 35, 3)), (8, (.aload_n 0, 1)), (9, (.getfield 267, 3)), (12, (.iload_n 1, 1)), (13, (.invokestatic 84, 3)), (16, (.ifCond .eq 24, 3)), (19, (.aload_n 0, 1)), (20, (.getfield 50, 3)), (23, (.iload_n 1, 1)), (24, (.iaload, 1)), (25, (.aload_n 0, 1)), (26, (.iload_n 1, 1)), (27, (.iload_n 2, 1)), (28, (.invokevirtual 294, 3)), (31, (.if_icmp .lt 9, 3)), (34, (.iinc 2 1, 3)), (37, (.goto (-35), 3)), (40, (.iload_n 2, 1)), (41, (.ireturn, 1))]
theorem ok22_model2_0_27 : dcs cX10_dear tb22_model2_0_27 = true := by decide +kernel
theorem dX10_dear_0 : decode cX10_dear 0 = .ok (.iconst 0, 1) := dcs_at ok22_model2_0_27 0 rfl
theorem dX10_dear_1 : decode cX10_dear 1 = .ok (.istore_n 2, 1) := dcs_at ok22_model2_0_27 1 rfl
theorem dX10_dear_2 : decode cX10_dear 2 = .ok (.iload_n 2, 1) := dcs_at ok22_model2_0_27 2 rfl
theorem dX10_dear_3 : decode cX10_dear 3 = .ok (.bipush 99, 2) := dcs_at ok22_model2_0_27 3 rfl
theorem dX10_dear_5 : decode cX10_dear 5 = .ok (.if_icmp .ge 35, 3) := dcs_at ok22_model2_0_27 4 rfl
theorem dX10_dear_8 : decode cX10_dear 8 = .ok (.aload_n 0, 1) := dcs_at ok22_model2_0_27 5 rfl
theorem dX10_dear_9 : decode cX10_dear 9 = .ok (.getfield 267, 3) := dcs_at ok22_model2_0_27 6 rfl
theorem dX10_dear_12 : decode cX10_dear 12 = .ok (.iload_n 1, 1) := dcs_at ok22_model2_0_27 7 rfl
theorem dX10_dear_13 : decode cX10_dear 13 = .ok (.invokestatic 84, 3) := dcs_at ok22_model2_0_27 8 rfl
theorem dX10_dear_16 : decode cX10_dear 16 = .ok (.ifCond .eq 24, 3) := dcs_at ok22_model2_0_27 9 rfl
theorem dX10_dear_19 : decode cX10_dear 19 = .ok (.aload_n 0, 1) := dcs_at ok22_model2_0_27 10 rfl
theorem dX10_dear_20 : decode cX10_dear 20 = .ok (.getfield 50, 3) := dcs_at ok22_model2_0_27 11 rfl
theorem dX10_dear_23 : decode cX10_dear 23 = .ok (.iload_n 1, 1) := dcs_at ok22_model2_0_27 12 rfl
theorem dX10_dear_24 : decode cX10_dear 24 = .ok (.iaload, 1) := dcs_at ok22_model2_0_27 13 rfl
theorem dX10_dear_25 : decode cX10_dear 25 = .ok (.aload_n 0, 1) := dcs_at ok22_model2_0_27 14 rfl
theorem dX10_dear_26 : decode cX10_dear 26 = .ok (.iload_n 1, 1) := dcs_at ok22_model2_0_27 15 rfl
theorem dX10_dear_27 : decode cX10_dear 27 = .ok (.iload_n 2, 1) := dcs_at ok22_model2_0_27 16 rfl
theorem dX10_dear_28 : decode cX10_dear 28 = .ok (.invokevirtual 294, 3) := dcs_at ok22_model2_0_27 17 rfl
theorem dX10_dear_31 : decode cX10_dear 31 = .ok (.if_icmp .lt 9, 3) := dcs_at ok22_model2_0_27 18 rfl
theorem dX10_dear_34 : decode cX10_dear 34 = .ok (.iinc 2 1, 3) := dcs_at ok22_model2_0_27 19 rfl
theorem dX10_dear_37 : decode cX10_dear 37 = .ok (.goto (-35), 3) := dcs_at ok22_model2_0_27 20 rfl
theorem dX10_dear_40 : decode cX10_dear 40 = .ok (.iload_n 2, 1) := dcs_at ok22_model2_0_27 21 rfl
theorem dX10_dear_41 : decode cX10_dear 41 = .ok (.ireturn, 1) := dcs_at ok22_model2_0_27 22 rfl
def tb22_model2_0_28 : List (Nat × (Instr × Nat)) := [(0, (.aload_n 0, 1)), (1, (.iconst 0, 1)), (2, (.putfield 80, 3)), (5, (.aload_n 0, 1)), (6, (.iload_n 1, 1)), (7, (.iload_n 2, 1)), (8, (.iload_n 3, 1)), (9, (.invokevirtual 332, 3)), (12, (.ifCond .ne 6, 3)), (15, (.bipush (-2), 2)), (17, (.ireturn, 1)), (18, (.iload 4, 2)), (20, (.bipush 10, 2)), (22, (.bipush 9, 2)), (24, (.aload_n 0, 1)), (25, (.getfield 231, 3)), (28, (.iadd, 1)), (29, (.invokestatic 92, 3)), (32, (.ifCond .eq 13, 3)), (35, (.aload_n 0, 1)), (36, (.iload 4, 2)), (38, (.bipush 10, 2)), (40, (.isub, 1)), (41, (.invokevirtual 434, 3)), (44, (.ireturn, 1)), (45, (.iload 4, 2)), (47, (.ifCond .ne 10, 3)), (50, (.aload_n 0, 1)), (51, (.invokevirtual 437, 3)), (54, (.goto 47, 3)), (57, (.iload 4, 2)), (59, (.iconst 1, 1)), (60, (.if_icmp .ne 10, 3)), (63, (.aload_n 0, 1)), (64, (.invokevirtual 440, 3)), (67, (.goto 34, 3)), (70, (.iload 4, 2)), (72, (.bipush 20, 2)), (74, (.bipush 19, 2)), (76, (.aload_n 0, 1))]
theorem ok22_model2_0_28 : dcs cX10_look tb22_model2_0_28 = true := by decide +kernel
theorem dX10_look_0 : decode cX10_look 0 = .ok (.aload_n 0, 1) := dcs_at ok22_model2_0_28 0 rfl
theorem dX10_look_1 : decode cX10_look 1 = .ok (.iconst 0, 1) := dcs_at ok22_model2_0_28 1 rfl
theorem dX10_look_2 : decode cX10_look 2 = .ok (.putfield 80, 3) := dcs_at ok22_model2_0_28 2 rfl
theorem dX10_look_5 : decode cX10_look 5 = .ok (.aload_n 0, 1) := dcs_at ok22_model2_0_28 3 rfl
theorem dX10_look_6 : decode cX10_look 6 = .ok (.iload_n 1, 1) := dcs_at ok22_model2_0_28 4 rfl
theorem dX10_look_7 : decode cX10_look 7 = .ok (.iload_n 2, 1) := dcs_at ok22_model2_0_28 5 rfl
theorem dX10_look_8 : decode cX10_look 8 = .ok (.iload_n 3, 1) := dcs_at ok22_model2_0_28 6 rfl
theorem dX10_look_9 : decode cX10_look 9 = .ok (.invokevirtual 332, 3) := dcs_at ok22_model2_0_28 7 rfl
theorem dX10_look_12 : decode cX10_look 12 = .ok (.ifCond .ne 6, 3) := dcs_at ok22_model2_0_28 8 rfl
theorem dX10_look_15 : decode cX10_look 15 = .ok (.bipush (-2), 2) := dcs_at ok22_model2_0_28 9 rfl
theorem dX10_look_17 : decode cX10_look 17 = .ok (.ireturn, 1) := dcs_at ok22_model2_0_28 10 rfl
theorem dX10_look_18 : decode cX10_look 18 = .ok (.iload 4, 2) := dcs_at ok22_model2_0_28 11 rfl
theorem dX10_look_20 : decode cX10_look 20 = .ok (.bipush 10, 2) := dcs_at ok22_model2_0_28 12 rfl
theorem dX10_look_22 : decode cX10_look 22 = .ok (.bipush 9, 2) := dcs_at ok22_model2_0_28 13 rfl
theorem dX10_look_24 : decode cX10_look 24 = .ok (.aload_n 0, 1) := dcs_at ok22_model2_0_28 14 rfl
theorem dX10_look_25 : decode cX10_look 25 = .ok (.getfield 231, 3) := dcs_at ok22_model2_0_28 15 rfl
theorem dX10_look_28 : decode cX10_look 28 = .ok (.iadd, 1) := dcs_at ok22_model2_0_28 16 rfl
theorem dX10_look_29 : decode cX10_look 29 = .ok (.invokestatic 92, 3) := dcs_at ok22_model2_0_28 17 rfl
theorem dX10_look_32 : decode cX10_look 32 = .ok (.ifCond .eq 13, 3) := dcs_at ok22_model2_0_28 18 rfl
theorem dX10_look_35 : decode cX10_look 35 = .ok (.aload_n 0, 1) := dcs_at ok22_model2_0_28 19 rfl
theorem dX10_look_36 : decode cX10_look 36 = .ok (.iload 4, 2) := dcs_at ok22_model2_0_28 20 rfl
theorem dX10_look_38 : decode cX10_look 38 = .ok (.bipush 10, 2) := dcs_at ok22_model2_0_28 21 rfl
theorem dX10_look_40 : decode cX10_look 40 = .ok (.isub, 1) := dcs_at ok22_model2_0_28 22 rfl
theorem dX10_look_41 : decode cX10_look 41 = .ok (.invokevirtual 434, 3) := dcs_at ok22_model2_0_28 23 rfl
theorem dX10_look_44 : decode cX10_look 44 = .ok (.ireturn, 1) := dcs_at ok22_model2_0_28 24 rfl
theorem dX10_look_45 : decode cX10_look 45 = .ok (.iload 4, 2) := dcs_at ok22_model2_0_28 25 rfl
theorem dX10_look_47 : decode cX10_look 47 = .ok (.ifCond .ne 10, 3) := dcs_at ok22_model2_0_28 26 rfl
theorem dX10_look_50 : decode cX10_look 50 = .ok (.aload_n 0, 1) := dcs_at ok22_model2_0_28 27 rfl
theorem dX10_look_51 : decode cX10_look 51 = .ok (.invokevirtual 437, 3) := dcs_at ok22_model2_0_28 28 rfl
theorem dX10_look_54 : decode cX10_look 54 = .ok (.goto 47, 3) := dcs_at ok22_model2_0_28 29 rfl
theorem dX10_look_57 : decode cX10_look 57 = .ok (.iload 4, 2) := dcs_at ok22_model2_0_28 30 rfl
theorem dX10_look_59 : decode cX10_look 59 = .ok (.iconst 1, 1) := dcs_at ok22_model2_0_28 31 rfl
theorem dX10_look_60 : decode cX10_look 60 = .ok (.if_icmp .ne 10, 3) := dcs_at ok22_model2_0_28 32 rfl
theorem dX10_look_63 : decode cX10_look 63 = .ok (.aload_n 0, 1) := dcs_at ok22_model2_0_28 33 rfl
theorem dX10_look_64 : decode cX10_look 64 = .ok (.invokevirtual 440, 3) := dcs_at ok22_model2_0_28 34 rfl
theorem dX10_look_67 : decode cX10_look 67 = .ok (.goto 34, 3) := dcs_at ok22_model2_0_28 35 rfl
theorem dX10_look_70 : decode cX10_look 70 = .ok (.iload 4, 2) := dcs_at ok22_model2_0_28 36 rfl
theorem dX10_look_72 : decode cX10_look 72 = .ok (.bipush 20, 2) := dcs_at ok22_model2_0_28 37 rfl
theorem dX10_look_74 : decode cX10_look 74 = .ok (.bipush 19, 2) := dcs_at ok22_model2_0_28 38 rfl
theorem dX10_look_76 : decode cX10_look 76 = .ok (.aload_n 0, 1) := dcs_at ok22_model2_0_28 39 rfl
def tb22_model2_0_29 : List (Nat × (Instr × Nat)) := [(77, (.getfield 231, 3)), (80, (.iadd, 1)), (81, (.invokestatic 92, 3)), (84, (.ifCond .eq 15, 3)), (87, (.aload_n 0, 1)), (88, (.iload 4, 2)), (90, (.bipush 20, 2)), (92, (.isub, 1)), (93, (.invokevirtual 443, 3)), (96, (.goto 5, 3)), (99, (.bipush (-2), 2)), (101, (.ireturn, 1))]
theorem ok22_model2_0_29 : dcs cX10_look tb22_model2_0_29 = true := by decide +kernel
theorem dX10_look_77 : decode cX10_look 77 = .ok (.getfield 231, 3) := dcs_at ok22_model2_0_29 0 rfl
theorem dX10_look_80 : decode cX10_look 80 = .ok (.iadd, 1) := dcs_at ok22_model2_0_29 1 rfl
theorem dX10_look_81 : decode cX10_look 81 = .ok (.invokestatic 92, 3) := dcs_at ok22_model2_0_29 2 rfl
theorem dX10_look_84 : decode cX10_look 84 = .ok (.ifCond .eq 15, 3) := dcs_at ok22_model2_0_29 3 rfl
theorem dX10_look_87 : decode cX10_look 87 = .ok (.aload_n 0, 1) := dcs_at ok22_model2_0_29 4 rfl
theorem dX10_look_88 : decode cX10_look 88 = .ok (.iload 4, 2) := dcs_at ok22_model2_0_29 5 rfl
theorem dX10_look_90 : decode cX10_look 90 = .ok (.bipush 20, 2) := dcs_at ok22_model2_0_29 6 rfl
theorem dX10_look_92 : decode cX10_look 92 = .ok (.isub, 1) := dcs_at ok22_model2_0_29 7 rfl
theorem dX10_look_93 : decode cX10_look 93 = .ok (.invokevirtual 443, 3) := dcs_at ok22_model2_0_29 8 rfl
theorem dX10_look_96 : decode cX10_look 96 = .ok (.goto 5, 3) := dcs_at ok22_model2_0_29 9 rfl
theorem dX10_look_99 : decode cX10_look 99 = .ok (.bipush (-2), 2) := dcs_at ok22_model2_0_29 10 rfl
theorem dX10_look_101 : decode cX10_look 101 = .ok (.ireturn, 1) := dcs_at ok22_model2_0_29 11 rfl
def tb22_model2_0_30 : List (Nat × (Instr × Nat)) := [(0, (.aload_n 0, 1)), (1, (.iload_n 1, 1)), (2, (.iconst 0, 1)), (3, (.invokevirtual 255, 3)), (6, (.istore_n 3, 1)), (7, (.iload_n 3, 1)), (8, (.ifCond .ne 13, 3)), (11, (.aload_n 0, 1)), (12, (.iload_n 1, 1)), (13, (.iconst 1, 1)), (14, (.invokevirtual 255, 3)), (17, (.iload_n 2, 1)), (18, (.if_icmp .eq 33, 3)), (21, (.iload_n 3, 1)), (22, (.iconst 1, 1)), (23, (.if_icmp .eq 8, 3)), (26, (.iload_n 3, 1)), (27, (.iconst 2, 1)), (28, (.if_icmp .ne 27, 3)), (31, (.aload_n 0, 1)), (32, (.iload_n 1, 1)), (33, (.iconst 1, 1)), (34, (.invokevirtual 255, 3)), (37, (.iload_n 2, 1)), (38, (.if_icmp .eq 13, 3)), (41, (.aload_n 0, 1)), (42, (.iload_n 1, 1)), (43, (.iconst 2, 1)), (44, (.invokevirtual 255, 3)), (47, (.iload_n 2, 1)), (48, (.if_icmp .ne 7, 3)), (51, (.iconst 1, 1)), (52, (.goto 4, 3)), (55, (.iconst 0, 1)), (56, (.ireturn, 1))]
theorem ok22_model2_0_30 : dcs cX10_names tb22_model2_0_30 = true := by decide +kernel
theorem dX10_names_0 : decode cX10_names 0 = .ok (.aload_n 0, 1) := dcs_at ok22_model2_0_30 0 rfl
theorem dX10_names_1 : decode cX10_names 1 = .ok (.iload_n 1, 1) := dcs_at ok22_model2_0_30 1 rfl
theorem dX10_names_2 : decode cX10_names 2 = .ok (.iconst 0, 1) := dcs_at ok22_model2_0_30 2 rfl
theorem dX10_names_3 : decode cX10_names 3 = .ok (.invokevirtual 255, 3) := dcs_at ok22_model2_0_30 3 rfl
theorem dX10_names_6 : decode cX10_names 6 = .ok (.istore_n 3, 1) := dcs_at ok22_model2_0_30 4 rfl
theorem dX10_names_7 : decode cX10_names 7 = .ok (.iload_n 3, 1) := dcs_at ok22_model2_0_30 5 rfl
theorem dX10_names_8 : decode cX10_names 8 = .ok (.ifCond .ne 13, 3) := dcs_at ok22_model2_0_30 6 rfl
theorem dX10_names_11 : decode cX10_names 11 = .ok (.aload_n 0, 1) := dcs_at ok22_model2_0_30 7 rfl
theorem dX10_names_12 : decode cX10_names 12 = .ok (.iload_n 1, 1) := dcs_at ok22_model2_0_30 8 rfl
theorem dX10_names_13 : decode cX10_names 13 = .ok (.iconst 1, 1) := dcs_at ok22_model2_0_30 9 rfl
theorem dX10_names_14 : decode cX10_names 14 = .ok (.invokevirtual 255, 3) := dcs_at ok22_model2_0_30 10 rfl
theorem dX10_names_17 : decode cX10_names 17 = .ok (.iload_n 2, 1) := dcs_at ok22_model2_0_30 11 rfl
theorem dX10_names_18 : decode cX10_names 18 = .ok (.if_icmp .eq 33, 3) := dcs_at ok22_model2_0_30 12 rfl
theorem dX10_names_21 : decode cX10_names 21 = .ok (.iload_n 3, 1) := dcs_at ok22_model2_0_30 13 rfl
theorem dX10_names_22 : decode cX10_names 22 = .ok (.iconst 1, 1) := dcs_at ok22_model2_0_30 14 rfl
theorem dX10_names_23 : decode cX10_names 23 = .ok (.if_icmp .eq 8, 3) := dcs_at ok22_model2_0_30 15 rfl
theorem dX10_names_26 : decode cX10_names 26 = .ok (.iload_n 3, 1) := dcs_at ok22_model2_0_30 16 rfl
theorem dX10_names_27 : decode cX10_names 27 = .ok (.iconst 2, 1) := dcs_at ok22_model2_0_30 17 rfl
theorem dX10_names_28 : decode cX10_names 28 = .ok (.if_icmp .ne 27, 3) := dcs_at ok22_model2_0_30 18 rfl
theorem dX10_names_31 : decode cX10_names 31 = .ok (.aload_n 0, 1) := dcs_at ok22_model2_0_30 19 rfl
theorem dX10_names_32 : decode cX10_names 32 = .ok (.iload_n 1, 1) := dcs_at ok22_model2_0_30 20 rfl
theorem dX10_names_33 : decode cX10_names 33 = .ok (.iconst 1, 1) := dcs_at ok22_model2_0_30 21 rfl
theorem dX10_names_34 : decode cX10_names 34 = .ok (.invokevirtual 255, 3) := dcs_at ok22_model2_0_30 22 rfl
theorem dX10_names_37 : decode cX10_names 37 = .ok (.iload_n 2, 1) := dcs_at ok22_model2_0_30 23 rfl
theorem dX10_names_38 : decode cX10_names 38 = .ok (.if_icmp .eq 13, 3) := dcs_at ok22_model2_0_30 24 rfl
theorem dX10_names_41 : decode cX10_names 41 = .ok (.aload_n 0, 1) := dcs_at ok22_model2_0_30 25 rfl
theorem dX10_names_42 : decode cX10_names 42 = .ok (.iload_n 1, 1) := dcs_at ok22_model2_0_30 26 rfl
theorem dX10_names_43 : decode cX10_names 43 = .ok (.iconst 2, 1) := dcs_at ok22_model2_0_30 27 rfl
theorem dX10_names_44 : decode cX10_names 44 = .ok (.invokevirtual 255, 3) := dcs_at ok22_model2_0_30 28 rfl
theorem dX10_names_47 : decode cX10_names 47 = .ok (.iload_n 2, 1) := dcs_at ok22_model2_0_30 29 rfl
theorem dX10_names_48 : decode cX10_names 48 = .ok (.if_icmp .ne 7, 3) := dcs_at ok22_model2_0_30 30 rfl
theorem dX10_names_51 : decode cX10_names 51 = .ok (.iconst 1, 1) := dcs_at ok22_model2_0_30 31 rfl
theorem dX10_names_52 : decode cX10_names 52 = .ok (.goto 4, 3) := dcs_at ok22_model2_0_30 32 rfl
theorem dX10_names_55 : decode cX10_names 55 = .ok (.iconst 0, 1) := dcs_at ok22_model2_0_30 33 rfl
theorem dX10_names_56 : decode cX10_names 56 = .ok (.ireturn, 1) := dcs_at ok22_model2_0_30 34 rfl
def tb22_model2_0_31 : List (Nat × (Instr × Nat)) := [(0, (.aload_n 0, 1)), (1, (.invokevirtual 323, 3)), (4, (.iconst 0, 1)), (5, (.istore_n 3, 1)), (6, (.iload_n 3, 1)), (7, (.iload_n 2, 1)), (8, (.if_icmp .ge 33, 3)), (11, (.aload_n 0, 1)), (12, (.iload_n 3, 1)), (13, (.iload_n 1, 1)), (14, (.invokevirtual 446, 3)), (17, (.ifCond .ne 15, 3)), (20, (.aload_n 0, 1)), (21, (.iload_n 3, 1)), (22, (.invokevirtual 326, 3)), (25, (.ifCond .eq 7, 3)), (28, (.iconst 1, 1)), (29, (.goto 4, 3)), (32, (.iconst 0, 1)), (33, (.istore 4, 2)), (35, (.iinc 3 1, 3)), (38, (.goto (-32), 3)), (41, (.aload_n 0, 1)), (42, (.getfield 231, 3)), (45, (.aload_n 0, 1)), (46, (.getfield 267, 3)), (49, (.invokestatic 368, 3)), (52, (.isub, 1)), (53, (.ireturn, 1))]
theorem ok22_model2_0_31 : dcs cX10_starvedWithout tb22_model2_0_31 = true := by decide +kernel
theorem dX10_starvedWithout_0 : decode cX10_starvedWithout 0 = .ok (.aload_n 0, 1) := dcs_at ok22_model2_0_31 0 rfl
theorem dX10_starvedWithout_1 : decode cX10_starvedWithout 1 = .ok (.invokevirtual 323, 3) := dcs_at ok22_model2_0_31 1 rfl
theorem dX10_starvedWithout_4 : decode cX10_starvedWithout 4 = .ok (.iconst 0, 1) := dcs_at ok22_model2_0_31 2 rfl
theorem dX10_starvedWithout_5 : decode cX10_starvedWithout 5 = .ok (.istore_n 3, 1) := dcs_at ok22_model2_0_31 3 rfl
theorem dX10_starvedWithout_6 : decode cX10_starvedWithout 6 = .ok (.iload_n 3, 1) := dcs_at ok22_model2_0_31 4 rfl
theorem dX10_starvedWithout_7 : decode cX10_starvedWithout 7 = .ok (.iload_n 2, 1) := dcs_at ok22_model2_0_31 5 rfl
theorem dX10_starvedWithout_8 : decode cX10_starvedWithout 8 = .ok (.if_icmp .ge 33, 3) := dcs_at ok22_model2_0_31 6 rfl
theorem dX10_starvedWithout_11 : decode cX10_starvedWithout 11 = .ok (.aload_n 0, 1) := dcs_at ok22_model2_0_31 7 rfl
theorem dX10_starvedWithout_12 : decode cX10_starvedWithout 12 = .ok (.iload_n 3, 1) := dcs_at ok22_model2_0_31 8 rfl
theorem dX10_starvedWithout_13 : decode cX10_starvedWithout 13 = .ok (.iload_n 1, 1) := dcs_at ok22_model2_0_31 9 rfl
theorem dX10_starvedWithout_14 : decode cX10_starvedWithout 14 = .ok (.invokevirtual 446, 3) := dcs_at ok22_model2_0_31 10 rfl
theorem dX10_starvedWithout_17 : decode cX10_starvedWithout 17 = .ok (.ifCond .ne 15, 3) := dcs_at ok22_model2_0_31 11 rfl
theorem dX10_starvedWithout_20 : decode cX10_starvedWithout 20 = .ok (.aload_n 0, 1) := dcs_at ok22_model2_0_31 12 rfl
theorem dX10_starvedWithout_21 : decode cX10_starvedWithout 21 = .ok (.iload_n 3, 1) := dcs_at ok22_model2_0_31 13 rfl
theorem dX10_starvedWithout_22 : decode cX10_starvedWithout 22 = .ok (.invokevirtual 326, 3) := dcs_at ok22_model2_0_31 14 rfl
theorem dX10_starvedWithout_25 : decode cX10_starvedWithout 25 = .ok (.ifCond .eq 7, 3) := dcs_at ok22_model2_0_31 15 rfl
theorem dX10_starvedWithout_28 : decode cX10_starvedWithout 28 = .ok (.iconst 1, 1) := dcs_at ok22_model2_0_31 16 rfl
theorem dX10_starvedWithout_29 : decode cX10_starvedWithout 29 = .ok (.goto 4, 3) := dcs_at ok22_model2_0_31 17 rfl
theorem dX10_starvedWithout_32 : decode cX10_starvedWithout 32 = .ok (.iconst 0, 1) := dcs_at ok22_model2_0_31 18 rfl
theorem dX10_starvedWithout_33 : decode cX10_starvedWithout 33 = .ok (.istore 4, 2) := dcs_at ok22_model2_0_31 19 rfl
theorem dX10_starvedWithout_35 : decode cX10_starvedWithout 35 = .ok (.iinc 3 1, 3) := dcs_at ok22_model2_0_31 20 rfl
theorem dX10_starvedWithout_38 : decode cX10_starvedWithout 38 = .ok (.goto (-32), 3) := dcs_at ok22_model2_0_31 21 rfl
theorem dX10_starvedWithout_41 : decode cX10_starvedWithout 41 = .ok (.aload_n 0, 1) := dcs_at ok22_model2_0_31 22 rfl
theorem dX10_starvedWithout_42 : decode cX10_starvedWithout 42 = .ok (.getfield 231, 3) := dcs_at ok22_model2_0_31 23 rfl
theorem dX10_starvedWithout_45 : decode cX10_starvedWithout 45 = .ok (.aload_n 0, 1) := dcs_at ok22_model2_0_31 24 rfl
theorem dX10_starvedWithout_46 : decode cX10_starvedWithout 46 = .ok (.getfield 267, 3) := dcs_at ok22_model2_0_31 25 rfl
theorem dX10_starvedWithout_49 : decode cX10_starvedWithout 49 = .ok (.invokestatic 368, 3) := dcs_at ok22_model2_0_31 26 rfl
theorem dX10_starvedWithout_52 : decode cX10_starvedWithout 52 = .ok (.isub, 1) := dcs_at ok22_model2_0_31 27 rfl
theorem dX10_starvedWithout_53 : decode cX10_starvedWithout 53 = .ok (.ireturn, 1) := dcs_at ok22_model2_0_31 28 rfl
def tb22_model2_0_32 : List (Nat × (Instr × Nat)) := [(0, (.aload_n 0, 1)), (1, (.iconst 0, 1)), (2, (.putfield 80, 3)), (5, (.aload_n 0, 1)), (6, (.iload_n 2, 1)), (7, (.invokevirtual 249, 3)), (10, (.ifCond .eq 11, 3)), (13, (.aload_n 0, 1)), (14, (.iload_n 1, 1)), (15, (.invokevirtual 237, 3)), (18, (.ifCond .ne 5, 3)), (21, (.iconst (-1), 1)), (22, (.ireturn, 1)), (23, (.aload_n 0, 1)), (24, (.aload_n 0, 1)), (25, (.invokevirtual 252, 3)), (28, (.invokevirtual 329, 3)), (31, (.istore 4, 2)), (33, (.iconst (-1), 1)), (34, (.istore 5, 2)), (36, (.iconst (-1), 1)), (37, (.istore 6, 2)), (39, (.iconst 0, 1)), (40, (.istore 7, 2)), (42, (.iload 7, 2)), (44, (.aload_n 0, 1)), (45, (.getfield 228, 3)), (48, (.if_icmp .ge 44, 3)), (51, (.aload_n 0, 1)), (52, (.iload 7, 2)), (54, (.iload 4, 2)), (56, (.invokevirtual 449, 3)), (59, (.istore 8, 2)), (61, (.iload 8, 2)), (63, (.iload 6, 2)), (65, (.if_icmp .le 8, 3)), (68, (.iload 7, 2)), (70, (.goto 5, 3)), (73, (.iload 5, 2)), (75, (.istore 5, 2))]
theorem ok22_model2_0_32 : dcs cX10_silence tb22_model2_0_32 = true := by decide +kernel
theorem dX10_silence_0 : decode cX10_silence 0 = .ok (.aload_n 0, 1) := dcs_at ok22_model2_0_32 0 rfl
theorem dX10_silence_1 : decode cX10_silence 1 = .ok (.iconst 0, 1) := dcs_at ok22_model2_0_32 1 rfl
theorem dX10_silence_2 : decode cX10_silence 2 = .ok (.putfield 80, 3) := dcs_at ok22_model2_0_32 2 rfl
theorem dX10_silence_5 : decode cX10_silence 5 = .ok (.aload_n 0, 1) := dcs_at ok22_model2_0_32 3 rfl
theorem dX10_silence_6 : decode cX10_silence 6 = .ok (.iload_n 2, 1) := dcs_at ok22_model2_0_32 4 rfl
theorem dX10_silence_7 : decode cX10_silence 7 = .ok (.invokevirtual 249, 3) := dcs_at ok22_model2_0_32 5 rfl
theorem dX10_silence_10 : decode cX10_silence 10 = .ok (.ifCond .eq 11, 3) := dcs_at ok22_model2_0_32 6 rfl
theorem dX10_silence_13 : decode cX10_silence 13 = .ok (.aload_n 0, 1) := dcs_at ok22_model2_0_32 7 rfl
theorem dX10_silence_14 : decode cX10_silence 14 = .ok (.iload_n 1, 1) := dcs_at ok22_model2_0_32 8 rfl
theorem dX10_silence_15 : decode cX10_silence 15 = .ok (.invokevirtual 237, 3) := dcs_at ok22_model2_0_32 9 rfl
theorem dX10_silence_18 : decode cX10_silence 18 = .ok (.ifCond .ne 5, 3) := dcs_at ok22_model2_0_32 10 rfl
theorem dX10_silence_21 : decode cX10_silence 21 = .ok (.iconst (-1), 1) := dcs_at ok22_model2_0_32 11 rfl
theorem dX10_silence_22 : decode cX10_silence 22 = .ok (.ireturn, 1) := dcs_at ok22_model2_0_32 12 rfl
theorem dX10_silence_23 : decode cX10_silence 23 = .ok (.aload_n 0, 1) := dcs_at ok22_model2_0_32 13 rfl
theorem dX10_silence_24 : decode cX10_silence 24 = .ok (.aload_n 0, 1) := dcs_at ok22_model2_0_32 14 rfl
theorem dX10_silence_25 : decode cX10_silence 25 = .ok (.invokevirtual 252, 3) := dcs_at ok22_model2_0_32 15 rfl
theorem dX10_silence_28 : decode cX10_silence 28 = .ok (.invokevirtual 329, 3) := dcs_at ok22_model2_0_32 16 rfl
theorem dX10_silence_31 : decode cX10_silence 31 = .ok (.istore 4, 2) := dcs_at ok22_model2_0_32 17 rfl
theorem dX10_silence_33 : decode cX10_silence 33 = .ok (.iconst (-1), 1) := dcs_at ok22_model2_0_32 18 rfl
theorem dX10_silence_34 : decode cX10_silence 34 = .ok (.istore 5, 2) := dcs_at ok22_model2_0_32 19 rfl
theorem dX10_silence_36 : decode cX10_silence 36 = .ok (.iconst (-1), 1) := dcs_at ok22_model2_0_32 20 rfl
theorem dX10_silence_37 : decode cX10_silence 37 = .ok (.istore 6, 2) := dcs_at ok22_model2_0_32 21 rfl
theorem dX10_silence_39 : decode cX10_silence 39 = .ok (.iconst 0, 1) := dcs_at ok22_model2_0_32 22 rfl
theorem dX10_silence_40 : decode cX10_silence 40 = .ok (.istore 7, 2) := dcs_at ok22_model2_0_32 23 rfl
theorem dX10_silence_42 : decode cX10_silence 42 = .ok (.iload 7, 2) := dcs_at ok22_model2_0_32 24 rfl
theorem dX10_silence_44 : decode cX10_silence 44 = .ok (.aload_n 0, 1) := dcs_at ok22_model2_0_32 25 rfl
theorem dX10_silence_45 : decode cX10_silence 45 = .ok (.getfield 228, 3) := dcs_at ok22_model2_0_32 26 rfl
theorem dX10_silence_48 : decode cX10_silence 48 = .ok (.if_icmp .ge 44, 3) := dcs_at ok22_model2_0_32 27 rfl
theorem dX10_silence_51 : decode cX10_silence 51 = .ok (.aload_n 0, 1) := dcs_at ok22_model2_0_32 28 rfl
theorem dX10_silence_52 : decode cX10_silence 52 = .ok (.iload 7, 2) := dcs_at ok22_model2_0_32 29 rfl
theorem dX10_silence_54 : decode cX10_silence 54 = .ok (.iload 4, 2) := dcs_at ok22_model2_0_32 30 rfl
theorem dX10_silence_56 : decode cX10_silence 56 = .ok (.invokevirtual 449, 3) := dcs_at ok22_model2_0_32 31 rfl
theorem dX10_silence_59 : decode cX10_silence 59 = .ok (.istore 8, 2) := dcs_at ok22_model2_0_32 32 rfl
theorem dX10_silence_61 : decode cX10_silence 61 = .ok (.iload 8, 2) := dcs_at ok22_model2_0_32 33 rfl
theorem dX10_silence_63 : decode cX10_silence 63 = .ok (.iload 6, 2) := dcs_at ok22_model2_0_32 34 rfl
theorem dX10_silence_65 : decode cX10_silence 65 = .ok (.if_icmp .le 8, 3) := dcs_at ok22_model2_0_32 35 rfl
theorem dX10_silence_68 : decode cX10_silence 68 = .ok (.iload 7, 2) := dcs_at ok22_model2_0_32 36 rfl
theorem dX10_silence_70 : decode cX10_silence 70 = .ok (.goto 5, 3) := dcs_at ok22_model2_0_32 37 rfl
theorem dX10_silence_73 : decode cX10_silence 73 = .ok (.iload 5, 2) := dcs_at ok22_model2_0_32 38 rfl
theorem dX10_silence_75 : decode cX10_silence 75 = .ok (.istore 5, 2) := dcs_at ok22_model2_0_32 39 rfl
def tb22_model2_0_33 : List (Nat × (Instr × Nat)) := [(77, (.iload 6, 2)), (79, (.iload 8, 2)), (81, (.invokestatic 338, 3)), (84, (.istore 6, 2)), (86, (.iinc 7 1, 3)), (89, (.goto (-47), 3)), (92, (.iload_n 3, 1)), (93, (.ifCond .eq 8, 3)), (96, (.iload 6, 2)), (98, (.goto 5, 3)), (101, (.iload 5, 2)), (103, (.ireturn, 1))]
theorem ok22_model2_0_33 : dcs cX10_silence tb22_model2_0_33 = true := by decide +kernel
theorem dX10_silence_77 : decode cX10_silence 77 = .ok (.iload 6, 2) := dcs_at ok22_model2_0_33 0 rfl
theorem dX10_silence_79 : decode cX10_silence 79 = .ok (.iload 8, 2) := dcs_at ok22_model2_0_33 1 rfl
theorem dX10_silence_81 : decode cX10_silence 81 = .ok (.invokestatic 338, 3) := dcs_at ok22_model2_0_33 2 rfl
theorem dX10_silence_84 : decode cX10_silence 84 = .ok (.istore 6, 2) := dcs_at ok22_model2_0_33 3 rfl
theorem dX10_silence_86 : decode cX10_silence 86 = .ok (.iinc 7 1, 3) := dcs_at ok22_model2_0_33 4 rfl
theorem dX10_silence_89 : decode cX10_silence 89 = .ok (.goto (-47), 3) := dcs_at ok22_model2_0_33 5 rfl
theorem dX10_silence_92 : decode cX10_silence 92 = .ok (.iload_n 3, 1) := dcs_at ok22_model2_0_33 6 rfl
theorem dX10_silence_93 : decode cX10_silence 93 = .ok (.ifCond .eq 8, 3) := dcs_at ok22_model2_0_33 7 rfl
theorem dX10_silence_96 : decode cX10_silence 96 = .ok (.iload 6, 2) := dcs_at ok22_model2_0_33 8 rfl
theorem dX10_silence_98 : decode cX10_silence 98 = .ok (.goto 5, 3) := dcs_at ok22_model2_0_33 9 rfl
theorem dX10_silence_101 : decode cX10_silence 101 = .ok (.iload 5, 2) := dcs_at ok22_model2_0_33 10 rfl
theorem dX10_silence_103 : decode cX10_silence 103 = .ok (.ireturn, 1) := dcs_at ok22_model2_0_33 11 rfl
def tb22_model2_0_34 : List (Nat × (Instr × Nat)) := [(0, (.aload_n 0, 1)), (1, (.iconst 0, 1)), (2, (.putfield 80, 3)), (5, (.iload_n 1, 1)), (6, (.iconst 0, 1)), (7, (.iconst 2, 1)), (8, (.invokestatic 92, 3)), (11, (.ifCond .eq 12, 3)), (14, (.aload_n 0, 1)), (15, (.getfield 23, 3)), (18, (.iload_n 1, 1)), (19, (.iaload, 1)), (20, (.goto 5, 3)), (23, (.bipush (-2), 2)), (25, (.ireturn, 1))]
theorem ok22_model2_0_34 : dcs cX10_count tb22_model2_0_34 = true := by decide +kernel
theorem dX10_count_0 : decode cX10_count 0 = .ok (.aload_n 0, 1) := dcs_at ok22_model2_0_34 0 rfl
theorem dX10_count_1 : decode cX10_count 1 = .ok (.iconst 0, 1) := dcs_at ok22_model2_0_34 1 rfl
theorem dX10_count_2 : decode cX10_count 2 = .ok (.putfield 80, 3) := dcs_at ok22_model2_0_34 2 rfl
theorem dX10_count_5 : decode cX10_count 5 = .ok (.iload_n 1, 1) := dcs_at ok22_model2_0_34 3 rfl
theorem dX10_count_6 : decode cX10_count 6 = .ok (.iconst 0, 1) := dcs_at ok22_model2_0_34 4 rfl
theorem dX10_count_7 : decode cX10_count 7 = .ok (.iconst 2, 1) := dcs_at ok22_model2_0_34 5 rfl
theorem dX10_count_8 : decode cX10_count 8 = .ok (.invokestatic 92, 3) := dcs_at ok22_model2_0_34 6 rfl
theorem dX10_count_11 : decode cX10_count 11 = .ok (.ifCond .eq 12, 3) := dcs_at ok22_model2_0_34 7 rfl
theorem dX10_count_14 : decode cX10_count 14 = .ok (.aload_n 0, 1) := dcs_at ok22_model2_0_34 8 rfl
theorem dX10_count_15 : decode cX10_count 15 = .ok (.getfield 23, 3) := dcs_at ok22_model2_0_34 9 rfl
theorem dX10_count_18 : decode cX10_count 18 = .ok (.iload_n 1, 1) := dcs_at ok22_model2_0_34 10 rfl
theorem dX10_count_19 : decode cX10_count 19 = .ok (.iaload, 1) := dcs_at ok22_model2_0_34 11 rfl
theorem dX10_count_20 : decode cX10_count 20 = .ok (.goto 5, 3) := dcs_at ok22_model2_0_34 12 rfl
theorem dX10_count_23 : decode cX10_count 23 = .ok (.bipush (-2), 2) := dcs_at ok22_model2_0_34 13 rfl
theorem dX10_count_25 : decode cX10_count 25 = .ok (.ireturn, 1) := dcs_at ok22_model2_0_34 14 rfl
