def tb33_bank_0_1 : List (Nat × (Instr × Nat)) := [(0, (.aload_n 0, 1)), (1, (.getfield 10, 3)), (4, (.getfield 55, 3)), (7, (.bipush 20, 2)), (9, (.iadd, 1)), (10, (.sipush 600, 3)), (13, (.if_icmp .le 5, 3)), (16, (.iconst (-1), 1)), (17, (.ireturn, 1)), (18, (.aload_n 0, 1)), (19, (.getfield 10, 3)), (22, (.iload_n 1, 1)), (23, (.invokevirtual 59, 3)), (26, (.aload_n 0, 1)), (27, (.getfield 10, 3)), (30, (.iload_n 2, 1)), (31, (.invokevirtual 59, 3)), (34, (.aload_n 0, 1)), (35, (.getfield 10, 3)), (38, (.iload_n 3, 1)), (39, (.invokevirtual 59, 3)), (42, (.aload_n 0, 1)), (43, (.getfield 10, 3)), (46, (.iload 4, 2)), (48, (.invokevirtual 59, 3)), (51, (.aload_n 0, 1)), (52, (.getfield 10, 3)), (55, (.iload 5, 2)), (57, (.invokevirtual 59, 3)), (60, (.aload_n 0, 1)), (61, (.getfield 10, 3)), (64, (.getfield 55, 3)), (67, (.ireturn, 1))]
theorem ok33_bank_0_1 : dcs cX9_feed tb33_bank_0_1 = true := by decide +kernel
theorem dX9_feed_0 : decode cX9_feed 0 = .ok (.aload_n 0, 1) := dcs_at ok33_bank_0_1 0 rfl
theorem dX9_feed_1 : decode cX9_feed 1 = .ok (.getfield 10, 3) := dcs_at ok33_bank_0_1 1 rfl
theorem dX9_feed_4 : decode cX9_feed 4 = .ok (.getfield 55, 3) := dcs_at ok33_bank_0_1 2 rfl
theorem dX9_feed_7 : decode cX9_feed 7 = .ok (.bipush 20, 2) := dcs_at ok33_bank_0_1 3 rfl
theorem dX9_feed_9 : decode cX9_feed 9 = .ok (.iadd, 1) := dcs_at ok33_bank_0_1 4 rfl
theorem dX9_feed_10 : decode cX9_feed 10 = .ok (.sipush 600, 3) := dcs_at ok33_bank_0_1 5 rfl
theorem dX9_feed_13 : decode cX9_feed 13 = .ok (.if_icmp .le 5, 3) := dcs_at ok33_bank_0_1 6 rfl
theorem dX9_feed_16 : decode cX9_feed 16 = .ok (.iconst (-1), 1) := dcs_at ok33_bank_0_1 7 rfl
theorem dX9_feed_17 : decode cX9_feed 17 = .ok (.ireturn, 1) := dcs_at ok33_bank_0_1 8 rfl
theorem dX9_feed_18 : decode cX9_feed 18 = .ok (.aload_n 0, 1) := dcs_at ok33_bank_0_1 9 rfl
theorem dX9_feed_19 : decode cX9_feed 19 = .ok (.getfield 10, 3) := dcs_at ok33_bank_0_1 10 rfl
theorem dX9_feed_22 : decode cX9_feed 22 = .ok (.iload_n 1, 1) := dcs_at ok33_bank_0_1 11 rfl
theorem dX9_feed_23 : decode cX9_feed 23 = .ok (.invokevirtual 59, 3) := dcs_at ok33_bank_0_1 12 rfl
theorem dX9_feed_26 : decode cX9_feed 26 = .ok (.aload_n 0, 1) := dcs_at ok33_bank_0_1 13 rfl
theorem dX9_feed_27 : decode cX9_feed 27 = .ok (.getfield 10, 3) := dcs_at ok33_bank_0_1 14 rfl
theorem dX9_feed_30 : decode cX9_feed 30 = .ok (.iload_n 2, 1) := dcs_at ok33_bank_0_1 15 rfl
theorem dX9_feed_31 : decode cX9_feed 31 = .ok (.invokevirtual 59, 3) := dcs_at ok33_bank_0_1 16 rfl
theorem dX9_feed_34 : decode cX9_feed 34 = .ok (.aload_n 0, 1) := dcs_at ok33_bank_0_1 17 rfl
theorem dX9_feed_35 : decode cX9_feed 35 = .ok (.getfield 10, 3) := dcs_at ok33_bank_0_1 18 rfl
theorem dX9_feed_38 : decode cX9_feed 38 = .ok (.iload_n 3, 1) := dcs_at ok33_bank_0_1 19 rfl
theorem dX9_feed_39 : decode cX9_feed 39 = .ok (.invokevirtual 59, 3) := dcs_at ok33_bank_0_1 20 rfl
theorem dX9_feed_42 : decode cX9_feed 42 = .ok (.aload_n 0, 1) := dcs_at ok33_bank_0_1 21 rfl
theorem dX9_feed_43 : decode cX9_feed 43 = .ok (.getfield 10, 3) := dcs_at ok33_bank_0_1 22 rfl
theorem dX9_feed_46 : decode cX9_feed 46 = .ok (.iload 4, 2) := dcs_at ok33_bank_0_1 23 rfl
theorem dX9_feed_48 : decode cX9_feed 48 = .ok (.invokevirtual 59, 3) := dcs_at ok33_bank_0_1 24 rfl
theorem dX9_feed_51 : decode cX9_feed 51 = .ok (.aload_n 0, 1) := dcs_at ok33_bank_0_1 25 rfl
theorem dX9_feed_52 : decode cX9_feed 52 = .ok (.getfield 10, 3) := dcs_at ok33_bank_0_1 26 rfl
theorem dX9_feed_55 : decode cX9_feed 55 = .ok (.iload 5, 2) := dcs_at ok33_bank_0_1 27 rfl
theorem dX9_feed_57 : decode cX9_feed 57 = .ok (.invokevirtual 59, 3) := dcs_at ok33_bank_0_1 28 rfl
theorem dX9_feed_60 : decode cX9_feed 60 = .ok (.aload_n 0, 1) := dcs_at ok33_bank_0_1 29 rfl
theorem dX9_feed_61 : decode cX9_feed 61 = .ok (.getfield 10, 3) := dcs_at ok33_bank_0_1 30 rfl
theorem dX9_feed_64 : decode cX9_feed 64 = .ok (.getfield 55, 3) := dcs_at ok33_bank_0_1 31 rfl
theorem dX9_feed_67 : decode cX9_feed 67 = .ok (.ireturn, 1) := dcs_at ok33_bank_0_1 32 rfl
def tb33_bank_0_2 : List (Nat × (Instr × Nat)) := [(0, (.iload_n 1, 1)), (1, (.ifCond .lt 14, 3)), (4, (.iload_n 1, 1)), (5, (.aload_n 0, 1)), (6, (.getfield 10, 3)), (9, (.getfield 55, 3)), (12, (.if_icmp .le 5, 3)), (15, (.iconst (-1), 1)), (16, (.ireturn, 1)), (17, (.aload_n 0, 1)), (18, (.getfield 10, 3)), (21, (.iload_n 1, 1)), (22, (.putfield 55, 3)), (25, (.iload_n 1, 1)), (26, (.ireturn, 1))]
theorem ok33_bank_0_2 : dcs cX9_end tb33_bank_0_2 = true := by decide +kernel
theorem dX9_end_0 : decode cX9_end 0 = .ok (.iload_n 1, 1) := dcs_at ok33_bank_0_2 0 rfl
theorem dX9_end_1 : decode cX9_end 1 = .ok (.ifCond .lt 14, 3) := dcs_at ok33_bank_0_2 1 rfl
theorem dX9_end_4 : decode cX9_end 4 = .ok (.iload_n 1, 1) := dcs_at ok33_bank_0_2 2 rfl
theorem dX9_end_5 : decode cX9_end 5 = .ok (.aload_n 0, 1) := dcs_at ok33_bank_0_2 3 rfl
theorem dX9_end_6 : decode cX9_end 6 = .ok (.getfield 10, 3) := dcs_at ok33_bank_0_2 4 rfl
theorem dX9_end_9 : decode cX9_end 9 = .ok (.getfield 55, 3) := dcs_at ok33_bank_0_2 5 rfl
theorem dX9_end_12 : decode cX9_end 12 = .ok (.if_icmp .le 5, 3) := dcs_at ok33_bank_0_2 6 rfl
theorem dX9_end_15 : decode cX9_end 15 = .ok (.iconst (-1), 1) := dcs_at ok33_bank_0_2 7 rfl
theorem dX9_end_16 : decode cX9_end 16 = .ok (.ireturn, 1) := dcs_at ok33_bank_0_2 8 rfl
theorem dX9_end_17 : decode cX9_end 17 = .ok (.aload_n 0, 1) := dcs_at ok33_bank_0_2 9 rfl
theorem dX9_end_18 : decode cX9_end 18 = .ok (.getfield 10, 3) := dcs_at ok33_bank_0_2 10 rfl
theorem dX9_end_21 : decode cX9_end 21 = .ok (.iload_n 1, 1) := dcs_at ok33_bank_0_2 11 rfl
theorem dX9_end_22 : decode cX9_end 22 = .ok (.putfield 55, 3) := dcs_at ok33_bank_0_2 12 rfl
theorem dX9_end_25 : decode cX9_end 25 = .ok (.iload_n 1, 1) := dcs_at ok33_bank_0_2 13 rfl
theorem dX9_end_26 : decode cX9_end 26 = .ok (.ireturn, 1) := dcs_at ok33_bank_0_2 14 rfl
def tb33_bank_0_3 : List (Nat × (Instr × Nat)) := [(0, (.iload_n 1, 1)), (1, (.ifCond .ne 11, 3)), (4, (.aload_n 0, 1)), (5, (.getfield 10, 3)), (8, (.getfield 63, 3)), (11, (.ireturn, 1)), (12, (.iload_n 1, 1)), (13, (.iconst 1, 1)), (14, (.if_icmp .ne 13, 3)), (17, (.aload_n 0, 1)), (18, (.getfield 10, 3)), (21, (.getfield 66, 3)), (24, (.goto 4, 3)), (27, (.iconst (-1), 1)), (28, (.ireturn, 1))]
theorem ok33_bank_0_3 : dcs cX9_fault tb33_bank_0_3 = true := by decide +kernel
theorem dX9_fault_0 : decode cX9_fault 0 = .ok (.iload_n 1, 1) := dcs_at ok33_bank_0_3 0 rfl
theorem dX9_fault_1 : decode cX9_fault 1 = .ok (.ifCond .ne 11, 3) := dcs_at ok33_bank_0_3 1 rfl
theorem dX9_fault_4 : decode cX9_fault 4 = .ok (.aload_n 0, 1) := dcs_at ok33_bank_0_3 2 rfl
theorem dX9_fault_5 : decode cX9_fault 5 = .ok (.getfield 10, 3) := dcs_at ok33_bank_0_3 3 rfl
theorem dX9_fault_8 : decode cX9_fault 8 = .ok (.getfield 63, 3) := dcs_at ok33_bank_0_3 4 rfl
theorem dX9_fault_11 : decode cX9_fault 11 = .ok (.ireturn, 1) := dcs_at ok33_bank_0_3 5 rfl
theorem dX9_fault_12 : decode cX9_fault 12 = .ok (.iload_n 1, 1) := dcs_at ok33_bank_0_3 6 rfl
theorem dX9_fault_13 : decode cX9_fault 13 = .ok (.iconst 1, 1) := dcs_at ok33_bank_0_3 7 rfl
theorem dX9_fault_14 : decode cX9_fault 14 = .ok (.if_icmp .ne 13, 3) := dcs_at ok33_bank_0_3 8 rfl
theorem dX9_fault_17 : decode cX9_fault 17 = .ok (.aload_n 0, 1) := dcs_at ok33_bank_0_3 9 rfl
theorem dX9_fault_18 : decode cX9_fault 18 = .ok (.getfield 10, 3) := dcs_at ok33_bank_0_3 10 rfl
theorem dX9_fault_21 : decode cX9_fault 21 = .ok (.getfield 66, 3) := dcs_at ok33_bank_0_3 11 rfl
theorem dX9_fault_24 : decode cX9_fault 24 = .ok (.goto 4, 3) := dcs_at ok33_bank_0_3 12 rfl
theorem dX9_fault_27 : decode cX9_fault 27 = .ok (.iconst (-1), 1) := dcs_at ok33_bank_0_3 13 rfl
theorem dX9_fault_28 : decode cX9_fault 28 = .ok (.ireturn, 1) := dcs_at ok33_bank_0_3 14 rfl
def tb33_bank_0_4 : List (Nat × (Instr × Nat)) := [(0, (.aload_n 0, 1)), (1, (.getfield 10, 3)), (4, (.iload_n 1, 1)), (5, (.invokevirtual 87, 3)), (8, (.astore_n 3, 1)), (9, (.aload_n 3, 1)), (10, (.ifnonnull 7, 3)), (13, (.iconst (-1), 1)), (14, (.goto 8, 3)), (17, (.aload_n 3, 1)), (18, (.iload_n 2, 1)), (19, (.invokevirtual 91, 3)), (22, (.ireturn, 1))]
theorem ok33_bank_0_4 : dcs cX9_theatre tb33_bank_0_4 = true := by decide +kernel
theorem dX9_theatre_0 : decode cX9_theatre 0 = .ok (.aload_n 0, 1) := dcs_at ok33_bank_0_4 0 rfl
theorem dX9_theatre_1 : decode cX9_theatre 1 = .ok (.getfield 10, 3) := dcs_at ok33_bank_0_4 1 rfl
theorem dX9_theatre_4 : decode cX9_theatre 4 = .ok (.iload_n 1, 1) := dcs_at ok33_bank_0_4 2 rfl
theorem dX9_theatre_5 : decode cX9_theatre 5 = .ok (.invokevirtual 87, 3) := dcs_at ok33_bank_0_4 3 rfl
theorem dX9_theatre_8 : decode cX9_theatre 8 = .ok (.astore_n 3, 1) := dcs_at ok33_bank_0_4 4 rfl
theorem dX9_theatre_9 : decode cX9_theatre 9 = .ok (.aload_n 3, 1) := dcs_at ok33_bank_0_4 5 rfl
theorem dX9_theatre_10 : decode cX9_theatre 10 = .ok (.ifnonnull 7, 3) := dcs_at ok33_bank_0_4 6 rfl
theorem dX9_theatre_13 : decode cX9_theatre 13 = .ok (.iconst (-1), 1) := dcs_at ok33_bank_0_4 7 rfl
theorem dX9_theatre_14 : decode cX9_theatre 14 = .ok (.goto 8, 3) := dcs_at ok33_bank_0_4 8 rfl
theorem dX9_theatre_17 : decode cX9_theatre 17 = .ok (.aload_n 3, 1) := dcs_at ok33_bank_0_4 9 rfl
theorem dX9_theatre_18 : decode cX9_theatre 18 = .ok (.iload_n 2, 1) := dcs_at ok33_bank_0_4 10 rfl
theorem dX9_theatre_19 : decode cX9_theatre 19 = .ok (.invokevirtual 91, 3) := dcs_at ok33_bank_0_4 11 rfl
theorem dX9_theatre_22 : decode cX9_theatre 22 = .ok (.ireturn, 1) := dcs_at ok33_bank_0_4 12 rfl
def tb33_bank_0_5 : List (Nat × (Instr × Nat)) := [(0, (.aload_n 0, 1)), (1, (.getfield 10, 3)), (4, (.iload_n 1, 1)), (5, (.invokevirtual 96, 3)), (8, (.astore 4, 2)), (10, (.aload 4, 2)), (12, (.ifnull 12, 3)), (15, (.iload_n 3, 1)), (16, (.ifCond .lt 8, 3)), (19, (.iload_n 3, 1)), (20, (.iconst 3, 1)), (21, (.if_icmp .le 6, 3)), (24, (.bipush (-2), 2)), (26, (.ireturn, 1)), (27, (.iload_n 2, 1)), (28, (.iconst (-1), 1)), (29, (.if_icmp .ne 18, 3)), (32, (.iload_n 3, 1)), (33, (.ifCond .ne 11, 3)), (36, (.aload 4, 2)), (38, (.getfield 100, 3)), (41, (.goto 5, 3)), (44, (.bipush (-2), 2)), (46, (.ireturn, 1)), (47, (.iload_n 2, 1)), (48, (.ifCond .lt 22, 3)), (51, (.iload_n 2, 1)), (52, (.aload 4, 2)), (54, (.getfield 100, 3)), (57, (.if_icmp .ge 13, 3)), (60, (.aload 4, 2)), (62, (.iload_n 2, 1)), (63, (.iload_n 3, 1)), (64, (.invokevirtual 105, 3)), (67, (.goto 5, 3)), (70, (.bipush (-2), 2)), (72, (.ireturn, 1))]
theorem ok33_bank_0_5 : dcs cX9_deed tb33_bank_0_5 = true := by decide +kernel
theorem dX9_deed_0 : decode cX9_deed 0 = .ok (.aload_n 0, 1) := dcs_at ok33_bank_0_5 0 rfl
theorem dX9_deed_1 : decode cX9_deed 1 = .ok (.getfield 10, 3) := dcs_at ok33_bank_0_5 1 rfl
theorem dX9_deed_4 : decode cX9_deed 4 = .ok (.iload_n 1, 1) := dcs_at ok33_bank_0_5 2 rfl
theorem dX9_deed_5 : decode cX9_deed 5 = .ok (.invokevirtual 96, 3) := dcs_at ok33_bank_0_5 3 rfl
theorem dX9_deed_8 : decode cX9_deed 8 = .ok (.astore 4, 2) := dcs_at ok33_bank_0_5 4 rfl
theorem dX9_deed_10 : decode cX9_deed 10 = .ok (.aload 4, 2) := dcs_at ok33_bank_0_5 5 rfl
theorem dX9_deed_12 : decode cX9_deed 12 = .ok (.ifnull 12, 3) := dcs_at ok33_bank_0_5 6 rfl
theorem dX9_deed_15 : decode cX9_deed 15 = .ok (.iload_n 3, 1) := dcs_at ok33_bank_0_5 7 rfl
theorem dX9_deed_16 : decode cX9_deed 16 = .ok (.ifCond .lt 8, 3) := dcs_at ok33_bank_0_5 8 rfl
theorem dX9_deed_19 : decode cX9_deed 19 = .ok (.iload_n 3, 1) := dcs_at ok33_bank_0_5 9 rfl
theorem dX9_deed_20 : decode cX9_deed 20 = .ok (.iconst 3, 1) := dcs_at ok33_bank_0_5 10 rfl
theorem dX9_deed_21 : decode cX9_deed 21 = .ok (.if_icmp .le 6, 3) := dcs_at ok33_bank_0_5 11 rfl
theorem dX9_deed_24 : decode cX9_deed 24 = .ok (.bipush (-2), 2) := dcs_at ok33_bank_0_5 12 rfl
theorem dX9_deed_26 : decode cX9_deed 26 = .ok (.ireturn, 1) := dcs_at ok33_bank_0_5 13 rfl
theorem dX9_deed_27 : decode cX9_deed 27 = .ok (.iload_n 2, 1) := dcs_at ok33_bank_0_5 14 rfl
theorem dX9_deed_28 : decode cX9_deed 28 = .ok (.iconst (-1), 1) := dcs_at ok33_bank_0_5 15 rfl
theorem dX9_deed_29 : decode cX9_deed 29 = .ok (.if_icmp .ne 18, 3) := dcs_at ok33_bank_0_5 16 rfl
theorem dX9_deed_32 : decode cX9_deed 32 = .ok (.iload_n 3, 1) := dcs_at ok33_bank_0_5 17 rfl
theorem dX9_deed_33 : decode cX9_deed 33 = .ok (.ifCond .ne 11, 3) := dcs_at ok33_bank_0_5 18 rfl
theorem dX9_deed_36 : decode cX9_deed 36 = .ok (.aload 4, 2) := dcs_at ok33_bank_0_5 19 rfl
theorem dX9_deed_38 : decode cX9_deed 38 = .ok (.getfield 100, 3) := dcs_at ok33_bank_0_5 20 rfl
theorem dX9_deed_41 : decode cX9_deed 41 = .ok (.goto 5, 3) := dcs_at ok33_bank_0_5 21 rfl
theorem dX9_deed_44 : decode cX9_deed 44 = .ok (.bipush (-2), 2) := dcs_at ok33_bank_0_5 22 rfl
theorem dX9_deed_46 : decode cX9_deed 46 = .ok (.ireturn, 1) := dcs_at ok33_bank_0_5 23 rfl
theorem dX9_deed_47 : decode cX9_deed 47 = .ok (.iload_n 2, 1) := dcs_at ok33_bank_0_5 24 rfl
theorem dX9_deed_48 : decode cX9_deed 48 = .ok (.ifCond .lt 22, 3) := dcs_at ok33_bank_0_5 25 rfl
theorem dX9_deed_51 : decode cX9_deed 51 = .ok (.iload_n 2, 1) := dcs_at ok33_bank_0_5 26 rfl
theorem dX9_deed_52 : decode cX9_deed 52 = .ok (.aload 4, 2) := dcs_at ok33_bank_0_5 27 rfl
theorem dX9_deed_54 : decode cX9_deed 54 = .ok (.getfield 100, 3) := dcs_at ok33_bank_0_5 28 rfl
theorem dX9_deed_57 : decode cX9_deed 57 = .ok (.if_icmp .ge 13, 3) := dcs_at ok33_bank_0_5 29 rfl
theorem dX9_deed_60 : decode cX9_deed 60 = .ok (.aload 4, 2) := dcs_at ok33_bank_0_5 30 rfl
theorem dX9_deed_62 : decode cX9_deed 62 = .ok (.iload_n 2, 1) := dcs_at ok33_bank_0_5 31 rfl
theorem dX9_deed_63 : decode cX9_deed 63 = .ok (.iload_n 3, 1) := dcs_at ok33_bank_0_5 32 rfl
theorem dX9_deed_64 : decode cX9_deed 64 = .ok (.invokevirtual 105, 3) := dcs_at ok33_bank_0_5 33 rfl
theorem dX9_deed_67 : decode cX9_deed 67 = .ok (.goto 5, 3) := dcs_at ok33_bank_0_5 34 rfl
theorem dX9_deed_70 : decode cX9_deed 70 = .ok (.bipush (-2), 2) := dcs_at ok33_bank_0_5 35 rfl
theorem dX9_deed_72 : decode cX9_deed 72 = .ok (.ireturn, 1) := dcs_at ok33_bank_0_5 36 rfl
def tb33_bank_0_6 : List (Nat × (Instr × Nat)) := [(0, (.aload_n 0, 1)), (1, (.getfield 10, 3)), (4, (.iload_n 1, 1)), (5, (.invokevirtual 87, 3)), (8, (.astore_n 3, 1)), (9, (.aload_n 0, 1)), (10, (.getfield 10, 3)), (13, (.iload_n 2, 1)), (14, (.invokevirtual 96, 3)), (17, (.astore 4, 2)), (19, (.aload_n 3, 1)), (20, (.ifnull 8, 3)), (23, (.aload 4, 2)), (25, (.ifnonnull 5, 3)), (28, (.iconst (-1), 1)), (29, (.ireturn, 1)), (30, (.aload_n 0, 1)), (31, (.getfield 30, 3)), (34, (.aload_n 3, 1)), (35, (.aload 4, 2)), (37, (.invokevirtual 109, 3)), (40, (.ireturn, 1))]
theorem ok33_bank_0_6 : dcs cX9_stop tb33_bank_0_6 = true := by decide +kernel
theorem dX9_stop_0 : decode cX9_stop 0 = .ok (.aload_n 0, 1) := dcs_at ok33_bank_0_6 0 rfl
theorem dX9_stop_1 : decode cX9_stop 1 = .ok (.getfield 10, 3) := dcs_at ok33_bank_0_6 1 rfl
theorem dX9_stop_4 : decode cX9_stop 4 = .ok (.iload_n 1, 1) := dcs_at ok33_bank_0_6 2 rfl
theorem dX9_stop_5 : decode cX9_stop 5 = .ok (.invokevirtual 87, 3) := dcs_at ok33_bank_0_6 3 rfl
theorem dX9_stop_8 : decode cX9_stop 8 = .ok (.astore_n 3, 1) := dcs_at ok33_bank_0_6 4 rfl
theorem dX9_stop_9 : decode cX9_stop 9 = .ok (.aload_n 0, 1) := dcs_at ok33_bank_0_6 5 rfl
theorem dX9_stop_10 : decode cX9_stop 10 = .ok (.getfield 10, 3) := dcs_at ok33_bank_0_6 6 rfl
theorem dX9_stop_13 : decode cX9_stop 13 = .ok (.iload_n 2, 1) := dcs_at ok33_bank_0_6 7 rfl
theorem dX9_stop_14 : decode cX9_stop 14 = .ok (.invokevirtual 96, 3) := dcs_at ok33_bank_0_6 8 rfl
theorem dX9_stop_17 : decode cX9_stop 17 = .ok (.astore 4, 2) := dcs_at ok33_bank_0_6 9 rfl
theorem dX9_stop_19 : decode cX9_stop 19 = .ok (.aload_n 3, 1) := dcs_at ok33_bank_0_6 10 rfl
theorem dX9_stop_20 : decode cX9_stop 20 = .ok (.ifnull 8, 3) := dcs_at ok33_bank_0_6 11 rfl
theorem dX9_stop_23 : decode cX9_stop 23 = .ok (.aload 4, 2) := dcs_at ok33_bank_0_6 12 rfl
theorem dX9_stop_25 : decode cX9_stop 25 = .ok (.ifnonnull 5, 3) := dcs_at ok33_bank_0_6 13 rfl
theorem dX9_stop_28 : decode cX9_stop 28 = .ok (.iconst (-1), 1) := dcs_at ok33_bank_0_6 14 rfl
theorem dX9_stop_29 : decode cX9_stop 29 = .ok (.ireturn, 1) := dcs_at ok33_bank_0_6 15 rfl
theorem dX9_stop_30 : decode cX9_stop 30 = .ok (.aload_n 0, 1) := dcs_at ok33_bank_0_6 16 rfl
theorem dX9_stop_31 : decode cX9_stop 31 = .ok (.getfield 30, 3) := dcs_at ok33_bank_0_6 17 rfl
theorem dX9_stop_34 : decode cX9_stop 34 = .ok (.aload_n 3, 1) := dcs_at ok33_bank_0_6 18 rfl
theorem dX9_stop_35 : decode cX9_stop 35 = .ok (.aload 4, 2) := dcs_at ok33_bank_0_6 19 rfl
theorem dX9_stop_37 : decode cX9_stop 37 = .ok (.invokevirtual 109, 3) := dcs_at ok33_bank_0_6 20 rfl
theorem dX9_stop_40 : decode cX9_stop 40 = .ok (.ireturn, 1) := dcs_at ok33_bank_0_6 21 rfl
def tb33_bank_0_7 : List (Nat × (Instr × Nat)) := [(0, (.aload_n 0, 1)), (1, (.iload_n 1, 1)), (2, (.iload_n 2, 1)), (3, (.iload_n 3, 1)), (4, (.invokevirtual 113, 3)), (7, (.ifCond .eq 15, 3)), (10, (.aload_n 0, 1)), (11, (.getfield 30, 3)), (14, (.iload 4, 2)), (16, (.invokevirtual 117, 3)), (19, (.goto 5, 3)), (22, (.bipush (-2), 2)), (24, (.ireturn, 1))]
theorem ok33_bank_0_7 : dcs cX9_state tb33_bank_0_7 = true := by decide +kernel
theorem dX9_state_0 : decode cX9_state 0 = .ok (.aload_n 0, 1) := dcs_at ok33_bank_0_7 0 rfl
theorem dX9_state_1 : decode cX9_state 1 = .ok (.iload_n 1, 1) := dcs_at ok33_bank_0_7 1 rfl
theorem dX9_state_2 : decode cX9_state 2 = .ok (.iload_n 2, 1) := dcs_at ok33_bank_0_7 2 rfl
theorem dX9_state_3 : decode cX9_state 3 = .ok (.iload_n 3, 1) := dcs_at ok33_bank_0_7 3 rfl
theorem dX9_state_4 : decode cX9_state 4 = .ok (.invokevirtual 113, 3) := dcs_at ok33_bank_0_7 4 rfl
theorem dX9_state_7 : decode cX9_state 7 = .ok (.ifCond .eq 15, 3) := dcs_at ok33_bank_0_7 5 rfl
theorem dX9_state_10 : decode cX9_state 10 = .ok (.aload_n 0, 1) := dcs_at ok33_bank_0_7 6 rfl
theorem dX9_state_11 : decode cX9_state 11 = .ok (.getfield 30, 3) := dcs_at ok33_bank_0_7 7 rfl
theorem dX9_state_14 : decode cX9_state 14 = .ok (.iload 4, 2) := dcs_at ok33_bank_0_7 8 rfl
theorem dX9_state_16 : decode cX9_state 16 = .ok (.invokevirtual 117, 3) := dcs_at ok33_bank_0_7 9 rfl
theorem dX9_state_19 : decode cX9_state 19 = .ok (.goto 5, 3) := dcs_at ok33_bank_0_7 10 rfl
theorem dX9_state_22 : decode cX9_state 22 = .ok (.bipush (-2), 2) := dcs_at ok33_bank_0_7 11 rfl
theorem dX9_state_24 : decode cX9_state 24 = .ok (.ireturn, 1) := dcs_at ok33_bank_0_7 12 rfl
def tb33_bank_0_8 : List (Nat × (Instr × Nat)) := [(0, (.aload_n 0, 1)), (1, (.iload_n 1, 1)), (2, (.iload_n 2, 1)), (3, (.iload_n 3, 1)), (4, (.invokevirtual 113, 3)), (7, (.ifCond .eq 15, 3)), (10, (.aload_n 0, 1)), (11, (.getfield 30, 3)), (14, (.iload 4, 2)), (16, (.invokevirtual 118, 3)), (19, (.ifCond .ne 6, 3)), (22, (.bipush (-2), 2)), (24, (.ireturn, 1)), (25, (.aload_n 0, 1)), (26, (.getfield 30, 3)), (29, (.iload 4, 2)), (31, (.iload 5, 2)), (33, (.invokevirtual 122, 3)), (36, (.ireturn, 1))]
theorem ok33_bank_0_8 : dcs cX9_palm tb33_bank_0_8 = true := by decide +kernel
theorem dX9_palm_0 : decode cX9_palm 0 = .ok (.aload_n 0, 1) := dcs_at ok33_bank_0_8 0 rfl
theorem dX9_palm_1 : decode cX9_palm 1 = .ok (.iload_n 1, 1) := dcs_at ok33_bank_0_8 1 rfl
theorem dX9_palm_2 : decode cX9_palm 2 = .ok (.iload_n 2, 1) := dcs_at ok33_bank_0_8 2 rfl
theorem dX9_palm_3 : decode cX9_palm 3 = .ok (.iload_n 3, 1) := dcs_at ok33_bank_0_8 3 rfl
theorem dX9_palm_4 : decode cX9_palm 4 = .ok (.invokevirtual 113, 3) := dcs_at ok33_bank_0_8 4 rfl
theorem dX9_palm_7 : decode cX9_palm 7 = .ok (.ifCond .eq 15, 3) := dcs_at ok33_bank_0_8 5 rfl
theorem dX9_palm_10 : decode cX9_palm 10 = .ok (.aload_n 0, 1) := dcs_at ok33_bank_0_8 6 rfl
theorem dX9_palm_11 : decode cX9_palm 11 = .ok (.getfield 30, 3) := dcs_at ok33_bank_0_8 7 rfl
theorem dX9_palm_14 : decode cX9_palm 14 = .ok (.iload 4, 2) := dcs_at ok33_bank_0_8 8 rfl
theorem dX9_palm_16 : decode cX9_palm 16 = .ok (.invokevirtual 118, 3) := dcs_at ok33_bank_0_8 9 rfl
theorem dX9_palm_19 : decode cX9_palm 19 = .ok (.ifCond .ne 6, 3) := dcs_at ok33_bank_0_8 10 rfl
theorem dX9_palm_22 : decode cX9_palm 22 = .ok (.bipush (-2), 2) := dcs_at ok33_bank_0_8 11 rfl
theorem dX9_palm_24 : decode cX9_palm 24 = .ok (.ireturn, 1) := dcs_at ok33_bank_0_8 12 rfl
theorem dX9_palm_25 : decode cX9_palm 25 = .ok (.aload_n 0, 1) := dcs_at ok33_bank_0_8 13 rfl
theorem dX9_palm_26 : decode cX9_palm 26 = .ok (.getfield 30, 3) := dcs_at ok33_bank_0_8 14 rfl
theorem dX9_palm_29 : decode cX9_palm 29 = .ok (.iload 4, 2) := dcs_at ok33_bank_0_8 15 rfl
theorem dX9_palm_31 : decode cX9_palm 31 = .ok (.iload 5, 2) := dcs_at ok33_bank_0_8 16 rfl
theorem dX9_palm_33 : decode cX9_palm 33 = .ok (.invokevirtual 122, 3) := dcs_at ok33_bank_0_8 17 rfl
theorem dX9_palm_36 : decode cX9_palm 36 = .ok (.ireturn, 1) := dcs_at ok33_bank_0_8 18 rfl
def tb33_bank_0_9 : List (Nat × (Instr × Nat)) := [(0, (.aload_n 0, 1)), (1, (.iload_n 1, 1)), (2, (.iload_n 2, 1)), (3, (.iload_n 3, 1)), (4, (.invokevirtual 113, 3)), (7, (.ifCond .eq 15, 3)), (10, (.aload_n 0, 1)), (11, (.getfield 30, 3)), (14, (.iload 4, 2)), (16, (.invokevirtual 125, 3)), (19, (.ifCond .ne 6, 3)), (22, (.bipush (-2), 2)), (24, (.ireturn, 1)), (25, (.aload_n 0, 1)), (26, (.getfield 30, 3)), (29, (.iload 4, 2)), (31, (.iload 5, 2)), (33, (.invokevirtual 128, 3)), (36, (.ireturn, 1))]
theorem ok33_bank_0_9 : dcs cX9_actor tb33_bank_0_9 = true := by decide +kernel
theorem dX9_actor_0 : decode cX9_actor 0 = .ok (.aload_n 0, 1) := dcs_at ok33_bank_0_9 0 rfl
theorem dX9_actor_1 : decode cX9_actor 1 = .ok (.iload_n 1, 1) := dcs_at ok33_bank_0_9 1 rfl
theorem dX9_actor_2 : decode cX9_actor 2 = .ok (.iload_n 2, 1) := dcs_at ok33_bank_0_9 2 rfl
theorem dX9_actor_3 : decode cX9_actor 3 = .ok (.iload_n 3, 1) := dcs_at ok33_bank_0_9 3 rfl
theorem dX9_actor_4 : decode cX9_actor 4 = .ok (.invokevirtual 113, 3) := dcs_at ok33_bank_0_9 4 rfl
theorem dX9_actor_7 : decode cX9_actor 7 = .ok (.ifCond .eq 15, 3) := dcs_at ok33_bank_0_9 5 rfl
theorem dX9_actor_10 : decode cX9_actor 10 = .ok (.aload_n 0, 1) := dcs_at ok33_bank_0_9 6 rfl
theorem dX9_actor_11 : decode cX9_actor 11 = .ok (.getfield 30, 3) := dcs_at ok33_bank_0_9 7 rfl
theorem dX9_actor_14 : decode cX9_actor 14 = .ok (.iload 4, 2) := dcs_at ok33_bank_0_9 8 rfl
theorem dX9_actor_16 : decode cX9_actor 16 = .ok (.invokevirtual 125, 3) := dcs_at ok33_bank_0_9 9 rfl
theorem dX9_actor_19 : decode cX9_actor 19 = .ok (.ifCond .ne 6, 3) := dcs_at ok33_bank_0_9 10 rfl
theorem dX9_actor_22 : decode cX9_actor 22 = .ok (.bipush (-2), 2) := dcs_at ok33_bank_0_9 11 rfl
theorem dX9_actor_24 : decode cX9_actor 24 = .ok (.ireturn, 1) := dcs_at ok33_bank_0_9 12 rfl
theorem dX9_actor_25 : decode cX9_actor 25 = .ok (.aload_n 0, 1) := dcs_at ok33_bank_0_9 13 rfl
theorem dX9_actor_26 : decode cX9_actor 26 = .ok (.getfield 30, 3) := dcs_at ok33_bank_0_9 14 rfl
theorem dX9_actor_29 : decode cX9_actor 29 = .ok (.iload 4, 2) := dcs_at ok33_bank_0_9 15 rfl
theorem dX9_actor_31 : decode cX9_actor 31 = .ok (.iload 5, 2) := dcs_at ok33_bank_0_9 16 rfl
theorem dX9_actor_33 : decode cX9_actor 33 = .ok (.invokevirtual 128, 3) := dcs_at ok33_bank_0_9 17 rfl
theorem dX9_actor_36 : decode cX9_actor 36 = .ok (.ireturn, 1) := dcs_at ok33_bank_0_9 18 rfl
def tb33_bank_0_10 : List (Nat × (Instr × Nat)) := [(0, (.iload 4, 2)), (2, (.ifCond .lt 19, 3)), (5, (.iload 4, 2)), (7, (.iconst 1, 1)), (8, (.if_icmp .gt 13, 3)), (11, (.aload_n 0, 1)), (12, (.iload_n 1, 1)), (13, (.iload_n 2, 1)), (14, (.iload_n 3, 1)), (15, (.invokevirtual 113, 3)), (18, (.ifCond .ne 6, 3)), (21, (.bipush (-2), 2)), (23, (.ireturn, 1)), (24, (.iload 4, 2)), (26, (.ifCond .ne 13, 3)), (29, (.aload_n 0, 1)), (30, (.getfield 30, 3)), (33, (.invokevirtual 131, 3)), (36, (.goto 10, 3)), (39, (.aload_n 0, 1)), (40, (.getfield 30, 3)), (43, (.invokevirtual 135, 3)), (46, (.ireturn, 1))]
theorem ok33_bank_0_10 : dcs cX9_run tb33_bank_0_10 = true := by decide +kernel
theorem dX9_run_0 : decode cX9_run 0 = .ok (.iload 4, 2) := dcs_at ok33_bank_0_10 0 rfl
theorem dX9_run_2 : decode cX9_run 2 = .ok (.ifCond .lt 19, 3) := dcs_at ok33_bank_0_10 1 rfl
theorem dX9_run_5 : decode cX9_run 5 = .ok (.iload 4, 2) := dcs_at ok33_bank_0_10 2 rfl
theorem dX9_run_7 : decode cX9_run 7 = .ok (.iconst 1, 1) := dcs_at ok33_bank_0_10 3 rfl
theorem dX9_run_8 : decode cX9_run 8 = .ok (.if_icmp .gt 13, 3) := dcs_at ok33_bank_0_10 4 rfl
theorem dX9_run_11 : decode cX9_run 11 = .ok (.aload_n 0, 1) := dcs_at ok33_bank_0_10 5 rfl
theorem dX9_run_12 : decode cX9_run 12 = .ok (.iload_n 1, 1) := dcs_at ok33_bank_0_10 6 rfl
theorem dX9_run_13 : decode cX9_run 13 = .ok (.iload_n 2, 1) := dcs_at ok33_bank_0_10 7 rfl
theorem dX9_run_14 : decode cX9_run 14 = .ok (.iload_n 3, 1) := dcs_at ok33_bank_0_10 8 rfl
theorem dX9_run_15 : decode cX9_run 15 = .ok (.invokevirtual 113, 3) := dcs_at ok33_bank_0_10 9 rfl
theorem dX9_run_18 : decode cX9_run 18 = .ok (.ifCond .ne 6, 3) := dcs_at ok33_bank_0_10 10 rfl
theorem dX9_run_21 : decode cX9_run 21 = .ok (.bipush (-2), 2) := dcs_at ok33_bank_0_10 11 rfl
theorem dX9_run_23 : decode cX9_run 23 = .ok (.ireturn, 1) := dcs_at ok33_bank_0_10 12 rfl
theorem dX9_run_24 : decode cX9_run 24 = .ok (.iload 4, 2) := dcs_at ok33_bank_0_10 13 rfl
theorem dX9_run_26 : decode cX9_run 26 = .ok (.ifCond .ne 13, 3) := dcs_at ok33_bank_0_10 14 rfl
theorem dX9_run_29 : decode cX9_run 29 = .ok (.aload_n 0, 1) := dcs_at ok33_bank_0_10 15 rfl
theorem dX9_run_30 : decode cX9_run 30 = .ok (.getfield 30, 3) := dcs_at ok33_bank_0_10 16 rfl
theorem dX9_run_33 : decode cX9_run 33 = .ok (.invokevirtual 131, 3) := dcs_at ok33_bank_0_10 17 rfl
theorem dX9_run_36 : decode cX9_run 36 = .ok (.goto 10, 3) := dcs_at ok33_bank_0_10 18 rfl
theorem dX9_run_39 : decode cX9_run 39 = .ok (.aload_n 0, 1) := dcs_at ok33_bank_0_10 19 rfl
theorem dX9_run_40 : decode cX9_run 40 = .ok (.getfield 30, 3) := dcs_at ok33_bank_0_10 20 rfl
theorem dX9_run_43 : decode cX9_run 43 = .ok (.invokevirtual 135, 3) := dcs_at ok33_bank_0_10 21 rfl
theorem dX9_run_46 : decode cX9_run 46 = .ok (.ireturn, 1) := dcs_at ok33_bank_0_10 22 rfl
def tb33_bank_0_11 : List (Nat × (Instr × Nat)) := [(0, (.iload 4, 2)), (2, (.ifCond .lt 19, 3)), (5, (.iload 4, 2)), (7, (.iconst 3, 1)), (8, (.if_icmp .gt 13, 3)), (11, (.aload_n 0, 1)), (12, (.iload_n 1, 1)), (13, (.iload_n 2, 1)), (14, (.iload_n 3, 1)), (15, (.invokevirtual 113, 3)), (18, (.ifCond .ne 6, 3)), (21, (.bipush (-2), 2)), (23, (.ireturn, 1)), (24, (.aload_n 0, 1)), (25, (.getfield 37, 3)), (28, (.aload_n 0, 1)), (29, (.getfield 30, 3)), (32, (.invokevirtual 138, 3)), (35, (.aload_n 0, 1)), (36, (.getfield 37, 3)), (39, (.iload 4, 2)), (41, (.invokevirtual 142, 3)), (44, (.ireturn, 1))]
theorem ok33_bank_0_11 : dcs cX9_feast tb33_bank_0_11 = true := by decide +kernel
theorem dX9_feast_0 : decode cX9_feast 0 = .ok (.iload 4, 2) := dcs_at ok33_bank_0_11 0 rfl
theorem dX9_feast_2 : decode cX9_feast 2 = .ok (.ifCond .lt 19, 3) := dcs_at ok33_bank_0_11 1 rfl
theorem dX9_feast_5 : decode cX9_feast 5 = .ok (.iload 4, 2) := dcs_at ok33_bank_0_11 2 rfl
theorem dX9_feast_7 : decode cX9_feast 7 = .ok (.iconst 3, 1) := dcs_at ok33_bank_0_11 3 rfl
theorem dX9_feast_8 : decode cX9_feast 8 = .ok (.if_icmp .gt 13, 3) := dcs_at ok33_bank_0_11 4 rfl
theorem dX9_feast_11 : decode cX9_feast 11 = .ok (.aload_n 0, 1) := dcs_at ok33_bank_0_11 5 rfl
theorem dX9_feast_12 : decode cX9_feast 12 = .ok (.iload_n 1, 1) := dcs_at ok33_bank_0_11 6 rfl
theorem dX9_feast_13 : decode cX9_feast 13 = .ok (.iload_n 2, 1) := dcs_at ok33_bank_0_11 7 rfl
theorem dX9_feast_14 : decode cX9_feast 14 = .ok (.iload_n 3, 1) := dcs_at ok33_bank_0_11 8 rfl
theorem dX9_feast_15 : decode cX9_feast 15 = .ok (.invokevirtual 113, 3) := dcs_at ok33_bank_0_11 9 rfl
theorem dX9_feast_18 : decode cX9_feast 18 = .ok (.ifCond .ne 6, 3) := dcs_at ok33_bank_0_11 10 rfl
theorem dX9_feast_21 : decode cX9_feast 21 = .ok (.bipush (-2), 2) := dcs_at ok33_bank_0_11 11 rfl
theorem dX9_feast_23 : decode cX9_feast 23 = .ok (.ireturn, 1) := dcs_at ok33_bank_0_11 12 rfl
theorem dX9_feast_24 : decode cX9_feast 24 = .ok (.aload_n 0, 1) := dcs_at ok33_bank_0_11 13 rfl
theorem dX9_feast_25 : decode cX9_feast 25 = .ok (.getfield 37, 3) := dcs_at ok33_bank_0_11 14 rfl
theorem dX9_feast_28 : decode cX9_feast 28 = .ok (.aload_n 0, 1) := dcs_at ok33_bank_0_11 15 rfl
theorem dX9_feast_29 : decode cX9_feast 29 = .ok (.getfield 30, 3) := dcs_at ok33_bank_0_11 16 rfl
theorem dX9_feast_32 : decode cX9_feast 32 = .ok (.invokevirtual 138, 3) := dcs_at ok33_bank_0_11 17 rfl
theorem dX9_feast_35 : decode cX9_feast 35 = .ok (.aload_n 0, 1) := dcs_at ok33_bank_0_11 18 rfl
theorem dX9_feast_36 : decode cX9_feast 36 = .ok (.getfield 37, 3) := dcs_at ok33_bank_0_11 19 rfl
theorem dX9_feast_39 : decode cX9_feast 39 = .ok (.iload 4, 2) := dcs_at ok33_bank_0_11 20 rfl
theorem dX9_feast_41 : decode cX9_feast 41 = .ok (.invokevirtual 142, 3) := dcs_at ok33_bank_0_11 21 rfl
theorem dX9_feast_44 : decode cX9_feast 44 = .ok (.ireturn, 1) := dcs_at ok33_bank_0_11 22 rfl
def tb33_bank_0_12 : List (Nat × (Instr × Nat)) := [(0, (.aload_n 0, 1)), (1, (.iload_n 1, 1)), (2, (.iload_n 2, 1)), (3, (.iload_n 3, 1)), (4, (.invokevirtual 113, 3)), (7, (.ifCond .ne 6, 3)), (10, (.bipush (-2), 2)), (12, (.ireturn, 1)), (13, (.aload_n 0, 1)), (14, (.getfield 30, 3)), (17, (.invokevirtual 143, 3)), (20, (.istore 5, 2)), (22, (.iload 5, 2)), (24, (.ifCond .gt 6, 3)), (27, (.bipush (-2), 2)), (29, (.ireturn, 1)), (30, (.aload_n 0, 1)), (31, (.getfield 30, 3)), (34, (.invokevirtual 146, 3)), (37, (.istore 6, 2)), (39, (.iload 6, 2)), (41, (.iload 5, 2)), (43, (.invokestatic 149, 3)), (46, (.istore 7, 2)), (48, (.iload 7, 2)), (50, (.ifCond .gt 6, 3)), (53, (.bipush (-2), 2)), (55, (.ireturn, 1)), (56, (.iload 4, 2)), (58, (.ifCond .eq 8, 3)), (61, (.iload 5, 2)), (63, (.goto 5, 3)), (66, (.iload 6, 2)), (68, (.iload 7, 2)), (70, (.idiv, 1)), (71, (.ireturn, 1))]
theorem ok33_bank_0_12 : dcs cX9_fair tb33_bank_0_12 = true := by decide +kernel
theorem dX9_fair_0 : decode cX9_fair 0 = .ok (.aload_n 0, 1) := dcs_at ok33_bank_0_12 0 rfl
theorem dX9_fair_1 : decode cX9_fair 1 = .ok (.iload_n 1, 1) := dcs_at ok33_bank_0_12 1 rfl
theorem dX9_fair_2 : decode cX9_fair 2 = .ok (.iload_n 2, 1) := dcs_at ok33_bank_0_12 2 rfl
theorem dX9_fair_3 : decode cX9_fair 3 = .ok (.iload_n 3, 1) := dcs_at ok33_bank_0_12 3 rfl
theorem dX9_fair_4 : decode cX9_fair 4 = .ok (.invokevirtual 113, 3) := dcs_at ok33_bank_0_12 4 rfl
theorem dX9_fair_7 : decode cX9_fair 7 = .ok (.ifCond .ne 6, 3) := dcs_at ok33_bank_0_12 5 rfl
theorem dX9_fair_10 : decode cX9_fair 10 = .ok (.bipush (-2), 2) := dcs_at ok33_bank_0_12 6 rfl
theorem dX9_fair_12 : decode cX9_fair 12 = .ok (.ireturn, 1) := dcs_at ok33_bank_0_12 7 rfl
theorem dX9_fair_13 : decode cX9_fair 13 = .ok (.aload_n 0, 1) := dcs_at ok33_bank_0_12 8 rfl
theorem dX9_fair_14 : decode cX9_fair 14 = .ok (.getfield 30, 3) := dcs_at ok33_bank_0_12 9 rfl
theorem dX9_fair_17 : decode cX9_fair 17 = .ok (.invokevirtual 143, 3) := dcs_at ok33_bank_0_12 10 rfl
theorem dX9_fair_20 : decode cX9_fair 20 = .ok (.istore 5, 2) := dcs_at ok33_bank_0_12 11 rfl
theorem dX9_fair_22 : decode cX9_fair 22 = .ok (.iload 5, 2) := dcs_at ok33_bank_0_12 12 rfl
theorem dX9_fair_24 : decode cX9_fair 24 = .ok (.ifCond .gt 6, 3) := dcs_at ok33_bank_0_12 13 rfl
theorem dX9_fair_27 : decode cX9_fair 27 = .ok (.bipush (-2), 2) := dcs_at ok33_bank_0_12 14 rfl
theorem dX9_fair_29 : decode cX9_fair 29 = .ok (.ireturn, 1) := dcs_at ok33_bank_0_12 15 rfl
theorem dX9_fair_30 : decode cX9_fair 30 = .ok (.aload_n 0, 1) := dcs_at ok33_bank_0_12 16 rfl
theorem dX9_fair_31 : decode cX9_fair 31 = .ok (.getfield 30, 3) := dcs_at ok33_bank_0_12 17 rfl
theorem dX9_fair_34 : decode cX9_fair 34 = .ok (.invokevirtual 146, 3) := dcs_at ok33_bank_0_12 18 rfl
theorem dX9_fair_37 : decode cX9_fair 37 = .ok (.istore 6, 2) := dcs_at ok33_bank_0_12 19 rfl
theorem dX9_fair_39 : decode cX9_fair 39 = .ok (.iload 6, 2) := dcs_at ok33_bank_0_12 20 rfl
theorem dX9_fair_41 : decode cX9_fair 41 = .ok (.iload 5, 2) := dcs_at ok33_bank_0_12 21 rfl
theorem dX9_fair_43 : decode cX9_fair 43 = .ok (.invokestatic 149, 3) := dcs_at ok33_bank_0_12 22 rfl
theorem dX9_fair_46 : decode cX9_fair 46 = .ok (.istore 7, 2) := dcs_at ok33_bank_0_12 23 rfl
theorem dX9_fair_48 : decode cX9_fair 48 = .ok (.iload 7, 2) := dcs_at ok33_bank_0_12 24 rfl
theorem dX9_fair_50 : decode cX9_fair 50 = .ok (.ifCond .gt 6, 3) := dcs_at ok33_bank_0_12 25 rfl
theorem dX9_fair_53 : decode cX9_fair 53 = .ok (.bipush (-2), 2) := dcs_at ok33_bank_0_12 26 rfl
theorem dX9_fair_55 : decode cX9_fair 55 = .ok (.ireturn, 1) := dcs_at ok33_bank_0_12 27 rfl
theorem dX9_fair_56 : decode cX9_fair 56 = .ok (.iload 4, 2) := dcs_at ok33_bank_0_12 28 rfl
theorem dX9_fair_58 : decode cX9_fair 58 = .ok (.ifCond .eq 8, 3) := dcs_at ok33_bank_0_12 29 rfl
theorem dX9_fair_61 : decode cX9_fair 61 = .ok (.iload 5, 2) := dcs_at ok33_bank_0_12 30 rfl
theorem dX9_fair_63 : decode cX9_fair 63 = .ok (.goto 5, 3) := dcs_at ok33_bank_0_12 31 rfl
theorem dX9_fair_66 : decode cX9_fair 66 = .ok (.iload 6, 2) := dcs_at ok33_bank_0_12 32 rfl
theorem dX9_fair_68 : decode cX9_fair 68 = .ok (.iload 7, 2) := dcs_at ok33_bank_0_12 33 rfl
theorem dX9_fair_70 : decode cX9_fair 70 = .ok (.idiv, 1) := dcs_at ok33_bank_0_12 34 rfl
theorem dX9_fair_71 : decode cX9_fair 71 = .ok (.ireturn, 1) := dcs_at ok33_bank_0_12 35 rfl
def tb33_bank_0_13 : List (Nat × (Instr × Nat)) := [(0, (.aload_n 0, 1)), (1, (.iload_n 1, 1)), (2, (.iload_n 2, 1)), (3, (.iload_n 3, 1)), (4, (.invokevirtual 152, 3)), (7, (.ifCond .eq 15, 3)), (10, (.aload_n 0, 1)), (11, (.getfield 44, 3)), (14, (.getfield 155, 3)), (17, (.iload_n 2, 1)), (18, (.iaload, 1)), (19, (.goto 4, 3)), (22, (.iconst (-1), 1)), (23, (.ireturn, 1))]
theorem ok33_bank_0_13 : dcs cX9_ask tb33_bank_0_13 = true := by decide +kernel
theorem dX9_ask_0 : decode cX9_ask 0 = .ok (.aload_n 0, 1) := dcs_at ok33_bank_0_13 0 rfl
theorem dX9_ask_1 : decode cX9_ask 1 = .ok (.iload_n 1, 1) := dcs_at ok33_bank_0_13 1 rfl
theorem dX9_ask_2 : decode cX9_ask 2 = .ok (.iload_n 2, 1) := dcs_at ok33_bank_0_13 2 rfl
theorem dX9_ask_3 : decode cX9_ask 3 = .ok (.iload_n 3, 1) := dcs_at ok33_bank_0_13 3 rfl
theorem dX9_ask_4 : decode cX9_ask 4 = .ok (.invokevirtual 152, 3) := dcs_at ok33_bank_0_13 4 rfl
theorem dX9_ask_7 : decode cX9_ask 7 = .ok (.ifCond .eq 15, 3) := dcs_at ok33_bank_0_13 5 rfl
theorem dX9_ask_10 : decode cX9_ask 10 = .ok (.aload_n 0, 1) := dcs_at ok33_bank_0_13 6 rfl
theorem dX9_ask_11 : decode cX9_ask 11 = .ok (.getfield 44, 3) := dcs_at ok33_bank_0_13 7 rfl
theorem dX9_ask_14 : decode cX9_ask 14 = .ok (.getfield 155, 3) := dcs_at ok33_bank_0_13 8 rfl
theorem dX9_ask_17 : decode cX9_ask 17 = .ok (.iload_n 2, 1) := dcs_at ok33_bank_0_13 9 rfl
theorem dX9_ask_18 : decode cX9_ask 18 = .ok (.iaload, 1) := dcs_at ok33_bank_0_13 10 rfl
theorem dX9_ask_19 : decode cX9_ask 19 = .ok (.goto 4, 3) := dcs_at ok33_bank_0_13 11 rfl
theorem dX9_ask_22 : decode cX9_ask 22 = .ok (.iconst (-1), 1) := dcs_at ok33_bank_0_13 12 rfl
theorem dX9_ask_23 : decode cX9_ask 23 = .ok (.ireturn, 1) := dcs_at ok33_bank_0_13 13 rfl
def tb33_bank_0_14 : List (Nat × (Instr × Nat)) := [(0, (.aload_n 0, 1)), (1, (.iload_n 1, 1)), (2, (.iload_n 2, 1)), (3, (.iload_n 3, 1)), (4, (.invokevirtual 152, 3)), (7, (.ifCond .eq 15, 3)), (10, (.aload_n 0, 1)), (11, (.getfield 44, 3)), (14, (.getfield 159, 3)), (17, (.iload_n 2, 1)), (18, (.iaload, 1)), (19, (.goto 4, 3)), (22, (.iconst (-1), 1)), (23, (.ireturn, 1))]
theorem ok33_bank_0_14 : dcs cX9_taken tb33_bank_0_14 = true := by decide +kernel
theorem dX9_taken_0 : decode cX9_taken 0 = .ok (.aload_n 0, 1) := dcs_at ok33_bank_0_14 0 rfl
theorem dX9_taken_1 : decode cX9_taken 1 = .ok (.iload_n 1, 1) := dcs_at ok33_bank_0_14 1 rfl
theorem dX9_taken_2 : decode cX9_taken 2 = .ok (.iload_n 2, 1) := dcs_at ok33_bank_0_14 2 rfl
theorem dX9_taken_3 : decode cX9_taken 3 = .ok (.iload_n 3, 1) := dcs_at ok33_bank_0_14 3 rfl
theorem dX9_taken_4 : decode cX9_taken 4 = .ok (.invokevirtual 152, 3) := dcs_at ok33_bank_0_14 4 rfl
theorem dX9_taken_7 : decode cX9_taken 7 = .ok (.ifCond .eq 15, 3) := dcs_at ok33_bank_0_14 5 rfl
theorem dX9_taken_10 : decode cX9_taken 10 = .ok (.aload_n 0, 1) := dcs_at ok33_bank_0_14 6 rfl
theorem dX9_taken_11 : decode cX9_taken 11 = .ok (.getfield 44, 3) := dcs_at ok33_bank_0_14 7 rfl
theorem dX9_taken_14 : decode cX9_taken 14 = .ok (.getfield 159, 3) := dcs_at ok33_bank_0_14 8 rfl
theorem dX9_taken_17 : decode cX9_taken 17 = .ok (.iload_n 2, 1) := dcs_at ok33_bank_0_14 9 rfl
theorem dX9_taken_18 : decode cX9_taken 18 = .ok (.iaload, 1) := dcs_at ok33_bank_0_14 10 rfl
theorem dX9_taken_19 : decode cX9_taken 19 = .ok (.goto 4, 3) := dcs_at ok33_bank_0_14 11 rfl
theorem dX9_taken_22 : decode cX9_taken 22 = .ok (.iconst (-1), 1) := dcs_at ok33_bank_0_14 12 rfl
theorem dX9_taken_23 : decode cX9_taken 23 = .ok (.ireturn, 1) := dcs_at ok33_bank_0_14 13 rfl
def tb33_bank_0_15 : List (Nat × (Instr × Nat)) := [(0, (.aload_n 0, 1)), (1, (.getfield 10, 3)), (4, (.iload_n 1, 1)), (5, (.invokevirtual 87, 3)), (8, (.astore_n 3, 1)), (9, (.aload_n 3, 1)), (10, (.ifnull 19, 3)), (13, (.aload_n 3, 1)), (14, (.getfield 162, 3)), (17, (.ifCond .eq 12, 3)), (20, (.iload_n 2, 1)), (21, (.ifCond .lt 8, 3)), (24, (.iload_n 2, 1)), (25, (.iconst 1, 1)), (26, (.if_icmp .le 5, 3)), (29, (.iconst (-1), 1)), (30, (.ireturn, 1)), (31, (.aload_n 0, 1)), (32, (.getfield 44, 3)), (35, (.aload_n 3, 1)), (36, (.invokevirtual 165, 3)), (39, (.istore 4, 2)), (41, (.iload 4, 2)), (43, (.iconst (-1), 1)), (44, (.if_icmp .ne 5, 3)), (47, (.iconst (-1), 1)), (48, (.ireturn, 1)), (49, (.iload_n 2, 1)), (50, (.ifCond .ne 8, 3)), (53, (.iload 4, 2)), (55, (.goto 10, 3)), (58, (.aload_n 0, 1)), (59, (.getfield 44, 3)), (62, (.getfield 169, 3)), (65, (.ireturn, 1))]
theorem ok33_bank_0_15 : dcs cX9_stands tb33_bank_0_15 = true := by decide +kernel
theorem dX9_stands_0 : decode cX9_stands 0 = .ok (.aload_n 0, 1) := dcs_at ok33_bank_0_15 0 rfl
theorem dX9_stands_1 : decode cX9_stands 1 = .ok (.getfield 10, 3) := dcs_at ok33_bank_0_15 1 rfl
theorem dX9_stands_4 : decode cX9_stands 4 = .ok (.iload_n 1, 1) := dcs_at ok33_bank_0_15 2 rfl
theorem dX9_stands_5 : decode cX9_stands 5 = .ok (.invokevirtual 87, 3) := dcs_at ok33_bank_0_15 3 rfl
theorem dX9_stands_8 : decode cX9_stands 8 = .ok (.astore_n 3, 1) := dcs_at ok33_bank_0_15 4 rfl
theorem dX9_stands_9 : decode cX9_stands 9 = .ok (.aload_n 3, 1) := dcs_at ok33_bank_0_15 5 rfl
theorem dX9_stands_10 : decode cX9_stands 10 = .ok (.ifnull 19, 3) := dcs_at ok33_bank_0_15 6 rfl
theorem dX9_stands_13 : decode cX9_stands 13 = .ok (.aload_n 3, 1) := dcs_at ok33_bank_0_15 7 rfl
theorem dX9_stands_14 : decode cX9_stands 14 = .ok (.getfield 162, 3) := dcs_at ok33_bank_0_15 8 rfl
theorem dX9_stands_17 : decode cX9_stands 17 = .ok (.ifCond .eq 12, 3) := dcs_at ok33_bank_0_15 9 rfl
theorem dX9_stands_20 : decode cX9_stands 20 = .ok (.iload_n 2, 1) := dcs_at ok33_bank_0_15 10 rfl
theorem dX9_stands_21 : decode cX9_stands 21 = .ok (.ifCond .lt 8, 3) := dcs_at ok33_bank_0_15 11 rfl
theorem dX9_stands_24 : decode cX9_stands 24 = .ok (.iload_n 2, 1) := dcs_at ok33_bank_0_15 12 rfl
theorem dX9_stands_25 : decode cX9_stands 25 = .ok (.iconst 1, 1) := dcs_at ok33_bank_0_15 13 rfl
theorem dX9_stands_26 : decode cX9_stands 26 = .ok (.if_icmp .le 5, 3) := dcs_at ok33_bank_0_15 14 rfl
theorem dX9_stands_29 : decode cX9_stands 29 = .ok (.iconst (-1), 1) := dcs_at ok33_bank_0_15 15 rfl
theorem dX9_stands_30 : decode cX9_stands 30 = .ok (.ireturn, 1) := dcs_at ok33_bank_0_15 16 rfl
theorem dX9_stands_31 : decode cX9_stands 31 = .ok (.aload_n 0, 1) := dcs_at ok33_bank_0_15 17 rfl
theorem dX9_stands_32 : decode cX9_stands 32 = .ok (.getfield 44, 3) := dcs_at ok33_bank_0_15 18 rfl
theorem dX9_stands_35 : decode cX9_stands 35 = .ok (.aload_n 3, 1) := dcs_at ok33_bank_0_15 19 rfl
theorem dX9_stands_36 : decode cX9_stands 36 = .ok (.invokevirtual 165, 3) := dcs_at ok33_bank_0_15 20 rfl
theorem dX9_stands_39 : decode cX9_stands 39 = .ok (.istore 4, 2) := dcs_at ok33_bank_0_15 21 rfl
theorem dX9_stands_41 : decode cX9_stands 41 = .ok (.iload 4, 2) := dcs_at ok33_bank_0_15 22 rfl
theorem dX9_stands_43 : decode cX9_stands 43 = .ok (.iconst (-1), 1) := dcs_at ok33_bank_0_15 23 rfl
theorem dX9_stands_44 : decode cX9_stands 44 = .ok (.if_icmp .ne 5, 3) := dcs_at ok33_bank_0_15 24 rfl
theorem dX9_stands_47 : decode cX9_stands 47 = .ok (.iconst (-1), 1) := dcs_at ok33_bank_0_15 25 rfl
theorem dX9_stands_48 : decode cX9_stands 48 = .ok (.ireturn, 1) := dcs_at ok33_bank_0_15 26 rfl
theorem dX9_stands_49 : decode cX9_stands 49 = .ok (.iload_n 2, 1) := dcs_at ok33_bank_0_15 27 rfl
theorem dX9_stands_50 : decode cX9_stands 50 = .ok (.ifCond .ne 8, 3) := dcs_at ok33_bank_0_15 28 rfl
theorem dX9_stands_53 : decode cX9_stands 53 = .ok (.iload 4, 2) := dcs_at ok33_bank_0_15 29 rfl
theorem dX9_stands_55 : decode cX9_stands 55 = .ok (.goto 10, 3) := dcs_at ok33_bank_0_15 30 rfl
theorem dX9_stands_58 : decode cX9_stands 58 = .ok (.aload_n 0, 1) := dcs_at ok33_bank_0_15 31 rfl
theorem dX9_stands_59 : decode cX9_stands 59 = .ok (.getfield 44, 3) := dcs_at ok33_bank_0_15 32 rfl
theorem dX9_stands_62 : decode cX9_stands 62 = .ok (.getfield 169, 3) := dcs_at ok33_bank_0_15 33 rfl
theorem dX9_stands_65 : decode cX9_stands 65 = .ok (.ireturn, 1) := dcs_at ok33_bank_0_15 34 rfl
def tb33_bank_0_16 : List (Nat × (Instr × Nat)) := [(0, (.aload_n 0, 1)), (1, (.getfield 10, 3)), (4, (.iload_n 1, 1)), (5, (.invokevirtual 172, 3)), (8, (.astore_n 3, 1)), (9, (.aload_n 3, 1)), (10, (.ifnonnull 6, 3)), (13, (.bipush (-2), 2)), (15, (.ireturn, 1)), (16, (.iload_n 2, 1)), (17, (.iconst (-1), 1)), (18, (.if_icmp .ne 8, 3)), (21, (.aload_n 3, 1)), (22, (.getfield 176, 3)), (25, (.ireturn, 1)), (26, (.aload_n 3, 1)), (27, (.iload_n 2, 1)), (28, (.invokevirtual 181, 3)), (31, (.ifCond .eq 12, 3)), (34, (.aload_n 3, 1)), (35, (.getfield 184, 3)), (38, (.iload_n 2, 1)), (39, (.iaload, 1)), (40, (.goto 5, 3)), (43, (.bipush (-2), 2)), (45, (.ireturn, 1))]
theorem ok33_bank_0_16 : dcs cX9_heard tb33_bank_0_16 = true := by decide +kernel
theorem dX9_heard_0 : decode cX9_heard 0 = .ok (.aload_n 0, 1) := dcs_at ok33_bank_0_16 0 rfl
theorem dX9_heard_1 : decode cX9_heard 1 = .ok (.getfield 10, 3) := dcs_at ok33_bank_0_16 1 rfl
theorem dX9_heard_4 : decode cX9_heard 4 = .ok (.iload_n 1, 1) := dcs_at ok33_bank_0_16 2 rfl
theorem dX9_heard_5 : decode cX9_heard 5 = .ok (.invokevirtual 172, 3) := dcs_at ok33_bank_0_16 3 rfl
theorem dX9_heard_8 : decode cX9_heard 8 = .ok (.astore_n 3, 1) := dcs_at ok33_bank_0_16 4 rfl
theorem dX9_heard_9 : decode cX9_heard 9 = .ok (.aload_n 3, 1) := dcs_at ok33_bank_0_16 5 rfl
theorem dX9_heard_10 : decode cX9_heard 10 = .ok (.ifnonnull 6, 3) := dcs_at ok33_bank_0_16 6 rfl
theorem dX9_heard_13 : decode cX9_heard 13 = .ok (.bipush (-2), 2) := dcs_at ok33_bank_0_16 7 rfl
theorem dX9_heard_15 : decode cX9_heard 15 = .ok (.ireturn, 1) := dcs_at ok33_bank_0_16 8 rfl
theorem dX9_heard_16 : decode cX9_heard 16 = .ok (.iload_n 2, 1) := dcs_at ok33_bank_0_16 9 rfl
theorem dX9_heard_17 : decode cX9_heard 17 = .ok (.iconst (-1), 1) := dcs_at ok33_bank_0_16 10 rfl
theorem dX9_heard_18 : decode cX9_heard 18 = .ok (.if_icmp .ne 8, 3) := dcs_at ok33_bank_0_16 11 rfl
theorem dX9_heard_21 : decode cX9_heard 21 = .ok (.aload_n 3, 1) := dcs_at ok33_bank_0_16 12 rfl
theorem dX9_heard_22 : decode cX9_heard 22 = .ok (.getfield 176, 3) := dcs_at ok33_bank_0_16 13 rfl
theorem dX9_heard_25 : decode cX9_heard 25 = .ok (.ireturn, 1) := dcs_at ok33_bank_0_16 14 rfl
theorem dX9_heard_26 : decode cX9_heard 26 = .ok (.aload_n 3, 1) := dcs_at ok33_bank_0_16 15 rfl
theorem dX9_heard_27 : decode cX9_heard 27 = .ok (.iload_n 2, 1) := dcs_at ok33_bank_0_16 16 rfl
theorem dX9_heard_28 : decode cX9_heard 28 = .ok (.invokevirtual 181, 3) := dcs_at ok33_bank_0_16 17 rfl
theorem dX9_heard_31 : decode cX9_heard 31 = .ok (.ifCond .eq 12, 3) := dcs_at ok33_bank_0_16 18 rfl
theorem dX9_heard_34 : decode cX9_heard 34 = .ok (.aload_n 3, 1) := dcs_at ok33_bank_0_16 19 rfl
theorem dX9_heard_35 : decode cX9_heard 35 = .ok (.getfield 184, 3) := dcs_at ok33_bank_0_16 20 rfl
theorem dX9_heard_38 : decode cX9_heard 38 = .ok (.iload_n 2, 1) := dcs_at ok33_bank_0_16 21 rfl
theorem dX9_heard_39 : decode cX9_heard 39 = .ok (.iaload, 1) := dcs_at ok33_bank_0_16 22 rfl
theorem dX9_heard_40 : decode cX9_heard 40 = .ok (.goto 5, 3) := dcs_at ok33_bank_0_16 23 rfl
theorem dX9_heard_43 : decode cX9_heard 43 = .ok (.bipush (-2), 2) := dcs_at ok33_bank_0_16 24 rfl
theorem dX9_heard_45 : decode cX9_heard 45 = .ok (.ireturn, 1) := dcs_at ok33_bank_0_16 25 rfl
def tb33_bank_0_17 : List (Nat × (Instr × Nat)) := [(0, (.aload_n 0, 1)), (1, (.getfield 10, 3)), (4, (.iload_n 1, 1)), (5, (.invokevirtual 87, 3)), (8, (.astore_n 3, 1)), (9, (.aload_n 0, 1)), (10, (.getfield 10, 3)), (13, (.iload_n 2, 1)), (14, (.invokevirtual 172, 3)), (17, (.astore 4, 2)), (19, (.aload_n 3, 1)), (20, (.ifnull 8, 3)), (23, (.aload 4, 2)), (25, (.ifnonnull 7, 3)), (28, (.ldc2_w 187, 3)), (31, (.lreturn, 1)), (32, (.aload_n 0, 1)), (33, (.getfield 51, 3)), (36, (.aload_n 3, 1)), (37, (.aload 4, 2)), (39, (.invokevirtual 189, 3)), (42, (.aload_n 0, 1)), (43, (.getfield 51, 3)), (46, (.iconst (-1), 1)), (47, (.iconst 0, 1)), (48, (.invokevirtual 193, 3)), (51, (.lreturn, 1))]
theorem ok33_bank_0_17 : dcs cX9_ways tb33_bank_0_17 = true := by decide +kernel
theorem dX9_ways_0 : decode cX9_ways 0 = .ok (.aload_n 0, 1) := dcs_at ok33_bank_0_17 0 rfl
theorem dX9_ways_1 : decode cX9_ways 1 = .ok (.getfield 10, 3) := dcs_at ok33_bank_0_17 1 rfl
theorem dX9_ways_4 : decode cX9_ways 4 = .ok (.iload_n 1, 1) := dcs_at ok33_bank_0_17 2 rfl
theorem dX9_ways_5 : decode cX9_ways 5 = .ok (.invokevirtual 87, 3) := dcs_at ok33_bank_0_17 3 rfl
theorem dX9_ways_8 : decode cX9_ways 8 = .ok (.astore_n 3, 1) := dcs_at ok33_bank_0_17 4 rfl
theorem dX9_ways_9 : decode cX9_ways 9 = .ok (.aload_n 0, 1) := dcs_at ok33_bank_0_17 5 rfl
theorem dX9_ways_10 : decode cX9_ways 10 = .ok (.getfield 10, 3) := dcs_at ok33_bank_0_17 6 rfl
theorem dX9_ways_13 : decode cX9_ways 13 = .ok (.iload_n 2, 1) := dcs_at ok33_bank_0_17 7 rfl
theorem dX9_ways_14 : decode cX9_ways 14 = .ok (.invokevirtual 172, 3) := dcs_at ok33_bank_0_17 8 rfl
theorem dX9_ways_17 : decode cX9_ways 17 = .ok (.astore 4, 2) := dcs_at ok33_bank_0_17 9 rfl
theorem dX9_ways_19 : decode cX9_ways 19 = .ok (.aload_n 3, 1) := dcs_at ok33_bank_0_17 10 rfl
theorem dX9_ways_20 : decode cX9_ways 20 = .ok (.ifnull 8, 3) := dcs_at ok33_bank_0_17 11 rfl
theorem dX9_ways_23 : decode cX9_ways 23 = .ok (.aload 4, 2) := dcs_at ok33_bank_0_17 12 rfl
theorem dX9_ways_25 : decode cX9_ways 25 = .ok (.ifnonnull 7, 3) := dcs_at ok33_bank_0_17 13 rfl
theorem dX9_ways_28 : decode cX9_ways 28 = .ok (.ldc2_w 187, 3) := dcs_at ok33_bank_0_17 14 rfl
theorem dX9_ways_31 : decode cX9_ways 31 = .ok (.lreturn, 1) := dcs_at ok33_bank_0_17 15 rfl
theorem dX9_ways_32 : decode cX9_ways 32 = .ok (.aload_n 0, 1) := dcs_at ok33_bank_0_17 16 rfl
theorem dX9_ways_33 : decode cX9_ways 33 = .ok (.getfield 51, 3) := dcs_at ok33_bank_0_17 17 rfl
theorem dX9_ways_36 : decode cX9_ways 36 = .ok (.aload_n 3, 1) := dcs_at ok33_bank_0_17 18 rfl
theorem dX9_ways_37 : decode cX9_ways 37 = .ok (.aload 4, 2) := dcs_at ok33_bank_0_17 19 rfl
theorem dX9_ways_39 : decode cX9_ways 39 = .ok (.invokevirtual 189, 3) := dcs_at ok33_bank_0_17 20 rfl
theorem dX9_ways_42 : decode cX9_ways 42 = .ok (.aload_n 0, 1) := dcs_at ok33_bank_0_17 21 rfl
theorem dX9_ways_43 : decode cX9_ways 43 = .ok (.getfield 51, 3) := dcs_at ok33_bank_0_17 22 rfl
theorem dX9_ways_46 : decode cX9_ways 46 = .ok (.iconst (-1), 1) := dcs_at ok33_bank_0_17 23 rfl
theorem dX9_ways_47 : decode cX9_ways 47 = .ok (.iconst 0, 1) := dcs_at ok33_bank_0_17 24 rfl
theorem dX9_ways_48 : decode cX9_ways 48 = .ok (.invokevirtual 193, 3) := dcs_at ok33_bank_0_17 25 rfl
theorem dX9_ways_51 : decode cX9_ways 51 = .ok (.lreturn, 1) := dcs_at ok33_bank_0_17 26 rfl
def tb33_bank_0_18 : List (Nat × (Instr × Nat)) := [(0, (.aload_n 0, 1)), (1, (.getfield 10, 3)), (4, (.iload_n 1, 1)), (5, (.invokevirtual 87, 3)), (8, (.astore 5, 2)), (10, (.aload_n 0, 1)), (11, (.getfield 10, 3)), (14, (.iload_n 2, 1)), (15, (.invokevirtual 172, 3)), (18, (.astore 6, 2)), (20, (.aload 5, 2)), (22, (.ifnull 17, 3)), (25, (.aload 6, 2)), (27, (.ifnull 12, 3)), (30, (.aload 6, 2)), (32, (.iload_n 3, 1)), (33, (.invokevirtual 181, 3)), (36, (.ifCond .ne 6, 3)), (39, (.bipush (-2), 2)), (41, (.ireturn, 1)), (42, (.aload_n 0, 1)), (43, (.getfield 51, 3)), (46, (.aload 5, 2)), (48, (.aload 6, 2)), (50, (.invokevirtual 189, 3)), (53, (.aload_n 0, 1)), (54, (.getfield 51, 3)), (57, (.iload_n 3, 1)), (58, (.invokevirtual 197, 3)), (61, (.iload 4, 2)), (63, (.ifCond .eq 13, 3)), (66, (.aload_n 0, 1)), (67, (.getfield 51, 3)), (70, (.getfield 200, 3)), (73, (.goto 10, 3)), (76, (.aload_n 0, 1)), (77, (.getfield 51, 3)), (80, (.getfield 203, 3)), (83, (.ireturn, 1))]
theorem ok33_bank_0_18 : dcs cX9_whose tb33_bank_0_18 = true := by decide +kernel
theorem dX9_whose_0 : decode cX9_whose 0 = .ok (.aload_n 0, 1) := dcs_at ok33_bank_0_18 0 rfl
theorem dX9_whose_1 : decode cX9_whose 1 = .ok (.getfield 10, 3) := dcs_at ok33_bank_0_18 1 rfl
theorem dX9_whose_4 : decode cX9_whose 4 = .ok (.iload_n 1, 1) := dcs_at ok33_bank_0_18 2 rfl
theorem dX9_whose_5 : decode cX9_whose 5 = .ok (.invokevirtual 87, 3) := dcs_at ok33_bank_0_18 3 rfl
theorem dX9_whose_8 : decode cX9_whose 8 = .ok (.astore 5, 2) := dcs_at ok33_bank_0_18 4 rfl
theorem dX9_whose_10 : decode cX9_whose 10 = .ok (.aload_n 0, 1) := dcs_at ok33_bank_0_18 5 rfl
theorem dX9_whose_11 : decode cX9_whose 11 = .ok (.getfield 10, 3) := dcs_at ok33_bank_0_18 6 rfl
theorem dX9_whose_14 : decode cX9_whose 14 = .ok (.iload_n 2, 1) := dcs_at ok33_bank_0_18 7 rfl
theorem dX9_whose_15 : decode cX9_whose 15 = .ok (.invokevirtual 172, 3) := dcs_at ok33_bank_0_18 8 rfl
theorem dX9_whose_18 : decode cX9_whose 18 = .ok (.astore 6, 2) := dcs_at ok33_bank_0_18 9 rfl
theorem dX9_whose_20 : decode cX9_whose 20 = .ok (.aload 5, 2) := dcs_at ok33_bank_0_18 10 rfl
theorem dX9_whose_22 : decode cX9_whose 22 = .ok (.ifnull 17, 3) := dcs_at ok33_bank_0_18 11 rfl
theorem dX9_whose_25 : decode cX9_whose 25 = .ok (.aload 6, 2) := dcs_at ok33_bank_0_18 12 rfl
theorem dX9_whose_27 : decode cX9_whose 27 = .ok (.ifnull 12, 3) := dcs_at ok33_bank_0_18 13 rfl
theorem dX9_whose_30 : decode cX9_whose 30 = .ok (.aload 6, 2) := dcs_at ok33_bank_0_18 14 rfl
theorem dX9_whose_32 : decode cX9_whose 32 = .ok (.iload_n 3, 1) := dcs_at ok33_bank_0_18 15 rfl
theorem dX9_whose_33 : decode cX9_whose 33 = .ok (.invokevirtual 181, 3) := dcs_at ok33_bank_0_18 16 rfl
theorem dX9_whose_36 : decode cX9_whose 36 = .ok (.ifCond .ne 6, 3) := dcs_at ok33_bank_0_18 17 rfl
theorem dX9_whose_39 : decode cX9_whose 39 = .ok (.bipush (-2), 2) := dcs_at ok33_bank_0_18 18 rfl
theorem dX9_whose_41 : decode cX9_whose 41 = .ok (.ireturn, 1) := dcs_at ok33_bank_0_18 19 rfl
theorem dX9_whose_42 : decode cX9_whose 42 = .ok (.aload_n 0, 1) := dcs_at ok33_bank_0_18 20 rfl
theorem dX9_whose_43 : decode cX9_whose 43 = .ok (.getfield 51, 3) := dcs_at ok33_bank_0_18 21 rfl
theorem dX9_whose_46 : decode cX9_whose 46 = .ok (.aload 5, 2) := dcs_at ok33_bank_0_18 22 rfl
theorem dX9_whose_48 : decode cX9_whose 48 = .ok (.aload 6, 2) := dcs_at ok33_bank_0_18 23 rfl
theorem dX9_whose_50 : decode cX9_whose 50 = .ok (.invokevirtual 189, 3) := dcs_at ok33_bank_0_18 24 rfl
theorem dX9_whose_53 : decode cX9_whose 53 = .ok (.aload_n 0, 1) := dcs_at ok33_bank_0_18 25 rfl
theorem dX9_whose_54 : decode cX9_whose 54 = .ok (.getfield 51, 3) := dcs_at ok33_bank_0_18 26 rfl
theorem dX9_whose_57 : decode cX9_whose 57 = .ok (.iload_n 3, 1) := dcs_at ok33_bank_0_18 27 rfl
theorem dX9_whose_58 : decode cX9_whose 58 = .ok (.invokevirtual 197, 3) := dcs_at ok33_bank_0_18 28 rfl
theorem dX9_whose_61 : decode cX9_whose 61 = .ok (.iload 4, 2) := dcs_at ok33_bank_0_18 29 rfl
theorem dX9_whose_63 : decode cX9_whose 63 = .ok (.ifCond .eq 13, 3) := dcs_at ok33_bank_0_18 30 rfl
theorem dX9_whose_66 : decode cX9_whose 66 = .ok (.aload_n 0, 1) := dcs_at ok33_bank_0_18 31 rfl
theorem dX9_whose_67 : decode cX9_whose 67 = .ok (.getfield 51, 3) := dcs_at ok33_bank_0_18 32 rfl
theorem dX9_whose_70 : decode cX9_whose 70 = .ok (.getfield 200, 3) := dcs_at ok33_bank_0_18 33 rfl
theorem dX9_whose_73 : decode cX9_whose 73 = .ok (.goto 10, 3) := dcs_at ok33_bank_0_18 34 rfl
theorem dX9_whose_76 : decode cX9_whose 76 = .ok (.aload_n 0, 1) := dcs_at ok33_bank_0_18 35 rfl
theorem dX9_whose_77 : decode cX9_whose 77 = .ok (.getfield 51, 3) := dcs_at ok33_bank_0_18 36 rfl
theorem dX9_whose_80 : decode cX9_whose 80 = .ok (.getfield 203, 3) := dcs_at ok33_bank_0_18 37 rfl
theorem dX9_whose_83 : decode cX9_whose 83 = .ok (.ireturn, 1) := dcs_at ok33_bank_0_18 38 rfl
def tb33_bank_0_19 : List (Nat × (Instr × Nat)) := [(0, (.aload_n 0, 1)), (1, (.getfield 10, 3)), (4, (.iload_n 1, 1)), (5, (.invokevirtual 87, 3)), (8, (.astore 5, 2)), (10, (.aload 5, 2)), (12, (.ifnull 13, 3)), (15, (.iload_n 3, 1)), (16, (.ifCond .lt 9, 3)), (19, (.iload_n 3, 1)), (20, (.bipush 20, 2)), (22, (.if_icmp .le 5, 3)), (25, (.iconst (-1), 1)), (26, (.ireturn, 1)), (27, (.iload 4, 2)), (29, (.bipush 10, 2)), (31, (.if_icmp .lt 20, 3)), (34, (.iload 4, 2)), (36, (.bipush 10, 2)), (38, (.isub, 1)), (39, (.aload 5, 2)), (41, (.getfield 206, 3)), (44, (.if_icmp .ge 7, 3)), (47, (.iconst 1, 1)), (48, (.goto 4, 3)), (51, (.iconst 0, 1)), (52, (.istore 6, 2)), (54, (.iload 4, 2)), (56, (.ifCond .eq 16, 3)), (59, (.iload 4, 2)), (61, (.iconst 1, 1)), (62, (.if_icmp .eq 10, 3)), (65, (.iload 6, 2)), (67, (.ifCond .ne 5, 3)), (70, (.iconst (-1), 1)), (71, (.ireturn, 1)), (72, (.aload_n 0, 1)), (73, (.getfield 30, 3)), (76, (.aload 5, 2)), (78, (.iload_n 2, 1))]
theorem ok33_bank_0_19 : dcs cX9_drawn tb33_bank_0_19 = true := by decide +kernel
theorem dX9_drawn_0 : decode cX9_drawn 0 = .ok (.aload_n 0, 1) := dcs_at ok33_bank_0_19 0 rfl
theorem dX9_drawn_1 : decode cX9_drawn 1 = .ok (.getfield 10, 3) := dcs_at ok33_bank_0_19 1 rfl
theorem dX9_drawn_4 : decode cX9_drawn 4 = .ok (.iload_n 1, 1) := dcs_at ok33_bank_0_19 2 rfl
theorem dX9_drawn_5 : decode cX9_drawn 5 = .ok (.invokevirtual 87, 3) := dcs_at ok33_bank_0_19 3 rfl
theorem dX9_drawn_8 : decode cX9_drawn 8 = .ok (.astore 5, 2) := dcs_at ok33_bank_0_19 4 rfl
theorem dX9_drawn_10 : decode cX9_drawn 10 = .ok (.aload 5, 2) := dcs_at ok33_bank_0_19 5 rfl
theorem dX9_drawn_12 : decode cX9_drawn 12 = .ok (.ifnull 13, 3) := dcs_at ok33_bank_0_19 6 rfl
theorem dX9_drawn_15 : decode cX9_drawn 15 = .ok (.iload_n 3, 1) := dcs_at ok33_bank_0_19 7 rfl
theorem dX9_drawn_16 : decode cX9_drawn 16 = .ok (.ifCond .lt 9, 3) := dcs_at ok33_bank_0_19 8 rfl
theorem dX9_drawn_19 : decode cX9_drawn 19 = .ok (.iload_n 3, 1) := dcs_at ok33_bank_0_19 9 rfl
theorem dX9_drawn_20 : decode cX9_drawn 20 = .ok (.bipush 20, 2) := dcs_at ok33_bank_0_19 10 rfl
theorem dX9_drawn_22 : decode cX9_drawn 22 = .ok (.if_icmp .le 5, 3) := dcs_at ok33_bank_0_19 11 rfl
theorem dX9_drawn_25 : decode cX9_drawn 25 = .ok (.iconst (-1), 1) := dcs_at ok33_bank_0_19 12 rfl
theorem dX9_drawn_26 : decode cX9_drawn 26 = .ok (.ireturn, 1) := dcs_at ok33_bank_0_19 13 rfl
theorem dX9_drawn_27 : decode cX9_drawn 27 = .ok (.iload 4, 2) := dcs_at ok33_bank_0_19 14 rfl
theorem dX9_drawn_29 : decode cX9_drawn 29 = .ok (.bipush 10, 2) := dcs_at ok33_bank_0_19 15 rfl
theorem dX9_drawn_31 : decode cX9_drawn 31 = .ok (.if_icmp .lt 20, 3) := dcs_at ok33_bank_0_19 16 rfl
theorem dX9_drawn_34 : decode cX9_drawn 34 = .ok (.iload 4, 2) := dcs_at ok33_bank_0_19 17 rfl
theorem dX9_drawn_36 : decode cX9_drawn 36 = .ok (.bipush 10, 2) := dcs_at ok33_bank_0_19 18 rfl
theorem dX9_drawn_38 : decode cX9_drawn 38 = .ok (.isub, 1) := dcs_at ok33_bank_0_19 19 rfl
theorem dX9_drawn_39 : decode cX9_drawn 39 = .ok (.aload 5, 2) := dcs_at ok33_bank_0_19 20 rfl
theorem dX9_drawn_41 : decode cX9_drawn 41 = .ok (.getfield 206, 3) := dcs_at ok33_bank_0_19 21 rfl
theorem dX9_drawn_44 : decode cX9_drawn 44 = .ok (.if_icmp .ge 7, 3) := dcs_at ok33_bank_0_19 22 rfl
theorem dX9_drawn_47 : decode cX9_drawn 47 = .ok (.iconst 1, 1) := dcs_at ok33_bank_0_19 23 rfl
theorem dX9_drawn_48 : decode cX9_drawn 48 = .ok (.goto 4, 3) := dcs_at ok33_bank_0_19 24 rfl
theorem dX9_drawn_51 : decode cX9_drawn 51 = .ok (.iconst 0, 1) := dcs_at ok33_bank_0_19 25 rfl
theorem dX9_drawn_52 : decode cX9_drawn 52 = .ok (.istore 6, 2) := dcs_at ok33_bank_0_19 26 rfl
theorem dX9_drawn_54 : decode cX9_drawn 54 = .ok (.iload 4, 2) := dcs_at ok33_bank_0_19 27 rfl
theorem dX9_drawn_56 : decode cX9_drawn 56 = .ok (.ifCond .eq 16, 3) := dcs_at ok33_bank_0_19 28 rfl
theorem dX9_drawn_59 : decode cX9_drawn 59 = .ok (.iload 4, 2) := dcs_at ok33_bank_0_19 29 rfl
theorem dX9_drawn_61 : decode cX9_drawn 61 = .ok (.iconst 1, 1) := dcs_at ok33_bank_0_19 30 rfl
theorem dX9_drawn_62 : decode cX9_drawn 62 = .ok (.if_icmp .eq 10, 3) := dcs_at ok33_bank_0_19 31 rfl
theorem dX9_drawn_65 : decode cX9_drawn 65 = .ok (.iload 6, 2) := dcs_at ok33_bank_0_19 32 rfl
theorem dX9_drawn_67 : decode cX9_drawn 67 = .ok (.ifCond .ne 5, 3) := dcs_at ok33_bank_0_19 33 rfl
theorem dX9_drawn_70 : decode cX9_drawn 70 = .ok (.iconst (-1), 1) := dcs_at ok33_bank_0_19 34 rfl
theorem dX9_drawn_71 : decode cX9_drawn 71 = .ok (.ireturn, 1) := dcs_at ok33_bank_0_19 35 rfl
theorem dX9_drawn_72 : decode cX9_drawn 72 = .ok (.aload_n 0, 1) := dcs_at ok33_bank_0_19 36 rfl
theorem dX9_drawn_73 : decode cX9_drawn 73 = .ok (.getfield 30, 3) := dcs_at ok33_bank_0_19 37 rfl
theorem dX9_drawn_76 : decode cX9_drawn 76 = .ok (.aload 5, 2) := dcs_at ok33_bank_0_19 38 rfl
theorem dX9_drawn_78 : decode cX9_drawn 78 = .ok (.iload_n 2, 1) := dcs_at ok33_bank_0_19 39 rfl
def tb33_bank_0_20 : List (Nat × (Instr × Nat)) := [(79, (.iload_n 3, 1)), (80, (.invokevirtual 209, 3)), (83, (.iload 6, 2)), (85, (.ifCond .eq 17, 3)), (88, (.aload_n 0, 1)), (89, (.getfield 30, 3)), (92, (.getfield 213, 3)), (95, (.iload 4, 2)), (97, (.bipush 10, 2)), (99, (.isub, 1)), (100, (.iaload, 1)), (101, (.ireturn, 1)), (102, (.iload 4, 2)), (104, (.ifCond .ne 13, 3)), (107, (.aload_n 0, 1)), (108, (.getfield 30, 3)), (111, (.invokevirtual 216, 3)), (114, (.goto 10, 3)), (117, (.aload_n 0, 1)), (118, (.getfield 30, 3)), (121, (.getfield 219, 3)), (124, (.ireturn, 1))]
theorem ok33_bank_0_20 : dcs cX9_drawn tb33_bank_0_20 = true := by decide +kernel
theorem dX9_drawn_79 : decode cX9_drawn 79 = .ok (.iload_n 3, 1) := dcs_at ok33_bank_0_20 0 rfl
theorem dX9_drawn_80 : decode cX9_drawn 80 = .ok (.invokevirtual 209, 3) := dcs_at ok33_bank_0_20 1 rfl
theorem dX9_drawn_83 : decode cX9_drawn 83 = .ok (.iload 6, 2) := dcs_at ok33_bank_0_20 2 rfl
theorem dX9_drawn_85 : decode cX9_drawn 85 = .ok (.ifCond .eq 17, 3) := dcs_at ok33_bank_0_20 3 rfl
theorem dX9_drawn_88 : decode cX9_drawn 88 = .ok (.aload_n 0, 1) := dcs_at ok33_bank_0_20 4 rfl
theorem dX9_drawn_89 : decode cX9_drawn 89 = .ok (.getfield 30, 3) := dcs_at ok33_bank_0_20 5 rfl
theorem dX9_drawn_92 : decode cX9_drawn 92 = .ok (.getfield 213, 3) := dcs_at ok33_bank_0_20 6 rfl
theorem dX9_drawn_95 : decode cX9_drawn 95 = .ok (.iload 4, 2) := dcs_at ok33_bank_0_20 7 rfl
theorem dX9_drawn_97 : decode cX9_drawn 97 = .ok (.bipush 10, 2) := dcs_at ok33_bank_0_20 8 rfl
theorem dX9_drawn_99 : decode cX9_drawn 99 = .ok (.isub, 1) := dcs_at ok33_bank_0_20 9 rfl
theorem dX9_drawn_100 : decode cX9_drawn 100 = .ok (.iaload, 1) := dcs_at ok33_bank_0_20 10 rfl
theorem dX9_drawn_101 : decode cX9_drawn 101 = .ok (.ireturn, 1) := dcs_at ok33_bank_0_20 11 rfl
theorem dX9_drawn_102 : decode cX9_drawn 102 = .ok (.iload 4, 2) := dcs_at ok33_bank_0_20 12 rfl
theorem dX9_drawn_104 : decode cX9_drawn 104 = .ok (.ifCond .ne 13, 3) := dcs_at ok33_bank_0_20 13 rfl
theorem dX9_drawn_107 : decode cX9_drawn 107 = .ok (.aload_n 0, 1) := dcs_at ok33_bank_0_20 14 rfl
theorem dX9_drawn_108 : decode cX9_drawn 108 = .ok (.getfield 30, 3) := dcs_at ok33_bank_0_20 15 rfl
theorem dX9_drawn_111 : decode cX9_drawn 111 = .ok (.invokevirtual 216, 3) := dcs_at ok33_bank_0_20 16 rfl
theorem dX9_drawn_114 : decode cX9_drawn 114 = .ok (.goto 10, 3) := dcs_at ok33_bank_0_20 17 rfl
theorem dX9_drawn_117 : decode cX9_drawn 117 = .ok (.aload_n 0, 1) := dcs_at ok33_bank_0_20 18 rfl
theorem dX9_drawn_118 : decode cX9_drawn 118 = .ok (.getfield 30, 3) := dcs_at ok33_bank_0_20 19 rfl
theorem dX9_drawn_121 : decode cX9_drawn 121 = .ok (.getfield 219, 3) := dcs_at ok33_bank_0_20 20 rfl
theorem dX9_drawn_124 : decode cX9_drawn 124 = .ok (.ireturn, 1) := dcs_at ok33_bank_0_20 21 rfl
def tb33_bank_0_21 : List (Nat × (Instr × Nat)) := [(0, (.aload_n 0, 1)), (1, (.iload_n 1, 1)), (2, (.iload_n 2, 1)), (3, (.iload_n 3, 1)), (4, (.invokevirtual 113, 3)), (7, (.ifCond .ne 6, 3)), (10, (.bipush (-2), 2)), (12, (.ireturn, 1)), (13, (.iload 4, 2)), (15, (.ifCond .ne 11, 3)), (18, (.aload_n 0, 1)), (19, (.getfield 30, 3)), (22, (.invokevirtual 222, 3)), (25, (.ireturn, 1)), (26, (.iload 4, 2)), (28, (.iconst 1, 1)), (29, (.if_icmp .ne 11, 3)), (32, (.aload_n 0, 1)), (33, (.getfield 30, 3)), (36, (.invokevirtual 225, 3)), (39, (.ireturn, 1)), (40, (.iload 4, 2)), (42, (.bipush 10, 2)), (44, (.if_icmp .lt 31, 3)), (47, (.aload_n 0, 1)), (48, (.getfield 30, 3)), (51, (.iload 4, 2)), (53, (.bipush 10, 2)), (55, (.isub, 1)), (56, (.invokevirtual 125, 3)), (59, (.ifCond .eq 16, 3)), (62, (.aload_n 0, 1)), (63, (.getfield 30, 3)), (66, (.iload 4, 2)), (68, (.bipush 10, 2)), (70, (.isub, 1)), (71, (.invokevirtual 228, 3)), (74, (.ireturn, 1)), (75, (.iload 4, 2)), (77, (.bipush 20, 2))]
theorem ok33_bank_0_21 : dcs cX9_look tb33_bank_0_21 = true := by decide +kernel
theorem dX9_look_0 : decode cX9_look 0 = .ok (.aload_n 0, 1) := dcs_at ok33_bank_0_21 0 rfl
theorem dX9_look_1 : decode cX9_look 1 = .ok (.iload_n 1, 1) := dcs_at ok33_bank_0_21 1 rfl
theorem dX9_look_2 : decode cX9_look 2 = .ok (.iload_n 2, 1) := dcs_at ok33_bank_0_21 2 rfl
theorem dX9_look_3 : decode cX9_look 3 = .ok (.iload_n 3, 1) := dcs_at ok33_bank_0_21 3 rfl
theorem dX9_look_4 : decode cX9_look 4 = .ok (.invokevirtual 113, 3) := dcs_at ok33_bank_0_21 4 rfl
theorem dX9_look_7 : decode cX9_look 7 = .ok (.ifCond .ne 6, 3) := dcs_at ok33_bank_0_21 5 rfl
theorem dX9_look_10 : decode cX9_look 10 = .ok (.bipush (-2), 2) := dcs_at ok33_bank_0_21 6 rfl
theorem dX9_look_12 : decode cX9_look 12 = .ok (.ireturn, 1) := dcs_at ok33_bank_0_21 7 rfl
theorem dX9_look_13 : decode cX9_look 13 = .ok (.iload 4, 2) := dcs_at ok33_bank_0_21 8 rfl
theorem dX9_look_15 : decode cX9_look 15 = .ok (.ifCond .ne 11, 3) := dcs_at ok33_bank_0_21 9 rfl
theorem dX9_look_18 : decode cX9_look 18 = .ok (.aload_n 0, 1) := dcs_at ok33_bank_0_21 10 rfl
theorem dX9_look_19 : decode cX9_look 19 = .ok (.getfield 30, 3) := dcs_at ok33_bank_0_21 11 rfl
theorem dX9_look_22 : decode cX9_look 22 = .ok (.invokevirtual 222, 3) := dcs_at ok33_bank_0_21 12 rfl
theorem dX9_look_25 : decode cX9_look 25 = .ok (.ireturn, 1) := dcs_at ok33_bank_0_21 13 rfl
theorem dX9_look_26 : decode cX9_look 26 = .ok (.iload 4, 2) := dcs_at ok33_bank_0_21 14 rfl
theorem dX9_look_28 : decode cX9_look 28 = .ok (.iconst 1, 1) := dcs_at ok33_bank_0_21 15 rfl
theorem dX9_look_29 : decode cX9_look 29 = .ok (.if_icmp .ne 11, 3) := dcs_at ok33_bank_0_21 16 rfl
theorem dX9_look_32 : decode cX9_look 32 = .ok (.aload_n 0, 1) := dcs_at ok33_bank_0_21 17 rfl
theorem dX9_look_33 : decode cX9_look 33 = .ok (.getfield 30, 3) := dcs_at ok33_bank_0_21 18 rfl
theorem dX9_look_36 : decode cX9_look 36 = .ok (.invokevirtual 225, 3) := dcs_at ok33_bank_0_21 19 rfl
theorem dX9_look_39 : decode cX9_look 39 = .ok (.ireturn, 1) := dcs_at ok33_bank_0_21 20 rfl
theorem dX9_look_40 : decode cX9_look 40 = .ok (.iload 4, 2) := dcs_at ok33_bank_0_21 21 rfl
theorem dX9_look_42 : decode cX9_look 42 = .ok (.bipush 10, 2) := dcs_at ok33_bank_0_21 22 rfl
theorem dX9_look_44 : decode cX9_look 44 = .ok (.if_icmp .lt 31, 3) := dcs_at ok33_bank_0_21 23 rfl
theorem dX9_look_47 : decode cX9_look 47 = .ok (.aload_n 0, 1) := dcs_at ok33_bank_0_21 24 rfl
theorem dX9_look_48 : decode cX9_look 48 = .ok (.getfield 30, 3) := dcs_at ok33_bank_0_21 25 rfl
theorem dX9_look_51 : decode cX9_look 51 = .ok (.iload 4, 2) := dcs_at ok33_bank_0_21 26 rfl
theorem dX9_look_53 : decode cX9_look 53 = .ok (.bipush 10, 2) := dcs_at ok33_bank_0_21 27 rfl
theorem dX9_look_55 : decode cX9_look 55 = .ok (.isub, 1) := dcs_at ok33_bank_0_21 28 rfl
theorem dX9_look_56 : decode cX9_look 56 = .ok (.invokevirtual 125, 3) := dcs_at ok33_bank_0_21 29 rfl
theorem dX9_look_59 : decode cX9_look 59 = .ok (.ifCond .eq 16, 3) := dcs_at ok33_bank_0_21 30 rfl
theorem dX9_look_62 : decode cX9_look 62 = .ok (.aload_n 0, 1) := dcs_at ok33_bank_0_21 31 rfl
theorem dX9_look_63 : decode cX9_look 63 = .ok (.getfield 30, 3) := dcs_at ok33_bank_0_21 32 rfl
theorem dX9_look_66 : decode cX9_look 66 = .ok (.iload 4, 2) := dcs_at ok33_bank_0_21 33 rfl
theorem dX9_look_68 : decode cX9_look 68 = .ok (.bipush 10, 2) := dcs_at ok33_bank_0_21 34 rfl
theorem dX9_look_70 : decode cX9_look 70 = .ok (.isub, 1) := dcs_at ok33_bank_0_21 35 rfl
theorem dX9_look_71 : decode cX9_look 71 = .ok (.invokevirtual 228, 3) := dcs_at ok33_bank_0_21 36 rfl
theorem dX9_look_74 : decode cX9_look 74 = .ok (.ireturn, 1) := dcs_at ok33_bank_0_21 37 rfl
theorem dX9_look_75 : decode cX9_look 75 = .ok (.iload 4, 2) := dcs_at ok33_bank_0_21 38 rfl
theorem dX9_look_77 : decode cX9_look 77 = .ok (.bipush 20, 2) := dcs_at ok33_bank_0_21 39 rfl
def tb33_bank_0_22 : List (Nat × (Instr × Nat)) := [(79, (.if_icmp .lt 31, 3)), (82, (.aload_n 0, 1)), (83, (.getfield 30, 3)), (86, (.iload 4, 2)), (88, (.bipush 20, 2)), (90, (.isub, 1)), (91, (.invokevirtual 125, 3)), (94, (.ifCond .eq 16, 3)), (97, (.aload_n 0, 1)), (98, (.getfield 30, 3)), (101, (.iload 4, 2)), (103, (.bipush 20, 2)), (105, (.isub, 1)), (106, (.invokevirtual 231, 3)), (109, (.ireturn, 1)), (110, (.bipush (-2), 2)), (112, (.ireturn, 1))]
theorem ok33_bank_0_22 : dcs cX9_look tb33_bank_0_22 = true := by decide +kernel
theorem dX9_look_79 : decode cX9_look 79 = .ok (.if_icmp .lt 31, 3) := dcs_at ok33_bank_0_22 0 rfl
theorem dX9_look_82 : decode cX9_look 82 = .ok (.aload_n 0, 1) := dcs_at ok33_bank_0_22 1 rfl
theorem dX9_look_83 : decode cX9_look 83 = .ok (.getfield 30, 3) := dcs_at ok33_bank_0_22 2 rfl
theorem dX9_look_86 : decode cX9_look 86 = .ok (.iload 4, 2) := dcs_at ok33_bank_0_22 3 rfl
theorem dX9_look_88 : decode cX9_look 88 = .ok (.bipush 20, 2) := dcs_at ok33_bank_0_22 4 rfl
theorem dX9_look_90 : decode cX9_look 90 = .ok (.isub, 1) := dcs_at ok33_bank_0_22 5 rfl
theorem dX9_look_91 : decode cX9_look 91 = .ok (.invokevirtual 125, 3) := dcs_at ok33_bank_0_22 6 rfl
theorem dX9_look_94 : decode cX9_look 94 = .ok (.ifCond .eq 16, 3) := dcs_at ok33_bank_0_22 7 rfl
theorem dX9_look_97 : decode cX9_look 97 = .ok (.aload_n 0, 1) := dcs_at ok33_bank_0_22 8 rfl
theorem dX9_look_98 : decode cX9_look 98 = .ok (.getfield 30, 3) := dcs_at ok33_bank_0_22 9 rfl
theorem dX9_look_101 : decode cX9_look 101 = .ok (.iload 4, 2) := dcs_at ok33_bank_0_22 10 rfl
theorem dX9_look_103 : decode cX9_look 103 = .ok (.bipush 20, 2) := dcs_at ok33_bank_0_22 11 rfl
theorem dX9_look_105 : decode cX9_look 105 = .ok (.isub, 1) := dcs_at ok33_bank_0_22 12 rfl
theorem dX9_look_106 : decode cX9_look 106 = .ok (.invokevirtual 231, 3) := dcs_at ok33_bank_0_22 13 rfl
theorem dX9_look_109 : decode cX9_look 109 = .ok (.ireturn, 1) := dcs_at ok33_bank_0_22 14 rfl
theorem dX9_look_110 : decode cX9_look 110 = .ok (.bipush (-2), 2) := dcs_at ok33_bank_0_22 15 rfl
theorem dX9_look_112 : decode cX9_look 112 = .ok (.ireturn, 1) := dcs_at ok33_bank_0_22 16 rfl
def tb33_bank_0_23 : List (Nat × (Instr × Nat)) := [(0, (.aload_n 0, 1)), (1, (.getfield 10, 3)), (4, (.iload_n 1, 1)), (5, (.invokevirtual 87, 3)), (8, (.astore 4, 2)), (10, (.aload_n 0, 1)), (11, (.getfield 10, 3)), (14, (.iload_n 2, 1)), (15, (.invokevirtual 96, 3)), (18, (.astore 5, 2)), (20, (.aload 4, 2)), (22, (.ifnull 8, 3)), (25, (.aload 5, 2)), (27, (.ifnonnull 5, 3)), (30, (.iconst (-1), 1)), (31, (.ireturn, 1)), (32, (.aload_n 0, 1)), (33, (.getfield 30, 3)), (36, (.aload 4, 2)), (38, (.aload 5, 2)), (40, (.invokevirtual 109, 3)), (43, (.istore 6, 2)), (45, (.iconst (-1), 1)), (46, (.istore 7, 2)), (48, (.iconst (-1), 1)), (49, (.istore 8, 2)), (51, (.iconst 0, 1)), (52, (.istore 9, 2)), (54, (.iload 9, 2)), (56, (.aload 4, 2)), (58, (.getfield 234, 3)), (61, (.if_icmp .ge 57, 3)), (64, (.aload_n 0, 1)), (65, (.getfield 30, 3)), (68, (.aload 4, 2)), (70, (.aload 5, 2)), (72, (.iload 6, 2)), (74, (.iload 9, 2)), (76, (.invokevirtual 237, 3)), (79, (.aload 4, 2))]
theorem ok33_bank_0_23 : dcs cX9_silence tb33_bank_0_23 = true := by decide +kernel
theorem dX9_silence_0 : decode cX9_silence 0 = .ok (.aload_n 0, 1) := dcs_at ok33_bank_0_23 0 rfl
theorem dX9_silence_1 : decode cX9_silence 1 = .ok (.getfield 10, 3) := dcs_at ok33_bank_0_23 1 rfl
theorem dX9_silence_4 : decode cX9_silence 4 = .ok (.iload_n 1, 1) := dcs_at ok33_bank_0_23 2 rfl
theorem dX9_silence_5 : decode cX9_silence 5 = .ok (.invokevirtual 87, 3) := dcs_at ok33_bank_0_23 3 rfl
theorem dX9_silence_8 : decode cX9_silence 8 = .ok (.astore 4, 2) := dcs_at ok33_bank_0_23 4 rfl
theorem dX9_silence_10 : decode cX9_silence 10 = .ok (.aload_n 0, 1) := dcs_at ok33_bank_0_23 5 rfl
theorem dX9_silence_11 : decode cX9_silence 11 = .ok (.getfield 10, 3) := dcs_at ok33_bank_0_23 6 rfl
theorem dX9_silence_14 : decode cX9_silence 14 = .ok (.iload_n 2, 1) := dcs_at ok33_bank_0_23 7 rfl
theorem dX9_silence_15 : decode cX9_silence 15 = .ok (.invokevirtual 96, 3) := dcs_at ok33_bank_0_23 8 rfl
theorem dX9_silence_18 : decode cX9_silence 18 = .ok (.astore 5, 2) := dcs_at ok33_bank_0_23 9 rfl
theorem dX9_silence_20 : decode cX9_silence 20 = .ok (.aload 4, 2) := dcs_at ok33_bank_0_23 10 rfl
theorem dX9_silence_22 : decode cX9_silence 22 = .ok (.ifnull 8, 3) := dcs_at ok33_bank_0_23 11 rfl
theorem dX9_silence_25 : decode cX9_silence 25 = .ok (.aload 5, 2) := dcs_at ok33_bank_0_23 12 rfl
theorem dX9_silence_27 : decode cX9_silence 27 = .ok (.ifnonnull 5, 3) := dcs_at ok33_bank_0_23 13 rfl
theorem dX9_silence_30 : decode cX9_silence 30 = .ok (.iconst (-1), 1) := dcs_at ok33_bank_0_23 14 rfl
theorem dX9_silence_31 : decode cX9_silence 31 = .ok (.ireturn, 1) := dcs_at ok33_bank_0_23 15 rfl
theorem dX9_silence_32 : decode cX9_silence 32 = .ok (.aload_n 0, 1) := dcs_at ok33_bank_0_23 16 rfl
theorem dX9_silence_33 : decode cX9_silence 33 = .ok (.getfield 30, 3) := dcs_at ok33_bank_0_23 17 rfl
theorem dX9_silence_36 : decode cX9_silence 36 = .ok (.aload 4, 2) := dcs_at ok33_bank_0_23 18 rfl
theorem dX9_silence_38 : decode cX9_silence 38 = .ok (.aload 5, 2) := dcs_at ok33_bank_0_23 19 rfl
theorem dX9_silence_40 : decode cX9_silence 40 = .ok (.invokevirtual 109, 3) := dcs_at ok33_bank_0_23 20 rfl
theorem dX9_silence_43 : decode cX9_silence 43 = .ok (.istore 6, 2) := dcs_at ok33_bank_0_23 21 rfl
theorem dX9_silence_45 : decode cX9_silence 45 = .ok (.iconst (-1), 1) := dcs_at ok33_bank_0_23 22 rfl
theorem dX9_silence_46 : decode cX9_silence 46 = .ok (.istore 7, 2) := dcs_at ok33_bank_0_23 23 rfl
theorem dX9_silence_48 : decode cX9_silence 48 = .ok (.iconst (-1), 1) := dcs_at ok33_bank_0_23 24 rfl
theorem dX9_silence_49 : decode cX9_silence 49 = .ok (.istore 8, 2) := dcs_at ok33_bank_0_23 25 rfl
theorem dX9_silence_51 : decode cX9_silence 51 = .ok (.iconst 0, 1) := dcs_at ok33_bank_0_23 26 rfl
theorem dX9_silence_52 : decode cX9_silence 52 = .ok (.istore 9, 2) := dcs_at ok33_bank_0_23 27 rfl
theorem dX9_silence_54 : decode cX9_silence 54 = .ok (.iload 9, 2) := dcs_at ok33_bank_0_23 28 rfl
theorem dX9_silence_56 : decode cX9_silence 56 = .ok (.aload 4, 2) := dcs_at ok33_bank_0_23 29 rfl
theorem dX9_silence_58 : decode cX9_silence 58 = .ok (.getfield 234, 3) := dcs_at ok33_bank_0_23 30 rfl
theorem dX9_silence_61 : decode cX9_silence 61 = .ok (.if_icmp .ge 57, 3) := dcs_at ok33_bank_0_23 31 rfl
theorem dX9_silence_64 : decode cX9_silence 64 = .ok (.aload_n 0, 1) := dcs_at ok33_bank_0_23 32 rfl
theorem dX9_silence_65 : decode cX9_silence 65 = .ok (.getfield 30, 3) := dcs_at ok33_bank_0_23 33 rfl
theorem dX9_silence_68 : decode cX9_silence 68 = .ok (.aload 4, 2) := dcs_at ok33_bank_0_23 34 rfl
theorem dX9_silence_70 : decode cX9_silence 70 = .ok (.aload 5, 2) := dcs_at ok33_bank_0_23 35 rfl
theorem dX9_silence_72 : decode cX9_silence 72 = .ok (.iload 6, 2) := dcs_at ok33_bank_0_23 36 rfl
theorem dX9_silence_74 : decode cX9_silence 74 = .ok (.iload 9, 2) := dcs_at ok33_bank_0_23 37 rfl
theorem dX9_silence_76 : decode cX9_silence 76 = .ok (.invokevirtual 237, 3) := dcs_at ok33_bank_0_23 38 rfl
theorem dX9_silence_79 : decode cX9_silence 79 = .ok (.aload 4, 2) := dcs_at ok33_bank_0_23 39 rfl
def tb33_bank_0_24 : List (Nat × (Instr × Nat)) := [(81, (.getfield 206, 3)), (84, (.aload_n 0, 1)), (85, (.getfield 30, 3)), (88, (.invokevirtual 216, 3)), (91, (.invokestatic 241, 3)), (94, (.isub, 1)), (95, (.istore 10, 2)), (97, (.iload 10, 2)), (99, (.iload 8, 2)), (101, (.if_icmp .le 11, 3)), (104, (.iload 9, 2)), (106, (.istore 7, 2)), (108, (.iload 10, 2)), (110, (.istore 8, 2)), (112, (.iinc 9 1, 3)), (115, (.goto (-61), 3)), (118, (.iload_n 3, 1)), (119, (.ifCond .eq 8, 3)), (122, (.iload 8, 2)), (124, (.goto 5, 3)), (127, (.iload 7, 2)), (129, (.ireturn, 1))]
theorem ok33_bank_0_24 : dcs cX9_silence tb33_bank_0_24 = true := by decide +kernel
theorem dX9_silence_81 : decode cX9_silence 81 = .ok (.getfield 206, 3) := dcs_at ok33_bank_0_24 0 rfl
theorem dX9_silence_84 : decode cX9_silence 84 = .ok (.aload_n 0, 1) := dcs_at ok33_bank_0_24 1 rfl
theorem dX9_silence_85 : decode cX9_silence 85 = .ok (.getfield 30, 3) := dcs_at ok33_bank_0_24 2 rfl
theorem dX9_silence_88 : decode cX9_silence 88 = .ok (.invokevirtual 216, 3) := dcs_at ok33_bank_0_24 3 rfl
theorem dX9_silence_91 : decode cX9_silence 91 = .ok (.invokestatic 241, 3) := dcs_at ok33_bank_0_24 4 rfl
theorem dX9_silence_94 : decode cX9_silence 94 = .ok (.isub, 1) := dcs_at ok33_bank_0_24 5 rfl
theorem dX9_silence_95 : decode cX9_silence 95 = .ok (.istore 10, 2) := dcs_at ok33_bank_0_24 6 rfl
theorem dX9_silence_97 : decode cX9_silence 97 = .ok (.iload 10, 2) := dcs_at ok33_bank_0_24 7 rfl
theorem dX9_silence_99 : decode cX9_silence 99 = .ok (.iload 8, 2) := dcs_at ok33_bank_0_24 8 rfl
theorem dX9_silence_101 : decode cX9_silence 101 = .ok (.if_icmp .le 11, 3) := dcs_at ok33_bank_0_24 9 rfl
theorem dX9_silence_104 : decode cX9_silence 104 = .ok (.iload 9, 2) := dcs_at ok33_bank_0_24 10 rfl
theorem dX9_silence_106 : decode cX9_silence 106 = .ok (.istore 7, 2) := dcs_at ok33_bank_0_24 11 rfl
theorem dX9_silence_108 : decode cX9_silence 108 = .ok (.iload 10, 2) := dcs_at ok33_bank_0_24 12 rfl
theorem dX9_silence_110 : decode cX9_silence 110 = .ok (.istore 8, 2) := dcs_at ok33_bank_0_24 13 rfl
theorem dX9_silence_112 : decode cX9_silence 112 = .ok (.iinc 9 1, 3) := dcs_at ok33_bank_0_24 14 rfl
theorem dX9_silence_115 : decode cX9_silence 115 = .ok (.goto (-61), 3) := dcs_at ok33_bank_0_24 15 rfl
theorem dX9_silence_118 : decode cX9_silence 118 = .ok (.iload_n 3, 1) := dcs_at ok33_bank_0_24 16 rfl
theorem dX9_silence_119 : decode cX9_silence 119 = .ok (.ifCond .eq 8, 3) := dcs_at ok33_bank_0_24 17 rfl
theorem dX9_silence_122 : decode cX9_silence 122 = .ok (.iload 8, 2) := dcs_at ok33_bank_0_24 18 rfl
theorem dX9_silence_124 : decode cX9_silence 124 = .ok (.goto 5, 3) := dcs_at ok33_bank_0_24 19 rfl
theorem dX9_silence_127 : decode cX9_silence 127 = .ok (.iload 7, 2) := dcs_at ok33_bank_0_24 20 rfl
theorem dX9_silence_129 : decode cX9_silence 129 = .ok (.ireturn, 1) := dcs_at ok33_bank_0_24 21 rfl
def tb33_bank_0_25 : List (Nat × (Instr × Nat)) := [(0, (.aload_n 0, 1)), (1, (.getfield 10, 3)), (4, (.iload_n 1, 1)), (5, (.invokevirtual 69, 3)), (8, (.ireturn, 1))]
theorem ok33_bank_0_25 : dcs cX9_count tb33_bank_0_25 = true := by decide +kernel
theorem dX9_count_0 : decode cX9_count 0 = .ok (.aload_n 0, 1) := dcs_at ok33_bank_0_25 0 rfl
theorem dX9_count_1 : decode cX9_count 1 = .ok (.getfield 10, 3) := dcs_at ok33_bank_0_25 1 rfl
theorem dX9_count_4 : decode cX9_count 4 = .ok (.iload_n 1, 1) := dcs_at ok33_bank_0_25 2 rfl
theorem dX9_count_5 : decode cX9_count 5 = .ok (.invokevirtual 69, 3) := dcs_at ok33_bank_0_25 3 rfl
theorem dX9_count_8 : decode cX9_count 8 = .ok (.ireturn, 1) := dcs_at ok33_bank_0_25 4 rfl
def tb33_bank_0_26 : List (Nat × (Instr × Nat)) := [(0, (.aload_n 0, 1)), (1, (.getfield 10, 3)), (4, (.iload_n 1, 1)), (5, (.invokevirtual 87, 3)), (8, (.astore 4, 2)), (10, (.aload_n 0, 1)), (11, (.getfield 10, 3)), (14, (.iload_n 2, 1)), (15, (.invokevirtual 96, 3)), (18, (.astore 5, 2)), (20, (.aload 4, 2)), (22, (.ifnull 21, 3)), (25, (.aload 5, 2)), (27, (.ifnull 16, 3)), (30, (.iload_n 3, 1)), (31, (.ifCond .lt 12, 3)), (34, (.iload_n 3, 1)), (35, (.aload 5, 2)), (37, (.getfield 100, 3)), (40, (.if_icmp .le 5, 3)), (43, (.iconst 0, 1)), (44, (.ireturn, 1)), (45, (.aload_n 0, 1)), (46, (.getfield 30, 3)), (49, (.aload 4, 2)), (51, (.aload 5, 2)), (53, (.iload_n 3, 1)), (54, (.invokevirtual 250, 3)), (57, (.ireturn, 1))]
theorem ok33_bank_0_26 : dcs cX9_reach tb33_bank_0_26 = true := by decide +kernel
theorem dX9_reach_0 : decode cX9_reach 0 = .ok (.aload_n 0, 1) := dcs_at ok33_bank_0_26 0 rfl
theorem dX9_reach_1 : decode cX9_reach 1 = .ok (.getfield 10, 3) := dcs_at ok33_bank_0_26 1 rfl
theorem dX9_reach_4 : decode cX9_reach 4 = .ok (.iload_n 1, 1) := dcs_at ok33_bank_0_26 2 rfl
theorem dX9_reach_5 : decode cX9_reach 5 = .ok (.invokevirtual 87, 3) := dcs_at ok33_bank_0_26 3 rfl
theorem dX9_reach_8 : decode cX9_reach 8 = .ok (.astore 4, 2) := dcs_at ok33_bank_0_26 4 rfl
theorem dX9_reach_10 : decode cX9_reach 10 = .ok (.aload_n 0, 1) := dcs_at ok33_bank_0_26 5 rfl
theorem dX9_reach_11 : decode cX9_reach 11 = .ok (.getfield 10, 3) := dcs_at ok33_bank_0_26 6 rfl
theorem dX9_reach_14 : decode cX9_reach 14 = .ok (.iload_n 2, 1) := dcs_at ok33_bank_0_26 7 rfl
theorem dX9_reach_15 : decode cX9_reach 15 = .ok (.invokevirtual 96, 3) := dcs_at ok33_bank_0_26 8 rfl
theorem dX9_reach_18 : decode cX9_reach 18 = .ok (.astore 5, 2) := dcs_at ok33_bank_0_26 9 rfl
theorem dX9_reach_20 : decode cX9_reach 20 = .ok (.aload 4, 2) := dcs_at ok33_bank_0_26 10 rfl
theorem dX9_reach_22 : decode cX9_reach 22 = .ok (.ifnull 21, 3) := dcs_at ok33_bank_0_26 11 rfl
theorem dX9_reach_25 : decode cX9_reach 25 = .ok (.aload 5, 2) := dcs_at ok33_bank_0_26 12 rfl
theorem dX9_reach_27 : decode cX9_reach 27 = .ok (.ifnull 16, 3) := dcs_at ok33_bank_0_26 13 rfl
theorem dX9_reach_30 : decode cX9_reach 30 = .ok (.iload_n 3, 1) := dcs_at ok33_bank_0_26 14 rfl
theorem dX9_reach_31 : decode cX9_reach 31 = .ok (.ifCond .lt 12, 3) := dcs_at ok33_bank_0_26 15 rfl
theorem dX9_reach_34 : decode cX9_reach 34 = .ok (.iload_n 3, 1) := dcs_at ok33_bank_0_26 16 rfl
theorem dX9_reach_35 : decode cX9_reach 35 = .ok (.aload 5, 2) := dcs_at ok33_bank_0_26 17 rfl
theorem dX9_reach_37 : decode cX9_reach 37 = .ok (.getfield 100, 3) := dcs_at ok33_bank_0_26 18 rfl
theorem dX9_reach_40 : decode cX9_reach 40 = .ok (.if_icmp .le 5, 3) := dcs_at ok33_bank_0_26 19 rfl
theorem dX9_reach_43 : decode cX9_reach 43 = .ok (.iconst 0, 1) := dcs_at ok33_bank_0_26 20 rfl
theorem dX9_reach_44 : decode cX9_reach 44 = .ok (.ireturn, 1) := dcs_at ok33_bank_0_26 21 rfl
theorem dX9_reach_45 : decode cX9_reach 45 = .ok (.aload_n 0, 1) := dcs_at ok33_bank_0_26 22 rfl
theorem dX9_reach_46 : decode cX9_reach 46 = .ok (.getfield 30, 3) := dcs_at ok33_bank_0_26 23 rfl
theorem dX9_reach_49 : decode cX9_reach 49 = .ok (.aload 4, 2) := dcs_at ok33_bank_0_26 24 rfl
theorem dX9_reach_51 : decode cX9_reach 51 = .ok (.aload 5, 2) := dcs_at ok33_bank_0_26 25 rfl
theorem dX9_reach_53 : decode cX9_reach 53 = .ok (.iload_n 3, 1) := dcs_at ok33_bank_0_26 26 rfl
theorem dX9_reach_54 : decode cX9_reach 54 = .ok (.invokevirtual 250, 3) := dcs_at ok33_bank_0_26 27 rfl
theorem dX9_reach_57 : decode cX9_reach 57 = .ok (.ireturn, 1) := dcs_at ok33_bank_0_26 28 rfl
def tb33_bank_0_27 : List (Nat × (Instr × Nat)) := [(0, (.aload_n 0, 1)), (1, (.getfield 10, 3)), (4, (.iload_n 1, 1)), (5, (.invokevirtual 87, 3)), (8, (.astore 4, 2)), (10, (.aload 4, 2)), (12, (.ifnull 27, 3)), (15, (.iload_n 2, 1)), (16, (.ifCond .lt 23, 3)), (19, (.iload_n 2, 1)), (20, (.aload 4, 2)), (22, (.getfield 162, 3)), (25, (.if_icmp .ge 14, 3)), (28, (.iload_n 3, 1)), (29, (.ifCond .lt 10, 3)), (32, (.iload_n 3, 1)), (33, (.sipush 200, 3)), (36, (.if_icmp .le 5, 3)), (39, (.iconst 0, 1)), (40, (.ireturn, 1)), (41, (.aload_n 0, 1)), (42, (.getfield 44, 3)), (45, (.aload 4, 2)), (47, (.invokevirtual 254, 3)), (50, (.iconst 0, 1)), (51, (.istore 5, 2)), (53, (.iload 5, 2)), (55, (.iload_n 3, 1)), (56, (.if_icmp .ge 16, 3)), (59, (.aload_n 0, 1)), (60, (.getfield 44, 3)), (63, (.invokevirtual 258, 3)), (66, (.iinc 5 1, 3)), (69, (.goto (-16), 3)), (72, (.iconst 1, 1)), (73, (.ireturn, 1))]
theorem ok33_bank_0_27 : dcs cX9_lendFor tb33_bank_0_27 = true := by decide +kernel
theorem dX9_lendFor_0 : decode cX9_lendFor 0 = .ok (.aload_n 0, 1) := dcs_at ok33_bank_0_27 0 rfl
theorem dX9_lendFor_1 : decode cX9_lendFor 1 = .ok (.getfield 10, 3) := dcs_at ok33_bank_0_27 1 rfl
theorem dX9_lendFor_4 : decode cX9_lendFor 4 = .ok (.iload_n 1, 1) := dcs_at ok33_bank_0_27 2 rfl
theorem dX9_lendFor_5 : decode cX9_lendFor 5 = .ok (.invokevirtual 87, 3) := dcs_at ok33_bank_0_27 3 rfl
theorem dX9_lendFor_8 : decode cX9_lendFor 8 = .ok (.astore 4, 2) := dcs_at ok33_bank_0_27 4 rfl
theorem dX9_lendFor_10 : decode cX9_lendFor 10 = .ok (.aload 4, 2) := dcs_at ok33_bank_0_27 5 rfl
theorem dX9_lendFor_12 : decode cX9_lendFor 12 = .ok (.ifnull 27, 3) := dcs_at ok33_bank_0_27 6 rfl
theorem dX9_lendFor_15 : decode cX9_lendFor 15 = .ok (.iload_n 2, 1) := dcs_at ok33_bank_0_27 7 rfl
theorem dX9_lendFor_16 : decode cX9_lendFor 16 = .ok (.ifCond .lt 23, 3) := dcs_at ok33_bank_0_27 8 rfl
theorem dX9_lendFor_19 : decode cX9_lendFor 19 = .ok (.iload_n 2, 1) := dcs_at ok33_bank_0_27 9 rfl
theorem dX9_lendFor_20 : decode cX9_lendFor 20 = .ok (.aload 4, 2) := dcs_at ok33_bank_0_27 10 rfl
theorem dX9_lendFor_22 : decode cX9_lendFor 22 = .ok (.getfield 162, 3) := dcs_at ok33_bank_0_27 11 rfl
theorem dX9_lendFor_25 : decode cX9_lendFor 25 = .ok (.if_icmp .ge 14, 3) := dcs_at ok33_bank_0_27 12 rfl
theorem dX9_lendFor_28 : decode cX9_lendFor 28 = .ok (.iload_n 3, 1) := dcs_at ok33_bank_0_27 13 rfl
theorem dX9_lendFor_29 : decode cX9_lendFor 29 = .ok (.ifCond .lt 10, 3) := dcs_at ok33_bank_0_27 14 rfl
theorem dX9_lendFor_32 : decode cX9_lendFor 32 = .ok (.iload_n 3, 1) := dcs_at ok33_bank_0_27 15 rfl
theorem dX9_lendFor_33 : decode cX9_lendFor 33 = .ok (.sipush 200, 3) := dcs_at ok33_bank_0_27 16 rfl
theorem dX9_lendFor_36 : decode cX9_lendFor 36 = .ok (.if_icmp .le 5, 3) := dcs_at ok33_bank_0_27 17 rfl
theorem dX9_lendFor_39 : decode cX9_lendFor 39 = .ok (.iconst 0, 1) := dcs_at ok33_bank_0_27 18 rfl
theorem dX9_lendFor_40 : decode cX9_lendFor 40 = .ok (.ireturn, 1) := dcs_at ok33_bank_0_27 19 rfl
theorem dX9_lendFor_41 : decode cX9_lendFor 41 = .ok (.aload_n 0, 1) := dcs_at ok33_bank_0_27 20 rfl
theorem dX9_lendFor_42 : decode cX9_lendFor 42 = .ok (.getfield 44, 3) := dcs_at ok33_bank_0_27 21 rfl
theorem dX9_lendFor_45 : decode cX9_lendFor 45 = .ok (.aload 4, 2) := dcs_at ok33_bank_0_27 22 rfl
theorem dX9_lendFor_47 : decode cX9_lendFor 47 = .ok (.invokevirtual 254, 3) := dcs_at ok33_bank_0_27 23 rfl
theorem dX9_lendFor_50 : decode cX9_lendFor 50 = .ok (.iconst 0, 1) := dcs_at ok33_bank_0_27 24 rfl
theorem dX9_lendFor_51 : decode cX9_lendFor 51 = .ok (.istore 5, 2) := dcs_at ok33_bank_0_27 25 rfl
theorem dX9_lendFor_53 : decode cX9_lendFor 53 = .ok (.iload 5, 2) := dcs_at ok33_bank_0_27 26 rfl
theorem dX9_lendFor_55 : decode cX9_lendFor 55 = .ok (.iload_n 3, 1) := dcs_at ok33_bank_0_27 27 rfl
theorem dX9_lendFor_56 : decode cX9_lendFor 56 = .ok (.if_icmp .ge 16, 3) := dcs_at ok33_bank_0_27 28 rfl
theorem dX9_lendFor_59 : decode cX9_lendFor 59 = .ok (.aload_n 0, 1) := dcs_at ok33_bank_0_27 29 rfl
theorem dX9_lendFor_60 : decode cX9_lendFor 60 = .ok (.getfield 44, 3) := dcs_at ok33_bank_0_27 30 rfl
theorem dX9_lendFor_63 : decode cX9_lendFor 63 = .ok (.invokevirtual 258, 3) := dcs_at ok33_bank_0_27 31 rfl
theorem dX9_lendFor_66 : decode cX9_lendFor 66 = .ok (.iinc 5 1, 3) := dcs_at ok33_bank_0_27 32 rfl
theorem dX9_lendFor_69 : decode cX9_lendFor 69 = .ok (.goto (-16), 3) := dcs_at ok33_bank_0_27 33 rfl
theorem dX9_lendFor_72 : decode cX9_lendFor 72 = .ok (.iconst 1, 1) := dcs_at ok33_bank_0_27 34 rfl
theorem dX9_lendFor_73 : decode cX9_lendFor 73 = .ok (.ireturn, 1) := dcs_at ok33_bank_0_27 35 rfl
def tb33_bank_0_28 : List (Nat × (Instr × Nat)) := [(0, (.iload_n 0, 1)), (1, (.istore_n 2, 1)), (2, (.iload_n 1, 1)), (3, (.istore_n 3, 1)), (4, (.iconst 0, 1)), (5, (.istore 4, 2)), (7, (.iload 4, 2)), (9, (.bipush 100, 2)), (11, (.if_icmp .ge 23, 3)), (14, (.iload_n 3, 1)), (15, (.ifCond .eq 19, 3)), (18, (.iload_n 2, 1)), (19, (.iload_n 3, 1)), (20, (.irem, 1)), (21, (.istore 5, 2)), (23, (.iload_n 3, 1)), (24, (.istore_n 2, 1)), (25, (.iload 5, 2)), (27, (.istore_n 3, 1)), (28, (.iinc 4 1, 3)), (31, (.goto (-24), 3)), (34, (.iload_n 2, 1)), (35, (.ireturn, 1))]
theorem ok33_bank_0_28 : dcs cX9_commonPart tb33_bank_0_28 = true := by decide +kernel
theorem dX9_commonPart_0 : decode cX9_commonPart 0 = .ok (.iload_n 0, 1) := dcs_at ok33_bank_0_28 0 rfl
theorem dX9_commonPart_1 : decode cX9_commonPart 1 = .ok (.istore_n 2, 1) := dcs_at ok33_bank_0_28 1 rfl
theorem dX9_commonPart_2 : decode cX9_commonPart 2 = .ok (.iload_n 1, 1) := dcs_at ok33_bank_0_28 2 rfl
theorem dX9_commonPart_3 : decode cX9_commonPart 3 = .ok (.istore_n 3, 1) := dcs_at ok33_bank_0_28 3 rfl
theorem dX9_commonPart_4 : decode cX9_commonPart 4 = .ok (.iconst 0, 1) := dcs_at ok33_bank_0_28 4 rfl
theorem dX9_commonPart_5 : decode cX9_commonPart 5 = .ok (.istore 4, 2) := dcs_at ok33_bank_0_28 5 rfl
theorem dX9_commonPart_7 : decode cX9_commonPart 7 = .ok (.iload 4, 2) := dcs_at ok33_bank_0_28 6 rfl
theorem dX9_commonPart_9 : decode cX9_commonPart 9 = .ok (.bipush 100, 2) := dcs_at ok33_bank_0_28 7 rfl
theorem dX9_commonPart_11 : decode cX9_commonPart 11 = .ok (.if_icmp .ge 23, 3) := dcs_at ok33_bank_0_28 8 rfl
theorem dX9_commonPart_14 : decode cX9_commonPart 14 = .ok (.iload_n 3, 1) := dcs_at ok33_bank_0_28 9 rfl
theorem dX9_commonPart_15 : decode cX9_commonPart 15 = .ok (.ifCond .eq 19, 3) := dcs_at ok33_bank_0_28 10 rfl
theorem dX9_commonPart_18 : decode cX9_commonPart 18 = .ok (.iload_n 2, 1) := dcs_at ok33_bank_0_28 11 rfl
theorem dX9_commonPart_19 : decode cX9_commonPart 19 = .ok (.iload_n 3, 1) := dcs_at ok33_bank_0_28 12 rfl
theorem dX9_commonPart_20 : decode cX9_commonPart 20 = .ok (.irem, 1) := dcs_at ok33_bank_0_28 13 rfl
theorem dX9_commonPart_21 : decode cX9_commonPart 21 = .ok (.istore 5, 2) := dcs_at ok33_bank_0_28 14 rfl
theorem dX9_commonPart_23 : decode cX9_commonPart 23 = .ok (.iload_n 3, 1) := dcs_at ok33_bank_0_28 15 rfl
theorem dX9_commonPart_24 : decode cX9_commonPart 24 = .ok (.istore_n 2, 1) := dcs_at ok33_bank_0_28 16 rfl
theorem dX9_commonPart_25 : decode cX9_commonPart 25 = .ok (.iload 5, 2) := dcs_at ok33_bank_0_28 17 rfl
theorem dX9_commonPart_27 : decode cX9_commonPart 27 = .ok (.istore_n 3, 1) := dcs_at ok33_bank_0_28 18 rfl
theorem dX9_commonPart_28 : decode cX9_commonPart 28 = .ok (.iinc 4 1, 3) := dcs_at ok33_bank_0_28 19 rfl
theorem dX9_commonPart_31 : decode cX9_commonPart 31 = .ok (.goto (-24), 3) := dcs_at ok33_bank_0_28 20 rfl
theorem dX9_commonPart_34 : decode cX9_commonPart 34 = .ok (.iload_n 2, 1) := dcs_at ok33_bank_0_28 21 rfl
theorem dX9_commonPart_35 : decode cX9_commonPart 35 = .ok (.ireturn, 1) := dcs_at ok33_bank_0_28 22 rfl
