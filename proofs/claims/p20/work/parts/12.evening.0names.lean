theorem nmX2 : ∀ a, a < 14 → ∀ b, b < 14 → a ≠ b → (TX2 a).2.1 ≠ (TX2 b).2.1 := nm_of [448546567013, 1818584692, 1870095731, 6778740, 495556388196, 32497584202736996, 126943923170675, 1852916407479531892589, 426953241460, 28550345998361971, 121398985520243, 427020087411, 114853656683876, 1701013615] (by decide +kernel) (by decide +kernel)
theorem tyX2_ok : ∀ k, k < 14 → parseFieldDescriptor (TX2 k).2.2.1 = some (tyX2 k) := by decide +kernel
def tb12_evening_0_1 : List (Nat × (Instr × Nat)) := [(0, (.iload_n 1, 1)), (1, (.ifCond .lt 18, 3)), (4, (.iload_n 1, 1)), (5, (.aload_n 0, 1)), (6, (.getfield 12, 3)), (9, (.getfield 103, 3)), (12, (.if_icmp .ge 7, 3)), (15, (.iconst 1, 1)), (16, (.goto 4, 3)), (19, (.iconst 0, 1)), (20, (.ireturn, 1))]
theorem ok12_evening_0_1 : dcs cX2_hasPalm tb12_evening_0_1 = true := by decide +kernel
theorem dX2_hasPalm_0 : decode cX2_hasPalm 0 = .ok (.iload_n 1, 1) := dcs_at ok12_evening_0_1 0 rfl
theorem dX2_hasPalm_1 : decode cX2_hasPalm 1 = .ok (.ifCond .lt 18, 3) := dcs_at ok12_evening_0_1 1 rfl
theorem dX2_hasPalm_4 : decode cX2_hasPalm 4 = .ok (.iload_n 1, 1) := dcs_at ok12_evening_0_1 2 rfl
theorem dX2_hasPalm_5 : decode cX2_hasPalm 5 = .ok (.aload_n 0, 1) := dcs_at ok12_evening_0_1 3 rfl
theorem dX2_hasPalm_6 : decode cX2_hasPalm 6 = .ok (.getfield 12, 3) := dcs_at ok12_evening_0_1 4 rfl
theorem dX2_hasPalm_9 : decode cX2_hasPalm 9 = .ok (.getfield 103, 3) := dcs_at ok12_evening_0_1 5 rfl
theorem dX2_hasPalm_12 : decode cX2_hasPalm 12 = .ok (.if_icmp .ge 7, 3) := dcs_at ok12_evening_0_1 6 rfl
theorem dX2_hasPalm_15 : decode cX2_hasPalm 15 = .ok (.iconst 1, 1) := dcs_at ok12_evening_0_1 7 rfl
theorem dX2_hasPalm_16 : decode cX2_hasPalm 16 = .ok (.goto 4, 3) := dcs_at ok12_evening_0_1 8 rfl
theorem dX2_hasPalm_19 : decode cX2_hasPalm 19 = .ok (.iconst 0, 1) := dcs_at ok12_evening_0_1 9 rfl
theorem dX2_hasPalm_20 : decode cX2_hasPalm 20 = .ok (.ireturn, 1) := dcs_at ok12_evening_0_1 10 rfl
def tb12_evening_0_2 : List (Nat × (Instr × Nat)) := [(0, (.iload_n 1, 1)), (1, (.ifCond .lt 18, 3)), (4, (.iload_n 1, 1)), (5, (.aload_n 0, 1)), (6, (.getfield 12, 3)), (9, (.getfield 96, 3)), (12, (.if_icmp .ge 7, 3)), (15, (.iconst 1, 1)), (16, (.goto 4, 3)), (19, (.iconst 0, 1)), (20, (.ireturn, 1))]
theorem ok12_evening_0_2 : dcs cX2_hasActor tb12_evening_0_2 = true := by decide +kernel
theorem dX2_hasActor_0 : decode cX2_hasActor 0 = .ok (.iload_n 1, 1) := dcs_at ok12_evening_0_2 0 rfl
theorem dX2_hasActor_1 : decode cX2_hasActor 1 = .ok (.ifCond .lt 18, 3) := dcs_at ok12_evening_0_2 1 rfl
theorem dX2_hasActor_4 : decode cX2_hasActor 4 = .ok (.iload_n 1, 1) := dcs_at ok12_evening_0_2 2 rfl
theorem dX2_hasActor_5 : decode cX2_hasActor 5 = .ok (.aload_n 0, 1) := dcs_at ok12_evening_0_2 3 rfl
theorem dX2_hasActor_6 : decode cX2_hasActor 6 = .ok (.getfield 12, 3) := dcs_at ok12_evening_0_2 4 rfl
theorem dX2_hasActor_9 : decode cX2_hasActor 9 = .ok (.getfield 96, 3) := dcs_at ok12_evening_0_2 5 rfl
theorem dX2_hasActor_12 : decode cX2_hasActor 12 = .ok (.if_icmp .ge 7, 3) := dcs_at ok12_evening_0_2 6 rfl
theorem dX2_hasActor_15 : decode cX2_hasActor 15 = .ok (.iconst 1, 1) := dcs_at ok12_evening_0_2 7 rfl
theorem dX2_hasActor_16 : decode cX2_hasActor 16 = .ok (.goto 4, 3) := dcs_at ok12_evening_0_2 8 rfl
theorem dX2_hasActor_19 : decode cX2_hasActor 19 = .ok (.iconst 0, 1) := dcs_at ok12_evening_0_2 9 rfl
theorem dX2_hasActor_20 : decode cX2_hasActor 20 = .ok (.ireturn, 1) := dcs_at ok12_evening_0_2 10 rfl
def tb12_evening_0_3 : List (Nat × (Instr × Nat)) := [(0, (.aload_n 0, 1)), (1, (.iload_n 1, 1)), (2, (.invokevirtual 117, 3)), (5, (.ifCond .eq 17, 3)), (8, (.aload_n 0, 1)), (9, (.getfield 31, 3)), (12, (.iload_n 1, 1)), (13, (.iaload, 1)), (14, (.iconst (-1), 1)), (15, (.if_icmp .ne 7, 3)), (18, (.iconst 1, 1)), (19, (.goto 4, 3)), (22, (.iconst 0, 1)), (23, (.ireturn, 1))]
theorem ok12_evening_0_3 : dcs cX2_lives tb12_evening_0_3 = true := by decide +kernel
theorem dX2_lives_0 : decode cX2_lives 0 = .ok (.aload_n 0, 1) := dcs_at ok12_evening_0_3 0 rfl
theorem dX2_lives_1 : decode cX2_lives 1 = .ok (.iload_n 1, 1) := dcs_at ok12_evening_0_3 1 rfl
theorem dX2_lives_2 : decode cX2_lives 2 = .ok (.invokevirtual 117, 3) := dcs_at ok12_evening_0_3 2 rfl
theorem dX2_lives_5 : decode cX2_lives 5 = .ok (.ifCond .eq 17, 3) := dcs_at ok12_evening_0_3 3 rfl
theorem dX2_lives_8 : decode cX2_lives 8 = .ok (.aload_n 0, 1) := dcs_at ok12_evening_0_3 4 rfl
theorem dX2_lives_9 : decode cX2_lives 9 = .ok (.getfield 31, 3) := dcs_at ok12_evening_0_3 5 rfl
theorem dX2_lives_12 : decode cX2_lives 12 = .ok (.iload_n 1, 1) := dcs_at ok12_evening_0_3 6 rfl
theorem dX2_lives_13 : decode cX2_lives 13 = .ok (.iaload, 1) := dcs_at ok12_evening_0_3 7 rfl
theorem dX2_lives_14 : decode cX2_lives 14 = .ok (.iconst (-1), 1) := dcs_at ok12_evening_0_3 8 rfl
theorem dX2_lives_15 : decode cX2_lives 15 = .ok (.if_icmp .ne 7, 3) := dcs_at ok12_evening_0_3 9 rfl
theorem dX2_lives_18 : decode cX2_lives 18 = .ok (.iconst 1, 1) := dcs_at ok12_evening_0_3 10 rfl
theorem dX2_lives_19 : decode cX2_lives 19 = .ok (.goto 4, 3) := dcs_at ok12_evening_0_3 11 rfl
theorem dX2_lives_22 : decode cX2_lives 22 = .ok (.iconst 0, 1) := dcs_at ok12_evening_0_3 12 rfl
theorem dX2_lives_23 : decode cX2_lives 23 = .ok (.ireturn, 1) := dcs_at ok12_evening_0_3 13 rfl
def tb12_evening_0_4 : List (Nat × (Instr × Nat)) := [(0, (.aload_n 0, 1)), (1, (.getfield 69, 3)), (4, (.iload_n 1, 1)), (5, (.ishr, 1)), (6, (.iconst 1, 1)), (7, (.iand, 1)), (8, (.ifCond .eq 7, 3)), (11, (.iconst 1, 1)), (12, (.goto 4, 3)), (15, (.iconst 0, 1)), (16, (.ireturn, 1))]
theorem ok12_evening_0_4 : dcs cX2_isHushed tb12_evening_0_4 = true := by decide +kernel
theorem dX2_isHushed_0 : decode cX2_isHushed 0 = .ok (.aload_n 0, 1) := dcs_at ok12_evening_0_4 0 rfl
theorem dX2_isHushed_1 : decode cX2_isHushed 1 = .ok (.getfield 69, 3) := dcs_at ok12_evening_0_4 1 rfl
theorem dX2_isHushed_4 : decode cX2_isHushed 4 = .ok (.iload_n 1, 1) := dcs_at ok12_evening_0_4 2 rfl
theorem dX2_isHushed_5 : decode cX2_isHushed 5 = .ok (.ishr, 1) := dcs_at ok12_evening_0_4 3 rfl
theorem dX2_isHushed_6 : decode cX2_isHushed 6 = .ok (.iconst 1, 1) := dcs_at ok12_evening_0_4 4 rfl
theorem dX2_isHushed_7 : decode cX2_isHushed 7 = .ok (.iand, 1) := dcs_at ok12_evening_0_4 5 rfl
theorem dX2_isHushed_8 : decode cX2_isHushed 8 = .ok (.ifCond .eq 7, 3) := dcs_at ok12_evening_0_4 6 rfl
theorem dX2_isHushed_11 : decode cX2_isHushed 11 = .ok (.iconst 1, 1) := dcs_at ok12_evening_0_4 7 rfl
theorem dX2_isHushed_12 : decode cX2_isHushed 12 = .ok (.goto 4, 3) := dcs_at ok12_evening_0_4 8 rfl
theorem dX2_isHushed_15 : decode cX2_isHushed 15 = .ok (.iconst 0, 1) := dcs_at ok12_evening_0_4 9 rfl
theorem dX2_isHushed_16 : decode cX2_isHushed 16 = .ok (.ireturn, 1) := dcs_at ok12_evening_0_4 10 rfl
def tb12_evening_0_5 : List (Nat × (Instr × Nat)) := [(0, (.aload_n 0, 1)), (1, (.iload_n 1, 1)), (2, (.invokevirtual 127, 3)), (5, (.ifCond .eq 25, 3)), (8, (.aload_n 0, 1)), (9, (.iload_n 1, 1)), (10, (.invokevirtual 130, 3)), (13, (.ifCond .ne 17, 3)), (16, (.aload_n 0, 1)), (17, (.getfield 18, 3)), (20, (.iload_n 1, 1)), (21, (.iaload, 1)), (22, (.iload_n 2, 1)), (23, (.if_icmp .lt 7, 3)), (26, (.iconst 1, 1)), (27, (.goto 4, 3)), (30, (.iconst 0, 1)), (31, (.ireturn, 1))]
theorem ok12_evening_0_5 : dcs cX2_canGive tb12_evening_0_5 = true := by decide +kernel
theorem dX2_canGive_0 : decode cX2_canGive 0 = .ok (.aload_n 0, 1) := dcs_at ok12_evening_0_5 0 rfl
theorem dX2_canGive_1 : decode cX2_canGive 1 = .ok (.iload_n 1, 1) := dcs_at ok12_evening_0_5 1 rfl
theorem dX2_canGive_2 : decode cX2_canGive 2 = .ok (.invokevirtual 127, 3) := dcs_at ok12_evening_0_5 2 rfl
theorem dX2_canGive_5 : decode cX2_canGive 5 = .ok (.ifCond .eq 25, 3) := dcs_at ok12_evening_0_5 3 rfl
theorem dX2_canGive_8 : decode cX2_canGive 8 = .ok (.aload_n 0, 1) := dcs_at ok12_evening_0_5 4 rfl
theorem dX2_canGive_9 : decode cX2_canGive 9 = .ok (.iload_n 1, 1) := dcs_at ok12_evening_0_5 5 rfl
theorem dX2_canGive_10 : decode cX2_canGive 10 = .ok (.invokevirtual 130, 3) := dcs_at ok12_evening_0_5 6 rfl
theorem dX2_canGive_13 : decode cX2_canGive 13 = .ok (.ifCond .ne 17, 3) := dcs_at ok12_evening_0_5 7 rfl
theorem dX2_canGive_16 : decode cX2_canGive 16 = .ok (.aload_n 0, 1) := dcs_at ok12_evening_0_5 8 rfl
theorem dX2_canGive_17 : decode cX2_canGive 17 = .ok (.getfield 18, 3) := dcs_at ok12_evening_0_5 9 rfl
theorem dX2_canGive_20 : decode cX2_canGive 20 = .ok (.iload_n 1, 1) := dcs_at ok12_evening_0_5 10 rfl
theorem dX2_canGive_21 : decode cX2_canGive 21 = .ok (.iaload, 1) := dcs_at ok12_evening_0_5 11 rfl
theorem dX2_canGive_22 : decode cX2_canGive 22 = .ok (.iload_n 2, 1) := dcs_at ok12_evening_0_5 12 rfl
theorem dX2_canGive_23 : decode cX2_canGive 23 = .ok (.if_icmp .lt 7, 3) := dcs_at ok12_evening_0_5 13 rfl
theorem dX2_canGive_26 : decode cX2_canGive 26 = .ok (.iconst 1, 1) := dcs_at ok12_evening_0_5 14 rfl
theorem dX2_canGive_27 : decode cX2_canGive 27 = .ok (.goto 4, 3) := dcs_at ok12_evening_0_5 15 rfl
theorem dX2_canGive_30 : decode cX2_canGive 30 = .ok (.iconst 0, 1) := dcs_at ok12_evening_0_5 16 rfl
theorem dX2_canGive_31 : decode cX2_canGive 31 = .ok (.ireturn, 1) := dcs_at ok12_evening_0_5 17 rfl
def tb12_evening_0_6 : List (Nat × (Instr × Nat)) := [(0, (.iload_n 3, 1)), (1, (.aload_n 0, 1)), (2, (.getfield 12, 3)), (5, (.getfield 107, 3)), (8, (.iload_n 1, 1)), (9, (.iaload, 1)), (10, (.imul, 1)), (11, (.istore 4, 2)), (13, (.aload_n 0, 1)), (14, (.getfield 72, 3)), (17, (.iload_n 2, 1)), (18, (.if_icmp .ne 9, 3)), (21, (.iload 4, 2)), (23, (.iconst 2, 1)), (24, (.imul, 1)), (25, (.istore 4, 2)), (27, (.aload_n 0, 1)), (28, (.getfield 18, 3)), (31, (.iload_n 1, 1)), (32, (.dup2, 1)), (33, (.iaload, 1)), (34, (.iload_n 3, 1)), (35, (.isub, 1)), (36, (.iastore, 1)), (37, (.aload_n 0, 1)), (38, (.dup, 1)), (39, (.getfield 67, 3)), (42, (.iload_n 3, 1)), (43, (.iadd, 1)), (44, (.putfield 67, 3)), (47, (.aload_n 0, 1)), (48, (.getfield 25, 3)), (51, (.iload_n 1, 1)), (52, (.bipush 6, 2)), (54, (.imul, 1)), (55, (.iload_n 2, 1)), (56, (.iadd, 1)), (57, (.dup2, 1)), (58, (.iaload, 1)), (59, (.iload 4, 2))]
theorem ok12_evening_0_6 : dcs cX2_clapFor tb12_evening_0_6 = true := by decide +kernel
theorem dX2_clapFor_0 : decode cX2_clapFor 0 = .ok (.iload_n 3, 1) := dcs_at ok12_evening_0_6 0 rfl
theorem dX2_clapFor_1 : decode cX2_clapFor 1 = .ok (.aload_n 0, 1) := dcs_at ok12_evening_0_6 1 rfl
theorem dX2_clapFor_2 : decode cX2_clapFor 2 = .ok (.getfield 12, 3) := dcs_at ok12_evening_0_6 2 rfl
theorem dX2_clapFor_5 : decode cX2_clapFor 5 = .ok (.getfield 107, 3) := dcs_at ok12_evening_0_6 3 rfl
theorem dX2_clapFor_8 : decode cX2_clapFor 8 = .ok (.iload_n 1, 1) := dcs_at ok12_evening_0_6 4 rfl
theorem dX2_clapFor_9 : decode cX2_clapFor 9 = .ok (.iaload, 1) := dcs_at ok12_evening_0_6 5 rfl
theorem dX2_clapFor_10 : decode cX2_clapFor 10 = .ok (.imul, 1) := dcs_at ok12_evening_0_6 6 rfl
theorem dX2_clapFor_11 : decode cX2_clapFor 11 = .ok (.istore 4, 2) := dcs_at ok12_evening_0_6 7 rfl
theorem dX2_clapFor_13 : decode cX2_clapFor 13 = .ok (.aload_n 0, 1) := dcs_at ok12_evening_0_6 8 rfl
theorem dX2_clapFor_14 : decode cX2_clapFor 14 = .ok (.getfield 72, 3) := dcs_at ok12_evening_0_6 9 rfl
theorem dX2_clapFor_17 : decode cX2_clapFor 17 = .ok (.iload_n 2, 1) := dcs_at ok12_evening_0_6 10 rfl
theorem dX2_clapFor_18 : decode cX2_clapFor 18 = .ok (.if_icmp .ne 9, 3) := dcs_at ok12_evening_0_6 11 rfl
theorem dX2_clapFor_21 : decode cX2_clapFor 21 = .ok (.iload 4, 2) := dcs_at ok12_evening_0_6 12 rfl
theorem dX2_clapFor_23 : decode cX2_clapFor 23 = .ok (.iconst 2, 1) := dcs_at ok12_evening_0_6 13 rfl
theorem dX2_clapFor_24 : decode cX2_clapFor 24 = .ok (.imul, 1) := dcs_at ok12_evening_0_6 14 rfl
theorem dX2_clapFor_25 : decode cX2_clapFor 25 = .ok (.istore 4, 2) := dcs_at ok12_evening_0_6 15 rfl
theorem dX2_clapFor_27 : decode cX2_clapFor 27 = .ok (.aload_n 0, 1) := dcs_at ok12_evening_0_6 16 rfl
theorem dX2_clapFor_28 : decode cX2_clapFor 28 = .ok (.getfield 18, 3) := dcs_at ok12_evening_0_6 17 rfl
theorem dX2_clapFor_31 : decode cX2_clapFor 31 = .ok (.iload_n 1, 1) := dcs_at ok12_evening_0_6 18 rfl
theorem dX2_clapFor_32 : decode cX2_clapFor 32 = .ok (.dup2, 1) := dcs_at ok12_evening_0_6 19 rfl
theorem dX2_clapFor_33 : decode cX2_clapFor 33 = .ok (.iaload, 1) := dcs_at ok12_evening_0_6 20 rfl
theorem dX2_clapFor_34 : decode cX2_clapFor 34 = .ok (.iload_n 3, 1) := dcs_at ok12_evening_0_6 21 rfl
theorem dX2_clapFor_35 : decode cX2_clapFor 35 = .ok (.isub, 1) := dcs_at ok12_evening_0_6 22 rfl
theorem dX2_clapFor_36 : decode cX2_clapFor 36 = .ok (.iastore, 1) := dcs_at ok12_evening_0_6 23 rfl
theorem dX2_clapFor_37 : decode cX2_clapFor 37 = .ok (.aload_n 0, 1) := dcs_at ok12_evening_0_6 24 rfl
theorem dX2_clapFor_38 : decode cX2_clapFor 38 = .ok (.dup, 1) := dcs_at ok12_evening_0_6 25 rfl
theorem dX2_clapFor_39 : decode cX2_clapFor 39 = .ok (.getfield 67, 3) := dcs_at ok12_evening_0_6 26 rfl
theorem dX2_clapFor_42 : decode cX2_clapFor 42 = .ok (.iload_n 3, 1) := dcs_at ok12_evening_0_6 27 rfl
theorem dX2_clapFor_43 : decode cX2_clapFor 43 = .ok (.iadd, 1) := dcs_at ok12_evening_0_6 28 rfl
theorem dX2_clapFor_44 : decode cX2_clapFor 44 = .ok (.putfield 67, 3) := dcs_at ok12_evening_0_6 29 rfl
theorem dX2_clapFor_47 : decode cX2_clapFor 47 = .ok (.aload_n 0, 1) := dcs_at ok12_evening_0_6 30 rfl
theorem dX2_clapFor_48 : decode cX2_clapFor 48 = .ok (.getfield 25, 3) := dcs_at ok12_evening_0_6 31 rfl
theorem dX2_clapFor_51 : decode cX2_clapFor 51 = .ok (.iload_n 1, 1) := dcs_at ok12_evening_0_6 32 rfl
theorem dX2_clapFor_52 : decode cX2_clapFor 52 = .ok (.bipush 6, 2) := dcs_at ok12_evening_0_6 33 rfl
theorem dX2_clapFor_54 : decode cX2_clapFor 54 = .ok (.imul, 1) := dcs_at ok12_evening_0_6 34 rfl
theorem dX2_clapFor_55 : decode cX2_clapFor 55 = .ok (.iload_n 2, 1) := dcs_at ok12_evening_0_6 35 rfl
theorem dX2_clapFor_56 : decode cX2_clapFor 56 = .ok (.iadd, 1) := dcs_at ok12_evening_0_6 36 rfl
theorem dX2_clapFor_57 : decode cX2_clapFor 57 = .ok (.dup2, 1) := dcs_at ok12_evening_0_6 37 rfl
theorem dX2_clapFor_58 : decode cX2_clapFor 58 = .ok (.iaload, 1) := dcs_at ok12_evening_0_6 38 rfl
theorem dX2_clapFor_59 : decode cX2_clapFor 59 = .ok (.iload 4, 2) := dcs_at ok12_evening_0_6 39 rfl
def tb12_evening_0_7 : List (Nat × (Instr × Nat)) := [(61, (.iadd, 1)), (62, (.iastore, 1)), (63, (.aload_n 0, 1)), (64, (.iload_n 2, 1)), (65, (.iload 4, 2)), (67, (.invokevirtual 110, 3)), (70, (.return_, 1))]
theorem ok12_evening_0_7 : dcs cX2_clapFor tb12_evening_0_7 = true := by decide +kernel
theorem dX2_clapFor_61 : decode cX2_clapFor 61 = .ok (.iadd, 1) := dcs_at ok12_evening_0_7 0 rfl
theorem dX2_clapFor_62 : decode cX2_clapFor 62 = .ok (.iastore, 1) := dcs_at ok12_evening_0_7 1 rfl
theorem dX2_clapFor_63 : decode cX2_clapFor 63 = .ok (.aload_n 0, 1) := dcs_at ok12_evening_0_7 2 rfl
theorem dX2_clapFor_64 : decode cX2_clapFor 64 = .ok (.iload_n 2, 1) := dcs_at ok12_evening_0_7 3 rfl
theorem dX2_clapFor_65 : decode cX2_clapFor 65 = .ok (.iload 4, 2) := dcs_at ok12_evening_0_7 4 rfl
theorem dX2_clapFor_67 : decode cX2_clapFor 67 = .ok (.invokevirtual 110, 3) := dcs_at ok12_evening_0_7 5 rfl
theorem dX2_clapFor_70 : decode cX2_clapFor 70 = .ok (.return_, 1) := dcs_at ok12_evening_0_7 6 rfl
def tb12_evening_0_8 : List (Nat × (Instr × Nat)) := [(0, (.aload_n 0, 1)), (1, (.getfield 18, 3)), (4, (.iload_n 1, 1)), (5, (.dup2, 1)), (6, (.iaload, 1)), (7, (.iload_n 3, 1)), (8, (.isub, 1)), (9, (.iastore, 1)), (10, (.aload_n 0, 1)), (11, (.getfield 18, 3)), (14, (.iload_n 2, 1)), (15, (.dup2, 1)), (16, (.iaload, 1)), (17, (.iload_n 3, 1)), (18, (.iadd, 1)), (19, (.iastore, 1)), (20, (.return_, 1))]
theorem ok12_evening_0_8 : dcs cX2_move tb12_evening_0_8 = true := by decide +kernel
theorem dX2_move_0 : decode cX2_move 0 = .ok (.aload_n 0, 1) := dcs_at ok12_evening_0_8 0 rfl
theorem dX2_move_1 : decode cX2_move 1 = .ok (.getfield 18, 3) := dcs_at ok12_evening_0_8 1 rfl
theorem dX2_move_4 : decode cX2_move 4 = .ok (.iload_n 1, 1) := dcs_at ok12_evening_0_8 2 rfl
theorem dX2_move_5 : decode cX2_move 5 = .ok (.dup2, 1) := dcs_at ok12_evening_0_8 3 rfl
theorem dX2_move_6 : decode cX2_move 6 = .ok (.iaload, 1) := dcs_at ok12_evening_0_8 4 rfl
theorem dX2_move_7 : decode cX2_move 7 = .ok (.iload_n 3, 1) := dcs_at ok12_evening_0_8 5 rfl
theorem dX2_move_8 : decode cX2_move 8 = .ok (.isub, 1) := dcs_at ok12_evening_0_8 6 rfl
theorem dX2_move_9 : decode cX2_move 9 = .ok (.iastore, 1) := dcs_at ok12_evening_0_8 7 rfl
theorem dX2_move_10 : decode cX2_move 10 = .ok (.aload_n 0, 1) := dcs_at ok12_evening_0_8 8 rfl
theorem dX2_move_11 : decode cX2_move 11 = .ok (.getfield 18, 3) := dcs_at ok12_evening_0_8 9 rfl
theorem dX2_move_14 : decode cX2_move 14 = .ok (.iload_n 2, 1) := dcs_at ok12_evening_0_8 10 rfl
theorem dX2_move_15 : decode cX2_move 15 = .ok (.dup2, 1) := dcs_at ok12_evening_0_8 11 rfl
theorem dX2_move_16 : decode cX2_move 16 = .ok (.iaload, 1) := dcs_at ok12_evening_0_8 12 rfl
theorem dX2_move_17 : decode cX2_move 17 = .ok (.iload_n 3, 1) := dcs_at ok12_evening_0_8 13 rfl
theorem dX2_move_18 : decode cX2_move 18 = .ok (.iadd, 1) := dcs_at ok12_evening_0_8 14 rfl
theorem dX2_move_19 : decode cX2_move 19 = .ok (.iastore, 1) := dcs_at ok12_evening_0_8 15 rfl
theorem dX2_move_20 : decode cX2_move 20 = .ok (.return_, 1) := dcs_at ok12_evening_0_8 16 rfl
def tb12_evening_0_9 : List (Nat × (Instr × Nat)) := [(0, (.aload_n 0, 1)), (1, (.getfield 28, 3)), (4, (.iload_n 1, 1)), (5, (.dup2, 1)), (6, (.iaload, 1)), (7, (.iload_n 2, 1)), (8, (.iadd, 1)), (9, (.iastore, 1)), (10, (.aload_n 0, 1)), (11, (.dup, 1)), (12, (.getfield 60, 3)), (15, (.iload_n 2, 1)), (16, (.iadd, 1)), (17, (.putfield 60, 3)), (20, (.return_, 1))]
theorem ok12_evening_0_9 : dcs cX2_give tb12_evening_0_9 = true := by decide +kernel
theorem dX2_give_0 : decode cX2_give 0 = .ok (.aload_n 0, 1) := dcs_at ok12_evening_0_9 0 rfl
theorem dX2_give_1 : decode cX2_give 1 = .ok (.getfield 28, 3) := dcs_at ok12_evening_0_9 1 rfl
theorem dX2_give_4 : decode cX2_give 4 = .ok (.iload_n 1, 1) := dcs_at ok12_evening_0_9 2 rfl
theorem dX2_give_5 : decode cX2_give 5 = .ok (.dup2, 1) := dcs_at ok12_evening_0_9 3 rfl
theorem dX2_give_6 : decode cX2_give 6 = .ok (.iaload, 1) := dcs_at ok12_evening_0_9 4 rfl
theorem dX2_give_7 : decode cX2_give 7 = .ok (.iload_n 2, 1) := dcs_at ok12_evening_0_9 5 rfl
theorem dX2_give_8 : decode cX2_give 8 = .ok (.iadd, 1) := dcs_at ok12_evening_0_9 6 rfl
theorem dX2_give_9 : decode cX2_give 9 = .ok (.iastore, 1) := dcs_at ok12_evening_0_9 7 rfl
theorem dX2_give_10 : decode cX2_give 10 = .ok (.aload_n 0, 1) := dcs_at ok12_evening_0_9 8 rfl
theorem dX2_give_11 : decode cX2_give 11 = .ok (.dup, 1) := dcs_at ok12_evening_0_9 9 rfl
theorem dX2_give_12 : decode cX2_give 12 = .ok (.getfield 60, 3) := dcs_at ok12_evening_0_9 10 rfl
theorem dX2_give_15 : decode cX2_give 15 = .ok (.iload_n 2, 1) := dcs_at ok12_evening_0_9 11 rfl
theorem dX2_give_16 : decode cX2_give 16 = .ok (.iadd, 1) := dcs_at ok12_evening_0_9 12 rfl
theorem dX2_give_17 : decode cX2_give 17 = .ok (.putfield 60, 3) := dcs_at ok12_evening_0_9 13 rfl
theorem dX2_give_20 : decode cX2_give 20 = .ok (.return_, 1) := dcs_at ok12_evening_0_9 14 rfl
def tb12_evening_0_10 : List (Nat × (Instr × Nat)) := [(0, (.aload_n 0, 1)), (1, (.getfield 12, 3)), (4, (.getfield 140, 3)), (7, (.iload_n 1, 1)), (8, (.iaload, 1)), (9, (.aload_n 0, 1)), (10, (.getfield 12, 3)), (13, (.getfield 140, 3)), (16, (.iload_n 1, 1)), (17, (.iaload, 1)), (18, (.aload_n 0, 1)), (19, (.getfield 61, 3)), (22, (.iload_n 2, 1)), (23, (.iadd, 1)), (24, (.imul, 1)), (25, (.bipush 10, 2)), (27, (.idiv, 1)), (28, (.iadd, 1)), (29, (.ireturn, 1))]
theorem ok12_evening_0_10 : dcs cX2_priceBehind tb12_evening_0_10 = true := by decide +kernel
theorem dX2_priceBehind_0 : decode cX2_priceBehind 0 = .ok (.aload_n 0, 1) := dcs_at ok12_evening_0_10 0 rfl
theorem dX2_priceBehind_1 : decode cX2_priceBehind 1 = .ok (.getfield 12, 3) := dcs_at ok12_evening_0_10 1 rfl
theorem dX2_priceBehind_4 : decode cX2_priceBehind 4 = .ok (.getfield 140, 3) := dcs_at ok12_evening_0_10 2 rfl
theorem dX2_priceBehind_7 : decode cX2_priceBehind 7 = .ok (.iload_n 1, 1) := dcs_at ok12_evening_0_10 3 rfl
theorem dX2_priceBehind_8 : decode cX2_priceBehind 8 = .ok (.iaload, 1) := dcs_at ok12_evening_0_10 4 rfl
theorem dX2_priceBehind_9 : decode cX2_priceBehind 9 = .ok (.aload_n 0, 1) := dcs_at ok12_evening_0_10 5 rfl
theorem dX2_priceBehind_10 : decode cX2_priceBehind 10 = .ok (.getfield 12, 3) := dcs_at ok12_evening_0_10 6 rfl
theorem dX2_priceBehind_13 : decode cX2_priceBehind 13 = .ok (.getfield 140, 3) := dcs_at ok12_evening_0_10 7 rfl
theorem dX2_priceBehind_16 : decode cX2_priceBehind 16 = .ok (.iload_n 1, 1) := dcs_at ok12_evening_0_10 8 rfl
theorem dX2_priceBehind_17 : decode cX2_priceBehind 17 = .ok (.iaload, 1) := dcs_at ok12_evening_0_10 9 rfl
theorem dX2_priceBehind_18 : decode cX2_priceBehind 18 = .ok (.aload_n 0, 1) := dcs_at ok12_evening_0_10 10 rfl
theorem dX2_priceBehind_19 : decode cX2_priceBehind 19 = .ok (.getfield 61, 3) := dcs_at ok12_evening_0_10 11 rfl
theorem dX2_priceBehind_22 : decode cX2_priceBehind 22 = .ok (.iload_n 2, 1) := dcs_at ok12_evening_0_10 12 rfl
theorem dX2_priceBehind_23 : decode cX2_priceBehind 23 = .ok (.iadd, 1) := dcs_at ok12_evening_0_10 13 rfl
theorem dX2_priceBehind_24 : decode cX2_priceBehind 24 = .ok (.imul, 1) := dcs_at ok12_evening_0_10 14 rfl
theorem dX2_priceBehind_25 : decode cX2_priceBehind 25 = .ok (.bipush 10, 2) := dcs_at ok12_evening_0_10 15 rfl
theorem dX2_priceBehind_27 : decode cX2_priceBehind 27 = .ok (.idiv, 1) := dcs_at ok12_evening_0_10 16 rfl
theorem dX2_priceBehind_28 : decode cX2_priceBehind 28 = .ok (.iadd, 1) := dcs_at ok12_evening_0_10 17 rfl
theorem dX2_priceBehind_29 : decode cX2_priceBehind 29 = .ok (.ireturn, 1) := dcs_at ok12_evening_0_10 18 rfl
def tb12_evening_0_11 : List (Nat × (Instr × Nat)) := [(0, (.aload_n 0, 1)), (1, (.iload_n 1, 1)), (2, (.iconst 0, 1)), (3, (.invokevirtual 143, 3)), (6, (.ireturn, 1))]
theorem ok12_evening_0_11 : dcs cX2_price tb12_evening_0_11 = true := by decide +kernel
theorem dX2_price_0 : decode cX2_price 0 = .ok (.aload_n 0, 1) := dcs_at ok12_evening_0_11 0 rfl
theorem dX2_price_1 : decode cX2_price 1 = .ok (.iload_n 1, 1) := dcs_at ok12_evening_0_11 1 rfl
theorem dX2_price_2 : decode cX2_price 2 = .ok (.iconst 0, 1) := dcs_at ok12_evening_0_11 2 rfl
theorem dX2_price_3 : decode cX2_price 3 = .ok (.invokevirtual 143, 3) := dcs_at ok12_evening_0_11 3 rfl
theorem dX2_price_6 : decode cX2_price 6 = .ok (.ireturn, 1) := dcs_at ok12_evening_0_11 4 rfl
def tb12_evening_0_12 : List (Nat × (Instr × Nat)) := [(0, (.aload_n 0, 1)), (1, (.iload_n 1, 1)), (2, (.invokevirtual 99, 3)), (5, (.ifCond .eq 22, 3)), (8, (.iconst 0, 1)), (9, (.aload_n 0, 1)), (10, (.iload_n 1, 1)), (11, (.invokevirtual 146, 3)), (14, (.aload_n 0, 1)), (15, (.getfield 28, 3)), (18, (.iload_n 1, 1)), (19, (.iaload, 1)), (20, (.isub, 1)), (21, (.invokestatic 150, 3)), (24, (.goto 4, 3)), (27, (.iconst 0, 1)), (28, (.ireturn, 1))]
theorem ok12_evening_0_12 : dcs cX2_need tb12_evening_0_12 = true := by decide +kernel
theorem dX2_need_0 : decode cX2_need 0 = .ok (.aload_n 0, 1) := dcs_at ok12_evening_0_12 0 rfl
theorem dX2_need_1 : decode cX2_need 1 = .ok (.iload_n 1, 1) := dcs_at ok12_evening_0_12 1 rfl
theorem dX2_need_2 : decode cX2_need 2 = .ok (.invokevirtual 99, 3) := dcs_at ok12_evening_0_12 2 rfl
theorem dX2_need_5 : decode cX2_need 5 = .ok (.ifCond .eq 22, 3) := dcs_at ok12_evening_0_12 3 rfl
theorem dX2_need_8 : decode cX2_need 8 = .ok (.iconst 0, 1) := dcs_at ok12_evening_0_12 4 rfl
theorem dX2_need_9 : decode cX2_need 9 = .ok (.aload_n 0, 1) := dcs_at ok12_evening_0_12 5 rfl
theorem dX2_need_10 : decode cX2_need 10 = .ok (.iload_n 1, 1) := dcs_at ok12_evening_0_12 6 rfl
theorem dX2_need_11 : decode cX2_need 11 = .ok (.invokevirtual 146, 3) := dcs_at ok12_evening_0_12 7 rfl
theorem dX2_need_14 : decode cX2_need 14 = .ok (.aload_n 0, 1) := dcs_at ok12_evening_0_12 8 rfl
theorem dX2_need_15 : decode cX2_need 15 = .ok (.getfield 28, 3) := dcs_at ok12_evening_0_12 9 rfl
theorem dX2_need_18 : decode cX2_need 18 = .ok (.iload_n 1, 1) := dcs_at ok12_evening_0_12 10 rfl
theorem dX2_need_19 : decode cX2_need 19 = .ok (.iaload, 1) := dcs_at ok12_evening_0_12 11 rfl
theorem dX2_need_20 : decode cX2_need 20 = .ok (.isub, 1) := dcs_at ok12_evening_0_12 12 rfl
theorem dX2_need_21 : decode cX2_need 21 = .ok (.invokestatic 150, 3) := dcs_at ok12_evening_0_12 13 rfl
theorem dX2_need_24 : decode cX2_need 24 = .ok (.goto 4, 3) := dcs_at ok12_evening_0_12 14 rfl
theorem dX2_need_27 : decode cX2_need 27 = .ok (.iconst 0, 1) := dcs_at ok12_evening_0_12 15 rfl
theorem dX2_need_28 : decode cX2_need 28 = .ok (.ireturn, 1) := dcs_at ok12_evening_0_12 16 rfl
def tb12_evening_0_13 : List (Nat × (Instr × Nat)) := [(0, (.iload_n 1, 1)), (1, (.i2l, 1)), (2, (.iload_n 1, 1)), (3, (.i2l, 1)), (4, (.aload_n 0, 1)), (5, (.getfield 12, 3)), (8, (.getfield 155, 3)), (11, (.i2l, 1)), (12, (.lmul, 1)), (13, (.ldc2_w 158, 3)), (16, (.ldiv, 1)), (17, (.ladd, 1)), (18, (.lstore_n 2, 1)), (19, (.ldc2_w 160, 3)), (22, (.lload_n 2, 1)), (23, (.invokestatic 162, 3)), (26, (.l2i, 1)), (27, (.ireturn, 1))]
theorem ok12_evening_0_13 : dcs cX2_grown tb12_evening_0_13 = true := by decide +kernel
theorem dX2_grown_0 : decode cX2_grown 0 = .ok (.iload_n 1, 1) := dcs_at ok12_evening_0_13 0 rfl
theorem dX2_grown_1 : decode cX2_grown 1 = .ok (.i2l, 1) := dcs_at ok12_evening_0_13 1 rfl
theorem dX2_grown_2 : decode cX2_grown 2 = .ok (.iload_n 1, 1) := dcs_at ok12_evening_0_13 2 rfl
theorem dX2_grown_3 : decode cX2_grown 3 = .ok (.i2l, 1) := dcs_at ok12_evening_0_13 3 rfl
theorem dX2_grown_4 : decode cX2_grown 4 = .ok (.aload_n 0, 1) := dcs_at ok12_evening_0_13 4 rfl
theorem dX2_grown_5 : decode cX2_grown 5 = .ok (.getfield 12, 3) := dcs_at ok12_evening_0_13 5 rfl
theorem dX2_grown_8 : decode cX2_grown 8 = .ok (.getfield 155, 3) := dcs_at ok12_evening_0_13 6 rfl
theorem dX2_grown_11 : decode cX2_grown 11 = .ok (.i2l, 1) := dcs_at ok12_evening_0_13 7 rfl
theorem dX2_grown_12 : decode cX2_grown 12 = .ok (.lmul, 1) := dcs_at ok12_evening_0_13 8 rfl
theorem dX2_grown_13 : decode cX2_grown 13 = .ok (.ldc2_w 158, 3) := dcs_at ok12_evening_0_13 9 rfl
theorem dX2_grown_16 : decode cX2_grown 16 = .ok (.ldiv, 1) := dcs_at ok12_evening_0_13 10 rfl
theorem dX2_grown_17 : decode cX2_grown 17 = .ok (.ladd, 1) := dcs_at ok12_evening_0_13 11 rfl
theorem dX2_grown_18 : decode cX2_grown 18 = .ok (.lstore_n 2, 1) := dcs_at ok12_evening_0_13 12 rfl
theorem dX2_grown_19 : decode cX2_grown 19 = .ok (.ldc2_w 160, 3) := dcs_at ok12_evening_0_13 13 rfl
theorem dX2_grown_22 : decode cX2_grown 22 = .ok (.lload_n 2, 1) := dcs_at ok12_evening_0_13 14 rfl
theorem dX2_grown_23 : decode cX2_grown 23 = .ok (.invokestatic 162, 3) := dcs_at ok12_evening_0_13 15 rfl
theorem dX2_grown_26 : decode cX2_grown 26 = .ok (.l2i, 1) := dcs_at ok12_evening_0_13 16 rfl
theorem dX2_grown_27 : decode cX2_grown 27 = .ok (.ireturn, 1) := dcs_at ok12_evening_0_13 17 rfl
def tb12_evening_0_14 : List (Nat × (Instr × Nat)) := [(0, (.iconst 0, 1)), (1, (.istore_n 1, 1)), (2, (.iload_n 1, 1)), (3, (.aload_n 0, 1)), (4, (.getfield 12, 3)), (7, (.getfield 96, 3)), (10, (.if_icmp .ge 22, 3)), (13, (.aload_n 0, 1)), (14, (.iload_n 1, 1)), (15, (.invokevirtual 99, 3)), (18, (.ifCond .eq 8, 3)), (21, (.aload_n 0, 1)), (22, (.iload_n 1, 1)), (23, (.invokevirtual 166, 3)), (26, (.iinc 1 1, 3)), (29, (.goto (-27), 3)), (32, (.iconst 0, 1)), (33, (.istore_n 1, 1)), (34, (.iload_n 1, 1)), (35, (.bipush 25, 2)), (37, (.if_icmp .ge 25, 3)), (40, (.aload_n 0, 1)), (41, (.getfield 22, 3)), (44, (.iload_n 1, 1)), (45, (.aload_n 0, 1)), (46, (.aload_n 0, 1)), (47, (.getfield 22, 3)), (50, (.iload_n 1, 1)), (51, (.iaload, 1)), (52, (.invokevirtual 170, 3)), (55, (.iastore, 1)), (56, (.iinc 1 1, 3)), (59, (.goto (-25), 3)), (62, (.aload_n 0, 1)), (63, (.getfield 12, 3)), (66, (.getfield 40, 3)), (69, (.iconst 0, 1)), (70, (.aload_n 0, 1)), (71, (.getfield 18, 3)), (74, (.iconst 0, 1))]
theorem ok12_evening_0_14 : dcs cX2_passNight tb12_evening_0_14 = true := by decide +kernel
theorem dX2_passNight_0 : decode cX2_passNight 0 = .ok (.iconst 0, 1) := dcs_at ok12_evening_0_14 0 rfl
theorem dX2_passNight_1 : decode cX2_passNight 1 = .ok (.istore_n 1, 1) := dcs_at ok12_evening_0_14 1 rfl
theorem dX2_passNight_2 : decode cX2_passNight 2 = .ok (.iload_n 1, 1) := dcs_at ok12_evening_0_14 2 rfl
theorem dX2_passNight_3 : decode cX2_passNight 3 = .ok (.aload_n 0, 1) := dcs_at ok12_evening_0_14 3 rfl
theorem dX2_passNight_4 : decode cX2_passNight 4 = .ok (.getfield 12, 3) := dcs_at ok12_evening_0_14 4 rfl
theorem dX2_passNight_7 : decode cX2_passNight 7 = .ok (.getfield 96, 3) := dcs_at ok12_evening_0_14 5 rfl
theorem dX2_passNight_10 : decode cX2_passNight 10 = .ok (.if_icmp .ge 22, 3) := dcs_at ok12_evening_0_14 6 rfl
theorem dX2_passNight_13 : decode cX2_passNight 13 = .ok (.aload_n 0, 1) := dcs_at ok12_evening_0_14 7 rfl
theorem dX2_passNight_14 : decode cX2_passNight 14 = .ok (.iload_n 1, 1) := dcs_at ok12_evening_0_14 8 rfl
theorem dX2_passNight_15 : decode cX2_passNight 15 = .ok (.invokevirtual 99, 3) := dcs_at ok12_evening_0_14 9 rfl
theorem dX2_passNight_18 : decode cX2_passNight 18 = .ok (.ifCond .eq 8, 3) := dcs_at ok12_evening_0_14 10 rfl
theorem dX2_passNight_21 : decode cX2_passNight 21 = .ok (.aload_n 0, 1) := dcs_at ok12_evening_0_14 11 rfl
theorem dX2_passNight_22 : decode cX2_passNight 22 = .ok (.iload_n 1, 1) := dcs_at ok12_evening_0_14 12 rfl
theorem dX2_passNight_23 : decode cX2_passNight 23 = .ok (.invokevirtual 166, 3) := dcs_at ok12_evening_0_14 13 rfl
theorem dX2_passNight_26 : decode cX2_passNight 26 = .ok (.iinc 1 1, 3) := dcs_at ok12_evening_0_14 14 rfl
theorem dX2_passNight_29 : decode cX2_passNight 29 = .ok (.goto (-27), 3) := dcs_at ok12_evening_0_14 15 rfl
theorem dX2_passNight_32 : decode cX2_passNight 32 = .ok (.iconst 0, 1) := dcs_at ok12_evening_0_14 16 rfl
theorem dX2_passNight_33 : decode cX2_passNight 33 = .ok (.istore_n 1, 1) := dcs_at ok12_evening_0_14 17 rfl
theorem dX2_passNight_34 : decode cX2_passNight 34 = .ok (.iload_n 1, 1) := dcs_at ok12_evening_0_14 18 rfl
theorem dX2_passNight_35 : decode cX2_passNight 35 = .ok (.bipush 25, 2) := dcs_at ok12_evening_0_14 19 rfl
theorem dX2_passNight_37 : decode cX2_passNight 37 = .ok (.if_icmp .ge 25, 3) := dcs_at ok12_evening_0_14 20 rfl
theorem dX2_passNight_40 : decode cX2_passNight 40 = .ok (.aload_n 0, 1) := dcs_at ok12_evening_0_14 21 rfl
theorem dX2_passNight_41 : decode cX2_passNight 41 = .ok (.getfield 22, 3) := dcs_at ok12_evening_0_14 22 rfl
theorem dX2_passNight_44 : decode cX2_passNight 44 = .ok (.iload_n 1, 1) := dcs_at ok12_evening_0_14 23 rfl
theorem dX2_passNight_45 : decode cX2_passNight 45 = .ok (.aload_n 0, 1) := dcs_at ok12_evening_0_14 24 rfl
theorem dX2_passNight_46 : decode cX2_passNight 46 = .ok (.aload_n 0, 1) := dcs_at ok12_evening_0_14 25 rfl
theorem dX2_passNight_47 : decode cX2_passNight 47 = .ok (.getfield 22, 3) := dcs_at ok12_evening_0_14 26 rfl
theorem dX2_passNight_50 : decode cX2_passNight 50 = .ok (.iload_n 1, 1) := dcs_at ok12_evening_0_14 27 rfl
theorem dX2_passNight_51 : decode cX2_passNight 51 = .ok (.iaload, 1) := dcs_at ok12_evening_0_14 28 rfl
theorem dX2_passNight_52 : decode cX2_passNight 52 = .ok (.invokevirtual 170, 3) := dcs_at ok12_evening_0_14 29 rfl
theorem dX2_passNight_55 : decode cX2_passNight 55 = .ok (.iastore, 1) := dcs_at ok12_evening_0_14 30 rfl
theorem dX2_passNight_56 : decode cX2_passNight 56 = .ok (.iinc 1 1, 3) := dcs_at ok12_evening_0_14 31 rfl
theorem dX2_passNight_59 : decode cX2_passNight 59 = .ok (.goto (-25), 3) := dcs_at ok12_evening_0_14 32 rfl
theorem dX2_passNight_62 : decode cX2_passNight 62 = .ok (.aload_n 0, 1) := dcs_at ok12_evening_0_14 33 rfl
theorem dX2_passNight_63 : decode cX2_passNight 63 = .ok (.getfield 12, 3) := dcs_at ok12_evening_0_14 34 rfl
theorem dX2_passNight_66 : decode cX2_passNight 66 = .ok (.getfield 40, 3) := dcs_at ok12_evening_0_14 35 rfl
theorem dX2_passNight_69 : decode cX2_passNight 69 = .ok (.iconst 0, 1) := dcs_at ok12_evening_0_14 36 rfl
theorem dX2_passNight_70 : decode cX2_passNight 70 = .ok (.aload_n 0, 1) := dcs_at ok12_evening_0_14 37 rfl
theorem dX2_passNight_71 : decode cX2_passNight 71 = .ok (.getfield 18, 3) := dcs_at ok12_evening_0_14 38 rfl
theorem dX2_passNight_74 : decode cX2_passNight 74 = .ok (.iconst 0, 1) := dcs_at ok12_evening_0_14 39 rfl
def tb12_evening_0_15 : List (Nat × (Instr × Nat)) := [(75, (.iconst 5, 1)), (76, (.invokestatic 43, 3)), (79, (.aload_n 0, 1)), (80, (.iconst 0, 1)), (81, (.putfield 69, 3)), (84, (.aload_n 0, 1)), (85, (.dup, 1)), (86, (.getfield 64, 3)), (89, (.iconst 1, 1)), (90, (.iadd, 1)), (91, (.putfield 64, 3)), (94, (.return_, 1))]
theorem ok12_evening_0_15 : dcs cX2_passNight tb12_evening_0_15 = true := by decide +kernel
theorem dX2_passNight_75 : decode cX2_passNight 75 = .ok (.iconst 5, 1) := dcs_at ok12_evening_0_15 0 rfl
theorem dX2_passNight_76 : decode cX2_passNight 76 = .ok (.invokestatic 43, 3) := dcs_at ok12_evening_0_15 1 rfl
theorem dX2_passNight_79 : decode cX2_passNight 79 = .ok (.aload_n 0, 1) := dcs_at ok12_evening_0_15 2 rfl
theorem dX2_passNight_80 : decode cX2_passNight 80 = .ok (.iconst 0, 1) := dcs_at ok12_evening_0_15 3 rfl
theorem dX2_passNight_81 : decode cX2_passNight 81 = .ok (.putfield 69, 3) := dcs_at ok12_evening_0_15 4 rfl
theorem dX2_passNight_84 : decode cX2_passNight 84 = .ok (.aload_n 0, 1) := dcs_at ok12_evening_0_15 5 rfl
theorem dX2_passNight_85 : decode cX2_passNight 85 = .ok (.dup, 1) := dcs_at ok12_evening_0_15 6 rfl
theorem dX2_passNight_86 : decode cX2_passNight 86 = .ok (.getfield 64, 3) := dcs_at ok12_evening_0_15 7 rfl
theorem dX2_passNight_89 : decode cX2_passNight 89 = .ok (.iconst 1, 1) := dcs_at ok12_evening_0_15 8 rfl
theorem dX2_passNight_90 : decode cX2_passNight 90 = .ok (.iadd, 1) := dcs_at ok12_evening_0_15 9 rfl
theorem dX2_passNight_91 : decode cX2_passNight 91 = .ok (.putfield 64, 3) := dcs_at ok12_evening_0_15 10 rfl
theorem dX2_passNight_94 : decode cX2_passNight 94 = .ok (.return_, 1) := dcs_at ok12_evening_0_15 11 rfl
def tb12_evening_0_16 : List (Nat × (Instr × Nat)) := [(0, (.aload_n 0, 1)), (1, (.iload_n 1, 1)), (2, (.invokevirtual 146, 3)), (5, (.istore_n 2, 1)), (6, (.aload_n 0, 1)), (7, (.getfield 28, 3)), (10, (.iload_n 1, 1)), (11, (.iaload, 1)), (12, (.iload_n 2, 1)), (13, (.if_icmp .lt 11, 3)), (16, (.aload_n 0, 1)), (17, (.getfield 60, 3)), (20, (.iload_n 2, 1)), (21, (.if_icmp .ge 14, 3)), (24, (.aload_n 0, 1)), (25, (.getfield 31, 3)), (28, (.iload_n 1, 1)), (29, (.aload_n 0, 1)), (30, (.getfield 64, 3)), (33, (.iastore, 1)), (34, (.return_, 1)), (35, (.aload_n 0, 1)), (36, (.iload_n 1, 1)), (37, (.iload_n 2, 1)), (38, (.ineg, 1)), (39, (.invokevirtual 110, 3)), (42, (.aload_n 0, 1)), (43, (.getfield 28, 3)), (46, (.iload_n 1, 1)), (47, (.aload_n 0, 1)), (48, (.aload_n 0, 1)), (49, (.getfield 28, 3)), (52, (.iload_n 1, 1)), (53, (.iaload, 1)), (54, (.invokevirtual 170, 3)), (57, (.iastore, 1)), (58, (.return_, 1))]
theorem ok12_evening_0_16 : dcs cX2_dine tb12_evening_0_16 = true := by decide +kernel
theorem dX2_dine_0 : decode cX2_dine 0 = .ok (.aload_n 0, 1) := dcs_at ok12_evening_0_16 0 rfl
theorem dX2_dine_1 : decode cX2_dine 1 = .ok (.iload_n 1, 1) := dcs_at ok12_evening_0_16 1 rfl
theorem dX2_dine_2 : decode cX2_dine 2 = .ok (.invokevirtual 146, 3) := dcs_at ok12_evening_0_16 2 rfl
theorem dX2_dine_5 : decode cX2_dine 5 = .ok (.istore_n 2, 1) := dcs_at ok12_evening_0_16 3 rfl
theorem dX2_dine_6 : decode cX2_dine 6 = .ok (.aload_n 0, 1) := dcs_at ok12_evening_0_16 4 rfl
theorem dX2_dine_7 : decode cX2_dine 7 = .ok (.getfield 28, 3) := dcs_at ok12_evening_0_16 5 rfl
theorem dX2_dine_10 : decode cX2_dine 10 = .ok (.iload_n 1, 1) := dcs_at ok12_evening_0_16 6 rfl
theorem dX2_dine_11 : decode cX2_dine 11 = .ok (.iaload, 1) := dcs_at ok12_evening_0_16 7 rfl
theorem dX2_dine_12 : decode cX2_dine 12 = .ok (.iload_n 2, 1) := dcs_at ok12_evening_0_16 8 rfl
theorem dX2_dine_13 : decode cX2_dine 13 = .ok (.if_icmp .lt 11, 3) := dcs_at ok12_evening_0_16 9 rfl
theorem dX2_dine_16 : decode cX2_dine 16 = .ok (.aload_n 0, 1) := dcs_at ok12_evening_0_16 10 rfl
theorem dX2_dine_17 : decode cX2_dine 17 = .ok (.getfield 60, 3) := dcs_at ok12_evening_0_16 11 rfl
theorem dX2_dine_20 : decode cX2_dine 20 = .ok (.iload_n 2, 1) := dcs_at ok12_evening_0_16 12 rfl
theorem dX2_dine_21 : decode cX2_dine 21 = .ok (.if_icmp .ge 14, 3) := dcs_at ok12_evening_0_16 13 rfl
theorem dX2_dine_24 : decode cX2_dine 24 = .ok (.aload_n 0, 1) := dcs_at ok12_evening_0_16 14 rfl
theorem dX2_dine_25 : decode cX2_dine 25 = .ok (.getfield 31, 3) := dcs_at ok12_evening_0_16 15 rfl
theorem dX2_dine_28 : decode cX2_dine 28 = .ok (.iload_n 1, 1) := dcs_at ok12_evening_0_16 16 rfl
theorem dX2_dine_29 : decode cX2_dine 29 = .ok (.aload_n 0, 1) := dcs_at ok12_evening_0_16 17 rfl
theorem dX2_dine_30 : decode cX2_dine 30 = .ok (.getfield 64, 3) := dcs_at ok12_evening_0_16 18 rfl
theorem dX2_dine_33 : decode cX2_dine 33 = .ok (.iastore, 1) := dcs_at ok12_evening_0_16 19 rfl
theorem dX2_dine_34 : decode cX2_dine 34 = .ok (.return_, 1) := dcs_at ok12_evening_0_16 20 rfl
theorem dX2_dine_35 : decode cX2_dine 35 = .ok (.aload_n 0, 1) := dcs_at ok12_evening_0_16 21 rfl
theorem dX2_dine_36 : decode cX2_dine 36 = .ok (.iload_n 1, 1) := dcs_at ok12_evening_0_16 22 rfl
theorem dX2_dine_37 : decode cX2_dine 37 = .ok (.iload_n 2, 1) := dcs_at ok12_evening_0_16 23 rfl
theorem dX2_dine_38 : decode cX2_dine 38 = .ok (.ineg, 1) := dcs_at ok12_evening_0_16 24 rfl
theorem dX2_dine_39 : decode cX2_dine 39 = .ok (.invokevirtual 110, 3) := dcs_at ok12_evening_0_16 25 rfl
theorem dX2_dine_42 : decode cX2_dine 42 = .ok (.aload_n 0, 1) := dcs_at ok12_evening_0_16 26 rfl
theorem dX2_dine_43 : decode cX2_dine 43 = .ok (.getfield 28, 3) := dcs_at ok12_evening_0_16 27 rfl
theorem dX2_dine_46 : decode cX2_dine 46 = .ok (.iload_n 1, 1) := dcs_at ok12_evening_0_16 28 rfl
theorem dX2_dine_47 : decode cX2_dine 47 = .ok (.aload_n 0, 1) := dcs_at ok12_evening_0_16 29 rfl
theorem dX2_dine_48 : decode cX2_dine 48 = .ok (.aload_n 0, 1) := dcs_at ok12_evening_0_16 30 rfl
theorem dX2_dine_49 : decode cX2_dine 49 = .ok (.getfield 28, 3) := dcs_at ok12_evening_0_16 31 rfl
theorem dX2_dine_52 : decode cX2_dine 52 = .ok (.iload_n 1, 1) := dcs_at ok12_evening_0_16 32 rfl
theorem dX2_dine_53 : decode cX2_dine 53 = .ok (.iaload, 1) := dcs_at ok12_evening_0_16 33 rfl
theorem dX2_dine_54 : decode cX2_dine 54 = .ok (.invokevirtual 170, 3) := dcs_at ok12_evening_0_16 34 rfl
theorem dX2_dine_57 : decode cX2_dine 57 = .ok (.iastore, 1) := dcs_at ok12_evening_0_16 35 rfl
theorem dX2_dine_58 : decode cX2_dine 58 = .ok (.return_, 1) := dcs_at ok12_evening_0_16 36 rfl
def tb12_evening_0_17 : List (Nat × (Instr × Nat)) := [(0, (.iconst 0, 1)), (1, (.istore_n 1, 1)), (2, (.iconst 0, 1)), (3, (.istore_n 2, 1)), (4, (.iload_n 2, 1)), (5, (.aload_n 0, 1)), (6, (.getfield 12, 3)), (9, (.getfield 96, 3)), (12, (.if_icmp .ge 23, 3)), (15, (.aload_n 0, 1)), (16, (.iload_n 2, 1)), (17, (.invokevirtual 99, 3)), (20, (.ifCond .eq 9, 3)), (23, (.iload_n 1, 1)), (24, (.iconst 1, 1)), (25, (.iload_n 2, 1)), (26, (.ishl, 1)), (27, (.ior, 1)), (28, (.istore_n 1, 1)), (29, (.iinc 2 1, 3)), (32, (.goto (-28), 3)), (35, (.iload_n 1, 1)), (36, (.ireturn, 1))]
theorem ok12_evening_0_17 : dcs cX2_living tb12_evening_0_17 = true := by decide +kernel
theorem dX2_living_0 : decode cX2_living 0 = .ok (.iconst 0, 1) := dcs_at ok12_evening_0_17 0 rfl
theorem dX2_living_1 : decode cX2_living 1 = .ok (.istore_n 1, 1) := dcs_at ok12_evening_0_17 1 rfl
theorem dX2_living_2 : decode cX2_living 2 = .ok (.iconst 0, 1) := dcs_at ok12_evening_0_17 2 rfl
theorem dX2_living_3 : decode cX2_living 3 = .ok (.istore_n 2, 1) := dcs_at ok12_evening_0_17 3 rfl
theorem dX2_living_4 : decode cX2_living 4 = .ok (.iload_n 2, 1) := dcs_at ok12_evening_0_17 4 rfl
theorem dX2_living_5 : decode cX2_living 5 = .ok (.aload_n 0, 1) := dcs_at ok12_evening_0_17 5 rfl
theorem dX2_living_6 : decode cX2_living 6 = .ok (.getfield 12, 3) := dcs_at ok12_evening_0_17 6 rfl
theorem dX2_living_9 : decode cX2_living 9 = .ok (.getfield 96, 3) := dcs_at ok12_evening_0_17 7 rfl
theorem dX2_living_12 : decode cX2_living 12 = .ok (.if_icmp .ge 23, 3) := dcs_at ok12_evening_0_17 8 rfl
theorem dX2_living_15 : decode cX2_living 15 = .ok (.aload_n 0, 1) := dcs_at ok12_evening_0_17 9 rfl
theorem dX2_living_16 : decode cX2_living 16 = .ok (.iload_n 2, 1) := dcs_at ok12_evening_0_17 10 rfl
theorem dX2_living_17 : decode cX2_living 17 = .ok (.invokevirtual 99, 3) := dcs_at ok12_evening_0_17 11 rfl
theorem dX2_living_20 : decode cX2_living 20 = .ok (.ifCond .eq 9, 3) := dcs_at ok12_evening_0_17 12 rfl
theorem dX2_living_23 : decode cX2_living 23 = .ok (.iload_n 1, 1) := dcs_at ok12_evening_0_17 13 rfl
theorem dX2_living_24 : decode cX2_living 24 = .ok (.iconst 1, 1) := dcs_at ok12_evening_0_17 14 rfl
theorem dX2_living_25 : decode cX2_living 25 = .ok (.iload_n 2, 1) := dcs_at ok12_evening_0_17 15 rfl
theorem dX2_living_26 : decode cX2_living 26 = .ok (.ishl, 1) := dcs_at ok12_evening_0_17 16 rfl
theorem dX2_living_27 : decode cX2_living 27 = .ok (.ior, 1) := dcs_at ok12_evening_0_17 17 rfl
theorem dX2_living_28 : decode cX2_living 28 = .ok (.istore_n 1, 1) := dcs_at ok12_evening_0_17 18 rfl
theorem dX2_living_29 : decode cX2_living 29 = .ok (.iinc 2 1, 3) := dcs_at ok12_evening_0_17 19 rfl
theorem dX2_living_32 : decode cX2_living 32 = .ok (.goto (-28), 3) := dcs_at ok12_evening_0_17 20 rfl
theorem dX2_living_35 : decode cX2_living 35 = .ok (.iload_n 1, 1) := dcs_at ok12_evening_0_17 21 rfl
theorem dX2_living_36 : decode cX2_living 36 = .ok (.ireturn, 1) := dcs_at ok12_evening_0_17 22 rfl
def tb12_evening_0_18 : List (Nat × (Instr × Nat)) := [(0, (.iconst 0, 1)), (1, (.istore_n 1, 1)), (2, (.iconst 0, 1)), (3, (.istore_n 2, 1)), (4, (.iload_n 2, 1)), (5, (.aload_n 0, 1)), (6, (.getfield 12, 3)), (9, (.getfield 103, 3)), (12, (.if_icmp .ge 18, 3)), (15, (.iload_n 1, 1)), (16, (.aload_n 0, 1)), (17, (.getfield 18, 3)), (20, (.iload_n 2, 1)), (21, (.iaload, 1)), (22, (.iadd, 1)), (23, (.istore_n 1, 1)), (24, (.iinc 2 1, 3)), (27, (.goto (-23), 3)), (30, (.iload_n 1, 1)), (31, (.ireturn, 1))]
theorem ok12_evening_0_18 : dcs cX2_allLeft tb12_evening_0_18 = true := by decide +kernel
theorem dX2_allLeft_0 : decode cX2_allLeft 0 = .ok (.iconst 0, 1) := dcs_at ok12_evening_0_18 0 rfl
theorem dX2_allLeft_1 : decode cX2_allLeft 1 = .ok (.istore_n 1, 1) := dcs_at ok12_evening_0_18 1 rfl
theorem dX2_allLeft_2 : decode cX2_allLeft 2 = .ok (.iconst 0, 1) := dcs_at ok12_evening_0_18 2 rfl
theorem dX2_allLeft_3 : decode cX2_allLeft 3 = .ok (.istore_n 2, 1) := dcs_at ok12_evening_0_18 3 rfl
theorem dX2_allLeft_4 : decode cX2_allLeft 4 = .ok (.iload_n 2, 1) := dcs_at ok12_evening_0_18 4 rfl
theorem dX2_allLeft_5 : decode cX2_allLeft 5 = .ok (.aload_n 0, 1) := dcs_at ok12_evening_0_18 5 rfl
theorem dX2_allLeft_6 : decode cX2_allLeft 6 = .ok (.getfield 12, 3) := dcs_at ok12_evening_0_18 6 rfl
theorem dX2_allLeft_9 : decode cX2_allLeft 9 = .ok (.getfield 103, 3) := dcs_at ok12_evening_0_18 7 rfl
theorem dX2_allLeft_12 : decode cX2_allLeft 12 = .ok (.if_icmp .ge 18, 3) := dcs_at ok12_evening_0_18 8 rfl
theorem dX2_allLeft_15 : decode cX2_allLeft 15 = .ok (.iload_n 1, 1) := dcs_at ok12_evening_0_18 9 rfl
theorem dX2_allLeft_16 : decode cX2_allLeft 16 = .ok (.aload_n 0, 1) := dcs_at ok12_evening_0_18 10 rfl
theorem dX2_allLeft_17 : decode cX2_allLeft 17 = .ok (.getfield 18, 3) := dcs_at ok12_evening_0_18 11 rfl
theorem dX2_allLeft_20 : decode cX2_allLeft 20 = .ok (.iload_n 2, 1) := dcs_at ok12_evening_0_18 12 rfl
theorem dX2_allLeft_21 : decode cX2_allLeft 21 = .ok (.iaload, 1) := dcs_at ok12_evening_0_18 13 rfl
theorem dX2_allLeft_22 : decode cX2_allLeft 22 = .ok (.iadd, 1) := dcs_at ok12_evening_0_18 14 rfl
theorem dX2_allLeft_23 : decode cX2_allLeft 23 = .ok (.istore_n 1, 1) := dcs_at ok12_evening_0_18 15 rfl
theorem dX2_allLeft_24 : decode cX2_allLeft 24 = .ok (.iinc 2 1, 3) := dcs_at ok12_evening_0_18 16 rfl
theorem dX2_allLeft_27 : decode cX2_allLeft 27 = .ok (.goto (-23), 3) := dcs_at ok12_evening_0_18 17 rfl
theorem dX2_allLeft_30 : decode cX2_allLeft 30 = .ok (.iload_n 1, 1) := dcs_at ok12_evening_0_18 18 rfl
theorem dX2_allLeft_31 : decode cX2_allLeft 31 = .ok (.ireturn, 1) := dcs_at ok12_evening_0_18 19 rfl
def tb12_evening_0_19 : List (Nat × (Instr × Nat)) := [(0, (.iconst 0, 1)), (1, (.istore_n 1, 1)), (2, (.iconst 0, 1)), (3, (.istore_n 2, 1)), (4, (.iload_n 2, 1)), (5, (.aload_n 0, 1)), (6, (.getfield 12, 3)), (9, (.getfield 96, 3)), (12, (.if_icmp .ge 17, 3)), (15, (.iload_n 1, 1)), (16, (.aload_n 0, 1)), (17, (.iload_n 2, 1)), (18, (.invokevirtual 173, 3)), (21, (.iadd, 1)), (22, (.istore_n 1, 1)), (23, (.iinc 2 1, 3)), (26, (.goto (-22), 3)), (29, (.iload_n 1, 1)), (30, (.ireturn, 1))]
theorem ok12_evening_0_19 : dcs cX2_allNeeds tb12_evening_0_19 = true := by decide +kernel
theorem dX2_allNeeds_0 : decode cX2_allNeeds 0 = .ok (.iconst 0, 1) := dcs_at ok12_evening_0_19 0 rfl
theorem dX2_allNeeds_1 : decode cX2_allNeeds 1 = .ok (.istore_n 1, 1) := dcs_at ok12_evening_0_19 1 rfl
theorem dX2_allNeeds_2 : decode cX2_allNeeds 2 = .ok (.iconst 0, 1) := dcs_at ok12_evening_0_19 2 rfl
theorem dX2_allNeeds_3 : decode cX2_allNeeds 3 = .ok (.istore_n 2, 1) := dcs_at ok12_evening_0_19 3 rfl
theorem dX2_allNeeds_4 : decode cX2_allNeeds 4 = .ok (.iload_n 2, 1) := dcs_at ok12_evening_0_19 4 rfl
theorem dX2_allNeeds_5 : decode cX2_allNeeds 5 = .ok (.aload_n 0, 1) := dcs_at ok12_evening_0_19 5 rfl
theorem dX2_allNeeds_6 : decode cX2_allNeeds 6 = .ok (.getfield 12, 3) := dcs_at ok12_evening_0_19 6 rfl
theorem dX2_allNeeds_9 : decode cX2_allNeeds 9 = .ok (.getfield 96, 3) := dcs_at ok12_evening_0_19 7 rfl
theorem dX2_allNeeds_12 : decode cX2_allNeeds 12 = .ok (.if_icmp .ge 17, 3) := dcs_at ok12_evening_0_19 8 rfl
theorem dX2_allNeeds_15 : decode cX2_allNeeds 15 = .ok (.iload_n 1, 1) := dcs_at ok12_evening_0_19 9 rfl
theorem dX2_allNeeds_16 : decode cX2_allNeeds 16 = .ok (.aload_n 0, 1) := dcs_at ok12_evening_0_19 10 rfl
theorem dX2_allNeeds_17 : decode cX2_allNeeds 17 = .ok (.iload_n 2, 1) := dcs_at ok12_evening_0_19 11 rfl
theorem dX2_allNeeds_18 : decode cX2_allNeeds 18 = .ok (.invokevirtual 173, 3) := dcs_at ok12_evening_0_19 12 rfl
theorem dX2_allNeeds_21 : decode cX2_allNeeds 21 = .ok (.iadd, 1) := dcs_at ok12_evening_0_19 13 rfl
theorem dX2_allNeeds_22 : decode cX2_allNeeds 22 = .ok (.istore_n 1, 1) := dcs_at ok12_evening_0_19 14 rfl
theorem dX2_allNeeds_23 : decode cX2_allNeeds 23 = .ok (.iinc 2 1, 3) := dcs_at ok12_evening_0_19 15 rfl
theorem dX2_allNeeds_26 : decode cX2_allNeeds 26 = .ok (.goto (-22), 3) := dcs_at ok12_evening_0_19 16 rfl
theorem dX2_allNeeds_29 : decode cX2_allNeeds 29 = .ok (.iload_n 1, 1) := dcs_at ok12_evening_0_19 17 rfl
theorem dX2_allNeeds_30 : decode cX2_allNeeds 30 = .ok (.ireturn, 1) := dcs_at ok12_evening_0_19 18 rfl
def tb12_evening_0_20 : List (Nat × (Instr × Nat)) := [(0, (.iconst 0, 1)), (1, (.istore_n 1, 1)), (2, (.iconst 0, 1)), (3, (.istore_n 2, 1)), (4, (.iload_n 2, 1)), (5, (.aload_n 0, 1)), (6, (.getfield 12, 3)), (9, (.getfield 96, 3)), (12, (.if_icmp .ge 26, 3)), (15, (.aload_n 0, 1)), (16, (.iload_n 2, 1)), (17, (.invokevirtual 99, 3)), (20, (.ifCond .eq 12, 3)), (23, (.iload_n 1, 1)), (24, (.aload_n 0, 1)), (25, (.getfield 28, 3)), (28, (.iload_n 2, 1)), (29, (.iaload, 1)), (30, (.iadd, 1)), (31, (.istore_n 1, 1)), (32, (.iinc 2 1, 3)), (35, (.goto (-31), 3)), (38, (.iload_n 1, 1)), (39, (.ireturn, 1))]
theorem ok12_evening_0_20 : dcs cX2_allSaved tb12_evening_0_20 = true := by decide +kernel
theorem dX2_allSaved_0 : decode cX2_allSaved 0 = .ok (.iconst 0, 1) := dcs_at ok12_evening_0_20 0 rfl
theorem dX2_allSaved_1 : decode cX2_allSaved 1 = .ok (.istore_n 1, 1) := dcs_at ok12_evening_0_20 1 rfl
theorem dX2_allSaved_2 : decode cX2_allSaved 2 = .ok (.iconst 0, 1) := dcs_at ok12_evening_0_20 2 rfl
theorem dX2_allSaved_3 : decode cX2_allSaved 3 = .ok (.istore_n 2, 1) := dcs_at ok12_evening_0_20 3 rfl
theorem dX2_allSaved_4 : decode cX2_allSaved 4 = .ok (.iload_n 2, 1) := dcs_at ok12_evening_0_20 4 rfl
theorem dX2_allSaved_5 : decode cX2_allSaved 5 = .ok (.aload_n 0, 1) := dcs_at ok12_evening_0_20 5 rfl
theorem dX2_allSaved_6 : decode cX2_allSaved 6 = .ok (.getfield 12, 3) := dcs_at ok12_evening_0_20 6 rfl
theorem dX2_allSaved_9 : decode cX2_allSaved 9 = .ok (.getfield 96, 3) := dcs_at ok12_evening_0_20 7 rfl
theorem dX2_allSaved_12 : decode cX2_allSaved 12 = .ok (.if_icmp .ge 26, 3) := dcs_at ok12_evening_0_20 8 rfl
theorem dX2_allSaved_15 : decode cX2_allSaved 15 = .ok (.aload_n 0, 1) := dcs_at ok12_evening_0_20 9 rfl
theorem dX2_allSaved_16 : decode cX2_allSaved 16 = .ok (.iload_n 2, 1) := dcs_at ok12_evening_0_20 10 rfl
theorem dX2_allSaved_17 : decode cX2_allSaved 17 = .ok (.invokevirtual 99, 3) := dcs_at ok12_evening_0_20 11 rfl
theorem dX2_allSaved_20 : decode cX2_allSaved 20 = .ok (.ifCond .eq 12, 3) := dcs_at ok12_evening_0_20 12 rfl
theorem dX2_allSaved_23 : decode cX2_allSaved 23 = .ok (.iload_n 1, 1) := dcs_at ok12_evening_0_20 13 rfl
theorem dX2_allSaved_24 : decode cX2_allSaved 24 = .ok (.aload_n 0, 1) := dcs_at ok12_evening_0_20 14 rfl
theorem dX2_allSaved_25 : decode cX2_allSaved 25 = .ok (.getfield 28, 3) := dcs_at ok12_evening_0_20 15 rfl
theorem dX2_allSaved_28 : decode cX2_allSaved 28 = .ok (.iload_n 2, 1) := dcs_at ok12_evening_0_20 16 rfl
theorem dX2_allSaved_29 : decode cX2_allSaved 29 = .ok (.iaload, 1) := dcs_at ok12_evening_0_20 17 rfl
theorem dX2_allSaved_30 : decode cX2_allSaved 30 = .ok (.iadd, 1) := dcs_at ok12_evening_0_20 18 rfl
theorem dX2_allSaved_31 : decode cX2_allSaved 31 = .ok (.istore_n 1, 1) := dcs_at ok12_evening_0_20 19 rfl
theorem dX2_allSaved_32 : decode cX2_allSaved 32 = .ok (.iinc 2 1, 3) := dcs_at ok12_evening_0_20 20 rfl
theorem dX2_allSaved_35 : decode cX2_allSaved 35 = .ok (.goto (-31), 3) := dcs_at ok12_evening_0_20 21 rfl
theorem dX2_allSaved_38 : decode cX2_allSaved 38 = .ok (.iload_n 1, 1) := dcs_at ok12_evening_0_20 22 rfl
theorem dX2_allSaved_39 : decode cX2_allSaved 39 = .ok (.ireturn, 1) := dcs_at ok12_evening_0_20 23 rfl
def tb12_evening_0_21 : List (Nat × (Instr × Nat)) := [(0, (.iload_n 1, 1)), (1, (.tableswitch 78 0 6 #[43, 48, 53, 58, 63, 68, 73], 43)), (44, (.aload_n 0, 1)), (45, (.getfield 60, 3)), (48, (.ireturn, 1)), (49, (.aload_n 0, 1)), (50, (.getfield 61, 3)), (53, (.ireturn, 1)), (54, (.aload_n 0, 1)), (55, (.getfield 64, 3)), (58, (.ireturn, 1)), (59, (.aload_n 0, 1)), (60, (.invokevirtual 176, 3)), (63, (.ireturn, 1)), (64, (.aload_n 0, 1)), (65, (.getfield 69, 3)), (68, (.ireturn, 1)), (69, (.aload_n 0, 1)), (70, (.invokevirtual 180, 3)), (73, (.ireturn, 1)), (74, (.aload_n 0, 1)), (75, (.getfield 67, 3)), (78, (.ireturn, 1)), (79, (.bipush (-2), 2)), (81, (.ireturn, 1))]
theorem ok12_evening_0_21 : dcs cX2_tell tb12_evening_0_21 = true := by decide +kernel
theorem dX2_tell_0 : decode cX2_tell 0 = .ok (.iload_n 1, 1) := dcs_at ok12_evening_0_21 0 rfl
theorem dX2_tell_1 : decode cX2_tell 1 = .ok (.tableswitch 78 0 6 #[43, 48, 53, 58, 63, 68, 73], 43) := dcs_at ok12_evening_0_21 1 rfl
theorem dX2_tell_44 : decode cX2_tell 44 = .ok (.aload_n 0, 1) := dcs_at ok12_evening_0_21 2 rfl
theorem dX2_tell_45 : decode cX2_tell 45 = .ok (.getfield 60, 3) := dcs_at ok12_evening_0_21 3 rfl
theorem dX2_tell_48 : decode cX2_tell 48 = .ok (.ireturn, 1) := dcs_at ok12_evening_0_21 4 rfl
theorem dX2_tell_49 : decode cX2_tell 49 = .ok (.aload_n 0, 1) := dcs_at ok12_evening_0_21 5 rfl
theorem dX2_tell_50 : decode cX2_tell 50 = .ok (.getfield 61, 3) := dcs_at ok12_evening_0_21 6 rfl
theorem dX2_tell_53 : decode cX2_tell 53 = .ok (.ireturn, 1) := dcs_at ok12_evening_0_21 7 rfl
theorem dX2_tell_54 : decode cX2_tell 54 = .ok (.aload_n 0, 1) := dcs_at ok12_evening_0_21 8 rfl
theorem dX2_tell_55 : decode cX2_tell 55 = .ok (.getfield 64, 3) := dcs_at ok12_evening_0_21 9 rfl
theorem dX2_tell_58 : decode cX2_tell 58 = .ok (.ireturn, 1) := dcs_at ok12_evening_0_21 10 rfl
theorem dX2_tell_59 : decode cX2_tell 59 = .ok (.aload_n 0, 1) := dcs_at ok12_evening_0_21 11 rfl
theorem dX2_tell_60 : decode cX2_tell 60 = .ok (.invokevirtual 176, 3) := dcs_at ok12_evening_0_21 12 rfl
theorem dX2_tell_63 : decode cX2_tell 63 = .ok (.ireturn, 1) := dcs_at ok12_evening_0_21 13 rfl
theorem dX2_tell_64 : decode cX2_tell 64 = .ok (.aload_n 0, 1) := dcs_at ok12_evening_0_21 14 rfl
theorem dX2_tell_65 : decode cX2_tell 65 = .ok (.getfield 69, 3) := dcs_at ok12_evening_0_21 15 rfl
theorem dX2_tell_68 : decode cX2_tell 68 = .ok (.ireturn, 1) := dcs_at ok12_evening_0_21 16 rfl
theorem dX2_tell_69 : decode cX2_tell 69 = .ok (.aload_n 0, 1) := dcs_at ok12_evening_0_21 17 rfl
theorem dX2_tell_70 : decode cX2_tell 70 = .ok (.invokevirtual 180, 3) := dcs_at ok12_evening_0_21 18 rfl
theorem dX2_tell_73 : decode cX2_tell 73 = .ok (.ireturn, 1) := dcs_at ok12_evening_0_21 19 rfl
theorem dX2_tell_74 : decode cX2_tell 74 = .ok (.aload_n 0, 1) := dcs_at ok12_evening_0_21 20 rfl
theorem dX2_tell_75 : decode cX2_tell 75 = .ok (.getfield 67, 3) := dcs_at ok12_evening_0_21 21 rfl
theorem dX2_tell_78 : decode cX2_tell 78 = .ok (.ireturn, 1) := dcs_at ok12_evening_0_21 22 rfl
theorem dX2_tell_79 : decode cX2_tell 79 = .ok (.bipush (-2), 2) := dcs_at ok12_evening_0_21 23 rfl
theorem dX2_tell_81 : decode cX2_tell 81 = .ok (.ireturn, 1) := dcs_at ok12_evening_0_21 24 rfl
def tb12_evening_0_22 : List (Nat × (Instr × Nat)) := [(0, (.iload_n 2, 1)), (1, (.ifCond .ne 10, 3)), (4, (.aload_n 0, 1)), (5, (.getfield 18, 3)), (8, (.iload_n 1, 1)), (9, (.iaload, 1)), (10, (.ireturn, 1)), (11, (.iload_n 2, 1)), (12, (.bipush 10, 2)), (14, (.if_icmp .lt 36, 3)), (17, (.aload_n 0, 1)), (18, (.iload_n 2, 1)), (19, (.bipush 10, 2)), (21, (.isub, 1)), (22, (.invokevirtual 127, 3)), (25, (.ifCond .eq 25, 3)), (28, (.iload_n 2, 1)), (29, (.bipush 10, 2)), (31, (.isub, 1)), (32, (.iload_n 1, 1)), (33, (.if_icmp .eq 17, 3)), (36, (.aload_n 0, 1)), (37, (.getfield 22, 3)), (40, (.iload_n 1, 1)), (41, (.iconst 5, 1)), (42, (.imul, 1)), (43, (.iload_n 2, 1)), (44, (.iadd, 1)), (45, (.bipush 10, 2)), (47, (.isub, 1)), (48, (.iaload, 1)), (49, (.ireturn, 1)), (50, (.iload_n 2, 1)), (51, (.bipush 20, 2)), (53, (.if_icmp .lt 29, 3)), (56, (.aload_n 0, 1)), (57, (.iload_n 2, 1)), (58, (.bipush 20, 2)), (60, (.isub, 1)), (61, (.invokevirtual 117, 3))]
theorem ok12_evening_0_22 : dcs cX2_tellPalm tb12_evening_0_22 = true := by decide +kernel
theorem dX2_tellPalm_0 : decode cX2_tellPalm 0 = .ok (.iload_n 2, 1) := dcs_at ok12_evening_0_22 0 rfl
theorem dX2_tellPalm_1 : decode cX2_tellPalm 1 = .ok (.ifCond .ne 10, 3) := dcs_at ok12_evening_0_22 1 rfl
theorem dX2_tellPalm_4 : decode cX2_tellPalm 4 = .ok (.aload_n 0, 1) := dcs_at ok12_evening_0_22 2 rfl
theorem dX2_tellPalm_5 : decode cX2_tellPalm 5 = .ok (.getfield 18, 3) := dcs_at ok12_evening_0_22 3 rfl
theorem dX2_tellPalm_8 : decode cX2_tellPalm 8 = .ok (.iload_n 1, 1) := dcs_at ok12_evening_0_22 4 rfl
theorem dX2_tellPalm_9 : decode cX2_tellPalm 9 = .ok (.iaload, 1) := dcs_at ok12_evening_0_22 5 rfl
theorem dX2_tellPalm_10 : decode cX2_tellPalm 10 = .ok (.ireturn, 1) := dcs_at ok12_evening_0_22 6 rfl
theorem dX2_tellPalm_11 : decode cX2_tellPalm 11 = .ok (.iload_n 2, 1) := dcs_at ok12_evening_0_22 7 rfl
theorem dX2_tellPalm_12 : decode cX2_tellPalm 12 = .ok (.bipush 10, 2) := dcs_at ok12_evening_0_22 8 rfl
theorem dX2_tellPalm_14 : decode cX2_tellPalm 14 = .ok (.if_icmp .lt 36, 3) := dcs_at ok12_evening_0_22 9 rfl
theorem dX2_tellPalm_17 : decode cX2_tellPalm 17 = .ok (.aload_n 0, 1) := dcs_at ok12_evening_0_22 10 rfl
theorem dX2_tellPalm_18 : decode cX2_tellPalm 18 = .ok (.iload_n 2, 1) := dcs_at ok12_evening_0_22 11 rfl
theorem dX2_tellPalm_19 : decode cX2_tellPalm 19 = .ok (.bipush 10, 2) := dcs_at ok12_evening_0_22 12 rfl
theorem dX2_tellPalm_21 : decode cX2_tellPalm 21 = .ok (.isub, 1) := dcs_at ok12_evening_0_22 13 rfl
theorem dX2_tellPalm_22 : decode cX2_tellPalm 22 = .ok (.invokevirtual 127, 3) := dcs_at ok12_evening_0_22 14 rfl
theorem dX2_tellPalm_25 : decode cX2_tellPalm 25 = .ok (.ifCond .eq 25, 3) := dcs_at ok12_evening_0_22 15 rfl
theorem dX2_tellPalm_28 : decode cX2_tellPalm 28 = .ok (.iload_n 2, 1) := dcs_at ok12_evening_0_22 16 rfl
theorem dX2_tellPalm_29 : decode cX2_tellPalm 29 = .ok (.bipush 10, 2) := dcs_at ok12_evening_0_22 17 rfl
theorem dX2_tellPalm_31 : decode cX2_tellPalm 31 = .ok (.isub, 1) := dcs_at ok12_evening_0_22 18 rfl
theorem dX2_tellPalm_32 : decode cX2_tellPalm 32 = .ok (.iload_n 1, 1) := dcs_at ok12_evening_0_22 19 rfl
theorem dX2_tellPalm_33 : decode cX2_tellPalm 33 = .ok (.if_icmp .eq 17, 3) := dcs_at ok12_evening_0_22 20 rfl
theorem dX2_tellPalm_36 : decode cX2_tellPalm 36 = .ok (.aload_n 0, 1) := dcs_at ok12_evening_0_22 21 rfl
theorem dX2_tellPalm_37 : decode cX2_tellPalm 37 = .ok (.getfield 22, 3) := dcs_at ok12_evening_0_22 22 rfl
theorem dX2_tellPalm_40 : decode cX2_tellPalm 40 = .ok (.iload_n 1, 1) := dcs_at ok12_evening_0_22 23 rfl
theorem dX2_tellPalm_41 : decode cX2_tellPalm 41 = .ok (.iconst 5, 1) := dcs_at ok12_evening_0_22 24 rfl
theorem dX2_tellPalm_42 : decode cX2_tellPalm 42 = .ok (.imul, 1) := dcs_at ok12_evening_0_22 25 rfl
theorem dX2_tellPalm_43 : decode cX2_tellPalm 43 = .ok (.iload_n 2, 1) := dcs_at ok12_evening_0_22 26 rfl
theorem dX2_tellPalm_44 : decode cX2_tellPalm 44 = .ok (.iadd, 1) := dcs_at ok12_evening_0_22 27 rfl
theorem dX2_tellPalm_45 : decode cX2_tellPalm 45 = .ok (.bipush 10, 2) := dcs_at ok12_evening_0_22 28 rfl
theorem dX2_tellPalm_47 : decode cX2_tellPalm 47 = .ok (.isub, 1) := dcs_at ok12_evening_0_22 29 rfl
theorem dX2_tellPalm_48 : decode cX2_tellPalm 48 = .ok (.iaload, 1) := dcs_at ok12_evening_0_22 30 rfl
theorem dX2_tellPalm_49 : decode cX2_tellPalm 49 = .ok (.ireturn, 1) := dcs_at ok12_evening_0_22 31 rfl
theorem dX2_tellPalm_50 : decode cX2_tellPalm 50 = .ok (.iload_n 2, 1) := dcs_at ok12_evening_0_22 32 rfl
theorem dX2_tellPalm_51 : decode cX2_tellPalm 51 = .ok (.bipush 20, 2) := dcs_at ok12_evening_0_22 33 rfl
theorem dX2_tellPalm_53 : decode cX2_tellPalm 53 = .ok (.if_icmp .lt 29, 3) := dcs_at ok12_evening_0_22 34 rfl
theorem dX2_tellPalm_56 : decode cX2_tellPalm 56 = .ok (.aload_n 0, 1) := dcs_at ok12_evening_0_22 35 rfl
theorem dX2_tellPalm_57 : decode cX2_tellPalm 57 = .ok (.iload_n 2, 1) := dcs_at ok12_evening_0_22 36 rfl
theorem dX2_tellPalm_58 : decode cX2_tellPalm 58 = .ok (.bipush 20, 2) := dcs_at ok12_evening_0_22 37 rfl
theorem dX2_tellPalm_60 : decode cX2_tellPalm 60 = .ok (.isub, 1) := dcs_at ok12_evening_0_22 38 rfl
theorem dX2_tellPalm_61 : decode cX2_tellPalm 61 = .ok (.invokevirtual 117, 3) := dcs_at ok12_evening_0_22 39 rfl
def tb12_evening_0_23 : List (Nat × (Instr × Nat)) := [(64, (.ifCond .eq 18, 3)), (67, (.aload_n 0, 1)), (68, (.getfield 25, 3)), (71, (.iload_n 1, 1)), (72, (.bipush 6, 2)), (74, (.imul, 1)), (75, (.iload_n 2, 1)), (76, (.iadd, 1)), (77, (.bipush 20, 2)), (79, (.isub, 1)), (80, (.iaload, 1)), (81, (.ireturn, 1)), (82, (.bipush (-2), 2)), (84, (.ireturn, 1))]
theorem ok12_evening_0_23 : dcs cX2_tellPalm tb12_evening_0_23 = true := by decide +kernel
theorem dX2_tellPalm_64 : decode cX2_tellPalm 64 = .ok (.ifCond .eq 18, 3) := dcs_at ok12_evening_0_23 0 rfl
theorem dX2_tellPalm_67 : decode cX2_tellPalm 67 = .ok (.aload_n 0, 1) := dcs_at ok12_evening_0_23 1 rfl
theorem dX2_tellPalm_68 : decode cX2_tellPalm 68 = .ok (.getfield 25, 3) := dcs_at ok12_evening_0_23 2 rfl
theorem dX2_tellPalm_71 : decode cX2_tellPalm 71 = .ok (.iload_n 1, 1) := dcs_at ok12_evening_0_23 3 rfl
theorem dX2_tellPalm_72 : decode cX2_tellPalm 72 = .ok (.bipush 6, 2) := dcs_at ok12_evening_0_23 4 rfl
theorem dX2_tellPalm_74 : decode cX2_tellPalm 74 = .ok (.imul, 1) := dcs_at ok12_evening_0_23 5 rfl
theorem dX2_tellPalm_75 : decode cX2_tellPalm 75 = .ok (.iload_n 2, 1) := dcs_at ok12_evening_0_23 6 rfl
theorem dX2_tellPalm_76 : decode cX2_tellPalm 76 = .ok (.iadd, 1) := dcs_at ok12_evening_0_23 7 rfl
theorem dX2_tellPalm_77 : decode cX2_tellPalm 77 = .ok (.bipush 20, 2) := dcs_at ok12_evening_0_23 8 rfl
theorem dX2_tellPalm_79 : decode cX2_tellPalm 79 = .ok (.isub, 1) := dcs_at ok12_evening_0_23 9 rfl
theorem dX2_tellPalm_80 : decode cX2_tellPalm 80 = .ok (.iaload, 1) := dcs_at ok12_evening_0_23 10 rfl
theorem dX2_tellPalm_81 : decode cX2_tellPalm 81 = .ok (.ireturn, 1) := dcs_at ok12_evening_0_23 11 rfl
theorem dX2_tellPalm_82 : decode cX2_tellPalm 82 = .ok (.bipush (-2), 2) := dcs_at ok12_evening_0_23 12 rfl
theorem dX2_tellPalm_84 : decode cX2_tellPalm 84 = .ok (.ireturn, 1) := dcs_at ok12_evening_0_23 13 rfl
def tb12_evening_0_24 : List (Nat × (Instr × Nat)) := [(0, (.iload_n 2, 1)), (1, (.tableswitch 118 0 7 #[47, 54, 68, 86, 92, 99, 105, 111], 47)), (48, (.aload_n 0, 1)), (49, (.getfield 28, 3)), (52, (.iload_n 1, 1)), (53, (.iaload, 1)), (54, (.ireturn, 1)), (55, (.aload_n 0, 1)), (56, (.iload_n 1, 1)), (57, (.invokevirtual 99, 3)), (60, (.ifCond .eq 7, 3)), (63, (.iconst 1, 1)), (64, (.goto 4, 3)), (67, (.iconst 0, 1)), (68, (.ireturn, 1)), (69, (.aload_n 0, 1)), (70, (.iload_n 1, 1)), (71, (.invokevirtual 99, 3)), (74, (.ifCond .eq 11, 3)), (77, (.aload_n 0, 1)), (78, (.iload_n 1, 1)), (79, (.invokevirtual 146, 3)), (82, (.goto 4, 3)), (85, (.iconst 0, 1)), (86, (.ireturn, 1)), (87, (.aload_n 0, 1)), (88, (.iload_n 1, 1)), (89, (.invokevirtual 173, 3)), (92, (.ireturn, 1)), (93, (.aload_n 0, 1)), (94, (.getfield 31, 3)), (97, (.iload_n 1, 1)), (98, (.iaload, 1)), (99, (.ireturn, 1)), (100, (.aload_n 0, 1)), (101, (.iload_n 1, 1)), (102, (.invokevirtual 183, 3)), (105, (.ireturn, 1)), (106, (.aload_n 0, 1)), (107, (.iload_n 1, 1))]
theorem ok12_evening_0_24 : dcs cX2_tellActor tb12_evening_0_24 = true := by decide +kernel
theorem dX2_tellActor_0 : decode cX2_tellActor 0 = .ok (.iload_n 2, 1) := dcs_at ok12_evening_0_24 0 rfl
theorem dX2_tellActor_1 : decode cX2_tellActor 1 = .ok (.tableswitch 118 0 7 #[47, 54, 68, 86, 92, 99, 105, 111], 47) := dcs_at ok12_evening_0_24 1 rfl
theorem dX2_tellActor_48 : decode cX2_tellActor 48 = .ok (.aload_n 0, 1) := dcs_at ok12_evening_0_24 2 rfl
theorem dX2_tellActor_49 : decode cX2_tellActor 49 = .ok (.getfield 28, 3) := dcs_at ok12_evening_0_24 3 rfl
theorem dX2_tellActor_52 : decode cX2_tellActor 52 = .ok (.iload_n 1, 1) := dcs_at ok12_evening_0_24 4 rfl
theorem dX2_tellActor_53 : decode cX2_tellActor 53 = .ok (.iaload, 1) := dcs_at ok12_evening_0_24 5 rfl
theorem dX2_tellActor_54 : decode cX2_tellActor 54 = .ok (.ireturn, 1) := dcs_at ok12_evening_0_24 6 rfl
theorem dX2_tellActor_55 : decode cX2_tellActor 55 = .ok (.aload_n 0, 1) := dcs_at ok12_evening_0_24 7 rfl
theorem dX2_tellActor_56 : decode cX2_tellActor 56 = .ok (.iload_n 1, 1) := dcs_at ok12_evening_0_24 8 rfl
theorem dX2_tellActor_57 : decode cX2_tellActor 57 = .ok (.invokevirtual 99, 3) := dcs_at ok12_evening_0_24 9 rfl
theorem dX2_tellActor_60 : decode cX2_tellActor 60 = .ok (.ifCond .eq 7, 3) := dcs_at ok12_evening_0_24 10 rfl
theorem dX2_tellActor_63 : decode cX2_tellActor 63 = .ok (.iconst 1, 1) := dcs_at ok12_evening_0_24 11 rfl
theorem dX2_tellActor_64 : decode cX2_tellActor 64 = .ok (.goto 4, 3) := dcs_at ok12_evening_0_24 12 rfl
theorem dX2_tellActor_67 : decode cX2_tellActor 67 = .ok (.iconst 0, 1) := dcs_at ok12_evening_0_24 13 rfl
theorem dX2_tellActor_68 : decode cX2_tellActor 68 = .ok (.ireturn, 1) := dcs_at ok12_evening_0_24 14 rfl
theorem dX2_tellActor_69 : decode cX2_tellActor 69 = .ok (.aload_n 0, 1) := dcs_at ok12_evening_0_24 15 rfl
theorem dX2_tellActor_70 : decode cX2_tellActor 70 = .ok (.iload_n 1, 1) := dcs_at ok12_evening_0_24 16 rfl
theorem dX2_tellActor_71 : decode cX2_tellActor 71 = .ok (.invokevirtual 99, 3) := dcs_at ok12_evening_0_24 17 rfl
theorem dX2_tellActor_74 : decode cX2_tellActor 74 = .ok (.ifCond .eq 11, 3) := dcs_at ok12_evening_0_24 18 rfl
theorem dX2_tellActor_77 : decode cX2_tellActor 77 = .ok (.aload_n 0, 1) := dcs_at ok12_evening_0_24 19 rfl
theorem dX2_tellActor_78 : decode cX2_tellActor 78 = .ok (.iload_n 1, 1) := dcs_at ok12_evening_0_24 20 rfl
theorem dX2_tellActor_79 : decode cX2_tellActor 79 = .ok (.invokevirtual 146, 3) := dcs_at ok12_evening_0_24 21 rfl
theorem dX2_tellActor_82 : decode cX2_tellActor 82 = .ok (.goto 4, 3) := dcs_at ok12_evening_0_24 22 rfl
theorem dX2_tellActor_85 : decode cX2_tellActor 85 = .ok (.iconst 0, 1) := dcs_at ok12_evening_0_24 23 rfl
theorem dX2_tellActor_86 : decode cX2_tellActor 86 = .ok (.ireturn, 1) := dcs_at ok12_evening_0_24 24 rfl
theorem dX2_tellActor_87 : decode cX2_tellActor 87 = .ok (.aload_n 0, 1) := dcs_at ok12_evening_0_24 25 rfl
theorem dX2_tellActor_88 : decode cX2_tellActor 88 = .ok (.iload_n 1, 1) := dcs_at ok12_evening_0_24 26 rfl
theorem dX2_tellActor_89 : decode cX2_tellActor 89 = .ok (.invokevirtual 173, 3) := dcs_at ok12_evening_0_24 27 rfl
theorem dX2_tellActor_92 : decode cX2_tellActor 92 = .ok (.ireturn, 1) := dcs_at ok12_evening_0_24 28 rfl
theorem dX2_tellActor_93 : decode cX2_tellActor 93 = .ok (.aload_n 0, 1) := dcs_at ok12_evening_0_24 29 rfl
theorem dX2_tellActor_94 : decode cX2_tellActor 94 = .ok (.getfield 31, 3) := dcs_at ok12_evening_0_24 30 rfl
theorem dX2_tellActor_97 : decode cX2_tellActor 97 = .ok (.iload_n 1, 1) := dcs_at ok12_evening_0_24 31 rfl
theorem dX2_tellActor_98 : decode cX2_tellActor 98 = .ok (.iaload, 1) := dcs_at ok12_evening_0_24 32 rfl
theorem dX2_tellActor_99 : decode cX2_tellActor 99 = .ok (.ireturn, 1) := dcs_at ok12_evening_0_24 33 rfl
theorem dX2_tellActor_100 : decode cX2_tellActor 100 = .ok (.aload_n 0, 1) := dcs_at ok12_evening_0_24 34 rfl
theorem dX2_tellActor_101 : decode cX2_tellActor 101 = .ok (.iload_n 1, 1) := dcs_at ok12_evening_0_24 35 rfl
theorem dX2_tellActor_102 : decode cX2_tellActor 102 = .ok (.invokevirtual 183, 3) := dcs_at ok12_evening_0_24 36 rfl
theorem dX2_tellActor_105 : decode cX2_tellActor 105 = .ok (.ireturn, 1) := dcs_at ok12_evening_0_24 37 rfl
theorem dX2_tellActor_106 : decode cX2_tellActor 106 = .ok (.aload_n 0, 1) := dcs_at ok12_evening_0_24 38 rfl
theorem dX2_tellActor_107 : decode cX2_tellActor 107 = .ok (.iload_n 1, 1) := dcs_at ok12_evening_0_24 39 rfl
def tb12_evening_0_25 : List (Nat × (Instr × Nat)) := [(108, (.invokevirtual 186, 3)), (111, (.ireturn, 1)), (112, (.aload_n 0, 1)), (113, (.getfield 34, 3)), (116, (.iload_n 1, 1)), (117, (.iaload, 1)), (118, (.ireturn, 1)), (119, (.bipush (-2), 2)), (121, (.ireturn, 1))]
theorem ok12_evening_0_25 : dcs cX2_tellActor tb12_evening_0_25 = true := by decide +kernel
theorem dX2_tellActor_108 : decode cX2_tellActor 108 = .ok (.invokevirtual 186, 3) := dcs_at ok12_evening_0_25 0 rfl
theorem dX2_tellActor_111 : decode cX2_tellActor 111 = .ok (.ireturn, 1) := dcs_at ok12_evening_0_25 1 rfl
theorem dX2_tellActor_112 : decode cX2_tellActor 112 = .ok (.aload_n 0, 1) := dcs_at ok12_evening_0_25 2 rfl
theorem dX2_tellActor_113 : decode cX2_tellActor 113 = .ok (.getfield 34, 3) := dcs_at ok12_evening_0_25 3 rfl
theorem dX2_tellActor_116 : decode cX2_tellActor 116 = .ok (.iload_n 1, 1) := dcs_at ok12_evening_0_25 4 rfl
theorem dX2_tellActor_117 : decode cX2_tellActor 117 = .ok (.iaload, 1) := dcs_at ok12_evening_0_25 5 rfl
theorem dX2_tellActor_118 : decode cX2_tellActor 118 = .ok (.ireturn, 1) := dcs_at ok12_evening_0_25 6 rfl
theorem dX2_tellActor_119 : decode cX2_tellActor 119 = .ok (.bipush (-2), 2) := dcs_at ok12_evening_0_25 7 rfl
theorem dX2_tellActor_121 : decode cX2_tellActor 121 = .ok (.ireturn, 1) := dcs_at ok12_evening_0_25 8 rfl
def tb12_evening_0_26 : List (Nat × (Instr × Nat)) := [(0, (.aload_n 0, 1)), (1, (.iload_n 1, 1)), (2, (.invokevirtual 99, 3)), (5, (.ifCond .ne 5, 3)), (8, (.iconst 0, 1)), (9, (.ireturn, 1)), (10, (.iconst 0, 1)), (11, (.istore_n 2, 1)), (12, (.iload_n 2, 1)), (13, (.bipush 99, 2)), (15, (.if_icmp .ge 23, 3)), (18, (.aload_n 0, 1)), (19, (.invokevirtual 114, 3)), (22, (.aload_n 0, 1)), (23, (.iload_n 1, 1)), (24, (.invokevirtual 99, 3)), (27, (.ifCond .ne 5, 3)), (30, (.iload_n 2, 1)), (31, (.ireturn, 1)), (32, (.iinc 2 1, 3)), (35, (.goto (-23), 3)), (38, (.bipush 99, 2)), (40, (.ireturn, 1))]
theorem ok12_evening_0_26 : dcs cX2_friday tb12_evening_0_26 = true := by decide +kernel
theorem dX2_friday_0 : decode cX2_friday 0 = .ok (.aload_n 0, 1) := dcs_at ok12_evening_0_26 0 rfl
theorem dX2_friday_1 : decode cX2_friday 1 = .ok (.iload_n 1, 1) := dcs_at ok12_evening_0_26 1 rfl
theorem dX2_friday_2 : decode cX2_friday 2 = .ok (.invokevirtual 99, 3) := dcs_at ok12_evening_0_26 2 rfl
theorem dX2_friday_5 : decode cX2_friday 5 = .ok (.ifCond .ne 5, 3) := dcs_at ok12_evening_0_26 3 rfl
theorem dX2_friday_8 : decode cX2_friday 8 = .ok (.iconst 0, 1) := dcs_at ok12_evening_0_26 4 rfl
theorem dX2_friday_9 : decode cX2_friday 9 = .ok (.ireturn, 1) := dcs_at ok12_evening_0_26 5 rfl
theorem dX2_friday_10 : decode cX2_friday 10 = .ok (.iconst 0, 1) := dcs_at ok12_evening_0_26 6 rfl
theorem dX2_friday_11 : decode cX2_friday 11 = .ok (.istore_n 2, 1) := dcs_at ok12_evening_0_26 7 rfl
theorem dX2_friday_12 : decode cX2_friday 12 = .ok (.iload_n 2, 1) := dcs_at ok12_evening_0_26 8 rfl
theorem dX2_friday_13 : decode cX2_friday 13 = .ok (.bipush 99, 2) := dcs_at ok12_evening_0_26 9 rfl
theorem dX2_friday_15 : decode cX2_friday 15 = .ok (.if_icmp .ge 23, 3) := dcs_at ok12_evening_0_26 10 rfl
theorem dX2_friday_18 : decode cX2_friday 18 = .ok (.aload_n 0, 1) := dcs_at ok12_evening_0_26 11 rfl
theorem dX2_friday_19 : decode cX2_friday 19 = .ok (.invokevirtual 114, 3) := dcs_at ok12_evening_0_26 12 rfl
theorem dX2_friday_22 : decode cX2_friday 22 = .ok (.aload_n 0, 1) := dcs_at ok12_evening_0_26 13 rfl
theorem dX2_friday_23 : decode cX2_friday 23 = .ok (.iload_n 1, 1) := dcs_at ok12_evening_0_26 14 rfl
theorem dX2_friday_24 : decode cX2_friday 24 = .ok (.invokevirtual 99, 3) := dcs_at ok12_evening_0_26 15 rfl
theorem dX2_friday_27 : decode cX2_friday 27 = .ok (.ifCond .ne 5, 3) := dcs_at ok12_evening_0_26 16 rfl
theorem dX2_friday_30 : decode cX2_friday 30 = .ok (.iload_n 2, 1) := dcs_at ok12_evening_0_26 17 rfl
theorem dX2_friday_31 : decode cX2_friday 31 = .ok (.ireturn, 1) := dcs_at ok12_evening_0_26 18 rfl
theorem dX2_friday_32 : decode cX2_friday 32 = .ok (.iinc 2 1, 3) := dcs_at ok12_evening_0_26 19 rfl
theorem dX2_friday_35 : decode cX2_friday 35 = .ok (.goto (-23), 3) := dcs_at ok12_evening_0_26 20 rfl
theorem dX2_friday_38 : decode cX2_friday 38 = .ok (.bipush 99, 2) := dcs_at ok12_evening_0_26 21 rfl
theorem dX2_friday_40 : decode cX2_friday 40 = .ok (.ireturn, 1) := dcs_at ok12_evening_0_26 22 rfl
def tb12_evening_0_27 : List (Nat × (Instr × Nat)) := [(0, (.aload_n 0, 1)), (1, (.iload_n 1, 1)), (2, (.invokevirtual 99, 3)), (5, (.ifCond .ne 5, 3)), (8, (.iconst 0, 1)), (9, (.ireturn, 1)), (10, (.aload_n 0, 1)), (11, (.getfield 28, 3)), (14, (.iload_n 1, 1)), (15, (.iaload, 1)), (16, (.istore_n 2, 1)), (17, (.aload_n 0, 1)), (18, (.iload_n 1, 1)), (19, (.invokevirtual 146, 3)), (22, (.istore_n 3, 1)), (23, (.iconst 0, 1)), (24, (.istore 4, 2)), (26, (.iload 4, 2)), (28, (.bipush 99, 2)), (30, (.if_icmp .ge 25, 3)), (33, (.iload_n 2, 1)), (34, (.iload_n 3, 1)), (35, (.if_icmp .ge 6, 3)), (38, (.iload 4, 2)), (40, (.ireturn, 1)), (41, (.aload_n 0, 1)), (42, (.iload_n 2, 1)), (43, (.iload_n 3, 1)), (44, (.isub, 1)), (45, (.invokevirtual 170, 3)), (48, (.istore_n 2, 1)), (49, (.iinc 4 1, 3)), (52, (.goto (-26), 3)), (55, (.bipush 99, 2)), (57, (.ireturn, 1))]
theorem ok12_evening_0_27 : dcs cX2_star tb12_evening_0_27 = true := by decide +kernel
theorem dX2_star_0 : decode cX2_star 0 = .ok (.aload_n 0, 1) := dcs_at ok12_evening_0_27 0 rfl
theorem dX2_star_1 : decode cX2_star 1 = .ok (.iload_n 1, 1) := dcs_at ok12_evening_0_27 1 rfl
theorem dX2_star_2 : decode cX2_star 2 = .ok (.invokevirtual 99, 3) := dcs_at ok12_evening_0_27 2 rfl
theorem dX2_star_5 : decode cX2_star 5 = .ok (.ifCond .ne 5, 3) := dcs_at ok12_evening_0_27 3 rfl
theorem dX2_star_8 : decode cX2_star 8 = .ok (.iconst 0, 1) := dcs_at ok12_evening_0_27 4 rfl
theorem dX2_star_9 : decode cX2_star 9 = .ok (.ireturn, 1) := dcs_at ok12_evening_0_27 5 rfl
theorem dX2_star_10 : decode cX2_star 10 = .ok (.aload_n 0, 1) := dcs_at ok12_evening_0_27 6 rfl
theorem dX2_star_11 : decode cX2_star 11 = .ok (.getfield 28, 3) := dcs_at ok12_evening_0_27 7 rfl
theorem dX2_star_14 : decode cX2_star 14 = .ok (.iload_n 1, 1) := dcs_at ok12_evening_0_27 8 rfl
theorem dX2_star_15 : decode cX2_star 15 = .ok (.iaload, 1) := dcs_at ok12_evening_0_27 9 rfl
theorem dX2_star_16 : decode cX2_star 16 = .ok (.istore_n 2, 1) := dcs_at ok12_evening_0_27 10 rfl
theorem dX2_star_17 : decode cX2_star 17 = .ok (.aload_n 0, 1) := dcs_at ok12_evening_0_27 11 rfl
theorem dX2_star_18 : decode cX2_star 18 = .ok (.iload_n 1, 1) := dcs_at ok12_evening_0_27 12 rfl
theorem dX2_star_19 : decode cX2_star 19 = .ok (.invokevirtual 146, 3) := dcs_at ok12_evening_0_27 13 rfl
theorem dX2_star_22 : decode cX2_star 22 = .ok (.istore_n 3, 1) := dcs_at ok12_evening_0_27 14 rfl
theorem dX2_star_23 : decode cX2_star 23 = .ok (.iconst 0, 1) := dcs_at ok12_evening_0_27 15 rfl
theorem dX2_star_24 : decode cX2_star 24 = .ok (.istore 4, 2) := dcs_at ok12_evening_0_27 16 rfl
theorem dX2_star_26 : decode cX2_star 26 = .ok (.iload 4, 2) := dcs_at ok12_evening_0_27 17 rfl
theorem dX2_star_28 : decode cX2_star 28 = .ok (.bipush 99, 2) := dcs_at ok12_evening_0_27 18 rfl
theorem dX2_star_30 : decode cX2_star 30 = .ok (.if_icmp .ge 25, 3) := dcs_at ok12_evening_0_27 19 rfl
theorem dX2_star_33 : decode cX2_star 33 = .ok (.iload_n 2, 1) := dcs_at ok12_evening_0_27 20 rfl
theorem dX2_star_34 : decode cX2_star 34 = .ok (.iload_n 3, 1) := dcs_at ok12_evening_0_27 21 rfl
theorem dX2_star_35 : decode cX2_star 35 = .ok (.if_icmp .ge 6, 3) := dcs_at ok12_evening_0_27 22 rfl
theorem dX2_star_38 : decode cX2_star 38 = .ok (.iload 4, 2) := dcs_at ok12_evening_0_27 23 rfl
theorem dX2_star_40 : decode cX2_star 40 = .ok (.ireturn, 1) := dcs_at ok12_evening_0_27 24 rfl
theorem dX2_star_41 : decode cX2_star 41 = .ok (.aload_n 0, 1) := dcs_at ok12_evening_0_27 25 rfl
theorem dX2_star_42 : decode cX2_star 42 = .ok (.iload_n 2, 1) := dcs_at ok12_evening_0_27 26 rfl
theorem dX2_star_43 : decode cX2_star 43 = .ok (.iload_n 3, 1) := dcs_at ok12_evening_0_27 27 rfl
theorem dX2_star_44 : decode cX2_star 44 = .ok (.isub, 1) := dcs_at ok12_evening_0_27 28 rfl
theorem dX2_star_45 : decode cX2_star 45 = .ok (.invokevirtual 170, 3) := dcs_at ok12_evening_0_27 29 rfl
theorem dX2_star_48 : decode cX2_star 48 = .ok (.istore_n 2, 1) := dcs_at ok12_evening_0_27 30 rfl
theorem dX2_star_49 : decode cX2_star 49 = .ok (.iinc 4 1, 3) := dcs_at ok12_evening_0_27 31 rfl
theorem dX2_star_52 : decode cX2_star 52 = .ok (.goto (-26), 3) := dcs_at ok12_evening_0_27 32 rfl
theorem dX2_star_55 : decode cX2_star 55 = .ok (.bipush 99, 2) := dcs_at ok12_evening_0_27 33 rfl
theorem dX2_star_57 : decode cX2_star 57 = .ok (.ireturn, 1) := dcs_at ok12_evening_0_27 34 rfl
def tb12_evening_0_28 : List (Nat × (Instr × Nat)) := [(0, (.iconst 0, 1)), (1, (.istore_n 1, 1)), (2, (.iconst 0, 1)), (3, (.istore_n 2, 1)), (4, (.iload_n 2, 1)), (5, (.aload_n 0, 1)), (6, (.getfield 12, 3)), (9, (.getfield 96, 3)), (12, (.if_icmp .ge 49, 3)), (15, (.aload_n 0, 1)), (16, (.iload_n 2, 1)), (17, (.invokevirtual 99, 3)), (20, (.ifCond .eq 35, 3)), (23, (.aload_n 0, 1)), (24, (.getfield 28, 3)), (27, (.iload_n 2, 1)), (28, (.iaload, 1)), (29, (.aload_n 0, 1)), (30, (.iload_n 2, 1)), (31, (.invokevirtual 146, 3)), (34, (.if_icmp .lt 15, 3)), (37, (.aload_n 0, 1)), (38, (.getfield 60, 3)), (41, (.aload_n 0, 1)), (42, (.iload_n 2, 1)), (43, (.invokevirtual 146, 3)), (46, (.if_icmp .ge 9, 3)), (49, (.iload_n 1, 1)), (50, (.iconst 1, 1)), (51, (.iload_n 2, 1)), (52, (.ishl, 1)), (53, (.ior, 1)), (54, (.istore_n 1, 1)), (55, (.iinc 2 1, 3)), (58, (.goto (-54), 3)), (61, (.iload_n 1, 1)), (62, (.ireturn, 1))]
theorem ok12_evening_0_28 : dcs cX2_doomed tb12_evening_0_28 = true := by decide +kernel
theorem dX2_doomed_0 : decode cX2_doomed 0 = .ok (.iconst 0, 1) := dcs_at ok12_evening_0_28 0 rfl
theorem dX2_doomed_1 : decode cX2_doomed 1 = .ok (.istore_n 1, 1) := dcs_at ok12_evening_0_28 1 rfl
theorem dX2_doomed_2 : decode cX2_doomed 2 = .ok (.iconst 0, 1) := dcs_at ok12_evening_0_28 2 rfl
theorem dX2_doomed_3 : decode cX2_doomed 3 = .ok (.istore_n 2, 1) := dcs_at ok12_evening_0_28 3 rfl
theorem dX2_doomed_4 : decode cX2_doomed 4 = .ok (.iload_n 2, 1) := dcs_at ok12_evening_0_28 4 rfl
theorem dX2_doomed_5 : decode cX2_doomed 5 = .ok (.aload_n 0, 1) := dcs_at ok12_evening_0_28 5 rfl
theorem dX2_doomed_6 : decode cX2_doomed 6 = .ok (.getfield 12, 3) := dcs_at ok12_evening_0_28 6 rfl
theorem dX2_doomed_9 : decode cX2_doomed 9 = .ok (.getfield 96, 3) := dcs_at ok12_evening_0_28 7 rfl
theorem dX2_doomed_12 : decode cX2_doomed 12 = .ok (.if_icmp .ge 49, 3) := dcs_at ok12_evening_0_28 8 rfl
theorem dX2_doomed_15 : decode cX2_doomed 15 = .ok (.aload_n 0, 1) := dcs_at ok12_evening_0_28 9 rfl
theorem dX2_doomed_16 : decode cX2_doomed 16 = .ok (.iload_n 2, 1) := dcs_at ok12_evening_0_28 10 rfl
theorem dX2_doomed_17 : decode cX2_doomed 17 = .ok (.invokevirtual 99, 3) := dcs_at ok12_evening_0_28 11 rfl
theorem dX2_doomed_20 : decode cX2_doomed 20 = .ok (.ifCond .eq 35, 3) := dcs_at ok12_evening_0_28 12 rfl
theorem dX2_doomed_23 : decode cX2_doomed 23 = .ok (.aload_n 0, 1) := dcs_at ok12_evening_0_28 13 rfl
theorem dX2_doomed_24 : decode cX2_doomed 24 = .ok (.getfield 28, 3) := dcs_at ok12_evening_0_28 14 rfl
theorem dX2_doomed_27 : decode cX2_doomed 27 = .ok (.iload_n 2, 1) := dcs_at ok12_evening_0_28 15 rfl
theorem dX2_doomed_28 : decode cX2_doomed 28 = .ok (.iaload, 1) := dcs_at ok12_evening_0_28 16 rfl
theorem dX2_doomed_29 : decode cX2_doomed 29 = .ok (.aload_n 0, 1) := dcs_at ok12_evening_0_28 17 rfl
theorem dX2_doomed_30 : decode cX2_doomed 30 = .ok (.iload_n 2, 1) := dcs_at ok12_evening_0_28 18 rfl
theorem dX2_doomed_31 : decode cX2_doomed 31 = .ok (.invokevirtual 146, 3) := dcs_at ok12_evening_0_28 19 rfl
theorem dX2_doomed_34 : decode cX2_doomed 34 = .ok (.if_icmp .lt 15, 3) := dcs_at ok12_evening_0_28 20 rfl
theorem dX2_doomed_37 : decode cX2_doomed 37 = .ok (.aload_n 0, 1) := dcs_at ok12_evening_0_28 21 rfl
theorem dX2_doomed_38 : decode cX2_doomed 38 = .ok (.getfield 60, 3) := dcs_at ok12_evening_0_28 22 rfl
theorem dX2_doomed_41 : decode cX2_doomed 41 = .ok (.aload_n 0, 1) := dcs_at ok12_evening_0_28 23 rfl
theorem dX2_doomed_42 : decode cX2_doomed 42 = .ok (.iload_n 2, 1) := dcs_at ok12_evening_0_28 24 rfl
theorem dX2_doomed_43 : decode cX2_doomed 43 = .ok (.invokevirtual 146, 3) := dcs_at ok12_evening_0_28 25 rfl
theorem dX2_doomed_46 : decode cX2_doomed 46 = .ok (.if_icmp .ge 9, 3) := dcs_at ok12_evening_0_28 26 rfl
theorem dX2_doomed_49 : decode cX2_doomed 49 = .ok (.iload_n 1, 1) := dcs_at ok12_evening_0_28 27 rfl
theorem dX2_doomed_50 : decode cX2_doomed 50 = .ok (.iconst 1, 1) := dcs_at ok12_evening_0_28 28 rfl
theorem dX2_doomed_51 : decode cX2_doomed 51 = .ok (.iload_n 2, 1) := dcs_at ok12_evening_0_28 29 rfl
theorem dX2_doomed_52 : decode cX2_doomed 52 = .ok (.ishl, 1) := dcs_at ok12_evening_0_28 30 rfl
theorem dX2_doomed_53 : decode cX2_doomed 53 = .ok (.ior, 1) := dcs_at ok12_evening_0_28 31 rfl
theorem dX2_doomed_54 : decode cX2_doomed 54 = .ok (.istore_n 1, 1) := dcs_at ok12_evening_0_28 32 rfl
theorem dX2_doomed_55 : decode cX2_doomed 55 = .ok (.iinc 2 1, 3) := dcs_at ok12_evening_0_28 33 rfl
theorem dX2_doomed_58 : decode cX2_doomed 58 = .ok (.goto (-54), 3) := dcs_at ok12_evening_0_28 34 rfl
theorem dX2_doomed_61 : decode cX2_doomed 61 = .ok (.iload_n 1, 1) := dcs_at ok12_evening_0_28 35 rfl
theorem dX2_doomed_62 : decode cX2_doomed 62 = .ok (.ireturn, 1) := dcs_at ok12_evening_0_28 36 rfl
def tb12_evening_0_29 : List (Nat × (Instr × Nat)) := [(0, (.aload_n 0, 1)), (1, (.invokevirtual 189, 3)), (4, (.istore_n 1, 1)), (5, (.aload_n 0, 1)), (6, (.invokevirtual 176, 3)), (9, (.iload_n 1, 1)), (10, (.iconst (-1), 1)), (11, (.ixor, 1)), (12, (.iand, 1)), (13, (.istore_n 2, 1)), (14, (.iconst 0, 1)), (15, (.istore_n 3, 1)), (16, (.iload_n 3, 1)), (17, (.bipush 64, 2)), (19, (.if_icmp .ge 49, 3)), (22, (.aload_n 0, 1)), (23, (.getfield 60, 3)), (26, (.aload_n 0, 1)), (27, (.iload_n 3, 1)), (28, (.invokevirtual 192, 3)), (31, (.isub, 1)), (32, (.istore 4, 2)), (34, (.iload_n 3, 1)), (35, (.iload_n 2, 1)), (36, (.iconst (-1), 1)), (37, (.ixor, 1)), (38, (.iand, 1)), (39, (.ifCond .ne 23, 3)), (42, (.iload 4, 2)), (44, (.ifCond .lt 18, 3)), (47, (.iload_n 1, 1)), (48, (.iload_n 2, 1)), (49, (.iload_n 3, 1)), (50, (.iconst (-1), 1)), (51, (.ixor, 1)), (52, (.iand, 1)), (53, (.aload_n 0, 1)), (54, (.iload 4, 2)), (56, (.invokevirtual 195, 3)), (59, (.iand, 1))]
theorem ok12_evening_0_29 : dcs cX2_danger tb12_evening_0_29 = true := by decide +kernel
theorem dX2_danger_0 : decode cX2_danger 0 = .ok (.aload_n 0, 1) := dcs_at ok12_evening_0_29 0 rfl
theorem dX2_danger_1 : decode cX2_danger 1 = .ok (.invokevirtual 189, 3) := dcs_at ok12_evening_0_29 1 rfl
theorem dX2_danger_4 : decode cX2_danger 4 = .ok (.istore_n 1, 1) := dcs_at ok12_evening_0_29 2 rfl
theorem dX2_danger_5 : decode cX2_danger 5 = .ok (.aload_n 0, 1) := dcs_at ok12_evening_0_29 3 rfl
theorem dX2_danger_6 : decode cX2_danger 6 = .ok (.invokevirtual 176, 3) := dcs_at ok12_evening_0_29 4 rfl
theorem dX2_danger_9 : decode cX2_danger 9 = .ok (.iload_n 1, 1) := dcs_at ok12_evening_0_29 5 rfl
theorem dX2_danger_10 : decode cX2_danger 10 = .ok (.iconst (-1), 1) := dcs_at ok12_evening_0_29 6 rfl
theorem dX2_danger_11 : decode cX2_danger 11 = .ok (.ixor, 1) := dcs_at ok12_evening_0_29 7 rfl
theorem dX2_danger_12 : decode cX2_danger 12 = .ok (.iand, 1) := dcs_at ok12_evening_0_29 8 rfl
theorem dX2_danger_13 : decode cX2_danger 13 = .ok (.istore_n 2, 1) := dcs_at ok12_evening_0_29 9 rfl
theorem dX2_danger_14 : decode cX2_danger 14 = .ok (.iconst 0, 1) := dcs_at ok12_evening_0_29 10 rfl
theorem dX2_danger_15 : decode cX2_danger 15 = .ok (.istore_n 3, 1) := dcs_at ok12_evening_0_29 11 rfl
theorem dX2_danger_16 : decode cX2_danger 16 = .ok (.iload_n 3, 1) := dcs_at ok12_evening_0_29 12 rfl
theorem dX2_danger_17 : decode cX2_danger 17 = .ok (.bipush 64, 2) := dcs_at ok12_evening_0_29 13 rfl
theorem dX2_danger_19 : decode cX2_danger 19 = .ok (.if_icmp .ge 49, 3) := dcs_at ok12_evening_0_29 14 rfl
theorem dX2_danger_22 : decode cX2_danger 22 = .ok (.aload_n 0, 1) := dcs_at ok12_evening_0_29 15 rfl
theorem dX2_danger_23 : decode cX2_danger 23 = .ok (.getfield 60, 3) := dcs_at ok12_evening_0_29 16 rfl
theorem dX2_danger_26 : decode cX2_danger 26 = .ok (.aload_n 0, 1) := dcs_at ok12_evening_0_29 17 rfl
theorem dX2_danger_27 : decode cX2_danger 27 = .ok (.iload_n 3, 1) := dcs_at ok12_evening_0_29 18 rfl
theorem dX2_danger_28 : decode cX2_danger 28 = .ok (.invokevirtual 192, 3) := dcs_at ok12_evening_0_29 19 rfl
theorem dX2_danger_31 : decode cX2_danger 31 = .ok (.isub, 1) := dcs_at ok12_evening_0_29 20 rfl
theorem dX2_danger_32 : decode cX2_danger 32 = .ok (.istore 4, 2) := dcs_at ok12_evening_0_29 21 rfl
theorem dX2_danger_34 : decode cX2_danger 34 = .ok (.iload_n 3, 1) := dcs_at ok12_evening_0_29 22 rfl
theorem dX2_danger_35 : decode cX2_danger 35 = .ok (.iload_n 2, 1) := dcs_at ok12_evening_0_29 23 rfl
theorem dX2_danger_36 : decode cX2_danger 36 = .ok (.iconst (-1), 1) := dcs_at ok12_evening_0_29 24 rfl
theorem dX2_danger_37 : decode cX2_danger 37 = .ok (.ixor, 1) := dcs_at ok12_evening_0_29 25 rfl
theorem dX2_danger_38 : decode cX2_danger 38 = .ok (.iand, 1) := dcs_at ok12_evening_0_29 26 rfl
theorem dX2_danger_39 : decode cX2_danger 39 = .ok (.ifCond .ne 23, 3) := dcs_at ok12_evening_0_29 27 rfl
theorem dX2_danger_42 : decode cX2_danger 42 = .ok (.iload 4, 2) := dcs_at ok12_evening_0_29 28 rfl
theorem dX2_danger_44 : decode cX2_danger 44 = .ok (.ifCond .lt 18, 3) := dcs_at ok12_evening_0_29 29 rfl
theorem dX2_danger_47 : decode cX2_danger 47 = .ok (.iload_n 1, 1) := dcs_at ok12_evening_0_29 30 rfl
theorem dX2_danger_48 : decode cX2_danger 48 = .ok (.iload_n 2, 1) := dcs_at ok12_evening_0_29 31 rfl
theorem dX2_danger_49 : decode cX2_danger 49 = .ok (.iload_n 3, 1) := dcs_at ok12_evening_0_29 32 rfl
theorem dX2_danger_50 : decode cX2_danger 50 = .ok (.iconst (-1), 1) := dcs_at ok12_evening_0_29 33 rfl
theorem dX2_danger_51 : decode cX2_danger 51 = .ok (.ixor, 1) := dcs_at ok12_evening_0_29 34 rfl
theorem dX2_danger_52 : decode cX2_danger 52 = .ok (.iand, 1) := dcs_at ok12_evening_0_29 35 rfl
theorem dX2_danger_53 : decode cX2_danger 53 = .ok (.aload_n 0, 1) := dcs_at ok12_evening_0_29 36 rfl
theorem dX2_danger_54 : decode cX2_danger 54 = .ok (.iload 4, 2) := dcs_at ok12_evening_0_29 37 rfl
theorem dX2_danger_56 : decode cX2_danger 56 = .ok (.invokevirtual 195, 3) := dcs_at ok12_evening_0_29 38 rfl
theorem dX2_danger_59 : decode cX2_danger 59 = .ok (.iand, 1) := dcs_at ok12_evening_0_29 39 rfl
def tb12_evening_0_30 : List (Nat × (Instr × Nat)) := [(60, (.ior, 1)), (61, (.istore_n 1, 1)), (62, (.iinc 3 1, 3)), (65, (.goto (-49), 3)), (68, (.iload_n 1, 1)), (69, (.ireturn, 1))]
theorem ok12_evening_0_30 : dcs cX2_danger tb12_evening_0_30 = true := by decide +kernel
theorem dX2_danger_60 : decode cX2_danger 60 = .ok (.ior, 1) := dcs_at ok12_evening_0_30 0 rfl
theorem dX2_danger_61 : decode cX2_danger 61 = .ok (.istore_n 1, 1) := dcs_at ok12_evening_0_30 1 rfl
theorem dX2_danger_62 : decode cX2_danger 62 = .ok (.iinc 3 1, 3) := dcs_at ok12_evening_0_30 2 rfl
theorem dX2_danger_65 : decode cX2_danger 65 = .ok (.goto (-49), 3) := dcs_at ok12_evening_0_30 3 rfl
theorem dX2_danger_68 : decode cX2_danger 68 = .ok (.iload_n 1, 1) := dcs_at ok12_evening_0_30 4 rfl
theorem dX2_danger_69 : decode cX2_danger 69 = .ok (.ireturn, 1) := dcs_at ok12_evening_0_30 5 rfl
def tb12_evening_0_31 : List (Nat × (Instr × Nat)) := [(0, (.iconst 0, 1)), (1, (.istore_n 2, 1)), (2, (.iconst 0, 1)), (3, (.istore_n 3, 1)), (4, (.iload_n 3, 1)), (5, (.aload_n 0, 1)), (6, (.getfield 12, 3)), (9, (.getfield 96, 3)), (12, (.if_icmp .ge 25, 3)), (15, (.iload_n 1, 1)), (16, (.iload_n 3, 1)), (17, (.ishr, 1)), (18, (.iconst 1, 1)), (19, (.iand, 1)), (20, (.ifCond .eq 11, 3)), (23, (.iload_n 2, 1)), (24, (.aload_n 0, 1)), (25, (.iload_n 3, 1)), (26, (.invokevirtual 146, 3)), (29, (.iadd, 1)), (30, (.istore_n 2, 1)), (31, (.iinc 3 1, 3)), (34, (.goto (-30), 3)), (37, (.iload_n 2, 1)), (38, (.ireturn, 1))]
theorem ok12_evening_0_31 : dcs cX2_pricesOf tb12_evening_0_31 = true := by decide +kernel
theorem dX2_pricesOf_0 : decode cX2_pricesOf 0 = .ok (.iconst 0, 1) := dcs_at ok12_evening_0_31 0 rfl
theorem dX2_pricesOf_1 : decode cX2_pricesOf 1 = .ok (.istore_n 2, 1) := dcs_at ok12_evening_0_31 1 rfl
theorem dX2_pricesOf_2 : decode cX2_pricesOf 2 = .ok (.iconst 0, 1) := dcs_at ok12_evening_0_31 2 rfl
theorem dX2_pricesOf_3 : decode cX2_pricesOf 3 = .ok (.istore_n 3, 1) := dcs_at ok12_evening_0_31 3 rfl
theorem dX2_pricesOf_4 : decode cX2_pricesOf 4 = .ok (.iload_n 3, 1) := dcs_at ok12_evening_0_31 4 rfl
theorem dX2_pricesOf_5 : decode cX2_pricesOf 5 = .ok (.aload_n 0, 1) := dcs_at ok12_evening_0_31 5 rfl
theorem dX2_pricesOf_6 : decode cX2_pricesOf 6 = .ok (.getfield 12, 3) := dcs_at ok12_evening_0_31 6 rfl
theorem dX2_pricesOf_9 : decode cX2_pricesOf 9 = .ok (.getfield 96, 3) := dcs_at ok12_evening_0_31 7 rfl
theorem dX2_pricesOf_12 : decode cX2_pricesOf 12 = .ok (.if_icmp .ge 25, 3) := dcs_at ok12_evening_0_31 8 rfl
theorem dX2_pricesOf_15 : decode cX2_pricesOf 15 = .ok (.iload_n 1, 1) := dcs_at ok12_evening_0_31 9 rfl
theorem dX2_pricesOf_16 : decode cX2_pricesOf 16 = .ok (.iload_n 3, 1) := dcs_at ok12_evening_0_31 10 rfl
theorem dX2_pricesOf_17 : decode cX2_pricesOf 17 = .ok (.ishr, 1) := dcs_at ok12_evening_0_31 11 rfl
theorem dX2_pricesOf_18 : decode cX2_pricesOf 18 = .ok (.iconst 1, 1) := dcs_at ok12_evening_0_31 12 rfl
theorem dX2_pricesOf_19 : decode cX2_pricesOf 19 = .ok (.iand, 1) := dcs_at ok12_evening_0_31 13 rfl
theorem dX2_pricesOf_20 : decode cX2_pricesOf 20 = .ok (.ifCond .eq 11, 3) := dcs_at ok12_evening_0_31 14 rfl
theorem dX2_pricesOf_23 : decode cX2_pricesOf 23 = .ok (.iload_n 2, 1) := dcs_at ok12_evening_0_31 15 rfl
theorem dX2_pricesOf_24 : decode cX2_pricesOf 24 = .ok (.aload_n 0, 1) := dcs_at ok12_evening_0_31 16 rfl
theorem dX2_pricesOf_25 : decode cX2_pricesOf 25 = .ok (.iload_n 3, 1) := dcs_at ok12_evening_0_31 17 rfl
theorem dX2_pricesOf_26 : decode cX2_pricesOf 26 = .ok (.invokevirtual 146, 3) := dcs_at ok12_evening_0_31 18 rfl
theorem dX2_pricesOf_29 : decode cX2_pricesOf 29 = .ok (.iadd, 1) := dcs_at ok12_evening_0_31 19 rfl
theorem dX2_pricesOf_30 : decode cX2_pricesOf 30 = .ok (.istore_n 2, 1) := dcs_at ok12_evening_0_31 20 rfl
theorem dX2_pricesOf_31 : decode cX2_pricesOf 31 = .ok (.iinc 3 1, 3) := dcs_at ok12_evening_0_31 21 rfl
theorem dX2_pricesOf_34 : decode cX2_pricesOf 34 = .ok (.goto (-30), 3) := dcs_at ok12_evening_0_31 22 rfl
theorem dX2_pricesOf_37 : decode cX2_pricesOf 37 = .ok (.iload_n 2, 1) := dcs_at ok12_evening_0_31 23 rfl
theorem dX2_pricesOf_38 : decode cX2_pricesOf 38 = .ok (.ireturn, 1) := dcs_at ok12_evening_0_31 24 rfl
def tb12_evening_0_32 : List (Nat × (Instr × Nat)) := [(0, (.iconst 0, 1)), (1, (.istore_n 2, 1)), (2, (.iconst 0, 1)), (3, (.istore_n 3, 1)), (4, (.iload_n 3, 1)), (5, (.aload_n 0, 1)), (6, (.getfield 12, 3)), (9, (.getfield 96, 3)), (12, (.if_icmp .ge 24, 3)), (15, (.aload_n 0, 1)), (16, (.iload_n 3, 1)), (17, (.invokevirtual 146, 3)), (20, (.iload_n 1, 1)), (21, (.if_icmp .le 9, 3)), (24, (.iload_n 2, 1)), (25, (.iconst 1, 1)), (26, (.iload_n 3, 1)), (27, (.ishl, 1)), (28, (.ior, 1)), (29, (.istore_n 2, 1)), (30, (.iinc 3 1, 3)), (33, (.goto (-29), 3)), (36, (.iload_n 2, 1)), (37, (.ireturn, 1))]
theorem ok12_evening_0_32 : dcs cX2_dearerThan tb12_evening_0_32 = true := by decide +kernel
theorem dX2_dearerThan_0 : decode cX2_dearerThan 0 = .ok (.iconst 0, 1) := dcs_at ok12_evening_0_32 0 rfl
theorem dX2_dearerThan_1 : decode cX2_dearerThan 1 = .ok (.istore_n 2, 1) := dcs_at ok12_evening_0_32 1 rfl
theorem dX2_dearerThan_2 : decode cX2_dearerThan 2 = .ok (.iconst 0, 1) := dcs_at ok12_evening_0_32 2 rfl
theorem dX2_dearerThan_3 : decode cX2_dearerThan 3 = .ok (.istore_n 3, 1) := dcs_at ok12_evening_0_32 3 rfl
theorem dX2_dearerThan_4 : decode cX2_dearerThan 4 = .ok (.iload_n 3, 1) := dcs_at ok12_evening_0_32 4 rfl
theorem dX2_dearerThan_5 : decode cX2_dearerThan 5 = .ok (.aload_n 0, 1) := dcs_at ok12_evening_0_32 5 rfl
theorem dX2_dearerThan_6 : decode cX2_dearerThan 6 = .ok (.getfield 12, 3) := dcs_at ok12_evening_0_32 6 rfl
theorem dX2_dearerThan_9 : decode cX2_dearerThan 9 = .ok (.getfield 96, 3) := dcs_at ok12_evening_0_32 7 rfl
theorem dX2_dearerThan_12 : decode cX2_dearerThan 12 = .ok (.if_icmp .ge 24, 3) := dcs_at ok12_evening_0_32 8 rfl
theorem dX2_dearerThan_15 : decode cX2_dearerThan 15 = .ok (.aload_n 0, 1) := dcs_at ok12_evening_0_32 9 rfl
theorem dX2_dearerThan_16 : decode cX2_dearerThan 16 = .ok (.iload_n 3, 1) := dcs_at ok12_evening_0_32 10 rfl
theorem dX2_dearerThan_17 : decode cX2_dearerThan 17 = .ok (.invokevirtual 146, 3) := dcs_at ok12_evening_0_32 11 rfl
theorem dX2_dearerThan_20 : decode cX2_dearerThan 20 = .ok (.iload_n 1, 1) := dcs_at ok12_evening_0_32 12 rfl
theorem dX2_dearerThan_21 : decode cX2_dearerThan 21 = .ok (.if_icmp .le 9, 3) := dcs_at ok12_evening_0_32 13 rfl
theorem dX2_dearerThan_24 : decode cX2_dearerThan 24 = .ok (.iload_n 2, 1) := dcs_at ok12_evening_0_32 14 rfl
theorem dX2_dearerThan_25 : decode cX2_dearerThan 25 = .ok (.iconst 1, 1) := dcs_at ok12_evening_0_32 15 rfl
theorem dX2_dearerThan_26 : decode cX2_dearerThan 26 = .ok (.iload_n 3, 1) := dcs_at ok12_evening_0_32 16 rfl
theorem dX2_dearerThan_27 : decode cX2_dearerThan 27 = .ok (.ishl, 1) := dcs_at ok12_evening_0_32 17 rfl
theorem dX2_dearerThan_28 : decode cX2_dearerThan 28 = .ok (.ior, 1) := dcs_at ok12_evening_0_32 18 rfl
theorem dX2_dearerThan_29 : decode cX2_dearerThan 29 = .ok (.istore_n 2, 1) := dcs_at ok12_evening_0_32 19 rfl
theorem dX2_dearerThan_30 : decode cX2_dearerThan 30 = .ok (.iinc 3 1, 3) := dcs_at ok12_evening_0_32 20 rfl
theorem dX2_dearerThan_33 : decode cX2_dearerThan 33 = .ok (.goto (-29), 3) := dcs_at ok12_evening_0_32 21 rfl
theorem dX2_dearerThan_36 : decode cX2_dearerThan 36 = .ok (.iload_n 2, 1) := dcs_at ok12_evening_0_32 22 rfl
theorem dX2_dearerThan_37 : decode cX2_dearerThan 37 = .ok (.ireturn, 1) := dcs_at ok12_evening_0_32 23 rfl
def tb12_evening_0_33 : List (Nat × (Instr × Nat)) := [(0, (.iconst (-1), 1)), (1, (.istore_n 1, 1)), (2, (.iconst 0, 1)), (3, (.istore_n 2, 1)), (4, (.iconst 0, 1)), (5, (.istore_n 3, 1)), (6, (.iload_n 3, 1)), (7, (.aload_n 0, 1)), (8, (.getfield 12, 3)), (11, (.getfield 103, 3)), (14, (.if_icmp .ge 60, 3)), (17, (.iconst 0, 1)), (18, (.istore 4, 2)), (20, (.iconst 0, 1)), (21, (.istore 5, 2)), (23, (.iload 5, 2)), (25, (.aload_n 0, 1)), (26, (.getfield 12, 3)), (29, (.getfield 103, 3)), (32, (.if_icmp .ge 25, 3)), (35, (.iload 4, 2)), (37, (.aload_n 0, 1)), (38, (.getfield 22, 3)), (41, (.iload_n 3, 1)), (42, (.iconst 5, 1)), (43, (.imul, 1)), (44, (.iload 5, 2)), (46, (.iadd, 1)), (47, (.iaload, 1)), (48, (.iadd, 1)), (49, (.istore 4, 2)), (51, (.iinc 5 1, 3)), (54, (.goto (-31), 3)), (57, (.iload 4, 2)), (59, (.iload_n 2, 1)), (60, (.if_icmp .le 8, 3)), (63, (.iload_n 3, 1)), (64, (.istore_n 1, 1)), (65, (.iload 4, 2)), (67, (.istore_n 2, 1))]
theorem ok12_evening_0_33 : dcs cX2_loan tb12_evening_0_33 = true := by decide +kernel
theorem dX2_loan_0 : decode cX2_loan 0 = .ok (.iconst (-1), 1) := dcs_at ok12_evening_0_33 0 rfl
theorem dX2_loan_1 : decode cX2_loan 1 = .ok (.istore_n 1, 1) := dcs_at ok12_evening_0_33 1 rfl
theorem dX2_loan_2 : decode cX2_loan 2 = .ok (.iconst 0, 1) := dcs_at ok12_evening_0_33 2 rfl
theorem dX2_loan_3 : decode cX2_loan 3 = .ok (.istore_n 2, 1) := dcs_at ok12_evening_0_33 3 rfl
theorem dX2_loan_4 : decode cX2_loan 4 = .ok (.iconst 0, 1) := dcs_at ok12_evening_0_33 4 rfl
theorem dX2_loan_5 : decode cX2_loan 5 = .ok (.istore_n 3, 1) := dcs_at ok12_evening_0_33 5 rfl
theorem dX2_loan_6 : decode cX2_loan 6 = .ok (.iload_n 3, 1) := dcs_at ok12_evening_0_33 6 rfl
theorem dX2_loan_7 : decode cX2_loan 7 = .ok (.aload_n 0, 1) := dcs_at ok12_evening_0_33 7 rfl
theorem dX2_loan_8 : decode cX2_loan 8 = .ok (.getfield 12, 3) := dcs_at ok12_evening_0_33 8 rfl
theorem dX2_loan_11 : decode cX2_loan 11 = .ok (.getfield 103, 3) := dcs_at ok12_evening_0_33 9 rfl
theorem dX2_loan_14 : decode cX2_loan 14 = .ok (.if_icmp .ge 60, 3) := dcs_at ok12_evening_0_33 10 rfl
theorem dX2_loan_17 : decode cX2_loan 17 = .ok (.iconst 0, 1) := dcs_at ok12_evening_0_33 11 rfl
theorem dX2_loan_18 : decode cX2_loan 18 = .ok (.istore 4, 2) := dcs_at ok12_evening_0_33 12 rfl
theorem dX2_loan_20 : decode cX2_loan 20 = .ok (.iconst 0, 1) := dcs_at ok12_evening_0_33 13 rfl
theorem dX2_loan_21 : decode cX2_loan 21 = .ok (.istore 5, 2) := dcs_at ok12_evening_0_33 14 rfl
theorem dX2_loan_23 : decode cX2_loan 23 = .ok (.iload 5, 2) := dcs_at ok12_evening_0_33 15 rfl
theorem dX2_loan_25 : decode cX2_loan 25 = .ok (.aload_n 0, 1) := dcs_at ok12_evening_0_33 16 rfl
theorem dX2_loan_26 : decode cX2_loan 26 = .ok (.getfield 12, 3) := dcs_at ok12_evening_0_33 17 rfl
theorem dX2_loan_29 : decode cX2_loan 29 = .ok (.getfield 103, 3) := dcs_at ok12_evening_0_33 18 rfl
theorem dX2_loan_32 : decode cX2_loan 32 = .ok (.if_icmp .ge 25, 3) := dcs_at ok12_evening_0_33 19 rfl
theorem dX2_loan_35 : decode cX2_loan 35 = .ok (.iload 4, 2) := dcs_at ok12_evening_0_33 20 rfl
theorem dX2_loan_37 : decode cX2_loan 37 = .ok (.aload_n 0, 1) := dcs_at ok12_evening_0_33 21 rfl
theorem dX2_loan_38 : decode cX2_loan 38 = .ok (.getfield 22, 3) := dcs_at ok12_evening_0_33 22 rfl
theorem dX2_loan_41 : decode cX2_loan 41 = .ok (.iload_n 3, 1) := dcs_at ok12_evening_0_33 23 rfl
theorem dX2_loan_42 : decode cX2_loan 42 = .ok (.iconst 5, 1) := dcs_at ok12_evening_0_33 24 rfl
theorem dX2_loan_43 : decode cX2_loan 43 = .ok (.imul, 1) := dcs_at ok12_evening_0_33 25 rfl
theorem dX2_loan_44 : decode cX2_loan 44 = .ok (.iload 5, 2) := dcs_at ok12_evening_0_33 26 rfl
theorem dX2_loan_46 : decode cX2_loan 46 = .ok (.iadd, 1) := dcs_at ok12_evening_0_33 27 rfl
theorem dX2_loan_47 : decode cX2_loan 47 = .ok (.iaload, 1) := dcs_at ok12_evening_0_33 28 rfl
theorem dX2_loan_48 : decode cX2_loan 48 = .ok (.iadd, 1) := dcs_at ok12_evening_0_33 29 rfl
theorem dX2_loan_49 : decode cX2_loan 49 = .ok (.istore 4, 2) := dcs_at ok12_evening_0_33 30 rfl
theorem dX2_loan_51 : decode cX2_loan 51 = .ok (.iinc 5 1, 3) := dcs_at ok12_evening_0_33 31 rfl
theorem dX2_loan_54 : decode cX2_loan 54 = .ok (.goto (-31), 3) := dcs_at ok12_evening_0_33 32 rfl
theorem dX2_loan_57 : decode cX2_loan 57 = .ok (.iload 4, 2) := dcs_at ok12_evening_0_33 33 rfl
theorem dX2_loan_59 : decode cX2_loan 59 = .ok (.iload_n 2, 1) := dcs_at ok12_evening_0_33 34 rfl
theorem dX2_loan_60 : decode cX2_loan 60 = .ok (.if_icmp .le 8, 3) := dcs_at ok12_evening_0_33 35 rfl
theorem dX2_loan_63 : decode cX2_loan 63 = .ok (.iload_n 3, 1) := dcs_at ok12_evening_0_33 36 rfl
theorem dX2_loan_64 : decode cX2_loan 64 = .ok (.istore_n 1, 1) := dcs_at ok12_evening_0_33 37 rfl
theorem dX2_loan_65 : decode cX2_loan 65 = .ok (.iload 4, 2) := dcs_at ok12_evening_0_33 38 rfl
theorem dX2_loan_67 : decode cX2_loan 67 = .ok (.istore_n 2, 1) := dcs_at ok12_evening_0_33 39 rfl
def tb12_evening_0_34 : List (Nat × (Instr × Nat)) := [(68, (.iinc 3 1, 3)), (71, (.goto (-65), 3)), (74, (.iload_n 1, 1)), (75, (.ireturn, 1))]
theorem ok12_evening_0_34 : dcs cX2_loan tb12_evening_0_34 = true := by decide +kernel
theorem dX2_loan_68 : decode cX2_loan 68 = .ok (.iinc 3 1, 3) := dcs_at ok12_evening_0_34 0 rfl
theorem dX2_loan_71 : decode cX2_loan 71 = .ok (.goto (-65), 3) := dcs_at ok12_evening_0_34 1 rfl
theorem dX2_loan_74 : decode cX2_loan 74 = .ok (.iload_n 1, 1) := dcs_at ok12_evening_0_34 2 rfl
theorem dX2_loan_75 : decode cX2_loan 75 = .ok (.ireturn, 1) := dcs_at ok12_evening_0_34 3 rfl
def tb12_evening_0_35 : List (Nat × (Instr × Nat)) := [(0, (.iconst (-1), 1)), (1, (.istore_n 1, 1)), (2, (.iconst 0, 1)), (3, (.istore_n 2, 1)), (4, (.iconst 0, 1)), (5, (.istore_n 3, 1)), (6, (.iload_n 3, 1)), (7, (.aload_n 0, 1)), (8, (.getfield 12, 3)), (11, (.getfield 96, 3)), (14, (.if_icmp .ge 61, 3)), (17, (.iconst 0, 1)), (18, (.istore 4, 2)), (20, (.iconst 0, 1)), (21, (.istore 5, 2)), (23, (.iload 5, 2)), (25, (.aload_n 0, 1)), (26, (.getfield 12, 3)), (29, (.getfield 103, 3)), (32, (.if_icmp .ge 26, 3)), (35, (.iload 4, 2)), (37, (.aload_n 0, 1)), (38, (.getfield 25, 3)), (41, (.iload 5, 2)), (43, (.bipush 6, 2)), (45, (.imul, 1)), (46, (.iload_n 3, 1)), (47, (.iadd, 1)), (48, (.iaload, 1)), (49, (.iadd, 1)), (50, (.istore 4, 2)), (52, (.iinc 5 1, 3)), (55, (.goto (-32), 3)), (58, (.iload 4, 2)), (60, (.iload_n 2, 1)), (61, (.if_icmp .le 8, 3)), (64, (.iload_n 3, 1)), (65, (.istore_n 1, 1)), (66, (.iload 4, 2)), (68, (.istore_n 2, 1))]
theorem ok12_evening_0_35 : dcs cX2_idol tb12_evening_0_35 = true := by decide +kernel
theorem dX2_idol_0 : decode cX2_idol 0 = .ok (.iconst (-1), 1) := dcs_at ok12_evening_0_35 0 rfl
theorem dX2_idol_1 : decode cX2_idol 1 = .ok (.istore_n 1, 1) := dcs_at ok12_evening_0_35 1 rfl
theorem dX2_idol_2 : decode cX2_idol 2 = .ok (.iconst 0, 1) := dcs_at ok12_evening_0_35 2 rfl
theorem dX2_idol_3 : decode cX2_idol 3 = .ok (.istore_n 2, 1) := dcs_at ok12_evening_0_35 3 rfl
theorem dX2_idol_4 : decode cX2_idol 4 = .ok (.iconst 0, 1) := dcs_at ok12_evening_0_35 4 rfl
theorem dX2_idol_5 : decode cX2_idol 5 = .ok (.istore_n 3, 1) := dcs_at ok12_evening_0_35 5 rfl
theorem dX2_idol_6 : decode cX2_idol 6 = .ok (.iload_n 3, 1) := dcs_at ok12_evening_0_35 6 rfl
theorem dX2_idol_7 : decode cX2_idol 7 = .ok (.aload_n 0, 1) := dcs_at ok12_evening_0_35 7 rfl
theorem dX2_idol_8 : decode cX2_idol 8 = .ok (.getfield 12, 3) := dcs_at ok12_evening_0_35 8 rfl
theorem dX2_idol_11 : decode cX2_idol 11 = .ok (.getfield 96, 3) := dcs_at ok12_evening_0_35 9 rfl
theorem dX2_idol_14 : decode cX2_idol 14 = .ok (.if_icmp .ge 61, 3) := dcs_at ok12_evening_0_35 10 rfl
theorem dX2_idol_17 : decode cX2_idol 17 = .ok (.iconst 0, 1) := dcs_at ok12_evening_0_35 11 rfl
theorem dX2_idol_18 : decode cX2_idol 18 = .ok (.istore 4, 2) := dcs_at ok12_evening_0_35 12 rfl
theorem dX2_idol_20 : decode cX2_idol 20 = .ok (.iconst 0, 1) := dcs_at ok12_evening_0_35 13 rfl
theorem dX2_idol_21 : decode cX2_idol 21 = .ok (.istore 5, 2) := dcs_at ok12_evening_0_35 14 rfl
theorem dX2_idol_23 : decode cX2_idol 23 = .ok (.iload 5, 2) := dcs_at ok12_evening_0_35 15 rfl
theorem dX2_idol_25 : decode cX2_idol 25 = .ok (.aload_n 0, 1) := dcs_at ok12_evening_0_35 16 rfl
theorem dX2_idol_26 : decode cX2_idol 26 = .ok (.getfield 12, 3) := dcs_at ok12_evening_0_35 17 rfl
theorem dX2_idol_29 : decode cX2_idol 29 = .ok (.getfield 103, 3) := dcs_at ok12_evening_0_35 18 rfl
theorem dX2_idol_32 : decode cX2_idol 32 = .ok (.if_icmp .ge 26, 3) := dcs_at ok12_evening_0_35 19 rfl
theorem dX2_idol_35 : decode cX2_idol 35 = .ok (.iload 4, 2) := dcs_at ok12_evening_0_35 20 rfl
theorem dX2_idol_37 : decode cX2_idol 37 = .ok (.aload_n 0, 1) := dcs_at ok12_evening_0_35 21 rfl
theorem dX2_idol_38 : decode cX2_idol 38 = .ok (.getfield 25, 3) := dcs_at ok12_evening_0_35 22 rfl
theorem dX2_idol_41 : decode cX2_idol 41 = .ok (.iload 5, 2) := dcs_at ok12_evening_0_35 23 rfl
theorem dX2_idol_43 : decode cX2_idol 43 = .ok (.bipush 6, 2) := dcs_at ok12_evening_0_35 24 rfl
theorem dX2_idol_45 : decode cX2_idol 45 = .ok (.imul, 1) := dcs_at ok12_evening_0_35 25 rfl
theorem dX2_idol_46 : decode cX2_idol 46 = .ok (.iload_n 3, 1) := dcs_at ok12_evening_0_35 26 rfl
theorem dX2_idol_47 : decode cX2_idol 47 = .ok (.iadd, 1) := dcs_at ok12_evening_0_35 27 rfl
theorem dX2_idol_48 : decode cX2_idol 48 = .ok (.iaload, 1) := dcs_at ok12_evening_0_35 28 rfl
theorem dX2_idol_49 : decode cX2_idol 49 = .ok (.iadd, 1) := dcs_at ok12_evening_0_35 29 rfl
theorem dX2_idol_50 : decode cX2_idol 50 = .ok (.istore 4, 2) := dcs_at ok12_evening_0_35 30 rfl
theorem dX2_idol_52 : decode cX2_idol 52 = .ok (.iinc 5 1, 3) := dcs_at ok12_evening_0_35 31 rfl
theorem dX2_idol_55 : decode cX2_idol 55 = .ok (.goto (-32), 3) := dcs_at ok12_evening_0_35 32 rfl
theorem dX2_idol_58 : decode cX2_idol 58 = .ok (.iload 4, 2) := dcs_at ok12_evening_0_35 33 rfl
theorem dX2_idol_60 : decode cX2_idol 60 = .ok (.iload_n 2, 1) := dcs_at ok12_evening_0_35 34 rfl
theorem dX2_idol_61 : decode cX2_idol 61 = .ok (.if_icmp .le 8, 3) := dcs_at ok12_evening_0_35 35 rfl
theorem dX2_idol_64 : decode cX2_idol 64 = .ok (.iload_n 3, 1) := dcs_at ok12_evening_0_35 36 rfl
theorem dX2_idol_65 : decode cX2_idol 65 = .ok (.istore_n 1, 1) := dcs_at ok12_evening_0_35 37 rfl
theorem dX2_idol_66 : decode cX2_idol 66 = .ok (.iload 4, 2) := dcs_at ok12_evening_0_35 38 rfl
theorem dX2_idol_68 : decode cX2_idol 68 = .ok (.istore_n 2, 1) := dcs_at ok12_evening_0_35 39 rfl
def tb12_evening_0_36 : List (Nat × (Instr × Nat)) := [(69, (.iinc 3 1, 3)), (72, (.goto (-66), 3)), (75, (.iload_n 1, 1)), (76, (.ireturn, 1))]
theorem ok12_evening_0_36 : dcs cX2_idol tb12_evening_0_36 = true := by decide +kernel
theorem dX2_idol_69 : decode cX2_idol 69 = .ok (.iinc 3 1, 3) := dcs_at ok12_evening_0_36 0 rfl
theorem dX2_idol_72 : decode cX2_idol 72 = .ok (.goto (-66), 3) := dcs_at ok12_evening_0_36 1 rfl
theorem dX2_idol_75 : decode cX2_idol 75 = .ok (.iload_n 1, 1) := dcs_at ok12_evening_0_36 2 rfl
theorem dX2_idol_76 : decode cX2_idol 76 = .ok (.ireturn, 1) := dcs_at ok12_evening_0_36 3 rfl
def tb12_evening_0_37 : List (Nat × (Instr × Nat)) := [(0, (.aload_n 0, 1)), (1, (.iload_n 1, 1)), (2, (.invokevirtual 99, 3)), (5, (.ifCond .ne 5, 3)), (8, (.iconst (-1), 1)), (9, (.ireturn, 1)), (10, (.iconst 0, 1)), (11, (.istore_n 2, 1)), (12, (.iload_n 2, 1)), (13, (.bipush 99, 2)), (15, (.if_icmp .gt 22, 3)), (18, (.aload_n 0, 1)), (19, (.iload_n 1, 1)), (20, (.iconst 2, 1)), (21, (.iload_n 2, 1)), (22, (.imul, 1)), (23, (.invokevirtual 198, 3)), (26, (.ifCond .eq 5, 3)), (29, (.iload_n 2, 1)), (30, (.ireturn, 1)), (31, (.iinc 2 1, 3)), (34, (.goto (-22), 3)), (37, (.iconst (-1), 1)), (38, (.ireturn, 1))]
theorem ok12_evening_0_37 : dcs cX2_tip tb12_evening_0_37 = true := by decide +kernel
theorem dX2_tip_0 : decode cX2_tip 0 = .ok (.aload_n 0, 1) := dcs_at ok12_evening_0_37 0 rfl
theorem dX2_tip_1 : decode cX2_tip 1 = .ok (.iload_n 1, 1) := dcs_at ok12_evening_0_37 1 rfl
theorem dX2_tip_2 : decode cX2_tip 2 = .ok (.invokevirtual 99, 3) := dcs_at ok12_evening_0_37 2 rfl
theorem dX2_tip_5 : decode cX2_tip 5 = .ok (.ifCond .ne 5, 3) := dcs_at ok12_evening_0_37 3 rfl
theorem dX2_tip_8 : decode cX2_tip 8 = .ok (.iconst (-1), 1) := dcs_at ok12_evening_0_37 4 rfl
theorem dX2_tip_9 : decode cX2_tip 9 = .ok (.ireturn, 1) := dcs_at ok12_evening_0_37 5 rfl
theorem dX2_tip_10 : decode cX2_tip 10 = .ok (.iconst 0, 1) := dcs_at ok12_evening_0_37 6 rfl
theorem dX2_tip_11 : decode cX2_tip 11 = .ok (.istore_n 2, 1) := dcs_at ok12_evening_0_37 7 rfl
theorem dX2_tip_12 : decode cX2_tip 12 = .ok (.iload_n 2, 1) := dcs_at ok12_evening_0_37 8 rfl
theorem dX2_tip_13 : decode cX2_tip 13 = .ok (.bipush 99, 2) := dcs_at ok12_evening_0_37 9 rfl
theorem dX2_tip_15 : decode cX2_tip 15 = .ok (.if_icmp .gt 22, 3) := dcs_at ok12_evening_0_37 10 rfl
theorem dX2_tip_18 : decode cX2_tip 18 = .ok (.aload_n 0, 1) := dcs_at ok12_evening_0_37 11 rfl
theorem dX2_tip_19 : decode cX2_tip 19 = .ok (.iload_n 1, 1) := dcs_at ok12_evening_0_37 12 rfl
theorem dX2_tip_20 : decode cX2_tip 20 = .ok (.iconst 2, 1) := dcs_at ok12_evening_0_37 13 rfl
theorem dX2_tip_21 : decode cX2_tip 21 = .ok (.iload_n 2, 1) := dcs_at ok12_evening_0_37 14 rfl
theorem dX2_tip_22 : decode cX2_tip 22 = .ok (.imul, 1) := dcs_at ok12_evening_0_37 15 rfl
theorem dX2_tip_23 : decode cX2_tip 23 = .ok (.invokevirtual 198, 3) := dcs_at ok12_evening_0_37 16 rfl
theorem dX2_tip_26 : decode cX2_tip 26 = .ok (.ifCond .eq 5, 3) := dcs_at ok12_evening_0_37 17 rfl
theorem dX2_tip_29 : decode cX2_tip 29 = .ok (.iload_n 2, 1) := dcs_at ok12_evening_0_37 18 rfl
theorem dX2_tip_30 : decode cX2_tip 30 = .ok (.ireturn, 1) := dcs_at ok12_evening_0_37 19 rfl
theorem dX2_tip_31 : decode cX2_tip 31 = .ok (.iinc 2 1, 3) := dcs_at ok12_evening_0_37 20 rfl
theorem dX2_tip_34 : decode cX2_tip 34 = .ok (.goto (-22), 3) := dcs_at ok12_evening_0_37 21 rfl
theorem dX2_tip_37 : decode cX2_tip 37 = .ok (.iconst (-1), 1) := dcs_at ok12_evening_0_37 22 rfl
theorem dX2_tip_38 : decode cX2_tip 38 = .ok (.ireturn, 1) := dcs_at ok12_evening_0_37 23 rfl
def tb12_evening_0_38 : List (Nat × (Instr × Nat)) := [(0, (.aload_n 0, 1)), (1, (.getfield 60, 3)), (4, (.iload_n 2, 1)), (5, (.iadd, 1)), (6, (.istore_n 3, 1)), (7, (.iconst 0, 1)), (8, (.istore 4, 2)), (10, (.iload 4, 2)), (12, (.iload_n 1, 1)), (13, (.if_icmp .ge 53, 3)), (16, (.aload_n 0, 1)), (17, (.iload 4, 2)), (19, (.invokevirtual 99, 3)), (22, (.ifCond .eq 38, 3)), (25, (.aload_n 0, 1)), (26, (.getfield 28, 3)), (29, (.iload 4, 2)), (31, (.iaload, 1)), (32, (.aload_n 0, 1)), (33, (.iload 4, 2)), (35, (.invokevirtual 146, 3)), (38, (.if_icmp .lt 22, 3)), (41, (.iload_n 3, 1)), (42, (.aload_n 0, 1)), (43, (.iload 4, 2)), (45, (.invokevirtual 146, 3)), (48, (.if_icmp .lt 12, 3)), (51, (.iload_n 3, 1)), (52, (.aload_n 0, 1)), (53, (.iload 4, 2)), (55, (.invokevirtual 146, 3)), (58, (.isub, 1)), (59, (.istore_n 3, 1)), (60, (.iinc 4 1, 3)), (63, (.goto (-53), 3)), (66, (.aload_n 0, 1)), (67, (.getfield 28, 3)), (70, (.iload_n 1, 1)), (71, (.iaload, 1)), (72, (.iload_n 2, 1))]
theorem ok12_evening_0_38 : dcs cX2_eatsWith tb12_evening_0_38 = true := by decide +kernel
theorem dX2_eatsWith_0 : decode cX2_eatsWith 0 = .ok (.aload_n 0, 1) := dcs_at ok12_evening_0_38 0 rfl
theorem dX2_eatsWith_1 : decode cX2_eatsWith 1 = .ok (.getfield 60, 3) := dcs_at ok12_evening_0_38 1 rfl
theorem dX2_eatsWith_4 : decode cX2_eatsWith 4 = .ok (.iload_n 2, 1) := dcs_at ok12_evening_0_38 2 rfl
theorem dX2_eatsWith_5 : decode cX2_eatsWith 5 = .ok (.iadd, 1) := dcs_at ok12_evening_0_38 3 rfl
theorem dX2_eatsWith_6 : decode cX2_eatsWith 6 = .ok (.istore_n 3, 1) := dcs_at ok12_evening_0_38 4 rfl
theorem dX2_eatsWith_7 : decode cX2_eatsWith 7 = .ok (.iconst 0, 1) := dcs_at ok12_evening_0_38 5 rfl
theorem dX2_eatsWith_8 : decode cX2_eatsWith 8 = .ok (.istore 4, 2) := dcs_at ok12_evening_0_38 6 rfl
theorem dX2_eatsWith_10 : decode cX2_eatsWith 10 = .ok (.iload 4, 2) := dcs_at ok12_evening_0_38 7 rfl
theorem dX2_eatsWith_12 : decode cX2_eatsWith 12 = .ok (.iload_n 1, 1) := dcs_at ok12_evening_0_38 8 rfl
theorem dX2_eatsWith_13 : decode cX2_eatsWith 13 = .ok (.if_icmp .ge 53, 3) := dcs_at ok12_evening_0_38 9 rfl
theorem dX2_eatsWith_16 : decode cX2_eatsWith 16 = .ok (.aload_n 0, 1) := dcs_at ok12_evening_0_38 10 rfl
theorem dX2_eatsWith_17 : decode cX2_eatsWith 17 = .ok (.iload 4, 2) := dcs_at ok12_evening_0_38 11 rfl
theorem dX2_eatsWith_19 : decode cX2_eatsWith 19 = .ok (.invokevirtual 99, 3) := dcs_at ok12_evening_0_38 12 rfl
theorem dX2_eatsWith_22 : decode cX2_eatsWith 22 = .ok (.ifCond .eq 38, 3) := dcs_at ok12_evening_0_38 13 rfl
theorem dX2_eatsWith_25 : decode cX2_eatsWith 25 = .ok (.aload_n 0, 1) := dcs_at ok12_evening_0_38 14 rfl
theorem dX2_eatsWith_26 : decode cX2_eatsWith 26 = .ok (.getfield 28, 3) := dcs_at ok12_evening_0_38 15 rfl
theorem dX2_eatsWith_29 : decode cX2_eatsWith 29 = .ok (.iload 4, 2) := dcs_at ok12_evening_0_38 16 rfl
theorem dX2_eatsWith_31 : decode cX2_eatsWith 31 = .ok (.iaload, 1) := dcs_at ok12_evening_0_38 17 rfl
theorem dX2_eatsWith_32 : decode cX2_eatsWith 32 = .ok (.aload_n 0, 1) := dcs_at ok12_evening_0_38 18 rfl
theorem dX2_eatsWith_33 : decode cX2_eatsWith 33 = .ok (.iload 4, 2) := dcs_at ok12_evening_0_38 19 rfl
theorem dX2_eatsWith_35 : decode cX2_eatsWith 35 = .ok (.invokevirtual 146, 3) := dcs_at ok12_evening_0_38 20 rfl
theorem dX2_eatsWith_38 : decode cX2_eatsWith 38 = .ok (.if_icmp .lt 22, 3) := dcs_at ok12_evening_0_38 21 rfl
theorem dX2_eatsWith_41 : decode cX2_eatsWith 41 = .ok (.iload_n 3, 1) := dcs_at ok12_evening_0_38 22 rfl
theorem dX2_eatsWith_42 : decode cX2_eatsWith 42 = .ok (.aload_n 0, 1) := dcs_at ok12_evening_0_38 23 rfl
theorem dX2_eatsWith_43 : decode cX2_eatsWith 43 = .ok (.iload 4, 2) := dcs_at ok12_evening_0_38 24 rfl
theorem dX2_eatsWith_45 : decode cX2_eatsWith 45 = .ok (.invokevirtual 146, 3) := dcs_at ok12_evening_0_38 25 rfl
theorem dX2_eatsWith_48 : decode cX2_eatsWith 48 = .ok (.if_icmp .lt 12, 3) := dcs_at ok12_evening_0_38 26 rfl
theorem dX2_eatsWith_51 : decode cX2_eatsWith 51 = .ok (.iload_n 3, 1) := dcs_at ok12_evening_0_38 27 rfl
theorem dX2_eatsWith_52 : decode cX2_eatsWith 52 = .ok (.aload_n 0, 1) := dcs_at ok12_evening_0_38 28 rfl
theorem dX2_eatsWith_53 : decode cX2_eatsWith 53 = .ok (.iload 4, 2) := dcs_at ok12_evening_0_38 29 rfl
theorem dX2_eatsWith_55 : decode cX2_eatsWith 55 = .ok (.invokevirtual 146, 3) := dcs_at ok12_evening_0_38 30 rfl
theorem dX2_eatsWith_58 : decode cX2_eatsWith 58 = .ok (.isub, 1) := dcs_at ok12_evening_0_38 31 rfl
theorem dX2_eatsWith_59 : decode cX2_eatsWith 59 = .ok (.istore_n 3, 1) := dcs_at ok12_evening_0_38 32 rfl
theorem dX2_eatsWith_60 : decode cX2_eatsWith 60 = .ok (.iinc 4 1, 3) := dcs_at ok12_evening_0_38 33 rfl
theorem dX2_eatsWith_63 : decode cX2_eatsWith 63 = .ok (.goto (-53), 3) := dcs_at ok12_evening_0_38 34 rfl
theorem dX2_eatsWith_66 : decode cX2_eatsWith 66 = .ok (.aload_n 0, 1) := dcs_at ok12_evening_0_38 35 rfl
theorem dX2_eatsWith_67 : decode cX2_eatsWith 67 = .ok (.getfield 28, 3) := dcs_at ok12_evening_0_38 36 rfl
theorem dX2_eatsWith_70 : decode cX2_eatsWith 70 = .ok (.iload_n 1, 1) := dcs_at ok12_evening_0_38 37 rfl
theorem dX2_eatsWith_71 : decode cX2_eatsWith 71 = .ok (.iaload, 1) := dcs_at ok12_evening_0_38 38 rfl
theorem dX2_eatsWith_72 : decode cX2_eatsWith 72 = .ok (.iload_n 2, 1) := dcs_at ok12_evening_0_38 39 rfl
def tb12_evening_0_39 : List (Nat × (Instr × Nat)) := [(73, (.iadd, 1)), (74, (.aload_n 0, 1)), (75, (.iload_n 1, 1)), (76, (.invokevirtual 146, 3)), (79, (.if_icmp .lt 16, 3)), (82, (.iload_n 3, 1)), (83, (.aload_n 0, 1)), (84, (.iload_n 1, 1)), (85, (.invokevirtual 146, 3)), (88, (.if_icmp .lt 7, 3)), (91, (.iconst 1, 1)), (92, (.goto 4, 3)), (95, (.iconst 0, 1)), (96, (.ireturn, 1))]
theorem ok12_evening_0_39 : dcs cX2_eatsWith tb12_evening_0_39 = true := by decide +kernel
theorem dX2_eatsWith_73 : decode cX2_eatsWith 73 = .ok (.iadd, 1) := dcs_at ok12_evening_0_39 0 rfl
theorem dX2_eatsWith_74 : decode cX2_eatsWith 74 = .ok (.aload_n 0, 1) := dcs_at ok12_evening_0_39 1 rfl
theorem dX2_eatsWith_75 : decode cX2_eatsWith 75 = .ok (.iload_n 1, 1) := dcs_at ok12_evening_0_39 2 rfl
theorem dX2_eatsWith_76 : decode cX2_eatsWith 76 = .ok (.invokevirtual 146, 3) := dcs_at ok12_evening_0_39 3 rfl
theorem dX2_eatsWith_79 : decode cX2_eatsWith 79 = .ok (.if_icmp .lt 16, 3) := dcs_at ok12_evening_0_39 4 rfl
theorem dX2_eatsWith_82 : decode cX2_eatsWith 82 = .ok (.iload_n 3, 1) := dcs_at ok12_evening_0_39 5 rfl
theorem dX2_eatsWith_83 : decode cX2_eatsWith 83 = .ok (.aload_n 0, 1) := dcs_at ok12_evening_0_39 6 rfl
theorem dX2_eatsWith_84 : decode cX2_eatsWith 84 = .ok (.iload_n 1, 1) := dcs_at ok12_evening_0_39 7 rfl
theorem dX2_eatsWith_85 : decode cX2_eatsWith 85 = .ok (.invokevirtual 146, 3) := dcs_at ok12_evening_0_39 8 rfl
theorem dX2_eatsWith_88 : decode cX2_eatsWith 88 = .ok (.if_icmp .lt 7, 3) := dcs_at ok12_evening_0_39 9 rfl
theorem dX2_eatsWith_91 : decode cX2_eatsWith 91 = .ok (.iconst 1, 1) := dcs_at ok12_evening_0_39 10 rfl
theorem dX2_eatsWith_92 : decode cX2_eatsWith 92 = .ok (.goto 4, 3) := dcs_at ok12_evening_0_39 11 rfl
theorem dX2_eatsWith_95 : decode cX2_eatsWith 95 = .ok (.iconst 0, 1) := dcs_at ok12_evening_0_39 12 rfl
theorem dX2_eatsWith_96 : decode cX2_eatsWith 96 = .ok (.ireturn, 1) := dcs_at ok12_evening_0_39 13 rfl
def tb12_evening_0_40 : List (Nat × (Instr × Nat)) := [(0, (.aload_n 0, 1)), (1, (.iload_n 1, 1)), (2, (.invokevirtual 99, 3)), (5, (.ifCond .ne 5, 3)), (8, (.iconst 0, 1)), (9, (.ireturn, 1)), (10, (.iconst 0, 1)), (11, (.istore_n 2, 1)), (12, (.iload_n 2, 1)), (13, (.bipush 99, 2)), (15, (.if_icmp .ge 26, 3)), (18, (.aload_n 0, 1)), (19, (.iload_n 1, 1)), (20, (.iload_n 2, 1)), (21, (.invokevirtual 143, 3)), (24, (.aload_n 0, 1)), (25, (.getfield 28, 3)), (28, (.iload_n 1, 1)), (29, (.iaload, 1)), (30, (.if_icmp .le 5, 3)), (33, (.iload_n 2, 1)), (34, (.ireturn, 1)), (35, (.iinc 2 1, 3)), (38, (.goto (-26), 3)), (41, (.bipush 99, 2)), (43, (.ireturn, 1))]
theorem ok12_evening_0_40 : dcs cX2_dear tb12_evening_0_40 = true := by decide +kernel
theorem dX2_dear_0 : decode cX2_dear 0 = .ok (.aload_n 0, 1) := dcs_at ok12_evening_0_40 0 rfl
theorem dX2_dear_1 : decode cX2_dear 1 = .ok (.iload_n 1, 1) := dcs_at ok12_evening_0_40 1 rfl
theorem dX2_dear_2 : decode cX2_dear 2 = .ok (.invokevirtual 99, 3) := dcs_at ok12_evening_0_40 2 rfl
theorem dX2_dear_5 : decode cX2_dear 5 = .ok (.ifCond .ne 5, 3) := dcs_at ok12_evening_0_40 3 rfl
theorem dX2_dear_8 : decode cX2_dear 8 = .ok (.iconst 0, 1) := dcs_at ok12_evening_0_40 4 rfl
theorem dX2_dear_9 : decode cX2_dear 9 = .ok (.ireturn, 1) := dcs_at ok12_evening_0_40 5 rfl
theorem dX2_dear_10 : decode cX2_dear 10 = .ok (.iconst 0, 1) := dcs_at ok12_evening_0_40 6 rfl
theorem dX2_dear_11 : decode cX2_dear 11 = .ok (.istore_n 2, 1) := dcs_at ok12_evening_0_40 7 rfl
theorem dX2_dear_12 : decode cX2_dear 12 = .ok (.iload_n 2, 1) := dcs_at ok12_evening_0_40 8 rfl
theorem dX2_dear_13 : decode cX2_dear 13 = .ok (.bipush 99, 2) := dcs_at ok12_evening_0_40 9 rfl
theorem dX2_dear_15 : decode cX2_dear 15 = .ok (.if_icmp .ge 26, 3) := dcs_at ok12_evening_0_40 10 rfl
theorem dX2_dear_18 : decode cX2_dear 18 = .ok (.aload_n 0, 1) := dcs_at ok12_evening_0_40 11 rfl
theorem dX2_dear_19 : decode cX2_dear 19 = .ok (.iload_n 1, 1) := dcs_at ok12_evening_0_40 12 rfl
theorem dX2_dear_20 : decode cX2_dear 20 = .ok (.iload_n 2, 1) := dcs_at ok12_evening_0_40 13 rfl
theorem dX2_dear_21 : decode cX2_dear 21 = .ok (.invokevirtual 143, 3) := dcs_at ok12_evening_0_40 14 rfl
theorem dX2_dear_24 : decode cX2_dear 24 = .ok (.aload_n 0, 1) := dcs_at ok12_evening_0_40 15 rfl
theorem dX2_dear_25 : decode cX2_dear 25 = .ok (.getfield 28, 3) := dcs_at ok12_evening_0_40 16 rfl
theorem dX2_dear_28 : decode cX2_dear 28 = .ok (.iload_n 1, 1) := dcs_at ok12_evening_0_40 17 rfl
theorem dX2_dear_29 : decode cX2_dear 29 = .ok (.iaload, 1) := dcs_at ok12_evening_0_40 18 rfl
theorem dX2_dear_30 : decode cX2_dear 30 = .ok (.if_icmp .le 5, 3) := dcs_at ok12_evening_0_40 19 rfl
theorem dX2_dear_33 : decode cX2_dear 33 = .ok (.iload_n 2, 1) := dcs_at ok12_evening_0_40 20 rfl
theorem dX2_dear_34 : decode cX2_dear 34 = .ok (.ireturn, 1) := dcs_at ok12_evening_0_40 21 rfl
theorem dX2_dear_35 : decode cX2_dear 35 = .ok (.iinc 2 1, 3) := dcs_at ok12_evening_0_40 22 rfl
theorem dX2_dear_38 : decode cX2_dear 38 = .ok (.goto (-26), 3) := dcs_at ok12_evening_0_40 23 rfl
theorem dX2_dear_41 : decode cX2_dear 41 = .ok (.bipush 99, 2) := dcs_at ok12_evening_0_40 24 rfl
theorem dX2_dear_43 : decode cX2_dear 43 = .ok (.ireturn, 1) := dcs_at ok12_evening_0_40 25 rfl
