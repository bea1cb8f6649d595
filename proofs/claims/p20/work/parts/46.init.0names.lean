theorem nmX9 : ∀ a, a < 7 → ∀ b, b < 7 → a ≠ b → (TX9 a).2.1 ≠ (TX9 b).2.1 := nm_of [1953459300, 115918506517875, 125779751232882, 28559150663954023, 499850046565, 125823037105267, 29384866783653479] (by decide +kernel) (by decide +kernel)
theorem tyX9_ok : ∀ k, k < 7 → parseFieldDescriptor (TX9 k).2.2.1 = some (tyX9 k) := by decide +kernel
def tb46_init_0_1 : List (Nat × (Instr × Nat)) := [(0, (.aload_n 0, 1)), (1, (.invokespecial 3, 3)), (4, (.aload_n 0, 1)), (5, (.bipush 120, 2)), (7, (.newarray .int, 2)), (9, (.putfield 9, 3)), (12, (.return_, 1))]
theorem ok46_init_0_1 : dcs cX0_init tb46_init_0_1 = true := by decide +kernel
theorem dX0_init_0 : decode cX0_init 0 = .ok (.aload_n 0, 1) := dcs_at ok46_init_0_1 0 rfl
theorem dX0_init_1 : decode cX0_init 1 = .ok (.invokespecial 3, 3) := dcs_at ok46_init_0_1 1 rfl
theorem dX0_init_4 : decode cX0_init 4 = .ok (.aload_n 0, 1) := dcs_at ok46_init_0_1 2 rfl
theorem dX0_init_5 : decode cX0_init 5 = .ok (.bipush 120, 2) := dcs_at ok46_init_0_1 3 rfl
theorem dX0_init_7 : decode cX0_init 7 = .ok (.newarray .int, 2) := dcs_at ok46_init_0_1 4 rfl
theorem dX0_init_9 : decode cX0_init 9 = .ok (.putfield 9, 3) := dcs_at ok46_init_0_1 5 rfl
theorem dX0_init_12 : decode cX0_init 12 = .ok (.return_, 1) := dcs_at ok46_init_0_1 6 rfl
def tb46_init_0_2 : List (Nat × (Instr × Nat)) := [(0, (.aload_n 0, 1)), (1, (.invokespecial 3, 3)), (4, (.aload_n 0, 1)), (5, (.bipush 6, 2)), (7, (.newarray .int, 2)), (9, (.putfield 9, 3)), (12, (.return_, 1))]
theorem ok46_init_0_2 : dcs cX1_init tb46_init_0_2 = true := by decide +kernel
theorem dX1_init_0 : decode cX1_init 0 = .ok (.aload_n 0, 1) := dcs_at ok46_init_0_2 0 rfl
theorem dX1_init_1 : decode cX1_init 1 = .ok (.invokespecial 3, 3) := dcs_at ok46_init_0_2 1 rfl
theorem dX1_init_4 : decode cX1_init 4 = .ok (.aload_n 0, 1) := dcs_at ok46_init_0_2 2 rfl
theorem dX1_init_5 : decode cX1_init 5 = .ok (.bipush 6, 2) := dcs_at ok46_init_0_2 3 rfl
theorem dX1_init_7 : decode cX1_init 7 = .ok (.newarray .int, 2) := dcs_at ok46_init_0_2 4 rfl
theorem dX1_init_9 : decode cX1_init 9 = .ok (.putfield 9, 3) := dcs_at ok46_init_0_2 5 rfl
theorem dX1_init_12 : decode cX1_init 12 = .ok (.return_, 1) := dcs_at ok46_init_0_2 6 rfl
def tb46_init_0_3 : List (Nat × (Instr × Nat)) := [(0, (.aload_n 0, 1)), (1, (.invokespecial 3, 3)), (4, (.aload_n 0, 1)), (5, (.new 9, 3)), (8, (.dup, 1)), (9, (.invokespecial 11, 3)), (12, (.putfield 12, 3)), (15, (.aload_n 0, 1)), (16, (.iconst 5, 1)), (17, (.newarray .int, 2)), (19, (.putfield 18, 3)), (22, (.aload_n 0, 1)), (23, (.bipush 25, 2)), (25, (.newarray .int, 2)), (27, (.putfield 22, 3)), (30, (.aload_n 0, 1)), (31, (.bipush 30, 2)), (33, (.newarray .int, 2)), (35, (.putfield 25, 3)), (38, (.aload_n 0, 1)), (39, (.bipush 6, 2)), (41, (.newarray .int, 2)), (43, (.putfield 28, 3)), (46, (.aload_n 0, 1)), (47, (.bipush 6, 2)), (49, (.newarray .int, 2)), (51, (.putfield 31, 3)), (54, (.aload_n 0, 1)), (55, (.bipush 6, 2)), (57, (.newarray .int, 2)), (59, (.putfield 34, 3)), (62, (.aload_n 0, 1)), (63, (.bipush 6, 2)), (65, (.newarray .int, 2)), (67, (.putfield 37, 3)), (70, (.return_, 1))]
theorem ok46_init_0_3 : dcs cX2_init tb46_init_0_3 = true := by decide +kernel
theorem dX2_init_0 : decode cX2_init 0 = .ok (.aload_n 0, 1) := dcs_at ok46_init_0_3 0 rfl
theorem dX2_init_1 : decode cX2_init 1 = .ok (.invokespecial 3, 3) := dcs_at ok46_init_0_3 1 rfl
theorem dX2_init_4 : decode cX2_init 4 = .ok (.aload_n 0, 1) := dcs_at ok46_init_0_3 2 rfl
theorem dX2_init_5 : decode cX2_init 5 = .ok (.new 9, 3) := dcs_at ok46_init_0_3 3 rfl
theorem dX2_init_8 : decode cX2_init 8 = .ok (.dup, 1) := dcs_at ok46_init_0_3 4 rfl
theorem dX2_init_9 : decode cX2_init 9 = .ok (.invokespecial 11, 3) := dcs_at ok46_init_0_3 5 rfl
theorem dX2_init_12 : decode cX2_init 12 = .ok (.putfield 12, 3) := dcs_at ok46_init_0_3 6 rfl
theorem dX2_init_15 : decode cX2_init 15 = .ok (.aload_n 0, 1) := dcs_at ok46_init_0_3 7 rfl
theorem dX2_init_16 : decode cX2_init 16 = .ok (.iconst 5, 1) := dcs_at ok46_init_0_3 8 rfl
theorem dX2_init_17 : decode cX2_init 17 = .ok (.newarray .int, 2) := dcs_at ok46_init_0_3 9 rfl
theorem dX2_init_19 : decode cX2_init 19 = .ok (.putfield 18, 3) := dcs_at ok46_init_0_3 10 rfl
theorem dX2_init_22 : decode cX2_init 22 = .ok (.aload_n 0, 1) := dcs_at ok46_init_0_3 11 rfl
theorem dX2_init_23 : decode cX2_init 23 = .ok (.bipush 25, 2) := dcs_at ok46_init_0_3 12 rfl
theorem dX2_init_25 : decode cX2_init 25 = .ok (.newarray .int, 2) := dcs_at ok46_init_0_3 13 rfl
theorem dX2_init_27 : decode cX2_init 27 = .ok (.putfield 22, 3) := dcs_at ok46_init_0_3 14 rfl
theorem dX2_init_30 : decode cX2_init 30 = .ok (.aload_n 0, 1) := dcs_at ok46_init_0_3 15 rfl
theorem dX2_init_31 : decode cX2_init 31 = .ok (.bipush 30, 2) := dcs_at ok46_init_0_3 16 rfl
theorem dX2_init_33 : decode cX2_init 33 = .ok (.newarray .int, 2) := dcs_at ok46_init_0_3 17 rfl
theorem dX2_init_35 : decode cX2_init 35 = .ok (.putfield 25, 3) := dcs_at ok46_init_0_3 18 rfl
theorem dX2_init_38 : decode cX2_init 38 = .ok (.aload_n 0, 1) := dcs_at ok46_init_0_3 19 rfl
theorem dX2_init_39 : decode cX2_init 39 = .ok (.bipush 6, 2) := dcs_at ok46_init_0_3 20 rfl
theorem dX2_init_41 : decode cX2_init 41 = .ok (.newarray .int, 2) := dcs_at ok46_init_0_3 21 rfl
theorem dX2_init_43 : decode cX2_init 43 = .ok (.putfield 28, 3) := dcs_at ok46_init_0_3 22 rfl
theorem dX2_init_46 : decode cX2_init 46 = .ok (.aload_n 0, 1) := dcs_at ok46_init_0_3 23 rfl
theorem dX2_init_47 : decode cX2_init 47 = .ok (.bipush 6, 2) := dcs_at ok46_init_0_3 24 rfl
theorem dX2_init_49 : decode cX2_init 49 = .ok (.newarray .int, 2) := dcs_at ok46_init_0_3 25 rfl
theorem dX2_init_51 : decode cX2_init 51 = .ok (.putfield 31, 3) := dcs_at ok46_init_0_3 26 rfl
theorem dX2_init_54 : decode cX2_init 54 = .ok (.aload_n 0, 1) := dcs_at ok46_init_0_3 27 rfl
theorem dX2_init_55 : decode cX2_init 55 = .ok (.bipush 6, 2) := dcs_at ok46_init_0_3 28 rfl
theorem dX2_init_57 : decode cX2_init 57 = .ok (.newarray .int, 2) := dcs_at ok46_init_0_3 29 rfl
theorem dX2_init_59 : decode cX2_init 59 = .ok (.putfield 34, 3) := dcs_at ok46_init_0_3 30 rfl
theorem dX2_init_62 : decode cX2_init 62 = .ok (.aload_n 0, 1) := dcs_at ok46_init_0_3 31 rfl
theorem dX2_init_63 : decode cX2_init 63 = .ok (.bipush 6, 2) := dcs_at ok46_init_0_3 32 rfl
theorem dX2_init_65 : decode cX2_init 65 = .ok (.newarray .int, 2) := dcs_at ok46_init_0_3 33 rfl
theorem dX2_init_67 : decode cX2_init 67 = .ok (.putfield 37, 3) := dcs_at ok46_init_0_3 34 rfl
theorem dX2_init_70 : decode cX2_init 70 = .ok (.return_, 1) := dcs_at ok46_init_0_3 35 rfl
def tb46_init_0_4 : List (Nat × (Instr × Nat)) := [(0, (.aload_n 0, 1)), (1, (.invokespecial 3, 3)), (4, (.return_, 1))]
theorem ok46_init_0_4 : dcs cX3_init tb46_init_0_4 = true := by decide +kernel
theorem dX3_init_0 : decode cX3_init 0 = .ok (.aload_n 0, 1) := dcs_at ok46_init_0_4 0 rfl
theorem dX3_init_1 : decode cX3_init 1 = .ok (.invokespecial 3, 3) := dcs_at ok46_init_0_4 1 rfl
theorem dX3_init_4 : decode cX3_init 4 = .ok (.return_, 1) := dcs_at ok46_init_0_4 2 rfl
def tb46_init_0_5 : List (Nat × (Instr × Nat)) := [(0, (.aload_n 0, 1)), (1, (.invokespecial 3, 3)), (4, (.aload_n 0, 1)), (5, (.new 9, 3)), (8, (.dup, 1)), (9, (.invokespecial 11, 3)), (12, (.putfield 12, 3)), (15, (.aload_n 0, 1)), (16, (.new 18, 3)), (19, (.dup, 1)), (20, (.invokespecial 20, 3)), (23, (.putfield 21, 3)), (26, (.aload_n 0, 1)), (27, (.sipush 1024, 3)), (30, (.newarray .int, 2)), (32, (.putfield 25, 3)), (35, (.aload_n 0, 1)), (36, (.sipush 1024, 3)), (39, (.newarray .int, 2)), (41, (.putfield 29, 3)), (44, (.aload_n 0, 1)), (45, (.bipush 32, 2)), (47, (.newarray .int, 2)), (49, (.putfield 32, 3)), (52, (.aload_n 0, 1)), (53, (.bipush 32, 2)), (55, (.newarray .int, 2)), (57, (.putfield 35, 3)), (60, (.return_, 1))]
theorem ok46_init_0_5 : dcs cX4_init tb46_init_0_5 = true := by decide +kernel
theorem dX4_init_0 : decode cX4_init 0 = .ok (.aload_n 0, 1) := dcs_at ok46_init_0_5 0 rfl
theorem dX4_init_1 : decode cX4_init 1 = .ok (.invokespecial 3, 3) := dcs_at ok46_init_0_5 1 rfl
theorem dX4_init_4 : decode cX4_init 4 = .ok (.aload_n 0, 1) := dcs_at ok46_init_0_5 2 rfl
theorem dX4_init_5 : decode cX4_init 5 = .ok (.new 9, 3) := dcs_at ok46_init_0_5 3 rfl
theorem dX4_init_8 : decode cX4_init 8 = .ok (.dup, 1) := dcs_at ok46_init_0_5 4 rfl
theorem dX4_init_9 : decode cX4_init 9 = .ok (.invokespecial 11, 3) := dcs_at ok46_init_0_5 5 rfl
theorem dX4_init_12 : decode cX4_init 12 = .ok (.putfield 12, 3) := dcs_at ok46_init_0_5 6 rfl
theorem dX4_init_15 : decode cX4_init 15 = .ok (.aload_n 0, 1) := dcs_at ok46_init_0_5 7 rfl
theorem dX4_init_16 : decode cX4_init 16 = .ok (.new 18, 3) := dcs_at ok46_init_0_5 8 rfl
theorem dX4_init_19 : decode cX4_init 19 = .ok (.dup, 1) := dcs_at ok46_init_0_5 9 rfl
theorem dX4_init_20 : decode cX4_init 20 = .ok (.invokespecial 20, 3) := dcs_at ok46_init_0_5 10 rfl
theorem dX4_init_23 : decode cX4_init 23 = .ok (.putfield 21, 3) := dcs_at ok46_init_0_5 11 rfl
theorem dX4_init_26 : decode cX4_init 26 = .ok (.aload_n 0, 1) := dcs_at ok46_init_0_5 12 rfl
theorem dX4_init_27 : decode cX4_init 27 = .ok (.sipush 1024, 3) := dcs_at ok46_init_0_5 13 rfl
theorem dX4_init_30 : decode cX4_init 30 = .ok (.newarray .int, 2) := dcs_at ok46_init_0_5 14 rfl
theorem dX4_init_32 : decode cX4_init 32 = .ok (.putfield 25, 3) := dcs_at ok46_init_0_5 15 rfl
theorem dX4_init_35 : decode cX4_init 35 = .ok (.aload_n 0, 1) := dcs_at ok46_init_0_5 16 rfl
theorem dX4_init_36 : decode cX4_init 36 = .ok (.sipush 1024, 3) := dcs_at ok46_init_0_5 17 rfl
theorem dX4_init_39 : decode cX4_init 39 = .ok (.newarray .int, 2) := dcs_at ok46_init_0_5 18 rfl
theorem dX4_init_41 : decode cX4_init 41 = .ok (.putfield 29, 3) := dcs_at ok46_init_0_5 19 rfl
theorem dX4_init_44 : decode cX4_init 44 = .ok (.aload_n 0, 1) := dcs_at ok46_init_0_5 20 rfl
theorem dX4_init_45 : decode cX4_init 45 = .ok (.bipush 32, 2) := dcs_at ok46_init_0_5 21 rfl
theorem dX4_init_47 : decode cX4_init 47 = .ok (.newarray .int, 2) := dcs_at ok46_init_0_5 22 rfl
theorem dX4_init_49 : decode cX4_init 49 = .ok (.putfield 32, 3) := dcs_at ok46_init_0_5 23 rfl
theorem dX4_init_52 : decode cX4_init 52 = .ok (.aload_n 0, 1) := dcs_at ok46_init_0_5 24 rfl
theorem dX4_init_53 : decode cX4_init 53 = .ok (.bipush 32, 2) := dcs_at ok46_init_0_5 25 rfl
theorem dX4_init_55 : decode cX4_init 55 = .ok (.newarray .int, 2) := dcs_at ok46_init_0_5 26 rfl
theorem dX4_init_57 : decode cX4_init 57 = .ok (.putfield 35, 3) := dcs_at ok46_init_0_5 27 rfl
theorem dX4_init_60 : decode cX4_init 60 = .ok (.return_, 1) := dcs_at ok46_init_0_5 28 rfl
def tb46_init_0_6 : List (Nat × (Instr × Nat)) := [(0, (.aload_n 0, 1)), (1, (.invokespecial 3, 3)), (4, (.aload_n 0, 1)), (5, (.new 9, 3)), (8, (.dup, 1)), (9, (.invokespecial 11, 3)), (12, (.putfield 12, 3)), (15, (.aload_n 0, 1)), (16, (.new 18, 3)), (19, (.dup, 1)), (20, (.invokespecial 20, 3)), (23, (.putfield 21, 3)), (26, (.aload_n 0, 1)), (27, (.new 25, 3)), (30, (.dup, 1)), (31, (.invokespecial 27, 3)), (34, (.putfield 28, 3)), (37, (.aload_n 0, 1)), (38, (.iconst 3, 1)), (39, (.newarray .int, 2)), (41, (.putfield 32, 3)), (44, (.return_, 1))]
theorem ok46_init_0_6 : dcs cX5_init tb46_init_0_6 = true := by decide +kernel
theorem dX5_init_0 : decode cX5_init 0 = .ok (.aload_n 0, 1) := dcs_at ok46_init_0_6 0 rfl
theorem dX5_init_1 : decode cX5_init 1 = .ok (.invokespecial 3, 3) := dcs_at ok46_init_0_6 1 rfl
theorem dX5_init_4 : decode cX5_init 4 = .ok (.aload_n 0, 1) := dcs_at ok46_init_0_6 2 rfl
theorem dX5_init_5 : decode cX5_init 5 = .ok (.new 9, 3) := dcs_at ok46_init_0_6 3 rfl
theorem dX5_init_8 : decode cX5_init 8 = .ok (.dup, 1) := dcs_at ok46_init_0_6 4 rfl
theorem dX5_init_9 : decode cX5_init 9 = .ok (.invokespecial 11, 3) := dcs_at ok46_init_0_6 5 rfl
theorem dX5_init_12 : decode cX5_init 12 = .ok (.putfield 12, 3) := dcs_at ok46_init_0_6 6 rfl
theorem dX5_init_15 : decode cX5_init 15 = .ok (.aload_n 0, 1) := dcs_at ok46_init_0_6 7 rfl
theorem dX5_init_16 : decode cX5_init 16 = .ok (.new 18, 3) := dcs_at ok46_init_0_6 8 rfl
theorem dX5_init_19 : decode cX5_init 19 = .ok (.dup, 1) := dcs_at ok46_init_0_6 9 rfl
theorem dX5_init_20 : decode cX5_init 20 = .ok (.invokespecial 20, 3) := dcs_at ok46_init_0_6 10 rfl
theorem dX5_init_23 : decode cX5_init 23 = .ok (.putfield 21, 3) := dcs_at ok46_init_0_6 11 rfl
theorem dX5_init_26 : decode cX5_init 26 = .ok (.aload_n 0, 1) := dcs_at ok46_init_0_6 12 rfl
theorem dX5_init_27 : decode cX5_init 27 = .ok (.new 25, 3) := dcs_at ok46_init_0_6 13 rfl
theorem dX5_init_30 : decode cX5_init 30 = .ok (.dup, 1) := dcs_at ok46_init_0_6 14 rfl
theorem dX5_init_31 : decode cX5_init 31 = .ok (.invokespecial 27, 3) := dcs_at ok46_init_0_6 15 rfl
theorem dX5_init_34 : decode cX5_init 34 = .ok (.putfield 28, 3) := dcs_at ok46_init_0_6 16 rfl
theorem dX5_init_37 : decode cX5_init 37 = .ok (.aload_n 0, 1) := dcs_at ok46_init_0_6 17 rfl
theorem dX5_init_38 : decode cX5_init 38 = .ok (.iconst 3, 1) := dcs_at ok46_init_0_6 18 rfl
theorem dX5_init_39 : decode cX5_init 39 = .ok (.newarray .int, 2) := dcs_at ok46_init_0_6 19 rfl
theorem dX5_init_41 : decode cX5_init 41 = .ok (.putfield 32, 3) := dcs_at ok46_init_0_6 20 rfl
theorem dX5_init_44 : decode cX5_init 44 = .ok (.return_, 1) := dcs_at ok46_init_0_6 21 rfl
def tb46_init_0_7 : List (Nat × (Instr × Nat)) := [(0, (.aload_n 0, 1)), (1, (.invokespecial 3, 3)), (4, (.aload_n 0, 1)), (5, (.iconst 4, 1)), (6, (.newarray .int, 2)), (8, (.putfield 9, 3)), (11, (.aload_n 0, 1)), (12, (.iconst 4, 1)), (13, (.newarray .int, 2)), (15, (.putfield 15, 3)), (18, (.aload_n 0, 1)), (19, (.iconst 4, 1)), (20, (.newarray .int, 2)), (22, (.putfield 18, 3)), (25, (.aload_n 0, 1)), (26, (.sipush 201, 3)), (29, (.newarray .int, 2)), (31, (.putfield 21, 3)), (34, (.return_, 1))]
theorem ok46_init_0_7 : dcs cX6_init tb46_init_0_7 = true := by decide +kernel
theorem dX6_init_0 : decode cX6_init 0 = .ok (.aload_n 0, 1) := dcs_at ok46_init_0_7 0 rfl
theorem dX6_init_1 : decode cX6_init 1 = .ok (.invokespecial 3, 3) := dcs_at ok46_init_0_7 1 rfl
theorem dX6_init_4 : decode cX6_init 4 = .ok (.aload_n 0, 1) := dcs_at ok46_init_0_7 2 rfl
theorem dX6_init_5 : decode cX6_init 5 = .ok (.iconst 4, 1) := dcs_at ok46_init_0_7 3 rfl
theorem dX6_init_6 : decode cX6_init 6 = .ok (.newarray .int, 2) := dcs_at ok46_init_0_7 4 rfl
theorem dX6_init_8 : decode cX6_init 8 = .ok (.putfield 9, 3) := dcs_at ok46_init_0_7 5 rfl
theorem dX6_init_11 : decode cX6_init 11 = .ok (.aload_n 0, 1) := dcs_at ok46_init_0_7 6 rfl
theorem dX6_init_12 : decode cX6_init 12 = .ok (.iconst 4, 1) := dcs_at ok46_init_0_7 7 rfl
theorem dX6_init_13 : decode cX6_init 13 = .ok (.newarray .int, 2) := dcs_at ok46_init_0_7 8 rfl
theorem dX6_init_15 : decode cX6_init 15 = .ok (.putfield 15, 3) := dcs_at ok46_init_0_7 9 rfl
theorem dX6_init_18 : decode cX6_init 18 = .ok (.aload_n 0, 1) := dcs_at ok46_init_0_7 10 rfl
theorem dX6_init_19 : decode cX6_init 19 = .ok (.iconst 4, 1) := dcs_at ok46_init_0_7 11 rfl
theorem dX6_init_20 : decode cX6_init 20 = .ok (.newarray .int, 2) := dcs_at ok46_init_0_7 12 rfl
theorem dX6_init_22 : decode cX6_init 22 = .ok (.putfield 18, 3) := dcs_at ok46_init_0_7 13 rfl
theorem dX6_init_25 : decode cX6_init 25 = .ok (.aload_n 0, 1) := dcs_at ok46_init_0_7 14 rfl
theorem dX6_init_26 : decode cX6_init 26 = .ok (.sipush 201, 3) := dcs_at ok46_init_0_7 15 rfl
theorem dX6_init_29 : decode cX6_init 29 = .ok (.newarray .int, 2) := dcs_at ok46_init_0_7 16 rfl
theorem dX6_init_31 : decode cX6_init 31 = .ok (.putfield 21, 3) := dcs_at ok46_init_0_7 17 rfl
theorem dX6_init_34 : decode cX6_init 34 = .ok (.return_, 1) := dcs_at ok46_init_0_7 18 rfl
def tb46_init_0_8 : List (Nat × (Instr × Nat)) := [(0, (.aload_n 0, 1)), (1, (.invokespecial 3, 3)), (4, (.aload_n 0, 1)), (5, (.iconst 5, 1)), (6, (.newarray .int, 2)), (8, (.putfield 9, 3)), (11, (.aload_n 0, 1)), (12, (.iconst 5, 1)), (13, (.newarray .int, 2)), (15, (.putfield 15, 3)), (18, (.aload_n 0, 1)), (19, (.bipush 6, 2)), (21, (.newarray .int, 2)), (23, (.putfield 18, 3)), (26, (.aload_n 0, 1)), (27, (.bipush 6, 2)), (29, (.newarray .int, 2)), (31, (.putfield 21, 3)), (34, (.aload_n 0, 1)), (35, (.iconst 4, 1)), (36, (.newarray .int, 2)), (38, (.putfield 24, 3)), (41, (.aload_n 0, 1)), (42, (.iconst 4, 1)), (43, (.newarray .int, 2)), (45, (.putfield 27, 3)), (48, (.return_, 1))]
theorem ok46_init_0_8 : dcs cX7_init tb46_init_0_8 = true := by decide +kernel
theorem dX7_init_0 : decode cX7_init 0 = .ok (.aload_n 0, 1) := dcs_at ok46_init_0_8 0 rfl
theorem dX7_init_1 : decode cX7_init 1 = .ok (.invokespecial 3, 3) := dcs_at ok46_init_0_8 1 rfl
theorem dX7_init_4 : decode cX7_init 4 = .ok (.aload_n 0, 1) := dcs_at ok46_init_0_8 2 rfl
theorem dX7_init_5 : decode cX7_init 5 = .ok (.iconst 5, 1) := dcs_at ok46_init_0_8 3 rfl
theorem dX7_init_6 : decode cX7_init 6 = .ok (.newarray .int, 2) := dcs_at ok46_init_0_8 4 rfl
theorem dX7_init_8 : decode cX7_init 8 = .ok (.putfield 9, 3) := dcs_at ok46_init_0_8 5 rfl
theorem dX7_init_11 : decode cX7_init 11 = .ok (.aload_n 0, 1) := dcs_at ok46_init_0_8 6 rfl
theorem dX7_init_12 : decode cX7_init 12 = .ok (.iconst 5, 1) := dcs_at ok46_init_0_8 7 rfl
theorem dX7_init_13 : decode cX7_init 13 = .ok (.newarray .int, 2) := dcs_at ok46_init_0_8 8 rfl
theorem dX7_init_15 : decode cX7_init 15 = .ok (.putfield 15, 3) := dcs_at ok46_init_0_8 9 rfl
theorem dX7_init_18 : decode cX7_init 18 = .ok (.aload_n 0, 1) := dcs_at ok46_init_0_8 10 rfl
theorem dX7_init_19 : decode cX7_init 19 = .ok (.bipush 6, 2) := dcs_at ok46_init_0_8 11 rfl
theorem dX7_init_21 : decode cX7_init 21 = .ok (.newarray .int, 2) := dcs_at ok46_init_0_8 12 rfl
theorem dX7_init_23 : decode cX7_init 23 = .ok (.putfield 18, 3) := dcs_at ok46_init_0_8 13 rfl
theorem dX7_init_26 : decode cX7_init 26 = .ok (.aload_n 0, 1) := dcs_at ok46_init_0_8 14 rfl
theorem dX7_init_27 : decode cX7_init 27 = .ok (.bipush 6, 2) := dcs_at ok46_init_0_8 15 rfl
theorem dX7_init_29 : decode cX7_init 29 = .ok (.newarray .int, 2) := dcs_at ok46_init_0_8 16 rfl
theorem dX7_init_31 : decode cX7_init 31 = .ok (.putfield 21, 3) := dcs_at ok46_init_0_8 17 rfl
theorem dX7_init_34 : decode cX7_init 34 = .ok (.aload_n 0, 1) := dcs_at ok46_init_0_8 18 rfl
theorem dX7_init_35 : decode cX7_init 35 = .ok (.iconst 4, 1) := dcs_at ok46_init_0_8 19 rfl
theorem dX7_init_36 : decode cX7_init 36 = .ok (.newarray .int, 2) := dcs_at ok46_init_0_8 20 rfl
theorem dX7_init_38 : decode cX7_init 38 = .ok (.putfield 24, 3) := dcs_at ok46_init_0_8 21 rfl
theorem dX7_init_41 : decode cX7_init 41 = .ok (.aload_n 0, 1) := dcs_at ok46_init_0_8 22 rfl
theorem dX7_init_42 : decode cX7_init 42 = .ok (.iconst 4, 1) := dcs_at ok46_init_0_8 23 rfl
theorem dX7_init_43 : decode cX7_init 43 = .ok (.newarray .int, 2) := dcs_at ok46_init_0_8 24 rfl
theorem dX7_init_45 : decode cX7_init 45 = .ok (.putfield 27, 3) := dcs_at ok46_init_0_8 25 rfl
theorem dX7_init_48 : decode cX7_init 48 = .ok (.return_, 1) := dcs_at ok46_init_0_8 26 rfl
def tb46_init_0_9 : List (Nat × (Instr × Nat)) := [(0, (.aload_n 0, 1)), (1, (.invokespecial 3, 3)), (4, (.aload_n 0, 1)), (5, (.sipush 600, 3)), (8, (.newarray .byte, 2)), (10, (.putfield 9, 3)), (13, (.aload_n 0, 1)), (14, (.iconst (-1), 1)), (15, (.putfield 15, 3)), (18, (.aload_n 0, 1)), (19, (.new 19, 3)), (22, (.dup, 1)), (23, (.invokespecial 21, 3)), (26, (.putfield 22, 3)), (29, (.aload_n 0, 1)), (30, (.new 19, 3)), (33, (.dup, 1)), (34, (.invokespecial 21, 3)), (37, (.putfield 26, 3)), (40, (.aload_n 0, 1)), (41, (.new 29, 3)), (44, (.dup, 1)), (45, (.invokespecial 31, 3)), (48, (.putfield 32, 3)), (51, (.aload_n 0, 1)), (52, (.new 29, 3)), (55, (.dup, 1)), (56, (.invokespecial 31, 3)), (59, (.putfield 36, 3)), (62, (.aload_n 0, 1)), (63, (.new 39, 3)), (66, (.dup, 1)), (67, (.invokespecial 41, 3)), (70, (.putfield 42, 3)), (73, (.aload_n 0, 1)), (74, (.new 39, 3)), (77, (.dup, 1)), (78, (.invokespecial 41, 3)), (81, (.putfield 46, 3)), (84, (.return_, 1))]
theorem ok46_init_0_9 : dcs cX8_init tb46_init_0_9 = true := by decide +kernel
theorem dX8_init_0 : decode cX8_init 0 = .ok (.aload_n 0, 1) := dcs_at ok46_init_0_9 0 rfl
theorem dX8_init_1 : decode cX8_init 1 = .ok (.invokespecial 3, 3) := dcs_at ok46_init_0_9 1 rfl
theorem dX8_init_4 : decode cX8_init 4 = .ok (.aload_n 0, 1) := dcs_at ok46_init_0_9 2 rfl
theorem dX8_init_5 : decode cX8_init 5 = .ok (.sipush 600, 3) := dcs_at ok46_init_0_9 3 rfl
theorem dX8_init_8 : decode cX8_init 8 = .ok (.newarray .byte, 2) := dcs_at ok46_init_0_9 4 rfl
theorem dX8_init_10 : decode cX8_init 10 = .ok (.putfield 9, 3) := dcs_at ok46_init_0_9 5 rfl
theorem dX8_init_13 : decode cX8_init 13 = .ok (.aload_n 0, 1) := dcs_at ok46_init_0_9 6 rfl
theorem dX8_init_14 : decode cX8_init 14 = .ok (.iconst (-1), 1) := dcs_at ok46_init_0_9 7 rfl
theorem dX8_init_15 : decode cX8_init 15 = .ok (.putfield 15, 3) := dcs_at ok46_init_0_9 8 rfl
theorem dX8_init_18 : decode cX8_init 18 = .ok (.aload_n 0, 1) := dcs_at ok46_init_0_9 9 rfl
theorem dX8_init_19 : decode cX8_init 19 = .ok (.new 19, 3) := dcs_at ok46_init_0_9 10 rfl
theorem dX8_init_22 : decode cX8_init 22 = .ok (.dup, 1) := dcs_at ok46_init_0_9 11 rfl
theorem dX8_init_23 : decode cX8_init 23 = .ok (.invokespecial 21, 3) := dcs_at ok46_init_0_9 12 rfl
theorem dX8_init_26 : decode cX8_init 26 = .ok (.putfield 22, 3) := dcs_at ok46_init_0_9 13 rfl
theorem dX8_init_29 : decode cX8_init 29 = .ok (.aload_n 0, 1) := dcs_at ok46_init_0_9 14 rfl
theorem dX8_init_30 : decode cX8_init 30 = .ok (.new 19, 3) := dcs_at ok46_init_0_9 15 rfl
theorem dX8_init_33 : decode cX8_init 33 = .ok (.dup, 1) := dcs_at ok46_init_0_9 16 rfl
theorem dX8_init_34 : decode cX8_init 34 = .ok (.invokespecial 21, 3) := dcs_at ok46_init_0_9 17 rfl
theorem dX8_init_37 : decode cX8_init 37 = .ok (.putfield 26, 3) := dcs_at ok46_init_0_9 18 rfl
theorem dX8_init_40 : decode cX8_init 40 = .ok (.aload_n 0, 1) := dcs_at ok46_init_0_9 19 rfl
theorem dX8_init_41 : decode cX8_init 41 = .ok (.new 29, 3) := dcs_at ok46_init_0_9 20 rfl
theorem dX8_init_44 : decode cX8_init 44 = .ok (.dup, 1) := dcs_at ok46_init_0_9 21 rfl
theorem dX8_init_45 : decode cX8_init 45 = .ok (.invokespecial 31, 3) := dcs_at ok46_init_0_9 22 rfl
theorem dX8_init_48 : decode cX8_init 48 = .ok (.putfield 32, 3) := dcs_at ok46_init_0_9 23 rfl
theorem dX8_init_51 : decode cX8_init 51 = .ok (.aload_n 0, 1) := dcs_at ok46_init_0_9 24 rfl
theorem dX8_init_52 : decode cX8_init 52 = .ok (.new 29, 3) := dcs_at ok46_init_0_9 25 rfl
theorem dX8_init_55 : decode cX8_init 55 = .ok (.dup, 1) := dcs_at ok46_init_0_9 26 rfl
theorem dX8_init_56 : decode cX8_init 56 = .ok (.invokespecial 31, 3) := dcs_at ok46_init_0_9 27 rfl
theorem dX8_init_59 : decode cX8_init 59 = .ok (.putfield 36, 3) := dcs_at ok46_init_0_9 28 rfl
theorem dX8_init_62 : decode cX8_init 62 = .ok (.aload_n 0, 1) := dcs_at ok46_init_0_9 29 rfl
theorem dX8_init_63 : decode cX8_init 63 = .ok (.new 39, 3) := dcs_at ok46_init_0_9 30 rfl
theorem dX8_init_66 : decode cX8_init 66 = .ok (.dup, 1) := dcs_at ok46_init_0_9 31 rfl
theorem dX8_init_67 : decode cX8_init 67 = .ok (.invokespecial 41, 3) := dcs_at ok46_init_0_9 32 rfl
theorem dX8_init_70 : decode cX8_init 70 = .ok (.putfield 42, 3) := dcs_at ok46_init_0_9 33 rfl
theorem dX8_init_73 : decode cX8_init 73 = .ok (.aload_n 0, 1) := dcs_at ok46_init_0_9 34 rfl
theorem dX8_init_74 : decode cX8_init 74 = .ok (.new 39, 3) := dcs_at ok46_init_0_9 35 rfl
theorem dX8_init_77 : decode cX8_init 77 = .ok (.dup, 1) := dcs_at ok46_init_0_9 36 rfl
theorem dX8_init_78 : decode cX8_init 78 = .ok (.invokespecial 41, 3) := dcs_at ok46_init_0_9 37 rfl
theorem dX8_init_81 : decode cX8_init 81 = .ok (.putfield 46, 3) := dcs_at ok46_init_0_9 38 rfl
theorem dX8_init_84 : decode cX8_init 84 = .ok (.return_, 1) := dcs_at ok46_init_0_9 39 rfl
def tb46_init_0_10 : List (Nat × (Instr × Nat)) := [(0, (.aload_n 0, 1)), (1, (.invokespecial 1, 3)), (4, (.aload_n 0, 1)), (5, (.new 7, 3)), (8, (.dup, 1)), (9, (.invokespecial 9, 3)), (12, (.putfield 10, 3)), (15, (.aload_n 0, 1)), (16, (.iconst 3, 1)), (17, (.anewarray 7, 3)), (20, (.putfield 16, 3)), (23, (.aload_n 0, 1)), (24, (.new 20, 3)), (27, (.dup, 1)), (28, (.invokespecial 22, 3)), (31, (.putfield 23, 3)), (34, (.aload_n 0, 1)), (35, (.new 27, 3)), (38, (.dup, 1)), (39, (.invokespecial 29, 3)), (42, (.putfield 30, 3)), (45, (.aload_n 0, 1)), (46, (.new 34, 3)), (49, (.dup, 1)), (50, (.invokespecial 36, 3)), (53, (.putfield 37, 3)), (56, (.aload_n 0, 1)), (57, (.new 41, 3)), (60, (.dup, 1)), (61, (.invokespecial 43, 3)), (64, (.putfield 44, 3)), (67, (.aload_n 0, 1)), (68, (.new 48, 3)), (71, (.dup, 1)), (72, (.invokespecial 50, 3)), (75, (.putfield 51, 3)), (78, (.return_, 1))]
theorem ok46_init_0_10 : dcs cX9_init tb46_init_0_10 = true := by decide +kernel
theorem dX9_init_0 : decode cX9_init 0 = .ok (.aload_n 0, 1) := dcs_at ok46_init_0_10 0 rfl
theorem dX9_init_1 : decode cX9_init 1 = .ok (.invokespecial 1, 3) := dcs_at ok46_init_0_10 1 rfl
theorem dX9_init_4 : decode cX9_init 4 = .ok (.aload_n 0, 1) := dcs_at ok46_init_0_10 2 rfl
theorem dX9_init_5 : decode cX9_init 5 = .ok (.new 7, 3) := dcs_at ok46_init_0_10 3 rfl
theorem dX9_init_8 : decode cX9_init 8 = .ok (.dup, 1) := dcs_at ok46_init_0_10 4 rfl
theorem dX9_init_9 : decode cX9_init 9 = .ok (.invokespecial 9, 3) := dcs_at ok46_init_0_10 5 rfl
theorem dX9_init_12 : decode cX9_init 12 = .ok (.putfield 10, 3) := dcs_at ok46_init_0_10 6 rfl
theorem dX9_init_15 : decode cX9_init 15 = .ok (.aload_n 0, 1) := dcs_at ok46_init_0_10 7 rfl
theorem dX9_init_16 : decode cX9_init 16 = .ok (.iconst 3, 1) := dcs_at ok46_init_0_10 8 rfl
theorem dX9_init_17 : decode cX9_init 17 = .ok (.anewarray 7, 3) := dcs_at ok46_init_0_10 9 rfl
theorem dX9_init_20 : decode cX9_init 20 = .ok (.putfield 16, 3) := dcs_at ok46_init_0_10 10 rfl
theorem dX9_init_23 : decode cX9_init 23 = .ok (.aload_n 0, 1) := dcs_at ok46_init_0_10 11 rfl
theorem dX9_init_24 : decode cX9_init 24 = .ok (.new 20, 3) := dcs_at ok46_init_0_10 12 rfl
theorem dX9_init_27 : decode cX9_init 27 = .ok (.dup, 1) := dcs_at ok46_init_0_10 13 rfl
theorem dX9_init_28 : decode cX9_init 28 = .ok (.invokespecial 22, 3) := dcs_at ok46_init_0_10 14 rfl
theorem dX9_init_31 : decode cX9_init 31 = .ok (.putfield 23, 3) := dcs_at ok46_init_0_10 15 rfl
theorem dX9_init_34 : decode cX9_init 34 = .ok (.aload_n 0, 1) := dcs_at ok46_init_0_10 16 rfl
theorem dX9_init_35 : decode cX9_init 35 = .ok (.new 27, 3) := dcs_at ok46_init_0_10 17 rfl
theorem dX9_init_38 : decode cX9_init 38 = .ok (.dup, 1) := dcs_at ok46_init_0_10 18 rfl
theorem dX9_init_39 : decode cX9_init 39 = .ok (.invokespecial 29, 3) := dcs_at ok46_init_0_10 19 rfl
theorem dX9_init_42 : decode cX9_init 42 = .ok (.putfield 30, 3) := dcs_at ok46_init_0_10 20 rfl
theorem dX9_init_45 : decode cX9_init 45 = .ok (.aload_n 0, 1) := dcs_at ok46_init_0_10 21 rfl
theorem dX9_init_46 : decode cX9_init 46 = .ok (.new 34, 3) := dcs_at ok46_init_0_10 22 rfl
theorem dX9_init_49 : decode cX9_init 49 = .ok (.dup, 1) := dcs_at ok46_init_0_10 23 rfl
theorem dX9_init_50 : decode cX9_init 50 = .ok (.invokespecial 36, 3) := dcs_at ok46_init_0_10 24 rfl
theorem dX9_init_53 : decode cX9_init 53 = .ok (.putfield 37, 3) := dcs_at ok46_init_0_10 25 rfl
theorem dX9_init_56 : decode cX9_init 56 = .ok (.aload_n 0, 1) := dcs_at ok46_init_0_10 26 rfl
theorem dX9_init_57 : decode cX9_init 57 = .ok (.new 41, 3) := dcs_at ok46_init_0_10 27 rfl
theorem dX9_init_60 : decode cX9_init 60 = .ok (.dup, 1) := dcs_at ok46_init_0_10 28 rfl
theorem dX9_init_61 : decode cX9_init 61 = .ok (.invokespecial 43, 3) := dcs_at ok46_init_0_10 29 rfl
theorem dX9_init_64 : decode cX9_init 64 = .ok (.putfield 44, 3) := dcs_at ok46_init_0_10 30 rfl
theorem dX9_init_67 : decode cX9_init 67 = .ok (.aload_n 0, 1) := dcs_at ok46_init_0_10 31 rfl
theorem dX9_init_68 : decode cX9_init 68 = .ok (.new 48, 3) := dcs_at ok46_init_0_10 32 rfl
theorem dX9_init_71 : decode cX9_init 71 = .ok (.dup, 1) := dcs_at ok46_init_0_10 33 rfl
theorem dX9_init_72 : decode cX9_init 72 = .ok (.invokespecial 50, 3) := dcs_at ok46_init_0_10 34 rfl
theorem dX9_init_75 : decode cX9_init 75 = .ok (.putfield 51, 3) := dcs_at ok46_init_0_10 35 rfl
theorem dX9_init_78 : decode cX9_init 78 = .ok (.return_, 1) := dcs_at ok46_init_0_10 36 rfl
def tb46_init_0_11 : List (Nat × (Instr × Nat)) := [(0, (.aload_n 0, 1)), (1, (.invokespecial 1, 3)), (4, (.aload_n 0, 1)), (5, (.sipush 2400, 3)), (8, (.newarray .byte, 2)), (10, (.putfield 7, 3)), (13, (.aload_n 0, 1)), (14, (.iconst 4, 1)), (15, (.newarray .int, 2)), (17, (.putfield 13, 3)), (20, (.aload_n 0, 1)), (21, (.iconst 4, 1)), (22, (.newarray .int, 2)), (24, (.putfield 17, 3)), (27, (.aload_n 0, 1)), (28, (.iconst 4, 1)), (29, (.newarray .int, 2)), (31, (.putfield 20, 3)), (34, (.aload_n 0, 1)), (35, (.bipush 12, 2)), (37, (.newarray .int, 2)), (39, (.putfield 23, 3)), (42, (.aload_n 0, 1)), (43, (.sipush 288, 3)), (46, (.newarray .int, 2)), (48, (.putfield 26, 3)), (51, (.aload_n 0, 1)), (52, (.sipush 968, 3)), (55, (.newarray .int, 2)), (57, (.putfield 29, 3)), (60, (.aload_n 0, 1)), (61, (.bipush 56, 2)), (63, (.newarray .int, 2)), (65, (.putfield 32, 3)), (68, (.aload_n 0, 1)), (69, (.bipush 121, 2)), (71, (.newarray .int, 2)), (73, (.putfield 35, 3)), (76, (.aload_n 0, 1)), (77, (.iconst 4, 1))]
theorem ok46_init_0_11 : dcs cX10_init tb46_init_0_11 = true := by decide +kernel
theorem dX10_init_0 : decode cX10_init 0 = .ok (.aload_n 0, 1) := dcs_at ok46_init_0_11 0 rfl
theorem dX10_init_1 : decode cX10_init 1 = .ok (.invokespecial 1, 3) := dcs_at ok46_init_0_11 1 rfl
theorem dX10_init_4 : decode cX10_init 4 = .ok (.aload_n 0, 1) := dcs_at ok46_init_0_11 2 rfl
theorem dX10_init_5 : decode cX10_init 5 = .ok (.sipush 2400, 3) := dcs_at ok46_init_0_11 3 rfl
theorem dX10_init_8 : decode cX10_init 8 = .ok (.newarray .byte, 2) := dcs_at ok46_init_0_11 4 rfl
theorem dX10_init_10 : decode cX10_init 10 = .ok (.putfield 7, 3) := dcs_at ok46_init_0_11 5 rfl
theorem dX10_init_13 : decode cX10_init 13 = .ok (.aload_n 0, 1) := dcs_at ok46_init_0_11 6 rfl
theorem dX10_init_14 : decode cX10_init 14 = .ok (.iconst 4, 1) := dcs_at ok46_init_0_11 7 rfl
theorem dX10_init_15 : decode cX10_init 15 = .ok (.newarray .int, 2) := dcs_at ok46_init_0_11 8 rfl
theorem dX10_init_17 : decode cX10_init 17 = .ok (.putfield 13, 3) := dcs_at ok46_init_0_11 9 rfl
theorem dX10_init_20 : decode cX10_init 20 = .ok (.aload_n 0, 1) := dcs_at ok46_init_0_11 10 rfl
theorem dX10_init_21 : decode cX10_init 21 = .ok (.iconst 4, 1) := dcs_at ok46_init_0_11 11 rfl
theorem dX10_init_22 : decode cX10_init 22 = .ok (.newarray .int, 2) := dcs_at ok46_init_0_11 12 rfl
theorem dX10_init_24 : decode cX10_init 24 = .ok (.putfield 17, 3) := dcs_at ok46_init_0_11 13 rfl
theorem dX10_init_27 : decode cX10_init 27 = .ok (.aload_n 0, 1) := dcs_at ok46_init_0_11 14 rfl
theorem dX10_init_28 : decode cX10_init 28 = .ok (.iconst 4, 1) := dcs_at ok46_init_0_11 15 rfl
theorem dX10_init_29 : decode cX10_init 29 = .ok (.newarray .int, 2) := dcs_at ok46_init_0_11 16 rfl
theorem dX10_init_31 : decode cX10_init 31 = .ok (.putfield 20, 3) := dcs_at ok46_init_0_11 17 rfl
theorem dX10_init_34 : decode cX10_init 34 = .ok (.aload_n 0, 1) := dcs_at ok46_init_0_11 18 rfl
theorem dX10_init_35 : decode cX10_init 35 = .ok (.bipush 12, 2) := dcs_at ok46_init_0_11 19 rfl
theorem dX10_init_37 : decode cX10_init 37 = .ok (.newarray .int, 2) := dcs_at ok46_init_0_11 20 rfl
theorem dX10_init_39 : decode cX10_init 39 = .ok (.putfield 23, 3) := dcs_at ok46_init_0_11 21 rfl
theorem dX10_init_42 : decode cX10_init 42 = .ok (.aload_n 0, 1) := dcs_at ok46_init_0_11 22 rfl
theorem dX10_init_43 : decode cX10_init 43 = .ok (.sipush 288, 3) := dcs_at ok46_init_0_11 23 rfl
theorem dX10_init_46 : decode cX10_init 46 = .ok (.newarray .int, 2) := dcs_at ok46_init_0_11 24 rfl
theorem dX10_init_48 : decode cX10_init 48 = .ok (.putfield 26, 3) := dcs_at ok46_init_0_11 25 rfl
theorem dX10_init_51 : decode cX10_init 51 = .ok (.aload_n 0, 1) := dcs_at ok46_init_0_11 26 rfl
theorem dX10_init_52 : decode cX10_init 52 = .ok (.sipush 968, 3) := dcs_at ok46_init_0_11 27 rfl
theorem dX10_init_55 : decode cX10_init 55 = .ok (.newarray .int, 2) := dcs_at ok46_init_0_11 28 rfl
theorem dX10_init_57 : decode cX10_init 57 = .ok (.putfield 29, 3) := dcs_at ok46_init_0_11 29 rfl
theorem dX10_init_60 : decode cX10_init 60 = .ok (.aload_n 0, 1) := dcs_at ok46_init_0_11 30 rfl
theorem dX10_init_61 : decode cX10_init 61 = .ok (.bipush 56, 2) := dcs_at ok46_init_0_11 31 rfl
theorem dX10_init_63 : decode cX10_init 63 = .ok (.newarray .int, 2) := dcs_at ok46_init_0_11 32 rfl
theorem dX10_init_65 : decode cX10_init 65 = .ok (.putfield 32, 3) := dcs_at ok46_init_0_11 33 rfl
theorem dX10_init_68 : decode cX10_init 68 = .ok (.aload_n 0, 1) := dcs_at ok46_init_0_11 34 rfl
theorem dX10_init_69 : decode cX10_init 69 = .ok (.bipush 121, 2) := dcs_at ok46_init_0_11 35 rfl
theorem dX10_init_71 : decode cX10_init 71 = .ok (.newarray .int, 2) := dcs_at ok46_init_0_11 36 rfl
theorem dX10_init_73 : decode cX10_init 73 = .ok (.putfield 35, 3) := dcs_at ok46_init_0_11 37 rfl
theorem dX10_init_76 : decode cX10_init 76 = .ok (.aload_n 0, 1) := dcs_at ok46_init_0_11 38 rfl
theorem dX10_init_77 : decode cX10_init 77 = .ok (.iconst 4, 1) := dcs_at ok46_init_0_11 39 rfl
def tb46_init_0_12 : List (Nat × (Instr × Nat)) := [(78, (.newarray .int, 2)), (80, (.putfield 38, 3)), (83, (.aload_n 0, 1)), (84, (.iconst 5, 1)), (85, (.newarray .int, 2)), (87, (.putfield 41, 3)), (90, (.aload_n 0, 1)), (91, (.bipush 25, 2)), (93, (.newarray .int, 2)), (95, (.putfield 44, 3)), (98, (.aload_n 0, 1)), (99, (.bipush 30, 2)), (101, (.newarray .int, 2)), (103, (.putfield 47, 3)), (106, (.aload_n 0, 1)), (107, (.bipush 6, 2)), (109, (.newarray .int, 2)), (111, (.putfield 50, 3)), (114, (.aload_n 0, 1)), (115, (.bipush 6, 2)), (117, (.newarray .int, 2)), (119, (.putfield 53, 3)), (122, (.aload_n 0, 1)), (123, (.bipush 6, 2)), (125, (.newarray .int, 2)), (127, (.putfield 56, 3)), (130, (.aload_n 0, 1)), (131, (.sipush 804, 3)), (134, (.newarray .int, 2)), (136, (.putfield 59, 3)), (139, (.aload_n 0, 1)), (140, (.sipush 201, 3)), (143, (.newarray .int, 2)), (145, (.putfield 62, 3)), (148, (.aload_n 0, 1)), (149, (.ldc 65, 2)), (151, (.newarray .long, 2)), (153, (.putfield 66, 3)), (156, (.aload_n 0, 1)), (157, (.ldc 65, 2))]
theorem ok46_init_0_12 : dcs cX10_init tb46_init_0_12 = true := by decide +kernel
theorem dX10_init_78 : decode cX10_init 78 = .ok (.newarray .int, 2) := dcs_at ok46_init_0_12 0 rfl
theorem dX10_init_80 : decode cX10_init 80 = .ok (.putfield 38, 3) := dcs_at ok46_init_0_12 1 rfl
theorem dX10_init_83 : decode cX10_init 83 = .ok (.aload_n 0, 1) := dcs_at ok46_init_0_12 2 rfl
theorem dX10_init_84 : decode cX10_init 84 = .ok (.iconst 5, 1) := dcs_at ok46_init_0_12 3 rfl
theorem dX10_init_85 : decode cX10_init 85 = .ok (.newarray .int, 2) := dcs_at ok46_init_0_12 4 rfl
theorem dX10_init_87 : decode cX10_init 87 = .ok (.putfield 41, 3) := dcs_at ok46_init_0_12 5 rfl
theorem dX10_init_90 : decode cX10_init 90 = .ok (.aload_n 0, 1) := dcs_at ok46_init_0_12 6 rfl
theorem dX10_init_91 : decode cX10_init 91 = .ok (.bipush 25, 2) := dcs_at ok46_init_0_12 7 rfl
theorem dX10_init_93 : decode cX10_init 93 = .ok (.newarray .int, 2) := dcs_at ok46_init_0_12 8 rfl
theorem dX10_init_95 : decode cX10_init 95 = .ok (.putfield 44, 3) := dcs_at ok46_init_0_12 9 rfl
theorem dX10_init_98 : decode cX10_init 98 = .ok (.aload_n 0, 1) := dcs_at ok46_init_0_12 10 rfl
theorem dX10_init_99 : decode cX10_init 99 = .ok (.bipush 30, 2) := dcs_at ok46_init_0_12 11 rfl
theorem dX10_init_101 : decode cX10_init 101 = .ok (.newarray .int, 2) := dcs_at ok46_init_0_12 12 rfl
theorem dX10_init_103 : decode cX10_init 103 = .ok (.putfield 47, 3) := dcs_at ok46_init_0_12 13 rfl
theorem dX10_init_106 : decode cX10_init 106 = .ok (.aload_n 0, 1) := dcs_at ok46_init_0_12 14 rfl
theorem dX10_init_107 : decode cX10_init 107 = .ok (.bipush 6, 2) := dcs_at ok46_init_0_12 15 rfl
theorem dX10_init_109 : decode cX10_init 109 = .ok (.newarray .int, 2) := dcs_at ok46_init_0_12 16 rfl
theorem dX10_init_111 : decode cX10_init 111 = .ok (.putfield 50, 3) := dcs_at ok46_init_0_12 17 rfl
theorem dX10_init_114 : decode cX10_init 114 = .ok (.aload_n 0, 1) := dcs_at ok46_init_0_12 18 rfl
theorem dX10_init_115 : decode cX10_init 115 = .ok (.bipush 6, 2) := dcs_at ok46_init_0_12 19 rfl
theorem dX10_init_117 : decode cX10_init 117 = .ok (.newarray .int, 2) := dcs_at ok46_init_0_12 20 rfl
theorem dX10_init_119 : decode cX10_init 119 = .ok (.putfield 53, 3) := dcs_at ok46_init_0_12 21 rfl
theorem dX10_init_122 : decode cX10_init 122 = .ok (.aload_n 0, 1) := dcs_at ok46_init_0_12 22 rfl
theorem dX10_init_123 : decode cX10_init 123 = .ok (.bipush 6, 2) := dcs_at ok46_init_0_12 23 rfl
theorem dX10_init_125 : decode cX10_init 125 = .ok (.newarray .int, 2) := dcs_at ok46_init_0_12 24 rfl
theorem dX10_init_127 : decode cX10_init 127 = .ok (.putfield 56, 3) := dcs_at ok46_init_0_12 25 rfl
theorem dX10_init_130 : decode cX10_init 130 = .ok (.aload_n 0, 1) := dcs_at ok46_init_0_12 26 rfl
theorem dX10_init_131 : decode cX10_init 131 = .ok (.sipush 804, 3) := dcs_at ok46_init_0_12 27 rfl
theorem dX10_init_134 : decode cX10_init 134 = .ok (.newarray .int, 2) := dcs_at ok46_init_0_12 28 rfl
theorem dX10_init_136 : decode cX10_init 136 = .ok (.putfield 59, 3) := dcs_at ok46_init_0_12 29 rfl
theorem dX10_init_139 : decode cX10_init 139 = .ok (.aload_n 0, 1) := dcs_at ok46_init_0_12 30 rfl
theorem dX10_init_140 : decode cX10_init 140 = .ok (.sipush 201, 3) := dcs_at ok46_init_0_12 31 rfl
theorem dX10_init_143 : decode cX10_init 143 = .ok (.newarray .int, 2) := dcs_at ok46_init_0_12 32 rfl
theorem dX10_init_145 : decode cX10_init 145 = .ok (.putfield 62, 3) := dcs_at ok46_init_0_12 33 rfl
theorem dX10_init_148 : decode cX10_init 148 = .ok (.aload_n 0, 1) := dcs_at ok46_init_0_12 34 rfl
theorem dX10_init_149 : decode cX10_init 149 = .ok (.ldc 65, 2) := dcs_at ok46_init_0_12 35 rfl
theorem dX10_init_151 : decode cX10_init 151 = .ok (.newarray .long, 2) := dcs_at ok46_init_0_12 36 rfl
theorem dX10_init_153 : decode cX10_init 153 = .ok (.putfield 66, 3) := dcs_at ok46_init_0_12 37 rfl
theorem dX10_init_156 : decode cX10_init 156 = .ok (.aload_n 0, 1) := dcs_at ok46_init_0_12 38 rfl
theorem dX10_init_157 : decode cX10_init 157 = .ok (.ldc 65, 2) := dcs_at ok46_init_0_12 39 rfl
def tb46_init_0_13 : List (Nat × (Instr × Nat)) := [(159, (.newarray .long, 2)), (161, (.putfield 70, 3)), (164, (.aload_n 0, 1)), (165, (.iconst 5, 1)), (166, (.newarray .int, 2)), (168, (.putfield 73, 3)), (171, (.aload_n 0, 1)), (172, (.iconst 3, 1)), (173, (.newarray .boolean, 2)), (175, (.putfield 76, 3)), (178, (.aload_n 0, 1)), (179, (.getfield 20, 3)), (182, (.iconst 0, 1)), (183, (.iconst (-1), 1)), (184, (.iastore, 1)), (185, (.return_, 1))]
theorem ok46_init_0_13 : dcs cX10_init tb46_init_0_13 = true := by decide +kernel
theorem dX10_init_159 : decode cX10_init 159 = .ok (.newarray .long, 2) := dcs_at ok46_init_0_13 0 rfl
theorem dX10_init_161 : decode cX10_init 161 = .ok (.putfield 70, 3) := dcs_at ok46_init_0_13 1 rfl
theorem dX10_init_164 : decode cX10_init 164 = .ok (.aload_n 0, 1) := dcs_at ok46_init_0_13 2 rfl
theorem dX10_init_165 : decode cX10_init 165 = .ok (.iconst 5, 1) := dcs_at ok46_init_0_13 3 rfl
theorem dX10_init_166 : decode cX10_init 166 = .ok (.newarray .int, 2) := dcs_at ok46_init_0_13 4 rfl
theorem dX10_init_168 : decode cX10_init 168 = .ok (.putfield 73, 3) := dcs_at ok46_init_0_13 5 rfl
theorem dX10_init_171 : decode cX10_init 171 = .ok (.aload_n 0, 1) := dcs_at ok46_init_0_13 6 rfl
theorem dX10_init_172 : decode cX10_init 172 = .ok (.iconst 3, 1) := dcs_at ok46_init_0_13 7 rfl
theorem dX10_init_173 : decode cX10_init 173 = .ok (.newarray .boolean, 2) := dcs_at ok46_init_0_13 8 rfl
theorem dX10_init_175 : decode cX10_init 175 = .ok (.putfield 76, 3) := dcs_at ok46_init_0_13 9 rfl
theorem dX10_init_178 : decode cX10_init 178 = .ok (.aload_n 0, 1) := dcs_at ok46_init_0_13 10 rfl
theorem dX10_init_179 : decode cX10_init 179 = .ok (.getfield 20, 3) := dcs_at ok46_init_0_13 11 rfl
theorem dX10_init_182 : decode cX10_init 182 = .ok (.iconst 0, 1) := dcs_at ok46_init_0_13 12 rfl
theorem dX10_init_183 : decode cX10_init 183 = .ok (.iconst (-1), 1) := dcs_at ok46_init_0_13 13 rfl
theorem dX10_init_184 : decode cX10_init 184 = .ok (.iastore, 1) := dcs_at ok46_init_0_13 14 rfl
theorem dX10_init_185 : decode cX10_init 185 = .ok (.return_, 1) := dcs_at ok46_init_0_13 15 rfl
