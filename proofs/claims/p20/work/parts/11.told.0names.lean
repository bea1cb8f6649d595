theorem nmX0 : ∀ a, a < 2 → ∀ b, b < 2 → a ≠ b → (TX0 a).2.1 ≠ (TX0 b).2.1 := by decide +kernel
theorem tyX0_ok : ∀ k, k < 2 → parseFieldDescriptor (TX0 k).2.2.1 = some (tyX0 k) := by decide +kernel
theorem nmX1 : ∀ a, a < 2 → ∀ b, b < 2 → a ≠ b → (TX1 a).2.1 ≠ (TX1 b).2.1 := by decide +kernel
theorem tyX1_ok : ∀ k, k < 2 → parseFieldDescriptor (TX1 k).2.2.1 = some (tyX1 k) := by decide +kernel
theorem nmX7 : ∀ a, a < 12 → ∀ b, b < 12 → a ≠ b → (TX7 a).2.1 ≠ (TX7 b).2.1 := nm_of [482670833011, 427020087411, 448311223411, 107079783117427, 114853572732274, 495556388196, 33059520542765683, 1634954099, 112615912075891, 1918989413, 426953241460, 1815811526132161147507] (by decide +kernel) (by decide +kernel)
theorem tyX7_ok : ∀ k, k < 12 → parseFieldDescriptor (TX7 k).2.2.1 = some (tyX7 k) := by decide +kernel
theorem nmX8 : ∀ a, a < 13 → ∀ b, b < 13 → a ≠ b → (TX8 a).2.1 ≠ (TX8 b).2.1 := nm_of [1952542821, 119182899770472, 439721749620, 482854658917, 8388065775217436019, 422776367987, 431131618163, 31694948692373788280503956069, 9142616885007547488212194980453, 1889166157982869712747, 544942431748362924420971, 1889166157982902350443, 544942431748362957058667] (by decide +kernel) (by decide +kernel)
theorem tyX8_ok : ∀ k, k < 13 → parseFieldDescriptor (TX8 k).2.2.1 = some (tyX8 k) := by decide +kernel
def tb11_told_0_1 : List (Nat × (Instr × Nat)) := [(0, (.aload_n 0, 1)), (1, (.aload_n 1, 1)), (2, (.getfield 15, 3)), (5, (.putfield 15, 3)), (8, (.aload_n 1, 1)), (9, (.getfield 9, 3)), (12, (.iconst 0, 1)), (13, (.aload_n 0, 1)), (14, (.getfield 9, 3)), (17, (.iconst 0, 1)), (18, (.bipush 120, 2)), (20, (.invokestatic 19, 3)), (23, (.return_, 1))]
theorem ok11_told_0_1 : dcs cX0_copyFrom tb11_told_0_1 = true := by decide +kernel
theorem dX0_copyFrom_0 : decode cX0_copyFrom 0 = .ok (.aload_n 0, 1) := dcs_at ok11_told_0_1 0 rfl
theorem dX0_copyFrom_1 : decode cX0_copyFrom 1 = .ok (.aload_n 1, 1) := dcs_at ok11_told_0_1 1 rfl
theorem dX0_copyFrom_2 : decode cX0_copyFrom 2 = .ok (.getfield 15, 3) := dcs_at ok11_told_0_1 2 rfl
theorem dX0_copyFrom_5 : decode cX0_copyFrom 5 = .ok (.putfield 15, 3) := dcs_at ok11_told_0_1 3 rfl
theorem dX0_copyFrom_8 : decode cX0_copyFrom 8 = .ok (.aload_n 1, 1) := dcs_at ok11_told_0_1 4 rfl
theorem dX0_copyFrom_9 : decode cX0_copyFrom 9 = .ok (.getfield 9, 3) := dcs_at ok11_told_0_1 5 rfl
theorem dX0_copyFrom_12 : decode cX0_copyFrom 12 = .ok (.iconst 0, 1) := dcs_at ok11_told_0_1 6 rfl
theorem dX0_copyFrom_13 : decode cX0_copyFrom 13 = .ok (.aload_n 0, 1) := dcs_at ok11_told_0_1 7 rfl
theorem dX0_copyFrom_14 : decode cX0_copyFrom 14 = .ok (.getfield 9, 3) := dcs_at ok11_told_0_1 8 rfl
theorem dX0_copyFrom_17 : decode cX0_copyFrom 17 = .ok (.iconst 0, 1) := dcs_at ok11_told_0_1 9 rfl
theorem dX0_copyFrom_18 : decode cX0_copyFrom 18 = .ok (.bipush 120, 2) := dcs_at ok11_told_0_1 10 rfl
theorem dX0_copyFrom_20 : decode cX0_copyFrom 20 = .ok (.invokestatic 19, 3) := dcs_at ok11_told_0_1 11 rfl
theorem dX0_copyFrom_23 : decode cX0_copyFrom 23 = .ok (.return_, 1) := dcs_at ok11_told_0_1 12 rfl
def tb11_told_0_2 : List (Nat × (Instr × Nat)) := [(0, (.aload_n 0, 1)), (1, (.getfield 15, 3)), (4, (.bipush 30, 2)), (6, (.if_icmp .ge 60, 3)), (9, (.aload_n 0, 1)), (10, (.getfield 15, 3)), (13, (.iconst 4, 1)), (14, (.imul, 1)), (15, (.istore 5, 2)), (17, (.aload_n 0, 1)), (18, (.getfield 9, 3)), (21, (.iload 5, 2)), (23, (.iload_n 1, 1)), (24, (.iastore, 1)), (25, (.aload_n 0, 1)), (26, (.getfield 9, 3)), (29, (.iload 5, 2)), (31, (.iconst 1, 1)), (32, (.iadd, 1)), (33, (.iload_n 2, 1)), (34, (.iastore, 1)), (35, (.aload_n 0, 1)), (36, (.getfield 9, 3)), (39, (.iload 5, 2)), (41, (.iconst 2, 1)), (42, (.iadd, 1)), (43, (.iload_n 3, 1)), (44, (.iastore, 1)), (45, (.aload_n 0, 1)), (46, (.getfield 9, 3)), (49, (.iload 5, 2)), (51, (.iconst 3, 1)), (52, (.iadd, 1)), (53, (.iload 4, 2)), (55, (.iastore, 1)), (56, (.aload_n 0, 1)), (57, (.dup, 1)), (58, (.getfield 15, 3)), (61, (.iconst 1, 1)), (62, (.iadd, 1))]
theorem ok11_told_0_2 : dcs cX0_addDeed tb11_told_0_2 = true := by decide +kernel
theorem dX0_addDeed_0 : decode cX0_addDeed 0 = .ok (.aload_n 0, 1) := dcs_at ok11_told_0_2 0 rfl
theorem dX0_addDeed_1 : decode cX0_addDeed 1 = .ok (.getfield 15, 3) := dcs_at ok11_told_0_2 1 rfl
theorem dX0_addDeed_4 : decode cX0_addDeed 4 = .ok (.bipush 30, 2) := dcs_at ok11_told_0_2 2 rfl
theorem dX0_addDeed_6 : decode cX0_addDeed 6 = .ok (.if_icmp .ge 60, 3) := dcs_at ok11_told_0_2 3 rfl
theorem dX0_addDeed_9 : decode cX0_addDeed 9 = .ok (.aload_n 0, 1) := dcs_at ok11_told_0_2 4 rfl
theorem dX0_addDeed_10 : decode cX0_addDeed 10 = .ok (.getfield 15, 3) := dcs_at ok11_told_0_2 5 rfl
theorem dX0_addDeed_13 : decode cX0_addDeed 13 = .ok (.iconst 4, 1) := dcs_at ok11_told_0_2 6 rfl
theorem dX0_addDeed_14 : decode cX0_addDeed 14 = .ok (.imul, 1) := dcs_at ok11_told_0_2 7 rfl
theorem dX0_addDeed_15 : decode cX0_addDeed 15 = .ok (.istore 5, 2) := dcs_at ok11_told_0_2 8 rfl
theorem dX0_addDeed_17 : decode cX0_addDeed 17 = .ok (.aload_n 0, 1) := dcs_at ok11_told_0_2 9 rfl
theorem dX0_addDeed_18 : decode cX0_addDeed 18 = .ok (.getfield 9, 3) := dcs_at ok11_told_0_2 10 rfl
theorem dX0_addDeed_21 : decode cX0_addDeed 21 = .ok (.iload 5, 2) := dcs_at ok11_told_0_2 11 rfl
theorem dX0_addDeed_23 : decode cX0_addDeed 23 = .ok (.iload_n 1, 1) := dcs_at ok11_told_0_2 12 rfl
theorem dX0_addDeed_24 : decode cX0_addDeed 24 = .ok (.iastore, 1) := dcs_at ok11_told_0_2 13 rfl
theorem dX0_addDeed_25 : decode cX0_addDeed 25 = .ok (.aload_n 0, 1) := dcs_at ok11_told_0_2 14 rfl
theorem dX0_addDeed_26 : decode cX0_addDeed 26 = .ok (.getfield 9, 3) := dcs_at ok11_told_0_2 15 rfl
theorem dX0_addDeed_29 : decode cX0_addDeed 29 = .ok (.iload 5, 2) := dcs_at ok11_told_0_2 16 rfl
theorem dX0_addDeed_31 : decode cX0_addDeed 31 = .ok (.iconst 1, 1) := dcs_at ok11_told_0_2 17 rfl
theorem dX0_addDeed_32 : decode cX0_addDeed 32 = .ok (.iadd, 1) := dcs_at ok11_told_0_2 18 rfl
theorem dX0_addDeed_33 : decode cX0_addDeed 33 = .ok (.iload_n 2, 1) := dcs_at ok11_told_0_2 19 rfl
theorem dX0_addDeed_34 : decode cX0_addDeed 34 = .ok (.iastore, 1) := dcs_at ok11_told_0_2 20 rfl
theorem dX0_addDeed_35 : decode cX0_addDeed 35 = .ok (.aload_n 0, 1) := dcs_at ok11_told_0_2 21 rfl
theorem dX0_addDeed_36 : decode cX0_addDeed 36 = .ok (.getfield 9, 3) := dcs_at ok11_told_0_2 22 rfl
theorem dX0_addDeed_39 : decode cX0_addDeed 39 = .ok (.iload 5, 2) := dcs_at ok11_told_0_2 23 rfl
theorem dX0_addDeed_41 : decode cX0_addDeed 41 = .ok (.iconst 2, 1) := dcs_at ok11_told_0_2 24 rfl
theorem dX0_addDeed_42 : decode cX0_addDeed 42 = .ok (.iadd, 1) := dcs_at ok11_told_0_2 25 rfl
theorem dX0_addDeed_43 : decode cX0_addDeed 43 = .ok (.iload_n 3, 1) := dcs_at ok11_told_0_2 26 rfl
theorem dX0_addDeed_44 : decode cX0_addDeed 44 = .ok (.iastore, 1) := dcs_at ok11_told_0_2 27 rfl
theorem dX0_addDeed_45 : decode cX0_addDeed 45 = .ok (.aload_n 0, 1) := dcs_at ok11_told_0_2 28 rfl
theorem dX0_addDeed_46 : decode cX0_addDeed 46 = .ok (.getfield 9, 3) := dcs_at ok11_told_0_2 29 rfl
theorem dX0_addDeed_49 : decode cX0_addDeed 49 = .ok (.iload 5, 2) := dcs_at ok11_told_0_2 30 rfl
theorem dX0_addDeed_51 : decode cX0_addDeed 51 = .ok (.iconst 3, 1) := dcs_at ok11_told_0_2 31 rfl
theorem dX0_addDeed_52 : decode cX0_addDeed 52 = .ok (.iadd, 1) := dcs_at ok11_told_0_2 32 rfl
theorem dX0_addDeed_53 : decode cX0_addDeed 53 = .ok (.iload 4, 2) := dcs_at ok11_told_0_2 33 rfl
theorem dX0_addDeed_55 : decode cX0_addDeed 55 = .ok (.iastore, 1) := dcs_at ok11_told_0_2 34 rfl
theorem dX0_addDeed_56 : decode cX0_addDeed 56 = .ok (.aload_n 0, 1) := dcs_at ok11_told_0_2 35 rfl
theorem dX0_addDeed_57 : decode cX0_addDeed 57 = .ok (.dup, 1) := dcs_at ok11_told_0_2 36 rfl
theorem dX0_addDeed_58 : decode cX0_addDeed 58 = .ok (.getfield 15, 3) := dcs_at ok11_told_0_2 37 rfl
theorem dX0_addDeed_61 : decode cX0_addDeed 61 = .ok (.iconst 1, 1) := dcs_at ok11_told_0_2 38 rfl
theorem dX0_addDeed_62 : decode cX0_addDeed 62 = .ok (.iadd, 1) := dcs_at ok11_told_0_2 39 rfl
def tb11_told_0_3 : List (Nat × (Instr × Nat)) := [(63, (.putfield 15, 3)), (66, (.return_, 1))]
theorem ok11_told_0_3 : dcs cX0_addDeed tb11_told_0_3 = true := by decide +kernel
theorem dX0_addDeed_63 : decode cX0_addDeed 63 = .ok (.putfield 15, 3) := dcs_at ok11_told_0_3 0 rfl
theorem dX0_addDeed_66 : decode cX0_addDeed 66 = .ok (.return_, 1) := dcs_at ok11_told_0_3 1 rfl
def tb11_told_0_4 : List (Nat × (Instr × Nat)) := [(0, (.aload_n 0, 1)), (1, (.getfield 9, 3)), (4, (.iload_n 1, 1)), (5, (.iconst 4, 1)), (6, (.imul, 1)), (7, (.iload_n 2, 1)), (8, (.iadd, 1)), (9, (.iaload, 1)), (10, (.ireturn, 1))]
theorem ok11_told_0_4 : dcs cX0_part tb11_told_0_4 = true := by decide +kernel
theorem dX0_part_0 : decode cX0_part 0 = .ok (.aload_n 0, 1) := dcs_at ok11_told_0_4 0 rfl
theorem dX0_part_1 : decode cX0_part 1 = .ok (.getfield 9, 3) := dcs_at ok11_told_0_4 1 rfl
theorem dX0_part_4 : decode cX0_part 4 = .ok (.iload_n 1, 1) := dcs_at ok11_told_0_4 2 rfl
theorem dX0_part_5 : decode cX0_part 5 = .ok (.iconst 4, 1) := dcs_at ok11_told_0_4 3 rfl
theorem dX0_part_6 : decode cX0_part 6 = .ok (.imul, 1) := dcs_at ok11_told_0_4 4 rfl
theorem dX0_part_7 : decode cX0_part 7 = .ok (.iload_n 2, 1) := dcs_at ok11_told_0_4 5 rfl
theorem dX0_part_8 : decode cX0_part 8 = .ok (.iadd, 1) := dcs_at ok11_told_0_4 6 rfl
theorem dX0_part_9 : decode cX0_part 9 = .ok (.iaload, 1) := dcs_at ok11_told_0_4 7 rfl
theorem dX0_part_10 : decode cX0_part 10 = .ok (.ireturn, 1) := dcs_at ok11_told_0_4 8 rfl
def tb11_told_0_5 : List (Nat × (Instr × Nat)) := [(0, (.aload_n 0, 1)), (1, (.iload_n 1, 1)), (2, (.iconst 0, 1)), (3, (.invokevirtual 25, 3)), (6, (.istore_n 3, 1)), (7, (.iload_n 3, 1)), (8, (.iconst 1, 1)), (9, (.if_icmp .eq 8, 3)), (12, (.iload_n 3, 1)), (13, (.iconst 2, 1)), (14, (.if_icmp .ne 7, 3)), (17, (.iconst 1, 1)), (18, (.goto 4, 3)), (21, (.iconst 0, 1)), (22, (.istore 4, 2)), (24, (.iload 4, 2)), (26, (.ifCond .ne 7, 3)), (29, (.iload_n 3, 1)), (30, (.ifCond .ne 13, 3)), (33, (.aload_n 0, 1)), (34, (.iload_n 1, 1)), (35, (.iconst 1, 1)), (36, (.invokevirtual 25, 3)), (39, (.iload_n 2, 1)), (40, (.if_icmp .eq 18, 3)), (43, (.iload 4, 2)), (45, (.ifCond .eq 17, 3)), (48, (.aload_n 0, 1)), (49, (.iload_n 1, 1)), (50, (.iconst 2, 1)), (51, (.invokevirtual 25, 3)), (54, (.iload_n 2, 1)), (55, (.if_icmp .ne 7, 3)), (58, (.iconst 1, 1)), (59, (.goto 4, 3)), (62, (.iconst 0, 1)), (63, (.ireturn, 1))]
theorem ok11_told_0_5 : dcs cX0_isOf tb11_told_0_5 = true := by decide +kernel
theorem dX0_isOf_0 : decode cX0_isOf 0 = .ok (.aload_n 0, 1) := dcs_at ok11_told_0_5 0 rfl
theorem dX0_isOf_1 : decode cX0_isOf 1 = .ok (.iload_n 1, 1) := dcs_at ok11_told_0_5 1 rfl
theorem dX0_isOf_2 : decode cX0_isOf 2 = .ok (.iconst 0, 1) := dcs_at ok11_told_0_5 2 rfl
theorem dX0_isOf_3 : decode cX0_isOf 3 = .ok (.invokevirtual 25, 3) := dcs_at ok11_told_0_5 3 rfl
theorem dX0_isOf_6 : decode cX0_isOf 6 = .ok (.istore_n 3, 1) := dcs_at ok11_told_0_5 4 rfl
theorem dX0_isOf_7 : decode cX0_isOf 7 = .ok (.iload_n 3, 1) := dcs_at ok11_told_0_5 5 rfl
theorem dX0_isOf_8 : decode cX0_isOf 8 = .ok (.iconst 1, 1) := dcs_at ok11_told_0_5 6 rfl
theorem dX0_isOf_9 : decode cX0_isOf 9 = .ok (.if_icmp .eq 8, 3) := dcs_at ok11_told_0_5 7 rfl
theorem dX0_isOf_12 : decode cX0_isOf 12 = .ok (.iload_n 3, 1) := dcs_at ok11_told_0_5 8 rfl
theorem dX0_isOf_13 : decode cX0_isOf 13 = .ok (.iconst 2, 1) := dcs_at ok11_told_0_5 9 rfl
theorem dX0_isOf_14 : decode cX0_isOf 14 = .ok (.if_icmp .ne 7, 3) := dcs_at ok11_told_0_5 10 rfl
theorem dX0_isOf_17 : decode cX0_isOf 17 = .ok (.iconst 1, 1) := dcs_at ok11_told_0_5 11 rfl
theorem dX0_isOf_18 : decode cX0_isOf 18 = .ok (.goto 4, 3) := dcs_at ok11_told_0_5 12 rfl
theorem dX0_isOf_21 : decode cX0_isOf 21 = .ok (.iconst 0, 1) := dcs_at ok11_told_0_5 13 rfl
theorem dX0_isOf_22 : decode cX0_isOf 22 = .ok (.istore 4, 2) := dcs_at ok11_told_0_5 14 rfl
theorem dX0_isOf_24 : decode cX0_isOf 24 = .ok (.iload 4, 2) := dcs_at ok11_told_0_5 15 rfl
theorem dX0_isOf_26 : decode cX0_isOf 26 = .ok (.ifCond .ne 7, 3) := dcs_at ok11_told_0_5 16 rfl
theorem dX0_isOf_29 : decode cX0_isOf 29 = .ok (.iload_n 3, 1) := dcs_at ok11_told_0_5 17 rfl
theorem dX0_isOf_30 : decode cX0_isOf 30 = .ok (.ifCond .ne 13, 3) := dcs_at ok11_told_0_5 18 rfl
theorem dX0_isOf_33 : decode cX0_isOf 33 = .ok (.aload_n 0, 1) := dcs_at ok11_told_0_5 19 rfl
theorem dX0_isOf_34 : decode cX0_isOf 34 = .ok (.iload_n 1, 1) := dcs_at ok11_told_0_5 20 rfl
theorem dX0_isOf_35 : decode cX0_isOf 35 = .ok (.iconst 1, 1) := dcs_at ok11_told_0_5 21 rfl
theorem dX0_isOf_36 : decode cX0_isOf 36 = .ok (.invokevirtual 25, 3) := dcs_at ok11_told_0_5 22 rfl
theorem dX0_isOf_39 : decode cX0_isOf 39 = .ok (.iload_n 2, 1) := dcs_at ok11_told_0_5 23 rfl
theorem dX0_isOf_40 : decode cX0_isOf 40 = .ok (.if_icmp .eq 18, 3) := dcs_at ok11_told_0_5 24 rfl
theorem dX0_isOf_43 : decode cX0_isOf 43 = .ok (.iload 4, 2) := dcs_at ok11_told_0_5 25 rfl
theorem dX0_isOf_45 : decode cX0_isOf 45 = .ok (.ifCond .eq 17, 3) := dcs_at ok11_told_0_5 26 rfl
theorem dX0_isOf_48 : decode cX0_isOf 48 = .ok (.aload_n 0, 1) := dcs_at ok11_told_0_5 27 rfl
theorem dX0_isOf_49 : decode cX0_isOf 49 = .ok (.iload_n 1, 1) := dcs_at ok11_told_0_5 28 rfl
theorem dX0_isOf_50 : decode cX0_isOf 50 = .ok (.iconst 2, 1) := dcs_at ok11_told_0_5 29 rfl
theorem dX0_isOf_51 : decode cX0_isOf 51 = .ok (.invokevirtual 25, 3) := dcs_at ok11_told_0_5 30 rfl
theorem dX0_isOf_54 : decode cX0_isOf 54 = .ok (.iload_n 2, 1) := dcs_at ok11_told_0_5 31 rfl
theorem dX0_isOf_55 : decode cX0_isOf 55 = .ok (.if_icmp .ne 7, 3) := dcs_at ok11_told_0_5 32 rfl
theorem dX0_isOf_58 : decode cX0_isOf 58 = .ok (.iconst 1, 1) := dcs_at ok11_told_0_5 33 rfl
theorem dX0_isOf_59 : decode cX0_isOf 59 = .ok (.goto 4, 3) := dcs_at ok11_told_0_5 34 rfl
theorem dX0_isOf_62 : decode cX0_isOf 62 = .ok (.iconst 0, 1) := dcs_at ok11_told_0_5 35 rfl
theorem dX0_isOf_63 : decode cX0_isOf 63 = .ok (.ireturn, 1) := dcs_at ok11_told_0_5 36 rfl
def tb11_told_0_6 : List (Nat × (Instr × Nat)) := [(0, (.aload_n 0, 1)), (1, (.aload_n 1, 1)), (2, (.getfield 15, 3)), (5, (.putfield 15, 3)), (8, (.aload_n 1, 1)), (9, (.getfield 9, 3)), (12, (.iconst 0, 1)), (13, (.aload_n 0, 1)), (14, (.getfield 9, 3)), (17, (.iconst 0, 1)), (18, (.bipush 6, 2)), (20, (.invokestatic 19, 3)), (23, (.return_, 1))]
theorem ok11_told_0_6 : dcs cX1_copyFrom tb11_told_0_6 = true := by decide +kernel
theorem dX1_copyFrom_0 : decode cX1_copyFrom 0 = .ok (.aload_n 0, 1) := dcs_at ok11_told_0_6 0 rfl
theorem dX1_copyFrom_1 : decode cX1_copyFrom 1 = .ok (.aload_n 1, 1) := dcs_at ok11_told_0_6 1 rfl
theorem dX1_copyFrom_2 : decode cX1_copyFrom 2 = .ok (.getfield 15, 3) := dcs_at ok11_told_0_6 2 rfl
theorem dX1_copyFrom_5 : decode cX1_copyFrom 5 = .ok (.putfield 15, 3) := dcs_at ok11_told_0_6 3 rfl
theorem dX1_copyFrom_8 : decode cX1_copyFrom 8 = .ok (.aload_n 1, 1) := dcs_at ok11_told_0_6 4 rfl
theorem dX1_copyFrom_9 : decode cX1_copyFrom 9 = .ok (.getfield 9, 3) := dcs_at ok11_told_0_6 5 rfl
theorem dX1_copyFrom_12 : decode cX1_copyFrom 12 = .ok (.iconst 0, 1) := dcs_at ok11_told_0_6 6 rfl
theorem dX1_copyFrom_13 : decode cX1_copyFrom 13 = .ok (.aload_n 0, 1) := dcs_at ok11_told_0_6 7 rfl
theorem dX1_copyFrom_14 : decode cX1_copyFrom 14 = .ok (.getfield 9, 3) := dcs_at ok11_told_0_6 8 rfl
theorem dX1_copyFrom_17 : decode cX1_copyFrom 17 = .ok (.iconst 0, 1) := dcs_at ok11_told_0_6 9 rfl
theorem dX1_copyFrom_18 : decode cX1_copyFrom 18 = .ok (.bipush 6, 2) := dcs_at ok11_told_0_6 10 rfl
theorem dX1_copyFrom_20 : decode cX1_copyFrom 20 = .ok (.invokestatic 19, 3) := dcs_at ok11_told_0_6 11 rfl
theorem dX1_copyFrom_23 : decode cX1_copyFrom 23 = .ok (.return_, 1) := dcs_at ok11_told_0_6 12 rfl
def tb11_told_0_7 : List (Nat × (Instr × Nat)) := [(0, (.aload_n 0, 1)), (1, (.getfield 15, 3)), (4, (.bipush 6, 2)), (6, (.if_icmp .ge 23, 3)), (9, (.aload_n 0, 1)), (10, (.getfield 9, 3)), (13, (.aload_n 0, 1)), (14, (.getfield 15, 3)), (17, (.iload_n 1, 1)), (18, (.iastore, 1)), (19, (.aload_n 0, 1)), (20, (.dup, 1)), (21, (.getfield 15, 3)), (24, (.iconst 1, 1)), (25, (.iadd, 1)), (26, (.putfield 15, 3)), (29, (.return_, 1))]
theorem ok11_told_0_7 : dcs cX1_addMinute tb11_told_0_7 = true := by decide +kernel
theorem dX1_addMinute_0 : decode cX1_addMinute 0 = .ok (.aload_n 0, 1) := dcs_at ok11_told_0_7 0 rfl
theorem dX1_addMinute_1 : decode cX1_addMinute 1 = .ok (.getfield 15, 3) := dcs_at ok11_told_0_7 1 rfl
theorem dX1_addMinute_4 : decode cX1_addMinute 4 = .ok (.bipush 6, 2) := dcs_at ok11_told_0_7 2 rfl
theorem dX1_addMinute_6 : decode cX1_addMinute 6 = .ok (.if_icmp .ge 23, 3) := dcs_at ok11_told_0_7 3 rfl
theorem dX1_addMinute_9 : decode cX1_addMinute 9 = .ok (.aload_n 0, 1) := dcs_at ok11_told_0_7 4 rfl
theorem dX1_addMinute_10 : decode cX1_addMinute 10 = .ok (.getfield 9, 3) := dcs_at ok11_told_0_7 5 rfl
theorem dX1_addMinute_13 : decode cX1_addMinute 13 = .ok (.aload_n 0, 1) := dcs_at ok11_told_0_7 6 rfl
theorem dX1_addMinute_14 : decode cX1_addMinute 14 = .ok (.getfield 15, 3) := dcs_at ok11_told_0_7 7 rfl
theorem dX1_addMinute_17 : decode cX1_addMinute 17 = .ok (.iload_n 1, 1) := dcs_at ok11_told_0_7 8 rfl
theorem dX1_addMinute_18 : decode cX1_addMinute 18 = .ok (.iastore, 1) := dcs_at ok11_told_0_7 9 rfl
theorem dX1_addMinute_19 : decode cX1_addMinute 19 = .ok (.aload_n 0, 1) := dcs_at ok11_told_0_7 10 rfl
theorem dX1_addMinute_20 : decode cX1_addMinute 20 = .ok (.dup, 1) := dcs_at ok11_told_0_7 11 rfl
theorem dX1_addMinute_21 : decode cX1_addMinute 21 = .ok (.getfield 15, 3) := dcs_at ok11_told_0_7 12 rfl
theorem dX1_addMinute_24 : decode cX1_addMinute 24 = .ok (.iconst 1, 1) := dcs_at ok11_told_0_7 13 rfl
theorem dX1_addMinute_25 : decode cX1_addMinute 25 = .ok (.iadd, 1) := dcs_at ok11_told_0_7 14 rfl
theorem dX1_addMinute_26 : decode cX1_addMinute 26 = .ok (.putfield 15, 3) := dcs_at ok11_told_0_7 15 rfl
theorem dX1_addMinute_29 : decode cX1_addMinute 29 = .ok (.return_, 1) := dcs_at ok11_told_0_7 16 rfl
def tb11_told_0_8 : List (Nat × (Instr × Nat)) := [(0, (.iload_n 1, 1)), (1, (.ifCond .lt 15, 3)), (4, (.iload_n 1, 1)), (5, (.aload_n 0, 1)), (6, (.getfield 15, 3)), (9, (.if_icmp .ge 7, 3)), (12, (.iconst 1, 1)), (13, (.goto 4, 3)), (16, (.iconst 0, 1)), (17, (.ireturn, 1))]
theorem ok11_told_0_8 : dcs cX1_hasMinute tb11_told_0_8 = true := by decide +kernel
theorem dX1_hasMinute_0 : decode cX1_hasMinute 0 = .ok (.iload_n 1, 1) := dcs_at ok11_told_0_8 0 rfl
theorem dX1_hasMinute_1 : decode cX1_hasMinute 1 = .ok (.ifCond .lt 15, 3) := dcs_at ok11_told_0_8 1 rfl
theorem dX1_hasMinute_4 : decode cX1_hasMinute 4 = .ok (.iload_n 1, 1) := dcs_at ok11_told_0_8 2 rfl
theorem dX1_hasMinute_5 : decode cX1_hasMinute 5 = .ok (.aload_n 0, 1) := dcs_at ok11_told_0_8 3 rfl
theorem dX1_hasMinute_6 : decode cX1_hasMinute 6 = .ok (.getfield 15, 3) := dcs_at ok11_told_0_8 4 rfl
theorem dX1_hasMinute_9 : decode cX1_hasMinute 9 = .ok (.if_icmp .ge 7, 3) := dcs_at ok11_told_0_8 5 rfl
theorem dX1_hasMinute_12 : decode cX1_hasMinute 12 = .ok (.iconst 1, 1) := dcs_at ok11_told_0_8 6 rfl
theorem dX1_hasMinute_13 : decode cX1_hasMinute 13 = .ok (.goto 4, 3) := dcs_at ok11_told_0_8 7 rfl
theorem dX1_hasMinute_16 : decode cX1_hasMinute 16 = .ok (.iconst 0, 1) := dcs_at ok11_told_0_8 8 rfl
theorem dX1_hasMinute_17 : decode cX1_hasMinute 17 = .ok (.ireturn, 1) := dcs_at ok11_told_0_8 9 rfl
def tb11_told_0_9 : List (Nat × (Instr × Nat)) := [(0, (.aload_n 0, 1)), (1, (.iconst 0, 1)), (2, (.putfield 30, 3)), (5, (.aload_n 0, 1)), (6, (.iconst 0, 1)), (7, (.putfield 34, 3)), (10, (.aload_n 0, 1)), (11, (.iconst 0, 1)), (12, (.putfield 37, 3)), (15, (.aload_n 0, 1)), (16, (.iconst 0, 1)), (17, (.putfield 40, 3)), (20, (.aload_n 0, 1)), (21, (.sipush 999, 3)), (24, (.putfield 43, 3)), (27, (.aload_n 0, 1)), (28, (.iconst 0, 1)), (29, (.putfield 46, 3)), (32, (.return_, 1))]
theorem ok11_told_0_9 : dcs cX7_clear tb11_told_0_9 = true := by decide +kernel
theorem dX7_clear_0 : decode cX7_clear 0 = .ok (.aload_n 0, 1) := dcs_at ok11_told_0_9 0 rfl
theorem dX7_clear_1 : decode cX7_clear 1 = .ok (.iconst 0, 1) := dcs_at ok11_told_0_9 1 rfl
theorem dX7_clear_2 : decode cX7_clear 2 = .ok (.putfield 30, 3) := dcs_at ok11_told_0_9 2 rfl
theorem dX7_clear_5 : decode cX7_clear 5 = .ok (.aload_n 0, 1) := dcs_at ok11_told_0_9 3 rfl
theorem dX7_clear_6 : decode cX7_clear 6 = .ok (.iconst 0, 1) := dcs_at ok11_told_0_9 4 rfl
theorem dX7_clear_7 : decode cX7_clear 7 = .ok (.putfield 34, 3) := dcs_at ok11_told_0_9 5 rfl
theorem dX7_clear_10 : decode cX7_clear 10 = .ok (.aload_n 0, 1) := dcs_at ok11_told_0_9 6 rfl
theorem dX7_clear_11 : decode cX7_clear 11 = .ok (.iconst 0, 1) := dcs_at ok11_told_0_9 7 rfl
theorem dX7_clear_12 : decode cX7_clear 12 = .ok (.putfield 37, 3) := dcs_at ok11_told_0_9 8 rfl
theorem dX7_clear_15 : decode cX7_clear 15 = .ok (.aload_n 0, 1) := dcs_at ok11_told_0_9 9 rfl
theorem dX7_clear_16 : decode cX7_clear 16 = .ok (.iconst 0, 1) := dcs_at ok11_told_0_9 10 rfl
theorem dX7_clear_17 : decode cX7_clear 17 = .ok (.putfield 40, 3) := dcs_at ok11_told_0_9 11 rfl
theorem dX7_clear_20 : decode cX7_clear 20 = .ok (.aload_n 0, 1) := dcs_at ok11_told_0_9 12 rfl
theorem dX7_clear_21 : decode cX7_clear 21 = .ok (.sipush 999, 3) := dcs_at ok11_told_0_9 13 rfl
theorem dX7_clear_24 : decode cX7_clear 24 = .ok (.putfield 43, 3) := dcs_at ok11_told_0_9 14 rfl
theorem dX7_clear_27 : decode cX7_clear 27 = .ok (.aload_n 0, 1) := dcs_at ok11_told_0_9 15 rfl
theorem dX7_clear_28 : decode cX7_clear 28 = .ok (.iconst 0, 1) := dcs_at ok11_told_0_9 16 rfl
theorem dX7_clear_29 : decode cX7_clear 29 = .ok (.putfield 46, 3) := dcs_at ok11_told_0_9 17 rfl
theorem dX7_clear_32 : decode cX7_clear 32 = .ok (.return_, 1) := dcs_at ok11_told_0_9 18 rfl
def tb11_told_0_10 : List (Nat × (Instr × Nat)) := [(0, (.aload_n 0, 1)), (1, (.aload_n 1, 1)), (2, (.getfield 30, 3)), (5, (.putfield 30, 3)), (8, (.aload_n 0, 1)), (9, (.aload_n 1, 1)), (10, (.getfield 34, 3)), (13, (.putfield 34, 3)), (16, (.aload_n 0, 1)), (17, (.aload_n 1, 1)), (18, (.getfield 37, 3)), (21, (.putfield 37, 3)), (24, (.aload_n 0, 1)), (25, (.aload_n 1, 1)), (26, (.getfield 40, 3)), (29, (.putfield 40, 3)), (32, (.aload_n 0, 1)), (33, (.aload_n 1, 1)), (34, (.getfield 43, 3)), (37, (.putfield 43, 3)), (40, (.aload_n 0, 1)), (41, (.aload_n 1, 1)), (42, (.getfield 46, 3)), (45, (.putfield 46, 3)), (48, (.aload_n 1, 1)), (49, (.getfield 9, 3)), (52, (.iconst 0, 1)), (53, (.aload_n 0, 1)), (54, (.getfield 9, 3)), (57, (.iconst 0, 1)), (58, (.iconst 5, 1)), (59, (.invokestatic 49, 3)), (62, (.aload_n 1, 1)), (63, (.getfield 15, 3)), (66, (.iconst 0, 1)), (67, (.aload_n 0, 1)), (68, (.getfield 15, 3)), (71, (.iconst 0, 1)), (72, (.iconst 5, 1)), (73, (.invokestatic 49, 3))]
theorem ok11_told_0_10 : dcs cX7_copyFrom tb11_told_0_10 = true := by decide +kernel
theorem dX7_copyFrom_0 : decode cX7_copyFrom 0 = .ok (.aload_n 0, 1) := dcs_at ok11_told_0_10 0 rfl
theorem dX7_copyFrom_1 : decode cX7_copyFrom 1 = .ok (.aload_n 1, 1) := dcs_at ok11_told_0_10 1 rfl
theorem dX7_copyFrom_2 : decode cX7_copyFrom 2 = .ok (.getfield 30, 3) := dcs_at ok11_told_0_10 2 rfl
theorem dX7_copyFrom_5 : decode cX7_copyFrom 5 = .ok (.putfield 30, 3) := dcs_at ok11_told_0_10 3 rfl
theorem dX7_copyFrom_8 : decode cX7_copyFrom 8 = .ok (.aload_n 0, 1) := dcs_at ok11_told_0_10 4 rfl
theorem dX7_copyFrom_9 : decode cX7_copyFrom 9 = .ok (.aload_n 1, 1) := dcs_at ok11_told_0_10 5 rfl
theorem dX7_copyFrom_10 : decode cX7_copyFrom 10 = .ok (.getfield 34, 3) := dcs_at ok11_told_0_10 6 rfl
theorem dX7_copyFrom_13 : decode cX7_copyFrom 13 = .ok (.putfield 34, 3) := dcs_at ok11_told_0_10 7 rfl
theorem dX7_copyFrom_16 : decode cX7_copyFrom 16 = .ok (.aload_n 0, 1) := dcs_at ok11_told_0_10 8 rfl
theorem dX7_copyFrom_17 : decode cX7_copyFrom 17 = .ok (.aload_n 1, 1) := dcs_at ok11_told_0_10 9 rfl
theorem dX7_copyFrom_18 : decode cX7_copyFrom 18 = .ok (.getfield 37, 3) := dcs_at ok11_told_0_10 10 rfl
theorem dX7_copyFrom_21 : decode cX7_copyFrom 21 = .ok (.putfield 37, 3) := dcs_at ok11_told_0_10 11 rfl
theorem dX7_copyFrom_24 : decode cX7_copyFrom 24 = .ok (.aload_n 0, 1) := dcs_at ok11_told_0_10 12 rfl
theorem dX7_copyFrom_25 : decode cX7_copyFrom 25 = .ok (.aload_n 1, 1) := dcs_at ok11_told_0_10 13 rfl
theorem dX7_copyFrom_26 : decode cX7_copyFrom 26 = .ok (.getfield 40, 3) := dcs_at ok11_told_0_10 14 rfl
theorem dX7_copyFrom_29 : decode cX7_copyFrom 29 = .ok (.putfield 40, 3) := dcs_at ok11_told_0_10 15 rfl
theorem dX7_copyFrom_32 : decode cX7_copyFrom 32 = .ok (.aload_n 0, 1) := dcs_at ok11_told_0_10 16 rfl
theorem dX7_copyFrom_33 : decode cX7_copyFrom 33 = .ok (.aload_n 1, 1) := dcs_at ok11_told_0_10 17 rfl
theorem dX7_copyFrom_34 : decode cX7_copyFrom 34 = .ok (.getfield 43, 3) := dcs_at ok11_told_0_10 18 rfl
theorem dX7_copyFrom_37 : decode cX7_copyFrom 37 = .ok (.putfield 43, 3) := dcs_at ok11_told_0_10 19 rfl
theorem dX7_copyFrom_40 : decode cX7_copyFrom 40 = .ok (.aload_n 0, 1) := dcs_at ok11_told_0_10 20 rfl
theorem dX7_copyFrom_41 : decode cX7_copyFrom 41 = .ok (.aload_n 1, 1) := dcs_at ok11_told_0_10 21 rfl
theorem dX7_copyFrom_42 : decode cX7_copyFrom 42 = .ok (.getfield 46, 3) := dcs_at ok11_told_0_10 22 rfl
theorem dX7_copyFrom_45 : decode cX7_copyFrom 45 = .ok (.putfield 46, 3) := dcs_at ok11_told_0_10 23 rfl
theorem dX7_copyFrom_48 : decode cX7_copyFrom 48 = .ok (.aload_n 1, 1) := dcs_at ok11_told_0_10 24 rfl
theorem dX7_copyFrom_49 : decode cX7_copyFrom 49 = .ok (.getfield 9, 3) := dcs_at ok11_told_0_10 25 rfl
theorem dX7_copyFrom_52 : decode cX7_copyFrom 52 = .ok (.iconst 0, 1) := dcs_at ok11_told_0_10 26 rfl
theorem dX7_copyFrom_53 : decode cX7_copyFrom 53 = .ok (.aload_n 0, 1) := dcs_at ok11_told_0_10 27 rfl
theorem dX7_copyFrom_54 : decode cX7_copyFrom 54 = .ok (.getfield 9, 3) := dcs_at ok11_told_0_10 28 rfl
theorem dX7_copyFrom_57 : decode cX7_copyFrom 57 = .ok (.iconst 0, 1) := dcs_at ok11_told_0_10 29 rfl
theorem dX7_copyFrom_58 : decode cX7_copyFrom 58 = .ok (.iconst 5, 1) := dcs_at ok11_told_0_10 30 rfl
theorem dX7_copyFrom_59 : decode cX7_copyFrom 59 = .ok (.invokestatic 49, 3) := dcs_at ok11_told_0_10 31 rfl
theorem dX7_copyFrom_62 : decode cX7_copyFrom 62 = .ok (.aload_n 1, 1) := dcs_at ok11_told_0_10 32 rfl
theorem dX7_copyFrom_63 : decode cX7_copyFrom 63 = .ok (.getfield 15, 3) := dcs_at ok11_told_0_10 33 rfl
theorem dX7_copyFrom_66 : decode cX7_copyFrom 66 = .ok (.iconst 0, 1) := dcs_at ok11_told_0_10 34 rfl
theorem dX7_copyFrom_67 : decode cX7_copyFrom 67 = .ok (.aload_n 0, 1) := dcs_at ok11_told_0_10 35 rfl
theorem dX7_copyFrom_68 : decode cX7_copyFrom 68 = .ok (.getfield 15, 3) := dcs_at ok11_told_0_10 36 rfl
theorem dX7_copyFrom_71 : decode cX7_copyFrom 71 = .ok (.iconst 0, 1) := dcs_at ok11_told_0_10 37 rfl
theorem dX7_copyFrom_72 : decode cX7_copyFrom 72 = .ok (.iconst 5, 1) := dcs_at ok11_told_0_10 38 rfl
theorem dX7_copyFrom_73 : decode cX7_copyFrom 73 = .ok (.invokestatic 49, 3) := dcs_at ok11_told_0_10 39 rfl
def tb11_told_0_11 : List (Nat × (Instr × Nat)) := [(76, (.aload_n 1, 1)), (77, (.getfield 18, 3)), (80, (.iconst 0, 1)), (81, (.aload_n 0, 1)), (82, (.getfield 18, 3)), (85, (.iconst 0, 1)), (86, (.bipush 6, 2)), (88, (.invokestatic 49, 3)), (91, (.aload_n 1, 1)), (92, (.getfield 21, 3)), (95, (.iconst 0, 1)), (96, (.aload_n 0, 1)), (97, (.getfield 21, 3)), (100, (.iconst 0, 1)), (101, (.bipush 6, 2)), (103, (.invokestatic 49, 3)), (106, (.aload_n 1, 1)), (107, (.getfield 24, 3)), (110, (.iconst 0, 1)), (111, (.aload_n 0, 1)), (112, (.getfield 24, 3)), (115, (.iconst 0, 1)), (116, (.iconst 4, 1)), (117, (.invokestatic 49, 3)), (120, (.aload_n 1, 1)), (121, (.getfield 27, 3)), (124, (.iconst 0, 1)), (125, (.aload_n 0, 1)), (126, (.getfield 27, 3)), (129, (.iconst 0, 1)), (130, (.iconst 4, 1)), (131, (.invokestatic 49, 3)), (134, (.return_, 1))]
theorem ok11_told_0_11 : dcs cX7_copyFrom tb11_told_0_11 = true := by decide +kernel
theorem dX7_copyFrom_76 : decode cX7_copyFrom 76 = .ok (.aload_n 1, 1) := dcs_at ok11_told_0_11 0 rfl
theorem dX7_copyFrom_77 : decode cX7_copyFrom 77 = .ok (.getfield 18, 3) := dcs_at ok11_told_0_11 1 rfl
theorem dX7_copyFrom_80 : decode cX7_copyFrom 80 = .ok (.iconst 0, 1) := dcs_at ok11_told_0_11 2 rfl
theorem dX7_copyFrom_81 : decode cX7_copyFrom 81 = .ok (.aload_n 0, 1) := dcs_at ok11_told_0_11 3 rfl
theorem dX7_copyFrom_82 : decode cX7_copyFrom 82 = .ok (.getfield 18, 3) := dcs_at ok11_told_0_11 4 rfl
theorem dX7_copyFrom_85 : decode cX7_copyFrom 85 = .ok (.iconst 0, 1) := dcs_at ok11_told_0_11 5 rfl
theorem dX7_copyFrom_86 : decode cX7_copyFrom 86 = .ok (.bipush 6, 2) := dcs_at ok11_told_0_11 6 rfl
theorem dX7_copyFrom_88 : decode cX7_copyFrom 88 = .ok (.invokestatic 49, 3) := dcs_at ok11_told_0_11 7 rfl
theorem dX7_copyFrom_91 : decode cX7_copyFrom 91 = .ok (.aload_n 1, 1) := dcs_at ok11_told_0_11 8 rfl
theorem dX7_copyFrom_92 : decode cX7_copyFrom 92 = .ok (.getfield 21, 3) := dcs_at ok11_told_0_11 9 rfl
theorem dX7_copyFrom_95 : decode cX7_copyFrom 95 = .ok (.iconst 0, 1) := dcs_at ok11_told_0_11 10 rfl
theorem dX7_copyFrom_96 : decode cX7_copyFrom 96 = .ok (.aload_n 0, 1) := dcs_at ok11_told_0_11 11 rfl
theorem dX7_copyFrom_97 : decode cX7_copyFrom 97 = .ok (.getfield 21, 3) := dcs_at ok11_told_0_11 12 rfl
theorem dX7_copyFrom_100 : decode cX7_copyFrom 100 = .ok (.iconst 0, 1) := dcs_at ok11_told_0_11 13 rfl
theorem dX7_copyFrom_101 : decode cX7_copyFrom 101 = .ok (.bipush 6, 2) := dcs_at ok11_told_0_11 14 rfl
theorem dX7_copyFrom_103 : decode cX7_copyFrom 103 = .ok (.invokestatic 49, 3) := dcs_at ok11_told_0_11 15 rfl
theorem dX7_copyFrom_106 : decode cX7_copyFrom 106 = .ok (.aload_n 1, 1) := dcs_at ok11_told_0_11 16 rfl
theorem dX7_copyFrom_107 : decode cX7_copyFrom 107 = .ok (.getfield 24, 3) := dcs_at ok11_told_0_11 17 rfl
theorem dX7_copyFrom_110 : decode cX7_copyFrom 110 = .ok (.iconst 0, 1) := dcs_at ok11_told_0_11 18 rfl
theorem dX7_copyFrom_111 : decode cX7_copyFrom 111 = .ok (.aload_n 0, 1) := dcs_at ok11_told_0_11 19 rfl
theorem dX7_copyFrom_112 : decode cX7_copyFrom 112 = .ok (.getfield 24, 3) := dcs_at ok11_told_0_11 20 rfl
theorem dX7_copyFrom_115 : decode cX7_copyFrom 115 = .ok (.iconst 0, 1) := dcs_at ok11_told_0_11 21 rfl
theorem dX7_copyFrom_116 : decode cX7_copyFrom 116 = .ok (.iconst 4, 1) := dcs_at ok11_told_0_11 22 rfl
theorem dX7_copyFrom_117 : decode cX7_copyFrom 117 = .ok (.invokestatic 49, 3) := dcs_at ok11_told_0_11 23 rfl
theorem dX7_copyFrom_120 : decode cX7_copyFrom 120 = .ok (.aload_n 1, 1) := dcs_at ok11_told_0_11 24 rfl
theorem dX7_copyFrom_121 : decode cX7_copyFrom 121 = .ok (.getfield 27, 3) := dcs_at ok11_told_0_11 25 rfl
theorem dX7_copyFrom_124 : decode cX7_copyFrom 124 = .ok (.iconst 0, 1) := dcs_at ok11_told_0_11 26 rfl
theorem dX7_copyFrom_125 : decode cX7_copyFrom 125 = .ok (.aload_n 0, 1) := dcs_at ok11_told_0_11 27 rfl
theorem dX7_copyFrom_126 : decode cX7_copyFrom 126 = .ok (.getfield 27, 3) := dcs_at ok11_told_0_11 28 rfl
theorem dX7_copyFrom_129 : decode cX7_copyFrom 129 = .ok (.iconst 0, 1) := dcs_at ok11_told_0_11 29 rfl
theorem dX7_copyFrom_130 : decode cX7_copyFrom 130 = .ok (.iconst 4, 1) := dcs_at ok11_told_0_11 30 rfl
theorem dX7_copyFrom_131 : decode cX7_copyFrom 131 = .ok (.invokestatic 49, 3) := dcs_at ok11_told_0_11 31 rfl
theorem dX7_copyFrom_134 : decode cX7_copyFrom 134 = .ok (.return_, 1) := dcs_at ok11_told_0_11 32 rfl
def tb11_told_0_12 : List (Nat × (Instr × Nat)) := [(0, (.aload_n 0, 1)), (1, (.getfield 30, 3)), (4, (.iconst 5, 1)), (5, (.if_icmp .ge 33, 3)), (8, (.aload_n 0, 1)), (9, (.getfield 9, 3)), (12, (.aload_n 0, 1)), (13, (.getfield 30, 3)), (16, (.iload_n 1, 1)), (17, (.iastore, 1)), (18, (.aload_n 0, 1)), (19, (.getfield 15, 3)), (22, (.aload_n 0, 1)), (23, (.getfield 30, 3)), (26, (.iload_n 2, 1)), (27, (.iastore, 1)), (28, (.aload_n 0, 1)), (29, (.dup, 1)), (30, (.getfield 30, 3)), (33, (.iconst 1, 1)), (34, (.iadd, 1)), (35, (.putfield 30, 3)), (38, (.return_, 1))]
theorem ok11_told_0_12 : dcs cX7_addPalm tb11_told_0_12 = true := by decide +kernel
theorem dX7_addPalm_0 : decode cX7_addPalm 0 = .ok (.aload_n 0, 1) := dcs_at ok11_told_0_12 0 rfl
theorem dX7_addPalm_1 : decode cX7_addPalm 1 = .ok (.getfield 30, 3) := dcs_at ok11_told_0_12 1 rfl
theorem dX7_addPalm_4 : decode cX7_addPalm 4 = .ok (.iconst 5, 1) := dcs_at ok11_told_0_12 2 rfl
theorem dX7_addPalm_5 : decode cX7_addPalm 5 = .ok (.if_icmp .ge 33, 3) := dcs_at ok11_told_0_12 3 rfl
theorem dX7_addPalm_8 : decode cX7_addPalm 8 = .ok (.aload_n 0, 1) := dcs_at ok11_told_0_12 4 rfl
theorem dX7_addPalm_9 : decode cX7_addPalm 9 = .ok (.getfield 9, 3) := dcs_at ok11_told_0_12 5 rfl
theorem dX7_addPalm_12 : decode cX7_addPalm 12 = .ok (.aload_n 0, 1) := dcs_at ok11_told_0_12 6 rfl
theorem dX7_addPalm_13 : decode cX7_addPalm 13 = .ok (.getfield 30, 3) := dcs_at ok11_told_0_12 7 rfl
theorem dX7_addPalm_16 : decode cX7_addPalm 16 = .ok (.iload_n 1, 1) := dcs_at ok11_told_0_12 8 rfl
theorem dX7_addPalm_17 : decode cX7_addPalm 17 = .ok (.iastore, 1) := dcs_at ok11_told_0_12 9 rfl
theorem dX7_addPalm_18 : decode cX7_addPalm 18 = .ok (.aload_n 0, 1) := dcs_at ok11_told_0_12 10 rfl
theorem dX7_addPalm_19 : decode cX7_addPalm 19 = .ok (.getfield 15, 3) := dcs_at ok11_told_0_12 11 rfl
theorem dX7_addPalm_22 : decode cX7_addPalm 22 = .ok (.aload_n 0, 1) := dcs_at ok11_told_0_12 12 rfl
theorem dX7_addPalm_23 : decode cX7_addPalm 23 = .ok (.getfield 30, 3) := dcs_at ok11_told_0_12 13 rfl
theorem dX7_addPalm_26 : decode cX7_addPalm 26 = .ok (.iload_n 2, 1) := dcs_at ok11_told_0_12 14 rfl
theorem dX7_addPalm_27 : decode cX7_addPalm 27 = .ok (.iastore, 1) := dcs_at ok11_told_0_12 15 rfl
theorem dX7_addPalm_28 : decode cX7_addPalm 28 = .ok (.aload_n 0, 1) := dcs_at ok11_told_0_12 16 rfl
theorem dX7_addPalm_29 : decode cX7_addPalm 29 = .ok (.dup, 1) := dcs_at ok11_told_0_12 17 rfl
theorem dX7_addPalm_30 : decode cX7_addPalm 30 = .ok (.getfield 30, 3) := dcs_at ok11_told_0_12 18 rfl
theorem dX7_addPalm_33 : decode cX7_addPalm 33 = .ok (.iconst 1, 1) := dcs_at ok11_told_0_12 19 rfl
theorem dX7_addPalm_34 : decode cX7_addPalm 34 = .ok (.iadd, 1) := dcs_at ok11_told_0_12 20 rfl
theorem dX7_addPalm_35 : decode cX7_addPalm 35 = .ok (.putfield 30, 3) := dcs_at ok11_told_0_12 21 rfl
theorem dX7_addPalm_38 : decode cX7_addPalm 38 = .ok (.return_, 1) := dcs_at ok11_told_0_12 22 rfl
def tb11_told_0_13 : List (Nat × (Instr × Nat)) := [(0, (.aload_n 0, 1)), (1, (.getfield 34, 3)), (4, (.bipush 6, 2)), (6, (.if_icmp .ge 33, 3)), (9, (.aload_n 0, 1)), (10, (.getfield 18, 3)), (13, (.aload_n 0, 1)), (14, (.getfield 34, 3)), (17, (.iload_n 1, 1)), (18, (.iastore, 1)), (19, (.aload_n 0, 1)), (20, (.getfield 21, 3)), (23, (.aload_n 0, 1)), (24, (.getfield 34, 3)), (27, (.iload_n 2, 1)), (28, (.iastore, 1)), (29, (.aload_n 0, 1)), (30, (.dup, 1)), (31, (.getfield 34, 3)), (34, (.iconst 1, 1)), (35, (.iadd, 1)), (36, (.putfield 34, 3)), (39, (.return_, 1))]
theorem ok11_told_0_13 : dcs cX7_addActor tb11_told_0_13 = true := by decide +kernel
theorem dX7_addActor_0 : decode cX7_addActor 0 = .ok (.aload_n 0, 1) := dcs_at ok11_told_0_13 0 rfl
theorem dX7_addActor_1 : decode cX7_addActor 1 = .ok (.getfield 34, 3) := dcs_at ok11_told_0_13 1 rfl
theorem dX7_addActor_4 : decode cX7_addActor 4 = .ok (.bipush 6, 2) := dcs_at ok11_told_0_13 2 rfl
theorem dX7_addActor_6 : decode cX7_addActor 6 = .ok (.if_icmp .ge 33, 3) := dcs_at ok11_told_0_13 3 rfl
theorem dX7_addActor_9 : decode cX7_addActor 9 = .ok (.aload_n 0, 1) := dcs_at ok11_told_0_13 4 rfl
theorem dX7_addActor_10 : decode cX7_addActor 10 = .ok (.getfield 18, 3) := dcs_at ok11_told_0_13 5 rfl
theorem dX7_addActor_13 : decode cX7_addActor 13 = .ok (.aload_n 0, 1) := dcs_at ok11_told_0_13 6 rfl
theorem dX7_addActor_14 : decode cX7_addActor 14 = .ok (.getfield 34, 3) := dcs_at ok11_told_0_13 7 rfl
theorem dX7_addActor_17 : decode cX7_addActor 17 = .ok (.iload_n 1, 1) := dcs_at ok11_told_0_13 8 rfl
theorem dX7_addActor_18 : decode cX7_addActor 18 = .ok (.iastore, 1) := dcs_at ok11_told_0_13 9 rfl
theorem dX7_addActor_19 : decode cX7_addActor 19 = .ok (.aload_n 0, 1) := dcs_at ok11_told_0_13 10 rfl
theorem dX7_addActor_20 : decode cX7_addActor 20 = .ok (.getfield 21, 3) := dcs_at ok11_told_0_13 11 rfl
theorem dX7_addActor_23 : decode cX7_addActor 23 = .ok (.aload_n 0, 1) := dcs_at ok11_told_0_13 12 rfl
theorem dX7_addActor_24 : decode cX7_addActor 24 = .ok (.getfield 34, 3) := dcs_at ok11_told_0_13 13 rfl
theorem dX7_addActor_27 : decode cX7_addActor 27 = .ok (.iload_n 2, 1) := dcs_at ok11_told_0_13 14 rfl
theorem dX7_addActor_28 : decode cX7_addActor 28 = .ok (.iastore, 1) := dcs_at ok11_told_0_13 15 rfl
theorem dX7_addActor_29 : decode cX7_addActor 29 = .ok (.aload_n 0, 1) := dcs_at ok11_told_0_13 16 rfl
theorem dX7_addActor_30 : decode cX7_addActor 30 = .ok (.dup, 1) := dcs_at ok11_told_0_13 17 rfl
theorem dX7_addActor_31 : decode cX7_addActor 31 = .ok (.getfield 34, 3) := dcs_at ok11_told_0_13 18 rfl
theorem dX7_addActor_34 : decode cX7_addActor 34 = .ok (.iconst 1, 1) := dcs_at ok11_told_0_13 19 rfl
theorem dX7_addActor_35 : decode cX7_addActor 35 = .ok (.iadd, 1) := dcs_at ok11_told_0_13 20 rfl
theorem dX7_addActor_36 : decode cX7_addActor 36 = .ok (.putfield 34, 3) := dcs_at ok11_told_0_13 21 rfl
theorem dX7_addActor_39 : decode cX7_addActor 39 = .ok (.return_, 1) := dcs_at ok11_told_0_13 22 rfl
def tb11_told_0_14 : List (Nat × (Instr × Nat)) := [(0, (.aload_n 0, 1)), (1, (.getfield 37, 3)), (4, (.iconst 4, 1)), (5, (.if_icmp .ge 33, 3)), (8, (.aload_n 0, 1)), (9, (.getfield 24, 3)), (12, (.aload_n 0, 1)), (13, (.getfield 37, 3)), (16, (.iload_n 1, 1)), (17, (.iastore, 1)), (18, (.aload_n 0, 1)), (19, (.getfield 27, 3)), (22, (.aload_n 0, 1)), (23, (.getfield 37, 3)), (26, (.iload_n 2, 1)), (27, (.iastore, 1)), (28, (.aload_n 0, 1)), (29, (.dup, 1)), (30, (.getfield 37, 3)), (33, (.iconst 1, 1)), (34, (.iadd, 1)), (35, (.putfield 37, 3)), (38, (.return_, 1))]
theorem ok11_told_0_14 : dcs cX7_addUsurer tb11_told_0_14 = true := by decide +kernel
theorem dX7_addUsurer_0 : decode cX7_addUsurer 0 = .ok (.aload_n 0, 1) := dcs_at ok11_told_0_14 0 rfl
theorem dX7_addUsurer_1 : decode cX7_addUsurer 1 = .ok (.getfield 37, 3) := dcs_at ok11_told_0_14 1 rfl
theorem dX7_addUsurer_4 : decode cX7_addUsurer 4 = .ok (.iconst 4, 1) := dcs_at ok11_told_0_14 2 rfl
theorem dX7_addUsurer_5 : decode cX7_addUsurer 5 = .ok (.if_icmp .ge 33, 3) := dcs_at ok11_told_0_14 3 rfl
theorem dX7_addUsurer_8 : decode cX7_addUsurer 8 = .ok (.aload_n 0, 1) := dcs_at ok11_told_0_14 4 rfl
theorem dX7_addUsurer_9 : decode cX7_addUsurer 9 = .ok (.getfield 24, 3) := dcs_at ok11_told_0_14 5 rfl
theorem dX7_addUsurer_12 : decode cX7_addUsurer 12 = .ok (.aload_n 0, 1) := dcs_at ok11_told_0_14 6 rfl
theorem dX7_addUsurer_13 : decode cX7_addUsurer 13 = .ok (.getfield 37, 3) := dcs_at ok11_told_0_14 7 rfl
theorem dX7_addUsurer_16 : decode cX7_addUsurer 16 = .ok (.iload_n 1, 1) := dcs_at ok11_told_0_14 8 rfl
theorem dX7_addUsurer_17 : decode cX7_addUsurer 17 = .ok (.iastore, 1) := dcs_at ok11_told_0_14 9 rfl
theorem dX7_addUsurer_18 : decode cX7_addUsurer 18 = .ok (.aload_n 0, 1) := dcs_at ok11_told_0_14 10 rfl
theorem dX7_addUsurer_19 : decode cX7_addUsurer 19 = .ok (.getfield 27, 3) := dcs_at ok11_told_0_14 11 rfl
theorem dX7_addUsurer_22 : decode cX7_addUsurer 22 = .ok (.aload_n 0, 1) := dcs_at ok11_told_0_14 12 rfl
theorem dX7_addUsurer_23 : decode cX7_addUsurer 23 = .ok (.getfield 37, 3) := dcs_at ok11_told_0_14 13 rfl
theorem dX7_addUsurer_26 : decode cX7_addUsurer 26 = .ok (.iload_n 2, 1) := dcs_at ok11_told_0_14 14 rfl
theorem dX7_addUsurer_27 : decode cX7_addUsurer 27 = .ok (.iastore, 1) := dcs_at ok11_told_0_14 15 rfl
theorem dX7_addUsurer_28 : decode cX7_addUsurer 28 = .ok (.aload_n 0, 1) := dcs_at ok11_told_0_14 16 rfl
theorem dX7_addUsurer_29 : decode cX7_addUsurer 29 = .ok (.dup, 1) := dcs_at ok11_told_0_14 17 rfl
theorem dX7_addUsurer_30 : decode cX7_addUsurer 30 = .ok (.getfield 37, 3) := dcs_at ok11_told_0_14 18 rfl
theorem dX7_addUsurer_33 : decode cX7_addUsurer 33 = .ok (.iconst 1, 1) := dcs_at ok11_told_0_14 19 rfl
theorem dX7_addUsurer_34 : decode cX7_addUsurer 34 = .ok (.iadd, 1) := dcs_at ok11_told_0_14 20 rfl
theorem dX7_addUsurer_35 : decode cX7_addUsurer 35 = .ok (.putfield 37, 3) := dcs_at ok11_told_0_14 21 rfl
theorem dX7_addUsurer_38 : decode cX7_addUsurer 38 = .ok (.return_, 1) := dcs_at ok11_told_0_14 22 rfl
def tb11_told_0_15 : List (Nat × (Instr × Nat)) := [(0, (.iload_n 1, 1)), (1, (.ifCond .ge 5, 3)), (4, (.iconst (-1), 1)), (5, (.ireturn, 1)), (6, (.iload_n 1, 1)), (7, (.bipush 10, 2)), (9, (.irem, 1)), (10, (.istore_n 2, 1)), (11, (.iload_n 1, 1)), (12, (.bipush 10, 2)), (14, (.idiv, 1)), (15, (.tableswitch 161 0 6 #[41, 47, 66, 85, 104, 123, 142], 41)), (56, (.aload_n 0, 1)), (57, (.iload_n 2, 1)), (58, (.invokevirtual 55, 3)), (61, (.ireturn, 1)), (62, (.iload_n 2, 1)), (63, (.aload_n 0, 1)), (64, (.getfield 30, 3)), (67, (.if_icmp .ge 12, 3)), (70, (.aload_n 0, 1)), (71, (.getfield 9, 3)), (74, (.iload_n 2, 1)), (75, (.iaload, 1)), (76, (.goto 4, 3)), (79, (.iconst (-1), 1)), (80, (.ireturn, 1)), (81, (.iload_n 2, 1)), (82, (.aload_n 0, 1)), (83, (.getfield 30, 3)), (86, (.if_icmp .ge 12, 3)), (89, (.aload_n 0, 1)), (90, (.getfield 15, 3)), (93, (.iload_n 2, 1)), (94, (.iaload, 1)), (95, (.goto 4, 3)), (98, (.iconst (-1), 1)), (99, (.ireturn, 1)), (100, (.iload_n 2, 1)), (101, (.aload_n 0, 1))]
theorem ok11_told_0_15 : dcs cX7_tell tb11_told_0_15 = true := by decide +kernel
theorem dX7_tell_0 : decode cX7_tell 0 = .ok (.iload_n 1, 1) := dcs_at ok11_told_0_15 0 rfl
theorem dX7_tell_1 : decode cX7_tell 1 = .ok (.ifCond .ge 5, 3) := dcs_at ok11_told_0_15 1 rfl
theorem dX7_tell_4 : decode cX7_tell 4 = .ok (.iconst (-1), 1) := dcs_at ok11_told_0_15 2 rfl
theorem dX7_tell_5 : decode cX7_tell 5 = .ok (.ireturn, 1) := dcs_at ok11_told_0_15 3 rfl
theorem dX7_tell_6 : decode cX7_tell 6 = .ok (.iload_n 1, 1) := dcs_at ok11_told_0_15 4 rfl
theorem dX7_tell_7 : decode cX7_tell 7 = .ok (.bipush 10, 2) := dcs_at ok11_told_0_15 5 rfl
theorem dX7_tell_9 : decode cX7_tell 9 = .ok (.irem, 1) := dcs_at ok11_told_0_15 6 rfl
theorem dX7_tell_10 : decode cX7_tell 10 = .ok (.istore_n 2, 1) := dcs_at ok11_told_0_15 7 rfl
theorem dX7_tell_11 : decode cX7_tell 11 = .ok (.iload_n 1, 1) := dcs_at ok11_told_0_15 8 rfl
theorem dX7_tell_12 : decode cX7_tell 12 = .ok (.bipush 10, 2) := dcs_at ok11_told_0_15 9 rfl
theorem dX7_tell_14 : decode cX7_tell 14 = .ok (.idiv, 1) := dcs_at ok11_told_0_15 10 rfl
theorem dX7_tell_15 : decode cX7_tell 15 = .ok (.tableswitch 161 0 6 #[41, 47, 66, 85, 104, 123, 142], 41) := dcs_at ok11_told_0_15 11 rfl
theorem dX7_tell_56 : decode cX7_tell 56 = .ok (.aload_n 0, 1) := dcs_at ok11_told_0_15 12 rfl
theorem dX7_tell_57 : decode cX7_tell 57 = .ok (.iload_n 2, 1) := dcs_at ok11_told_0_15 13 rfl
theorem dX7_tell_58 : decode cX7_tell 58 = .ok (.invokevirtual 55, 3) := dcs_at ok11_told_0_15 14 rfl
theorem dX7_tell_61 : decode cX7_tell 61 = .ok (.ireturn, 1) := dcs_at ok11_told_0_15 15 rfl
theorem dX7_tell_62 : decode cX7_tell 62 = .ok (.iload_n 2, 1) := dcs_at ok11_told_0_15 16 rfl
theorem dX7_tell_63 : decode cX7_tell 63 = .ok (.aload_n 0, 1) := dcs_at ok11_told_0_15 17 rfl
theorem dX7_tell_64 : decode cX7_tell 64 = .ok (.getfield 30, 3) := dcs_at ok11_told_0_15 18 rfl
theorem dX7_tell_67 : decode cX7_tell 67 = .ok (.if_icmp .ge 12, 3) := dcs_at ok11_told_0_15 19 rfl
theorem dX7_tell_70 : decode cX7_tell 70 = .ok (.aload_n 0, 1) := dcs_at ok11_told_0_15 20 rfl
theorem dX7_tell_71 : decode cX7_tell 71 = .ok (.getfield 9, 3) := dcs_at ok11_told_0_15 21 rfl
theorem dX7_tell_74 : decode cX7_tell 74 = .ok (.iload_n 2, 1) := dcs_at ok11_told_0_15 22 rfl
theorem dX7_tell_75 : decode cX7_tell 75 = .ok (.iaload, 1) := dcs_at ok11_told_0_15 23 rfl
theorem dX7_tell_76 : decode cX7_tell 76 = .ok (.goto 4, 3) := dcs_at ok11_told_0_15 24 rfl
theorem dX7_tell_79 : decode cX7_tell 79 = .ok (.iconst (-1), 1) := dcs_at ok11_told_0_15 25 rfl
theorem dX7_tell_80 : decode cX7_tell 80 = .ok (.ireturn, 1) := dcs_at ok11_told_0_15 26 rfl
theorem dX7_tell_81 : decode cX7_tell 81 = .ok (.iload_n 2, 1) := dcs_at ok11_told_0_15 27 rfl
theorem dX7_tell_82 : decode cX7_tell 82 = .ok (.aload_n 0, 1) := dcs_at ok11_told_0_15 28 rfl
theorem dX7_tell_83 : decode cX7_tell 83 = .ok (.getfield 30, 3) := dcs_at ok11_told_0_15 29 rfl
theorem dX7_tell_86 : decode cX7_tell 86 = .ok (.if_icmp .ge 12, 3) := dcs_at ok11_told_0_15 30 rfl
theorem dX7_tell_89 : decode cX7_tell 89 = .ok (.aload_n 0, 1) := dcs_at ok11_told_0_15 31 rfl
theorem dX7_tell_90 : decode cX7_tell 90 = .ok (.getfield 15, 3) := dcs_at ok11_told_0_15 32 rfl
theorem dX7_tell_93 : decode cX7_tell 93 = .ok (.iload_n 2, 1) := dcs_at ok11_told_0_15 33 rfl
theorem dX7_tell_94 : decode cX7_tell 94 = .ok (.iaload, 1) := dcs_at ok11_told_0_15 34 rfl
theorem dX7_tell_95 : decode cX7_tell 95 = .ok (.goto 4, 3) := dcs_at ok11_told_0_15 35 rfl
theorem dX7_tell_98 : decode cX7_tell 98 = .ok (.iconst (-1), 1) := dcs_at ok11_told_0_15 36 rfl
theorem dX7_tell_99 : decode cX7_tell 99 = .ok (.ireturn, 1) := dcs_at ok11_told_0_15 37 rfl
theorem dX7_tell_100 : decode cX7_tell 100 = .ok (.iload_n 2, 1) := dcs_at ok11_told_0_15 38 rfl
theorem dX7_tell_101 : decode cX7_tell 101 = .ok (.aload_n 0, 1) := dcs_at ok11_told_0_15 39 rfl
def tb11_told_0_16 : List (Nat × (Instr × Nat)) := [(102, (.getfield 34, 3)), (105, (.if_icmp .ge 12, 3)), (108, (.aload_n 0, 1)), (109, (.getfield 18, 3)), (112, (.iload_n 2, 1)), (113, (.iaload, 1)), (114, (.goto 4, 3)), (117, (.iconst (-1), 1)), (118, (.ireturn, 1)), (119, (.iload_n 2, 1)), (120, (.aload_n 0, 1)), (121, (.getfield 34, 3)), (124, (.if_icmp .ge 12, 3)), (127, (.aload_n 0, 1)), (128, (.getfield 21, 3)), (131, (.iload_n 2, 1)), (132, (.iaload, 1)), (133, (.goto 4, 3)), (136, (.iconst (-1), 1)), (137, (.ireturn, 1)), (138, (.iload_n 2, 1)), (139, (.aload_n 0, 1)), (140, (.getfield 37, 3)), (143, (.if_icmp .ge 12, 3)), (146, (.aload_n 0, 1)), (147, (.getfield 24, 3)), (150, (.iload_n 2, 1)), (151, (.iaload, 1)), (152, (.goto 4, 3)), (155, (.iconst (-1), 1)), (156, (.ireturn, 1)), (157, (.iload_n 2, 1)), (158, (.aload_n 0, 1)), (159, (.getfield 37, 3)), (162, (.if_icmp .ge 12, 3)), (165, (.aload_n 0, 1)), (166, (.getfield 27, 3)), (169, (.iload_n 2, 1)), (170, (.iaload, 1)), (171, (.goto 4, 3))]
theorem ok11_told_0_16 : dcs cX7_tell tb11_told_0_16 = true := by decide +kernel
theorem dX7_tell_102 : decode cX7_tell 102 = .ok (.getfield 34, 3) := dcs_at ok11_told_0_16 0 rfl
theorem dX7_tell_105 : decode cX7_tell 105 = .ok (.if_icmp .ge 12, 3) := dcs_at ok11_told_0_16 1 rfl
theorem dX7_tell_108 : decode cX7_tell 108 = .ok (.aload_n 0, 1) := dcs_at ok11_told_0_16 2 rfl
theorem dX7_tell_109 : decode cX7_tell 109 = .ok (.getfield 18, 3) := dcs_at ok11_told_0_16 3 rfl
theorem dX7_tell_112 : decode cX7_tell 112 = .ok (.iload_n 2, 1) := dcs_at ok11_told_0_16 4 rfl
theorem dX7_tell_113 : decode cX7_tell 113 = .ok (.iaload, 1) := dcs_at ok11_told_0_16 5 rfl
theorem dX7_tell_114 : decode cX7_tell 114 = .ok (.goto 4, 3) := dcs_at ok11_told_0_16 6 rfl
theorem dX7_tell_117 : decode cX7_tell 117 = .ok (.iconst (-1), 1) := dcs_at ok11_told_0_16 7 rfl
theorem dX7_tell_118 : decode cX7_tell 118 = .ok (.ireturn, 1) := dcs_at ok11_told_0_16 8 rfl
theorem dX7_tell_119 : decode cX7_tell 119 = .ok (.iload_n 2, 1) := dcs_at ok11_told_0_16 9 rfl
theorem dX7_tell_120 : decode cX7_tell 120 = .ok (.aload_n 0, 1) := dcs_at ok11_told_0_16 10 rfl
theorem dX7_tell_121 : decode cX7_tell 121 = .ok (.getfield 34, 3) := dcs_at ok11_told_0_16 11 rfl
theorem dX7_tell_124 : decode cX7_tell 124 = .ok (.if_icmp .ge 12, 3) := dcs_at ok11_told_0_16 12 rfl
theorem dX7_tell_127 : decode cX7_tell 127 = .ok (.aload_n 0, 1) := dcs_at ok11_told_0_16 13 rfl
theorem dX7_tell_128 : decode cX7_tell 128 = .ok (.getfield 21, 3) := dcs_at ok11_told_0_16 14 rfl
theorem dX7_tell_131 : decode cX7_tell 131 = .ok (.iload_n 2, 1) := dcs_at ok11_told_0_16 15 rfl
theorem dX7_tell_132 : decode cX7_tell 132 = .ok (.iaload, 1) := dcs_at ok11_told_0_16 16 rfl
theorem dX7_tell_133 : decode cX7_tell 133 = .ok (.goto 4, 3) := dcs_at ok11_told_0_16 17 rfl
theorem dX7_tell_136 : decode cX7_tell 136 = .ok (.iconst (-1), 1) := dcs_at ok11_told_0_16 18 rfl
theorem dX7_tell_137 : decode cX7_tell 137 = .ok (.ireturn, 1) := dcs_at ok11_told_0_16 19 rfl
theorem dX7_tell_138 : decode cX7_tell 138 = .ok (.iload_n 2, 1) := dcs_at ok11_told_0_16 20 rfl
theorem dX7_tell_139 : decode cX7_tell 139 = .ok (.aload_n 0, 1) := dcs_at ok11_told_0_16 21 rfl
theorem dX7_tell_140 : decode cX7_tell 140 = .ok (.getfield 37, 3) := dcs_at ok11_told_0_16 22 rfl
theorem dX7_tell_143 : decode cX7_tell 143 = .ok (.if_icmp .ge 12, 3) := dcs_at ok11_told_0_16 23 rfl
theorem dX7_tell_146 : decode cX7_tell 146 = .ok (.aload_n 0, 1) := dcs_at ok11_told_0_16 24 rfl
theorem dX7_tell_147 : decode cX7_tell 147 = .ok (.getfield 24, 3) := dcs_at ok11_told_0_16 25 rfl
theorem dX7_tell_150 : decode cX7_tell 150 = .ok (.iload_n 2, 1) := dcs_at ok11_told_0_16 26 rfl
theorem dX7_tell_151 : decode cX7_tell 151 = .ok (.iaload, 1) := dcs_at ok11_told_0_16 27 rfl
theorem dX7_tell_152 : decode cX7_tell 152 = .ok (.goto 4, 3) := dcs_at ok11_told_0_16 28 rfl
theorem dX7_tell_155 : decode cX7_tell 155 = .ok (.iconst (-1), 1) := dcs_at ok11_told_0_16 29 rfl
theorem dX7_tell_156 : decode cX7_tell 156 = .ok (.ireturn, 1) := dcs_at ok11_told_0_16 30 rfl
theorem dX7_tell_157 : decode cX7_tell 157 = .ok (.iload_n 2, 1) := dcs_at ok11_told_0_16 31 rfl
theorem dX7_tell_158 : decode cX7_tell 158 = .ok (.aload_n 0, 1) := dcs_at ok11_told_0_16 32 rfl
theorem dX7_tell_159 : decode cX7_tell 159 = .ok (.getfield 37, 3) := dcs_at ok11_told_0_16 33 rfl
theorem dX7_tell_162 : decode cX7_tell 162 = .ok (.if_icmp .ge 12, 3) := dcs_at ok11_told_0_16 34 rfl
theorem dX7_tell_165 : decode cX7_tell 165 = .ok (.aload_n 0, 1) := dcs_at ok11_told_0_16 35 rfl
theorem dX7_tell_166 : decode cX7_tell 166 = .ok (.getfield 27, 3) := dcs_at ok11_told_0_16 36 rfl
theorem dX7_tell_169 : decode cX7_tell 169 = .ok (.iload_n 2, 1) := dcs_at ok11_told_0_16 37 rfl
theorem dX7_tell_170 : decode cX7_tell 170 = .ok (.iaload, 1) := dcs_at ok11_told_0_16 38 rfl
theorem dX7_tell_171 : decode cX7_tell 171 = .ok (.goto 4, 3) := dcs_at ok11_told_0_16 39 rfl
def tb11_told_0_17 : List (Nat × (Instr × Nat)) := [(174, (.iconst (-1), 1)), (175, (.ireturn, 1)), (176, (.iconst (-1), 1)), (177, (.ireturn, 1))]
theorem ok11_told_0_17 : dcs cX7_tell tb11_told_0_17 = true := by decide +kernel
theorem dX7_tell_174 : decode cX7_tell 174 = .ok (.iconst (-1), 1) := dcs_at ok11_told_0_17 0 rfl
theorem dX7_tell_175 : decode cX7_tell 175 = .ok (.ireturn, 1) := dcs_at ok11_told_0_17 1 rfl
theorem dX7_tell_176 : decode cX7_tell 176 = .ok (.iconst (-1), 1) := dcs_at ok11_told_0_17 2 rfl
theorem dX7_tell_177 : decode cX7_tell 177 = .ok (.ireturn, 1) := dcs_at ok11_told_0_17 3 rfl
def tb11_told_0_18 : List (Nat × (Instr × Nat)) := [(0, (.iload_n 1, 1)), (1, (.tableswitch 69 0 5 #[39, 44, 49, 54, 59, 64], 39)), (40, (.aload_n 0, 1)), (41, (.getfield 30, 3)), (44, (.ireturn, 1)), (45, (.aload_n 0, 1)), (46, (.getfield 34, 3)), (49, (.ireturn, 1)), (50, (.aload_n 0, 1)), (51, (.getfield 40, 3)), (54, (.ireturn, 1)), (55, (.aload_n 0, 1)), (56, (.getfield 43, 3)), (59, (.ireturn, 1)), (60, (.aload_n 0, 1)), (61, (.getfield 37, 3)), (64, (.ireturn, 1)), (65, (.aload_n 0, 1)), (66, (.getfield 46, 3)), (69, (.ireturn, 1)), (70, (.iconst (-1), 1)), (71, (.ireturn, 1))]
theorem ok11_told_0_18 : dcs cX7_tellWhole tb11_told_0_18 = true := by decide +kernel
theorem dX7_tellWhole_0 : decode cX7_tellWhole 0 = .ok (.iload_n 1, 1) := dcs_at ok11_told_0_18 0 rfl
theorem dX7_tellWhole_1 : decode cX7_tellWhole 1 = .ok (.tableswitch 69 0 5 #[39, 44, 49, 54, 59, 64], 39) := dcs_at ok11_told_0_18 1 rfl
theorem dX7_tellWhole_40 : decode cX7_tellWhole 40 = .ok (.aload_n 0, 1) := dcs_at ok11_told_0_18 2 rfl
theorem dX7_tellWhole_41 : decode cX7_tellWhole 41 = .ok (.getfield 30, 3) := dcs_at ok11_told_0_18 3 rfl
theorem dX7_tellWhole_44 : decode cX7_tellWhole 44 = .ok (.ireturn, 1) := dcs_at ok11_told_0_18 4 rfl
theorem dX7_tellWhole_45 : decode cX7_tellWhole 45 = .ok (.aload_n 0, 1) := dcs_at ok11_told_0_18 5 rfl
theorem dX7_tellWhole_46 : decode cX7_tellWhole 46 = .ok (.getfield 34, 3) := dcs_at ok11_told_0_18 6 rfl
theorem dX7_tellWhole_49 : decode cX7_tellWhole 49 = .ok (.ireturn, 1) := dcs_at ok11_told_0_18 7 rfl
theorem dX7_tellWhole_50 : decode cX7_tellWhole 50 = .ok (.aload_n 0, 1) := dcs_at ok11_told_0_18 8 rfl
theorem dX7_tellWhole_51 : decode cX7_tellWhole 51 = .ok (.getfield 40, 3) := dcs_at ok11_told_0_18 9 rfl
theorem dX7_tellWhole_54 : decode cX7_tellWhole 54 = .ok (.ireturn, 1) := dcs_at ok11_told_0_18 10 rfl
theorem dX7_tellWhole_55 : decode cX7_tellWhole 55 = .ok (.aload_n 0, 1) := dcs_at ok11_told_0_18 11 rfl
theorem dX7_tellWhole_56 : decode cX7_tellWhole 56 = .ok (.getfield 43, 3) := dcs_at ok11_told_0_18 12 rfl
theorem dX7_tellWhole_59 : decode cX7_tellWhole 59 = .ok (.ireturn, 1) := dcs_at ok11_told_0_18 13 rfl
theorem dX7_tellWhole_60 : decode cX7_tellWhole 60 = .ok (.aload_n 0, 1) := dcs_at ok11_told_0_18 14 rfl
theorem dX7_tellWhole_61 : decode cX7_tellWhole 61 = .ok (.getfield 37, 3) := dcs_at ok11_told_0_18 15 rfl
theorem dX7_tellWhole_64 : decode cX7_tellWhole 64 = .ok (.ireturn, 1) := dcs_at ok11_told_0_18 16 rfl
theorem dX7_tellWhole_65 : decode cX7_tellWhole 65 = .ok (.aload_n 0, 1) := dcs_at ok11_told_0_18 17 rfl
theorem dX7_tellWhole_66 : decode cX7_tellWhole 66 = .ok (.getfield 46, 3) := dcs_at ok11_told_0_18 18 rfl
theorem dX7_tellWhole_69 : decode cX7_tellWhole 69 = .ok (.ireturn, 1) := dcs_at ok11_told_0_18 19 rfl
theorem dX7_tellWhole_70 : decode cX7_tellWhole 70 = .ok (.iconst (-1), 1) := dcs_at ok11_told_0_18 20 rfl
theorem dX7_tellWhole_71 : decode cX7_tellWhole 71 = .ok (.ireturn, 1) := dcs_at ok11_told_0_18 21 rfl
def tb11_told_0_19 : List (Nat × (Instr × Nat)) := [(0, (.bipush 24, 2)), (2, (.istore_n 2, 1)), (3, (.iload_n 2, 1)), (4, (.ifCond .lt 42, 3)), (7, (.aload_n 0, 1)), (8, (.getfield 49, 3)), (11, (.sipush 600, 3)), (14, (.if_icmp .ge 32, 3)), (17, (.aload_n 0, 1)), (18, (.getfield 9, 3)), (21, (.aload_n 0, 1)), (22, (.getfield 49, 3)), (25, (.iload_n 1, 1)), (26, (.iload_n 2, 1)), (27, (.iushr, 1)), (28, (.i2b, 1)), (29, (.bastore, 1)), (30, (.aload_n 0, 1)), (31, (.dup, 1)), (32, (.getfield 49, 3)), (35, (.iconst 1, 1)), (36, (.iadd, 1)), (37, (.putfield 49, 3)), (40, (.iinc 2 (-8), 3)), (43, (.goto (-40), 3)), (46, (.return_, 1))]
theorem ok11_told_0_19 : dcs cX8_append tb11_told_0_19 = true := by decide +kernel
theorem dX8_append_0 : decode cX8_append 0 = .ok (.bipush 24, 2) := dcs_at ok11_told_0_19 0 rfl
theorem dX8_append_2 : decode cX8_append 2 = .ok (.istore_n 2, 1) := dcs_at ok11_told_0_19 1 rfl
theorem dX8_append_3 : decode cX8_append 3 = .ok (.iload_n 2, 1) := dcs_at ok11_told_0_19 2 rfl
theorem dX8_append_4 : decode cX8_append 4 = .ok (.ifCond .lt 42, 3) := dcs_at ok11_told_0_19 3 rfl
theorem dX8_append_7 : decode cX8_append 7 = .ok (.aload_n 0, 1) := dcs_at ok11_told_0_19 4 rfl
theorem dX8_append_8 : decode cX8_append 8 = .ok (.getfield 49, 3) := dcs_at ok11_told_0_19 5 rfl
theorem dX8_append_11 : decode cX8_append 11 = .ok (.sipush 600, 3) := dcs_at ok11_told_0_19 6 rfl
theorem dX8_append_14 : decode cX8_append 14 = .ok (.if_icmp .ge 32, 3) := dcs_at ok11_told_0_19 7 rfl
theorem dX8_append_17 : decode cX8_append 17 = .ok (.aload_n 0, 1) := dcs_at ok11_told_0_19 8 rfl
theorem dX8_append_18 : decode cX8_append 18 = .ok (.getfield 9, 3) := dcs_at ok11_told_0_19 9 rfl
theorem dX8_append_21 : decode cX8_append 21 = .ok (.aload_n 0, 1) := dcs_at ok11_told_0_19 10 rfl
theorem dX8_append_22 : decode cX8_append 22 = .ok (.getfield 49, 3) := dcs_at ok11_told_0_19 11 rfl
theorem dX8_append_25 : decode cX8_append 25 = .ok (.iload_n 1, 1) := dcs_at ok11_told_0_19 12 rfl
theorem dX8_append_26 : decode cX8_append 26 = .ok (.iload_n 2, 1) := dcs_at ok11_told_0_19 13 rfl
theorem dX8_append_27 : decode cX8_append 27 = .ok (.iushr, 1) := dcs_at ok11_told_0_19 14 rfl
theorem dX8_append_28 : decode cX8_append 28 = .ok (.i2b, 1) := dcs_at ok11_told_0_19 15 rfl
theorem dX8_append_29 : decode cX8_append 29 = .ok (.bastore, 1) := dcs_at ok11_told_0_19 16 rfl
theorem dX8_append_30 : decode cX8_append 30 = .ok (.aload_n 0, 1) := dcs_at ok11_told_0_19 17 rfl
theorem dX8_append_31 : decode cX8_append 31 = .ok (.dup, 1) := dcs_at ok11_told_0_19 18 rfl
theorem dX8_append_32 : decode cX8_append 32 = .ok (.getfield 49, 3) := dcs_at ok11_told_0_19 19 rfl
theorem dX8_append_35 : decode cX8_append 35 = .ok (.iconst 1, 1) := dcs_at ok11_told_0_19 20 rfl
theorem dX8_append_36 : decode cX8_append 36 = .ok (.iadd, 1) := dcs_at ok11_told_0_19 21 rfl
theorem dX8_append_37 : decode cX8_append 37 = .ok (.putfield 49, 3) := dcs_at ok11_told_0_19 22 rfl
theorem dX8_append_40 : decode cX8_append 40 = .ok (.iinc 2 (-8), 3) := dcs_at ok11_told_0_19 23 rfl
theorem dX8_append_43 : decode cX8_append 43 = .ok (.goto (-40), 3) := dcs_at ok11_told_0_19 24 rfl
theorem dX8_append_46 : decode cX8_append 46 = .ok (.return_, 1) := dcs_at ok11_told_0_19 25 rfl
def tb11_told_0_20 : List (Nat × (Instr × Nat)) := [(0, (.iload_n 1, 1)), (1, (.tableswitch 42 0 2 #[27, 32, 37], 27)), (28, (.aload_n 0, 1)), (29, (.getfield 52, 3)), (32, (.ireturn, 1)), (33, (.aload_n 0, 1)), (34, (.getfield 55, 3)), (37, (.ireturn, 1)), (38, (.aload_n 0, 1)), (39, (.getfield 58, 3)), (42, (.ireturn, 1)), (43, (.bipush (-2), 2)), (45, (.ireturn, 1))]
theorem ok11_told_0_20 : dcs cX8_howMany tb11_told_0_20 = true := by decide +kernel
theorem dX8_howMany_0 : decode cX8_howMany 0 = .ok (.iload_n 1, 1) := dcs_at ok11_told_0_20 0 rfl
theorem dX8_howMany_1 : decode cX8_howMany 1 = .ok (.tableswitch 42 0 2 #[27, 32, 37], 27) := dcs_at ok11_told_0_20 1 rfl
theorem dX8_howMany_28 : decode cX8_howMany 28 = .ok (.aload_n 0, 1) := dcs_at ok11_told_0_20 2 rfl
theorem dX8_howMany_29 : decode cX8_howMany 29 = .ok (.getfield 52, 3) := dcs_at ok11_told_0_20 3 rfl
theorem dX8_howMany_32 : decode cX8_howMany 32 = .ok (.ireturn, 1) := dcs_at ok11_told_0_20 4 rfl
theorem dX8_howMany_33 : decode cX8_howMany 33 = .ok (.aload_n 0, 1) := dcs_at ok11_told_0_20 5 rfl
theorem dX8_howMany_34 : decode cX8_howMany 34 = .ok (.getfield 55, 3) := dcs_at ok11_told_0_20 6 rfl
theorem dX8_howMany_37 : decode cX8_howMany 37 = .ok (.ireturn, 1) := dcs_at ok11_told_0_20 7 rfl
theorem dX8_howMany_38 : decode cX8_howMany 38 = .ok (.aload_n 0, 1) := dcs_at ok11_told_0_20 8 rfl
theorem dX8_howMany_39 : decode cX8_howMany 39 = .ok (.getfield 58, 3) := dcs_at ok11_told_0_20 9 rfl
theorem dX8_howMany_42 : decode cX8_howMany 42 = .ok (.ireturn, 1) := dcs_at ok11_told_0_20 10 rfl
theorem dX8_howMany_43 : decode cX8_howMany 43 = .ok (.bipush (-2), 2) := dcs_at ok11_told_0_20 11 rfl
theorem dX8_howMany_45 : decode cX8_howMany 45 = .ok (.ireturn, 1) := dcs_at ok11_told_0_20 12 rfl
def tb11_told_0_21 : List (Nat × (Instr × Nat)) := [(0, (.iload_n 1, 1)), (1, (.ifCond .lt 11, 3)), (4, (.iload_n 1, 1)), (5, (.aload_n 0, 1)), (6, (.getfield 52, 3)), (9, (.if_icmp .lt 5, 3)), (12, (.aconst_null, 1)), (13, (.areturn, 1)), (14, (.iload_n 1, 1)), (15, (.ifCond .ne 10, 3)), (18, (.aload_n 0, 1)), (19, (.getfield 22, 3)), (22, (.goto 7, 3)), (25, (.aload_n 0, 1)), (26, (.getfield 26, 3)), (29, (.areturn, 1))]
theorem ok11_told_0_21 : dcs cX8_theatreAt tb11_told_0_21 = true := by decide +kernel
theorem dX8_theatreAt_0 : decode cX8_theatreAt 0 = .ok (.iload_n 1, 1) := dcs_at ok11_told_0_21 0 rfl
theorem dX8_theatreAt_1 : decode cX8_theatreAt 1 = .ok (.ifCond .lt 11, 3) := dcs_at ok11_told_0_21 1 rfl
theorem dX8_theatreAt_4 : decode cX8_theatreAt 4 = .ok (.iload_n 1, 1) := dcs_at ok11_told_0_21 2 rfl
theorem dX8_theatreAt_5 : decode cX8_theatreAt 5 = .ok (.aload_n 0, 1) := dcs_at ok11_told_0_21 3 rfl
theorem dX8_theatreAt_6 : decode cX8_theatreAt 6 = .ok (.getfield 52, 3) := dcs_at ok11_told_0_21 4 rfl
theorem dX8_theatreAt_9 : decode cX8_theatreAt 9 = .ok (.if_icmp .lt 5, 3) := dcs_at ok11_told_0_21 5 rfl
theorem dX8_theatreAt_12 : decode cX8_theatreAt 12 = .ok (.aconst_null, 1) := dcs_at ok11_told_0_21 6 rfl
theorem dX8_theatreAt_13 : decode cX8_theatreAt 13 = .ok (.areturn, 1) := dcs_at ok11_told_0_21 7 rfl
theorem dX8_theatreAt_14 : decode cX8_theatreAt 14 = .ok (.iload_n 1, 1) := dcs_at ok11_told_0_21 8 rfl
theorem dX8_theatreAt_15 : decode cX8_theatreAt 15 = .ok (.ifCond .ne 10, 3) := dcs_at ok11_told_0_21 9 rfl
theorem dX8_theatreAt_18 : decode cX8_theatreAt 18 = .ok (.aload_n 0, 1) := dcs_at ok11_told_0_21 10 rfl
theorem dX8_theatreAt_19 : decode cX8_theatreAt 19 = .ok (.getfield 22, 3) := dcs_at ok11_told_0_21 11 rfl
theorem dX8_theatreAt_22 : decode cX8_theatreAt 22 = .ok (.goto 7, 3) := dcs_at ok11_told_0_21 12 rfl
theorem dX8_theatreAt_25 : decode cX8_theatreAt 25 = .ok (.aload_n 0, 1) := dcs_at ok11_told_0_21 13 rfl
theorem dX8_theatreAt_26 : decode cX8_theatreAt 26 = .ok (.getfield 26, 3) := dcs_at ok11_told_0_21 14 rfl
theorem dX8_theatreAt_29 : decode cX8_theatreAt 29 = .ok (.areturn, 1) := dcs_at ok11_told_0_21 15 rfl
def tb11_told_0_22 : List (Nat × (Instr × Nat)) := [(0, (.iload_n 1, 1)), (1, (.ifCond .lt 11, 3)), (4, (.iload_n 1, 1)), (5, (.aload_n 0, 1)), (6, (.getfield 55, 3)), (9, (.if_icmp .lt 5, 3)), (12, (.aconst_null, 1)), (13, (.areturn, 1)), (14, (.iload_n 1, 1)), (15, (.ifCond .ne 10, 3)), (18, (.aload_n 0, 1)), (19, (.getfield 32, 3)), (22, (.goto 7, 3)), (25, (.aload_n 0, 1)), (26, (.getfield 36, 3)), (29, (.areturn, 1))]
theorem ok11_told_0_22 : dcs cX8_bookAt tb11_told_0_22 = true := by decide +kernel
theorem dX8_bookAt_0 : decode cX8_bookAt 0 = .ok (.iload_n 1, 1) := dcs_at ok11_told_0_22 0 rfl
theorem dX8_bookAt_1 : decode cX8_bookAt 1 = .ok (.ifCond .lt 11, 3) := dcs_at ok11_told_0_22 1 rfl
theorem dX8_bookAt_4 : decode cX8_bookAt 4 = .ok (.iload_n 1, 1) := dcs_at ok11_told_0_22 2 rfl
theorem dX8_bookAt_5 : decode cX8_bookAt 5 = .ok (.aload_n 0, 1) := dcs_at ok11_told_0_22 3 rfl
theorem dX8_bookAt_6 : decode cX8_bookAt 6 = .ok (.getfield 55, 3) := dcs_at ok11_told_0_22 4 rfl
theorem dX8_bookAt_9 : decode cX8_bookAt 9 = .ok (.if_icmp .lt 5, 3) := dcs_at ok11_told_0_22 5 rfl
theorem dX8_bookAt_12 : decode cX8_bookAt 12 = .ok (.aconst_null, 1) := dcs_at ok11_told_0_22 6 rfl
theorem dX8_bookAt_13 : decode cX8_bookAt 13 = .ok (.areturn, 1) := dcs_at ok11_told_0_22 7 rfl
theorem dX8_bookAt_14 : decode cX8_bookAt 14 = .ok (.iload_n 1, 1) := dcs_at ok11_told_0_22 8 rfl
theorem dX8_bookAt_15 : decode cX8_bookAt 15 = .ok (.ifCond .ne 10, 3) := dcs_at ok11_told_0_22 9 rfl
theorem dX8_bookAt_18 : decode cX8_bookAt 18 = .ok (.aload_n 0, 1) := dcs_at ok11_told_0_22 10 rfl
theorem dX8_bookAt_19 : decode cX8_bookAt 19 = .ok (.getfield 32, 3) := dcs_at ok11_told_0_22 11 rfl
theorem dX8_bookAt_22 : decode cX8_bookAt 22 = .ok (.goto 7, 3) := dcs_at ok11_told_0_22 12 rfl
theorem dX8_bookAt_25 : decode cX8_bookAt 25 = .ok (.aload_n 0, 1) := dcs_at ok11_told_0_22 13 rfl
theorem dX8_bookAt_26 : decode cX8_bookAt 26 = .ok (.getfield 36, 3) := dcs_at ok11_told_0_22 14 rfl
theorem dX8_bookAt_29 : decode cX8_bookAt 29 = .ok (.areturn, 1) := dcs_at ok11_told_0_22 15 rfl
def tb11_told_0_23 : List (Nat × (Instr × Nat)) := [(0, (.iload_n 1, 1)), (1, (.ifCond .lt 11, 3)), (4, (.iload_n 1, 1)), (5, (.aload_n 0, 1)), (6, (.getfield 58, 3)), (9, (.if_icmp .lt 5, 3)), (12, (.aconst_null, 1)), (13, (.areturn, 1)), (14, (.iload_n 1, 1)), (15, (.ifCond .ne 10, 3)), (18, (.aload_n 0, 1)), (19, (.getfield 42, 3)), (22, (.goto 7, 3)), (25, (.aload_n 0, 1)), (26, (.getfield 46, 3)), (29, (.areturn, 1))]
theorem ok11_told_0_23 : dcs cX8_darkAt tb11_told_0_23 = true := by decide +kernel
theorem dX8_darkAt_0 : decode cX8_darkAt 0 = .ok (.iload_n 1, 1) := dcs_at ok11_told_0_23 0 rfl
theorem dX8_darkAt_1 : decode cX8_darkAt 1 = .ok (.ifCond .lt 11, 3) := dcs_at ok11_told_0_23 1 rfl
theorem dX8_darkAt_4 : decode cX8_darkAt 4 = .ok (.iload_n 1, 1) := dcs_at ok11_told_0_23 2 rfl
theorem dX8_darkAt_5 : decode cX8_darkAt 5 = .ok (.aload_n 0, 1) := dcs_at ok11_told_0_23 3 rfl
theorem dX8_darkAt_6 : decode cX8_darkAt 6 = .ok (.getfield 58, 3) := dcs_at ok11_told_0_23 4 rfl
theorem dX8_darkAt_9 : decode cX8_darkAt 9 = .ok (.if_icmp .lt 5, 3) := dcs_at ok11_told_0_23 5 rfl
theorem dX8_darkAt_12 : decode cX8_darkAt 12 = .ok (.aconst_null, 1) := dcs_at ok11_told_0_23 6 rfl
theorem dX8_darkAt_13 : decode cX8_darkAt 13 = .ok (.areturn, 1) := dcs_at ok11_told_0_23 7 rfl
theorem dX8_darkAt_14 : decode cX8_darkAt 14 = .ok (.iload_n 1, 1) := dcs_at ok11_told_0_23 8 rfl
theorem dX8_darkAt_15 : decode cX8_darkAt 15 = .ok (.ifCond .ne 10, 3) := dcs_at ok11_told_0_23 9 rfl
theorem dX8_darkAt_18 : decode cX8_darkAt 18 = .ok (.aload_n 0, 1) := dcs_at ok11_told_0_23 10 rfl
theorem dX8_darkAt_19 : decode cX8_darkAt 19 = .ok (.getfield 42, 3) := dcs_at ok11_told_0_23 11 rfl
theorem dX8_darkAt_22 : decode cX8_darkAt 22 = .ok (.goto 7, 3) := dcs_at ok11_told_0_23 12 rfl
theorem dX8_darkAt_25 : decode cX8_darkAt 25 = .ok (.aload_n 0, 1) := dcs_at ok11_told_0_23 13 rfl
theorem dX8_darkAt_26 : decode cX8_darkAt 26 = .ok (.getfield 46, 3) := dcs_at ok11_told_0_23 14 rfl
theorem dX8_darkAt_29 : decode cX8_darkAt 29 = .ok (.areturn, 1) := dcs_at ok11_told_0_23 15 rfl
