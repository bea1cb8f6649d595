theorem nmX10 : ∀ a, a < 50 → ∀ b, b < 50 → a ≠ b → (TX10 a).2.1 ≠ (TX10 b).2.1 := nm_of [1668244581, 1952542821, 1936292453, 439721749620, 483479176693542325150565, 1835101817, 8388065775217436019, 422776367987, 431131618163, 32199616299033956, 119182899770472, 108187666181747, 1936683636, 508440638821, 2003792484, 33621345147765108, 511813301560599165365364, 511813301560642298274661, 1953459300, 1919246692, 32765881934443109, 482670833011, 107079783117427, 1918989413, 1651470187, 426953241460, 28550345998361971, 121398985520243, 465625834867, 114853656683876, 427020087411, 28538272842411890, 1818584692, 1870095731, 6778740, 495556388196, 126943923170675, 32497584202736996, 109270149391716, 8392298787291161715, 31365103699979876, 1634954099, 131277528519791, 1684107883, 30796695599342963, 418363302244, 108187682958948, 1970170228, 1936024932, 1801810036] (by decide +kernel) (by decide +kernel)
theorem tyX10_ok : ∀ k, k < 50 → parseFieldDescriptor (TX10 k).2.2.1 = some (tyX10 k) := by decide +kernel
def tb21_a_model_0_1 : List (Nat × (Instr × Nat)) := [(0, (.iload_n 0, 1)), (1, (.iload_n 1, 1)), (2, (.if_icmp .lt 12, 3)), (5, (.iload_n 0, 1)), (6, (.iload_n 2, 1)), (7, (.if_icmp .gt 7, 3)), (10, (.iconst 1, 1)), (11, (.goto 4, 3)), (14, (.iconst 0, 1)), (15, (.ireturn, 1))]
theorem ok21_a_model_0_1 : dcs cX10_in tb21_a_model_0_1 = true := by decide +kernel
theorem dX10_in_0 : decode cX10_in 0 = .ok (.iload_n 0, 1) := dcs_at ok21_a_model_0_1 0 rfl
theorem dX10_in_1 : decode cX10_in 1 = .ok (.iload_n 1, 1) := dcs_at ok21_a_model_0_1 1 rfl
theorem dX10_in_2 : decode cX10_in 2 = .ok (.if_icmp .lt 12, 3) := dcs_at ok21_a_model_0_1 2 rfl
theorem dX10_in_5 : decode cX10_in 5 = .ok (.iload_n 0, 1) := dcs_at ok21_a_model_0_1 3 rfl
theorem dX10_in_6 : decode cX10_in 6 = .ok (.iload_n 2, 1) := dcs_at ok21_a_model_0_1 4 rfl
theorem dX10_in_7 : decode cX10_in 7 = .ok (.if_icmp .gt 7, 3) := dcs_at ok21_a_model_0_1 5 rfl
theorem dX10_in_10 : decode cX10_in 10 = .ok (.iconst 1, 1) := dcs_at ok21_a_model_0_1 6 rfl
theorem dX10_in_11 : decode cX10_in 11 = .ok (.goto 4, 3) := dcs_at ok21_a_model_0_1 7 rfl
theorem dX10_in_14 : decode cX10_in 14 = .ok (.iconst 0, 1) := dcs_at ok21_a_model_0_1 8 rfl
theorem dX10_in_15 : decode cX10_in 15 = .ok (.ireturn, 1) := dcs_at ok21_a_model_0_1 9 rfl
def tb21_a_model_0_2 : List (Nat × (Instr × Nat)) := [(0, (.iload_n 0, 1)), (1, (.iload_n 1, 1)), (2, (.ishr, 1)), (3, (.iconst 1, 1)), (4, (.iand, 1)), (5, (.iconst 1, 1)), (6, (.if_icmp .ne 7, 3)), (9, (.iconst 1, 1)), (10, (.goto 4, 3)), (13, (.iconst 0, 1)), (14, (.ireturn, 1))]
theorem ok21_a_model_0_2 : dcs cX10_has tb21_a_model_0_2 = true := by decide +kernel
theorem dX10_has_0 : decode cX10_has 0 = .ok (.iload_n 0, 1) := dcs_at ok21_a_model_0_2 0 rfl
theorem dX10_has_1 : decode cX10_has 1 = .ok (.iload_n 1, 1) := dcs_at ok21_a_model_0_2 1 rfl
theorem dX10_has_2 : decode cX10_has 2 = .ok (.ishr, 1) := dcs_at ok21_a_model_0_2 2 rfl
theorem dX10_has_3 : decode cX10_has 3 = .ok (.iconst 1, 1) := dcs_at ok21_a_model_0_2 3 rfl
theorem dX10_has_4 : decode cX10_has 4 = .ok (.iand, 1) := dcs_at ok21_a_model_0_2 4 rfl
theorem dX10_has_5 : decode cX10_has 5 = .ok (.iconst 1, 1) := dcs_at ok21_a_model_0_2 5 rfl
theorem dX10_has_6 : decode cX10_has 6 = .ok (.if_icmp .ne 7, 3) := dcs_at ok21_a_model_0_2 6 rfl
theorem dX10_has_9 : decode cX10_has 9 = .ok (.iconst 1, 1) := dcs_at ok21_a_model_0_2 7 rfl
theorem dX10_has_10 : decode cX10_has 10 = .ok (.goto 4, 3) := dcs_at ok21_a_model_0_2 8 rfl
theorem dX10_has_13 : decode cX10_has 13 = .ok (.iconst 0, 1) := dcs_at ok21_a_model_0_2 9 rfl
theorem dX10_has_14 : decode cX10_has 14 = .ok (.ireturn, 1) := dcs_at ok21_a_model_0_2 10 rfl
def tb21_a_model_0_3 : List (Nat × (Instr × Nat)) := [(0, (.iconst 0, 1)), (1, (.istore_n 1, 1)), (2, (.iconst 0, 1)), (3, (.istore_n 2, 1)), (4, (.iload_n 2, 1)), (5, (.bipush 6, 2)), (7, (.if_icmp .ge 25, 3)), (10, (.iload_n 1, 1)), (11, (.iload_n 0, 1)), (12, (.iload_n 2, 1)), (13, (.invokestatic 84, 3)), (16, (.ifCond .eq 7, 3)), (19, (.iconst 1, 1)), (20, (.goto 4, 3)), (23, (.iconst 0, 1)), (24, (.iadd, 1)), (25, (.istore_n 1, 1)), (26, (.iinc 2 1, 3)), (29, (.goto (-25), 3)), (32, (.iload_n 1, 1)), (33, (.ireturn, 1))]
theorem ok21_a_model_0_3 : dcs cX10_ones tb21_a_model_0_3 = true := by decide +kernel
theorem dX10_ones_0 : decode cX10_ones 0 = .ok (.iconst 0, 1) := dcs_at ok21_a_model_0_3 0 rfl
theorem dX10_ones_1 : decode cX10_ones 1 = .ok (.istore_n 1, 1) := dcs_at ok21_a_model_0_3 1 rfl
theorem dX10_ones_2 : decode cX10_ones 2 = .ok (.iconst 0, 1) := dcs_at ok21_a_model_0_3 2 rfl
theorem dX10_ones_3 : decode cX10_ones 3 = .ok (.istore_n 2, 1) := dcs_at ok21_a_model_0_3 3 rfl
theorem dX10_ones_4 : decode cX10_ones 4 = .ok (.iload_n 2, 1) := dcs_at ok21_a_model_0_3 4 rfl
theorem dX10_ones_5 : decode cX10_ones 5 = .ok (.bipush 6, 2) := dcs_at ok21_a_model_0_3 5 rfl
theorem dX10_ones_7 : decode cX10_ones 7 = .ok (.if_icmp .ge 25, 3) := dcs_at ok21_a_model_0_3 6 rfl
theorem dX10_ones_10 : decode cX10_ones 10 = .ok (.iload_n 1, 1) := dcs_at ok21_a_model_0_3 7 rfl
theorem dX10_ones_11 : decode cX10_ones 11 = .ok (.iload_n 0, 1) := dcs_at ok21_a_model_0_3 8 rfl
theorem dX10_ones_12 : decode cX10_ones 12 = .ok (.iload_n 2, 1) := dcs_at ok21_a_model_0_3 9 rfl
theorem dX10_ones_13 : decode cX10_ones 13 = .ok (.invokestatic 84, 3) := dcs_at ok21_a_model_0_3 10 rfl
theorem dX10_ones_16 : decode cX10_ones 16 = .ok (.ifCond .eq 7, 3) := dcs_at ok21_a_model_0_3 11 rfl
theorem dX10_ones_19 : decode cX10_ones 19 = .ok (.iconst 1, 1) := dcs_at ok21_a_model_0_3 12 rfl
theorem dX10_ones_20 : decode cX10_ones 20 = .ok (.goto 4, 3) := dcs_at ok21_a_model_0_3 13 rfl
theorem dX10_ones_23 : decode cX10_ones 23 = .ok (.iconst 0, 1) := dcs_at ok21_a_model_0_3 14 rfl
theorem dX10_ones_24 : decode cX10_ones 24 = .ok (.iadd, 1) := dcs_at ok21_a_model_0_3 15 rfl
theorem dX10_ones_25 : decode cX10_ones 25 = .ok (.istore_n 1, 1) := dcs_at ok21_a_model_0_3 16 rfl
theorem dX10_ones_26 : decode cX10_ones 26 = .ok (.iinc 2 1, 3) := dcs_at ok21_a_model_0_3 17 rfl
theorem dX10_ones_29 : decode cX10_ones 29 = .ok (.goto (-25), 3) := dcs_at ok21_a_model_0_3 18 rfl
theorem dX10_ones_32 : decode cX10_ones 32 = .ok (.iload_n 1, 1) := dcs_at ok21_a_model_0_3 19 rfl
theorem dX10_ones_33 : decode cX10_ones 33 = .ok (.ireturn, 1) := dcs_at ok21_a_model_0_3 20 rfl
def tb21_a_model_0_4 : List (Nat × (Instr × Nat)) := [(0, (.iload_n 0, 1)), (1, (.iload_n 1, 1)), (2, (.if_icmp .le 7, 3)), (5, (.iload_n 0, 1)), (6, (.goto 4, 3)), (9, (.iload_n 1, 1)), (10, (.ireturn, 1))]
theorem ok21_a_model_0_4 : dcs cX10_greater tb21_a_model_0_4 = true := by decide +kernel
theorem dX10_greater_0 : decode cX10_greater 0 = .ok (.iload_n 0, 1) := dcs_at ok21_a_model_0_4 0 rfl
theorem dX10_greater_1 : decode cX10_greater 1 = .ok (.iload_n 1, 1) := dcs_at ok21_a_model_0_4 1 rfl
theorem dX10_greater_2 : decode cX10_greater 2 = .ok (.if_icmp .le 7, 3) := dcs_at ok21_a_model_0_4 2 rfl
theorem dX10_greater_5 : decode cX10_greater 5 = .ok (.iload_n 0, 1) := dcs_at ok21_a_model_0_4 3 rfl
theorem dX10_greater_6 : decode cX10_greater 6 = .ok (.goto 4, 3) := dcs_at ok21_a_model_0_4 4 rfl
theorem dX10_greater_9 : decode cX10_greater 9 = .ok (.iload_n 1, 1) := dcs_at ok21_a_model_0_4 5 rfl
theorem dX10_greater_10 : decode cX10_greater 10 = .ok (.ireturn, 1) := dcs_at ok21_a_model_0_4 6 rfl
def tb21_a_model_0_5 : List (Nat × (Instr × Nat)) := [(0, (.iload_n 0, 1)), (1, (.iload_n 1, 1)), (2, (.if_icmp .ge 7, 3)), (5, (.iload_n 0, 1)), (6, (.goto 4, 3)), (9, (.iload_n 1, 1)), (10, (.ireturn, 1))]
theorem ok21_a_model_0_5 : dcs cX10_lesser tb21_a_model_0_5 = true := by decide +kernel
theorem dX10_lesser_0 : decode cX10_lesser 0 = .ok (.iload_n 0, 1) := dcs_at ok21_a_model_0_5 0 rfl
theorem dX10_lesser_1 : decode cX10_lesser 1 = .ok (.iload_n 1, 1) := dcs_at ok21_a_model_0_5 1 rfl
theorem dX10_lesser_2 : decode cX10_lesser 2 = .ok (.if_icmp .ge 7, 3) := dcs_at ok21_a_model_0_5 2 rfl
theorem dX10_lesser_5 : decode cX10_lesser 5 = .ok (.iload_n 0, 1) := dcs_at ok21_a_model_0_5 3 rfl
theorem dX10_lesser_6 : decode cX10_lesser 6 = .ok (.goto 4, 3) := dcs_at ok21_a_model_0_5 4 rfl
theorem dX10_lesser_9 : decode cX10_lesser 9 = .ok (.iload_n 1, 1) := dcs_at ok21_a_model_0_5 5 rfl
theorem dX10_lesser_10 : decode cX10_lesser 10 = .ok (.ireturn, 1) := dcs_at ok21_a_model_0_5 6 rfl
def tb21_a_model_0_6 : List (Nat × (Instr × Nat)) := [(0, (.iload_n 2, 1)), (1, (.iconst 0, 1)), (2, (.aload_n 0, 1)), (3, (.getfield 23, 3)), (6, (.iload_n 1, 1)), (7, (.iaload, 1)), (8, (.iconst 1, 1)), (9, (.isub, 1)), (10, (.invokestatic 92, 3)), (13, (.ireturn, 1))]
theorem ok21_a_model_0_6 : dcs cX10_is tb21_a_model_0_6 = true := by decide +kernel
theorem dX10_is_0 : decode cX10_is 0 = .ok (.iload_n 2, 1) := dcs_at ok21_a_model_0_6 0 rfl
theorem dX10_is_1 : decode cX10_is 1 = .ok (.iconst 0, 1) := dcs_at ok21_a_model_0_6 1 rfl
theorem dX10_is_2 : decode cX10_is 2 = .ok (.aload_n 0, 1) := dcs_at ok21_a_model_0_6 2 rfl
theorem dX10_is_3 : decode cX10_is 3 = .ok (.getfield 23, 3) := dcs_at ok21_a_model_0_6 3 rfl
theorem dX10_is_6 : decode cX10_is 6 = .ok (.iload_n 1, 1) := dcs_at ok21_a_model_0_6 4 rfl
theorem dX10_is_7 : decode cX10_is 7 = .ok (.iaload, 1) := dcs_at ok21_a_model_0_6 5 rfl
theorem dX10_is_8 : decode cX10_is 8 = .ok (.iconst 1, 1) := dcs_at ok21_a_model_0_6 6 rfl
theorem dX10_is_9 : decode cX10_is 9 = .ok (.isub, 1) := dcs_at ok21_a_model_0_6 7 rfl
theorem dX10_is_10 : decode cX10_is 10 = .ok (.invokestatic 92, 3) := dcs_at ok21_a_model_0_6 8 rfl
theorem dX10_is_13 : decode cX10_is 13 = .ok (.ireturn, 1) := dcs_at ok21_a_model_0_6 9 rfl
def tb21_a_model_0_7 : List (Nat × (Instr × Nat)) := [(0, (.aload_n 0, 1)), (1, (.getfield 26, 3)), (4, (.bipush 36, 2)), (6, (.aload_n 0, 1)), (7, (.getfield 221, 3)), (10, (.imul, 1)), (11, (.iload_n 1, 1)), (12, (.iadd, 1)), (13, (.iaload, 1)), (14, (.ireturn, 1))]
theorem ok21_a_model_0_7 : dcs cX10_of tb21_a_model_0_7 = true := by decide +kernel
theorem dX10_of_0 : decode cX10_of 0 = .ok (.aload_n 0, 1) := dcs_at ok21_a_model_0_7 0 rfl
theorem dX10_of_1 : decode cX10_of 1 = .ok (.getfield 26, 3) := dcs_at ok21_a_model_0_7 1 rfl
theorem dX10_of_4 : decode cX10_of 4 = .ok (.bipush 36, 2) := dcs_at ok21_a_model_0_7 2 rfl
theorem dX10_of_6 : decode cX10_of 6 = .ok (.aload_n 0, 1) := dcs_at ok21_a_model_0_7 3 rfl
theorem dX10_of_7 : decode cX10_of 7 = .ok (.getfield 221, 3) := dcs_at ok21_a_model_0_7 4 rfl
theorem dX10_of_10 : decode cX10_of 10 = .ok (.imul, 1) := dcs_at ok21_a_model_0_7 5 rfl
theorem dX10_of_11 : decode cX10_of 11 = .ok (.iload_n 1, 1) := dcs_at ok21_a_model_0_7 6 rfl
theorem dX10_of_12 : decode cX10_of 12 = .ok (.iadd, 1) := dcs_at ok21_a_model_0_7 7 rfl
theorem dX10_of_13 : decode cX10_of 13 = .ok (.iaload, 1) := dcs_at ok21_a_model_0_7 8 rfl
theorem dX10_of_14 : decode cX10_of 14 = .ok (.ireturn, 1) := dcs_at ok21_a_model_0_7 9 rfl
def tb21_a_model_0_8 : List (Nat × (Instr × Nat)) := [(0, (.aload_n 0, 1)), (1, (.iconst 0, 1)), (2, (.iload_n 1, 1)), (3, (.invokevirtual 211, 3)), (6, (.ifCond .ne 5, 3)), (9, (.iconst 0, 1)), (10, (.ireturn, 1)), (11, (.aload_n 0, 1)), (12, (.iload_n 1, 1)), (13, (.putfield 221, 3)), (16, (.aload_n 0, 1)), (17, (.aload_n 0, 1)), (18, (.iconst 0, 1)), (19, (.invokevirtual 224, 3)), (22, (.putfield 228, 3)), (25, (.aload_n 0, 1)), (26, (.aload_n 0, 1)), (27, (.iconst 1, 1)), (28, (.invokevirtual 224, 3)), (31, (.putfield 231, 3)), (34, (.aload_n 0, 1)), (35, (.aload_n 0, 1)), (36, (.iconst 2, 1)), (37, (.invokevirtual 224, 3)), (40, (.putfield 234, 3)), (43, (.iconst 1, 1)), (44, (.ireturn, 1))]
theorem ok21_a_model_0_8 : dcs cX10_hand tb21_a_model_0_8 = true := by decide +kernel
theorem dX10_hand_0 : decode cX10_hand 0 = .ok (.aload_n 0, 1) := dcs_at ok21_a_model_0_8 0 rfl
theorem dX10_hand_1 : decode cX10_hand 1 = .ok (.iconst 0, 1) := dcs_at ok21_a_model_0_8 1 rfl
theorem dX10_hand_2 : decode cX10_hand 2 = .ok (.iload_n 1, 1) := dcs_at ok21_a_model_0_8 2 rfl
theorem dX10_hand_3 : decode cX10_hand 3 = .ok (.invokevirtual 211, 3) := dcs_at ok21_a_model_0_8 3 rfl
theorem dX10_hand_6 : decode cX10_hand 6 = .ok (.ifCond .ne 5, 3) := dcs_at ok21_a_model_0_8 4 rfl
theorem dX10_hand_9 : decode cX10_hand 9 = .ok (.iconst 0, 1) := dcs_at ok21_a_model_0_8 5 rfl
theorem dX10_hand_10 : decode cX10_hand 10 = .ok (.ireturn, 1) := dcs_at ok21_a_model_0_8 6 rfl
theorem dX10_hand_11 : decode cX10_hand 11 = .ok (.aload_n 0, 1) := dcs_at ok21_a_model_0_8 7 rfl
theorem dX10_hand_12 : decode cX10_hand 12 = .ok (.iload_n 1, 1) := dcs_at ok21_a_model_0_8 8 rfl
theorem dX10_hand_13 : decode cX10_hand 13 = .ok (.putfield 221, 3) := dcs_at ok21_a_model_0_8 9 rfl
theorem dX10_hand_16 : decode cX10_hand 16 = .ok (.aload_n 0, 1) := dcs_at ok21_a_model_0_8 10 rfl
theorem dX10_hand_17 : decode cX10_hand 17 = .ok (.aload_n 0, 1) := dcs_at ok21_a_model_0_8 11 rfl
theorem dX10_hand_18 : decode cX10_hand 18 = .ok (.iconst 0, 1) := dcs_at ok21_a_model_0_8 12 rfl
theorem dX10_hand_19 : decode cX10_hand 19 = .ok (.invokevirtual 224, 3) := dcs_at ok21_a_model_0_8 13 rfl
theorem dX10_hand_22 : decode cX10_hand 22 = .ok (.putfield 228, 3) := dcs_at ok21_a_model_0_8 14 rfl
theorem dX10_hand_25 : decode cX10_hand 25 = .ok (.aload_n 0, 1) := dcs_at ok21_a_model_0_8 15 rfl
theorem dX10_hand_26 : decode cX10_hand 26 = .ok (.aload_n 0, 1) := dcs_at ok21_a_model_0_8 16 rfl
theorem dX10_hand_27 : decode cX10_hand 27 = .ok (.iconst 1, 1) := dcs_at ok21_a_model_0_8 17 rfl
theorem dX10_hand_28 : decode cX10_hand 28 = .ok (.invokevirtual 224, 3) := dcs_at ok21_a_model_0_8 18 rfl
theorem dX10_hand_31 : decode cX10_hand 31 = .ok (.putfield 231, 3) := dcs_at ok21_a_model_0_8 19 rfl
theorem dX10_hand_34 : decode cX10_hand 34 = .ok (.aload_n 0, 1) := dcs_at ok21_a_model_0_8 20 rfl
theorem dX10_hand_35 : decode cX10_hand 35 = .ok (.aload_n 0, 1) := dcs_at ok21_a_model_0_8 21 rfl
theorem dX10_hand_36 : decode cX10_hand 36 = .ok (.iconst 2, 1) := dcs_at ok21_a_model_0_8 22 rfl
theorem dX10_hand_37 : decode cX10_hand 37 = .ok (.invokevirtual 224, 3) := dcs_at ok21_a_model_0_8 23 rfl
theorem dX10_hand_40 : decode cX10_hand 40 = .ok (.putfield 234, 3) := dcs_at ok21_a_model_0_8 24 rfl
theorem dX10_hand_43 : decode cX10_hand 43 = .ok (.iconst 1, 1) := dcs_at ok21_a_model_0_8 25 rfl
theorem dX10_hand_44 : decode cX10_hand 44 = .ok (.ireturn, 1) := dcs_at ok21_a_model_0_8 26 rfl
def tb21_a_model_0_9 : List (Nat × (Instr × Nat)) := [(0, (.iload_n 1, 1)), (1, (.iconst 0, 1)), (2, (.aload_n 0, 1)), (3, (.getfield 228, 3)), (6, (.iconst 1, 1)), (7, (.isub, 1)), (8, (.invokestatic 92, 3)), (11, (.ireturn, 1))]
theorem ok21_a_model_0_9 : dcs cX10_isPalm tb21_a_model_0_9 = true := by decide +kernel
theorem dX10_isPalm_0 : decode cX10_isPalm 0 = .ok (.iload_n 1, 1) := dcs_at ok21_a_model_0_9 0 rfl
theorem dX10_isPalm_1 : decode cX10_isPalm 1 = .ok (.iconst 0, 1) := dcs_at ok21_a_model_0_9 1 rfl
theorem dX10_isPalm_2 : decode cX10_isPalm 2 = .ok (.aload_n 0, 1) := dcs_at ok21_a_model_0_9 2 rfl
theorem dX10_isPalm_3 : decode cX10_isPalm 3 = .ok (.getfield 228, 3) := dcs_at ok21_a_model_0_9 3 rfl
theorem dX10_isPalm_6 : decode cX10_isPalm 6 = .ok (.iconst 1, 1) := dcs_at ok21_a_model_0_9 4 rfl
theorem dX10_isPalm_7 : decode cX10_isPalm 7 = .ok (.isub, 1) := dcs_at ok21_a_model_0_9 5 rfl
theorem dX10_isPalm_8 : decode cX10_isPalm 8 = .ok (.invokestatic 92, 3) := dcs_at ok21_a_model_0_9 6 rfl
theorem dX10_isPalm_11 : decode cX10_isPalm 11 = .ok (.ireturn, 1) := dcs_at ok21_a_model_0_9 7 rfl
def tb21_a_model_0_10 : List (Nat × (Instr × Nat)) := [(0, (.iload_n 1, 1)), (1, (.iconst 0, 1)), (2, (.aload_n 0, 1)), (3, (.getfield 231, 3)), (6, (.iconst 1, 1)), (7, (.isub, 1)), (8, (.invokestatic 92, 3)), (11, (.ireturn, 1))]
theorem ok21_a_model_0_10 : dcs cX10_isActor tb21_a_model_0_10 = true := by decide +kernel
theorem dX10_isActor_0 : decode cX10_isActor 0 = .ok (.iload_n 1, 1) := dcs_at ok21_a_model_0_10 0 rfl
theorem dX10_isActor_1 : decode cX10_isActor 1 = .ok (.iconst 0, 1) := dcs_at ok21_a_model_0_10 1 rfl
theorem dX10_isActor_2 : decode cX10_isActor 2 = .ok (.aload_n 0, 1) := dcs_at ok21_a_model_0_10 2 rfl
theorem dX10_isActor_3 : decode cX10_isActor 3 = .ok (.getfield 231, 3) := dcs_at ok21_a_model_0_10 3 rfl
theorem dX10_isActor_6 : decode cX10_isActor 6 = .ok (.iconst 1, 1) := dcs_at ok21_a_model_0_10 4 rfl
theorem dX10_isActor_7 : decode cX10_isActor 7 = .ok (.isub, 1) := dcs_at ok21_a_model_0_10 5 rfl
theorem dX10_isActor_8 : decode cX10_isActor 8 = .ok (.invokestatic 92, 3) := dcs_at ok21_a_model_0_10 6 rfl
theorem dX10_isActor_11 : decode cX10_isActor 11 = .ok (.ireturn, 1) := dcs_at ok21_a_model_0_10 7 rfl
def tb21_a_model_0_11 : List (Nat × (Instr × Nat)) := [(0, (.aload_n 0, 1)), (1, (.bipush 6, 2)), (3, (.iconst 2, 1)), (4, (.iload_n 1, 1)), (5, (.imul, 1)), (6, (.iadd, 1)), (7, (.iconst 1, 1)), (8, (.iadd, 1)), (9, (.invokevirtual 224, 3)), (12, (.ireturn, 1))]
theorem ok21_a_model_0_11 : dcs cX10_handsOf tb21_a_model_0_11 = true := by decide +kernel
theorem dX10_handsOf_0 : decode cX10_handsOf 0 = .ok (.aload_n 0, 1) := dcs_at ok21_a_model_0_11 0 rfl
theorem dX10_handsOf_1 : decode cX10_handsOf 1 = .ok (.bipush 6, 2) := dcs_at ok21_a_model_0_11 1 rfl
theorem dX10_handsOf_3 : decode cX10_handsOf 3 = .ok (.iconst 2, 1) := dcs_at ok21_a_model_0_11 2 rfl
theorem dX10_handsOf_4 : decode cX10_handsOf 4 = .ok (.iload_n 1, 1) := dcs_at ok21_a_model_0_11 3 rfl
theorem dX10_handsOf_5 : decode cX10_handsOf 5 = .ok (.imul, 1) := dcs_at ok21_a_model_0_11 4 rfl
theorem dX10_handsOf_6 : decode cX10_handsOf 6 = .ok (.iadd, 1) := dcs_at ok21_a_model_0_11 5 rfl
theorem dX10_handsOf_7 : decode cX10_handsOf 7 = .ok (.iconst 1, 1) := dcs_at ok21_a_model_0_11 6 rfl
theorem dX10_handsOf_8 : decode cX10_handsOf 8 = .ok (.iadd, 1) := dcs_at ok21_a_model_0_11 7 rfl
theorem dX10_handsOf_9 : decode cX10_handsOf 9 = .ok (.invokevirtual 224, 3) := dcs_at ok21_a_model_0_11 8 rfl
theorem dX10_handsOf_12 : decode cX10_handsOf 12 = .ok (.ireturn, 1) := dcs_at ok21_a_model_0_11 9 rfl
def tb21_a_model_0_12 : List (Nat × (Instr × Nat)) := [(0, (.aload_n 0, 1)), (1, (.bipush 16, 2)), (3, (.iconst 2, 1)), (4, (.iload_n 1, 1)), (5, (.imul, 1)), (6, (.iadd, 1)), (7, (.invokevirtual 224, 3)), (10, (.ireturn, 1))]
theorem ok21_a_model_0_12 : dcs cX10_hungerOf tb21_a_model_0_12 = true := by decide +kernel
theorem dX10_hungerOf_0 : decode cX10_hungerOf 0 = .ok (.aload_n 0, 1) := dcs_at ok21_a_model_0_12 0 rfl
theorem dX10_hungerOf_1 : decode cX10_hungerOf 1 = .ok (.bipush 16, 2) := dcs_at ok21_a_model_0_12 1 rfl
theorem dX10_hungerOf_3 : decode cX10_hungerOf 3 = .ok (.iconst 2, 1) := dcs_at ok21_a_model_0_12 2 rfl
theorem dX10_hungerOf_4 : decode cX10_hungerOf 4 = .ok (.iload_n 1, 1) := dcs_at ok21_a_model_0_12 3 rfl
theorem dX10_hungerOf_5 : decode cX10_hungerOf 5 = .ok (.imul, 1) := dcs_at ok21_a_model_0_12 4 rfl
theorem dX10_hungerOf_6 : decode cX10_hungerOf 6 = .ok (.iadd, 1) := dcs_at ok21_a_model_0_12 5 rfl
theorem dX10_hungerOf_7 : decode cX10_hungerOf 7 = .ok (.invokevirtual 224, 3) := dcs_at ok21_a_model_0_12 6 rfl
theorem dX10_hungerOf_10 : decode cX10_hungerOf 10 = .ok (.ireturn, 1) := dcs_at ok21_a_model_0_12 7 rfl
def tb21_a_model_0_13 : List (Nat × (Instr × Nat)) := [(0, (.aload_n 0, 1)), (1, (.iconst 0, 1)), (2, (.putfield 80, 3)), (5, (.aload_n 0, 1)), (6, (.iload_n 1, 1)), (7, (.invokevirtual 237, 3)), (10, (.ifCond .ne 5, 3)), (13, (.iconst (-1), 1)), (14, (.ireturn, 1)), (15, (.iload_n 2, 1)), (16, (.iconst 0, 1)), (17, (.iconst 5, 1)), (18, (.invokestatic 92, 3)), (21, (.ifCond .eq 9, 3)), (24, (.aload_n 0, 1)), (25, (.iload_n 2, 1)), (26, (.invokevirtual 224, 3)), (29, (.ireturn, 1)), (30, (.iload_n 2, 1)), (31, (.bipush 10, 2)), (33, (.irem, 1)), (34, (.istore_n 3, 1)), (35, (.iload_n 2, 1)), (36, (.bipush 10, 2)), (38, (.idiv, 1)), (39, (.tableswitch 134 1 6 #[37, 37, 67, 67, 97, 97], 37)), (76, (.aload_n 0, 1)), (77, (.iload_n 3, 1)), (78, (.invokevirtual 240, 3)), (81, (.ifCond .eq 23, 3)), (84, (.aload_n 0, 1)), (85, (.bipush 6, 2)), (87, (.iconst 2, 1)), (88, (.iload_n 3, 1)), (89, (.imul, 1)), (90, (.iadd, 1)), (91, (.iload_n 2, 1)), (92, (.bipush 10, 2)), (94, (.idiv, 1)), (95, (.iadd, 1))]
theorem ok21_a_model_0_13 : dcs cX10_theatre tb21_a_model_0_13 = true := by decide +kernel
theorem dX10_theatre_0 : decode cX10_theatre 0 = .ok (.aload_n 0, 1) := dcs_at ok21_a_model_0_13 0 rfl
theorem dX10_theatre_1 : decode cX10_theatre 1 = .ok (.iconst 0, 1) := dcs_at ok21_a_model_0_13 1 rfl
theorem dX10_theatre_2 : decode cX10_theatre 2 = .ok (.putfield 80, 3) := dcs_at ok21_a_model_0_13 2 rfl
theorem dX10_theatre_5 : decode cX10_theatre 5 = .ok (.aload_n 0, 1) := dcs_at ok21_a_model_0_13 3 rfl
theorem dX10_theatre_6 : decode cX10_theatre 6 = .ok (.iload_n 1, 1) := dcs_at ok21_a_model_0_13 4 rfl
theorem dX10_theatre_7 : decode cX10_theatre 7 = .ok (.invokevirtual 237, 3) := dcs_at ok21_a_model_0_13 5 rfl
theorem dX10_theatre_10 : decode cX10_theatre 10 = .ok (.ifCond .ne 5, 3) := dcs_at ok21_a_model_0_13 6 rfl
theorem dX10_theatre_13 : decode cX10_theatre 13 = .ok (.iconst (-1), 1) := dcs_at ok21_a_model_0_13 7 rfl
theorem dX10_theatre_14 : decode cX10_theatre 14 = .ok (.ireturn, 1) := dcs_at ok21_a_model_0_13 8 rfl
theorem dX10_theatre_15 : decode cX10_theatre 15 = .ok (.iload_n 2, 1) := dcs_at ok21_a_model_0_13 9 rfl
theorem dX10_theatre_16 : decode cX10_theatre 16 = .ok (.iconst 0, 1) := dcs_at ok21_a_model_0_13 10 rfl
theorem dX10_theatre_17 : decode cX10_theatre 17 = .ok (.iconst 5, 1) := dcs_at ok21_a_model_0_13 11 rfl
theorem dX10_theatre_18 : decode cX10_theatre 18 = .ok (.invokestatic 92, 3) := dcs_at ok21_a_model_0_13 12 rfl
theorem dX10_theatre_21 : decode cX10_theatre 21 = .ok (.ifCond .eq 9, 3) := dcs_at ok21_a_model_0_13 13 rfl
theorem dX10_theatre_24 : decode cX10_theatre 24 = .ok (.aload_n 0, 1) := dcs_at ok21_a_model_0_13 14 rfl
theorem dX10_theatre_25 : decode cX10_theatre 25 = .ok (.iload_n 2, 1) := dcs_at ok21_a_model_0_13 15 rfl
theorem dX10_theatre_26 : decode cX10_theatre 26 = .ok (.invokevirtual 224, 3) := dcs_at ok21_a_model_0_13 16 rfl
theorem dX10_theatre_29 : decode cX10_theatre 29 = .ok (.ireturn, 1) := dcs_at ok21_a_model_0_13 17 rfl
theorem dX10_theatre_30 : decode cX10_theatre 30 = .ok (.iload_n 2, 1) := dcs_at ok21_a_model_0_13 18 rfl
theorem dX10_theatre_31 : decode cX10_theatre 31 = .ok (.bipush 10, 2) := dcs_at ok21_a_model_0_13 19 rfl
theorem dX10_theatre_33 : decode cX10_theatre 33 = .ok (.irem, 1) := dcs_at ok21_a_model_0_13 20 rfl
theorem dX10_theatre_34 : decode cX10_theatre 34 = .ok (.istore_n 3, 1) := dcs_at ok21_a_model_0_13 21 rfl
theorem dX10_theatre_35 : decode cX10_theatre 35 = .ok (.iload_n 2, 1) := dcs_at ok21_a_model_0_13 22 rfl
theorem dX10_theatre_36 : decode cX10_theatre 36 = .ok (.bipush 10, 2) := dcs_at ok21_a_model_0_13 23 rfl
theorem dX10_theatre_38 : decode cX10_theatre 38 = .ok (.idiv, 1) := dcs_at ok21_a_model_0_13 24 rfl
theorem dX10_theatre_39 : decode cX10_theatre 39 = .ok (.tableswitch 134 1 6 #[37, 37, 67, 67, 97, 97], 37) := dcs_at ok21_a_model_0_13 25 rfl
theorem dX10_theatre_76 : decode cX10_theatre 76 = .ok (.aload_n 0, 1) := dcs_at ok21_a_model_0_13 26 rfl
theorem dX10_theatre_77 : decode cX10_theatre 77 = .ok (.iload_n 3, 1) := dcs_at ok21_a_model_0_13 27 rfl
theorem dX10_theatre_78 : decode cX10_theatre 78 = .ok (.invokevirtual 240, 3) := dcs_at ok21_a_model_0_13 28 rfl
theorem dX10_theatre_81 : decode cX10_theatre 81 = .ok (.ifCond .eq 23, 3) := dcs_at ok21_a_model_0_13 29 rfl
theorem dX10_theatre_84 : decode cX10_theatre 84 = .ok (.aload_n 0, 1) := dcs_at ok21_a_model_0_13 30 rfl
theorem dX10_theatre_85 : decode cX10_theatre 85 = .ok (.bipush 6, 2) := dcs_at ok21_a_model_0_13 31 rfl
theorem dX10_theatre_87 : decode cX10_theatre 87 = .ok (.iconst 2, 1) := dcs_at ok21_a_model_0_13 32 rfl
theorem dX10_theatre_88 : decode cX10_theatre 88 = .ok (.iload_n 3, 1) := dcs_at ok21_a_model_0_13 33 rfl
theorem dX10_theatre_89 : decode cX10_theatre 89 = .ok (.imul, 1) := dcs_at ok21_a_model_0_13 34 rfl
theorem dX10_theatre_90 : decode cX10_theatre 90 = .ok (.iadd, 1) := dcs_at ok21_a_model_0_13 35 rfl
theorem dX10_theatre_91 : decode cX10_theatre 91 = .ok (.iload_n 2, 1) := dcs_at ok21_a_model_0_13 36 rfl
theorem dX10_theatre_92 : decode cX10_theatre 92 = .ok (.bipush 10, 2) := dcs_at ok21_a_model_0_13 37 rfl
theorem dX10_theatre_94 : decode cX10_theatre 94 = .ok (.idiv, 1) := dcs_at ok21_a_model_0_13 38 rfl
theorem dX10_theatre_95 : decode cX10_theatre 95 = .ok (.iadd, 1) := dcs_at ok21_a_model_0_13 39 rfl
def tb21_a_model_0_14 : List (Nat × (Instr × Nat)) := [(96, (.iconst 1, 1)), (97, (.isub, 1)), (98, (.invokevirtual 224, 3)), (101, (.goto 4, 3)), (104, (.iconst (-1), 1)), (105, (.ireturn, 1)), (106, (.aload_n 0, 1)), (107, (.iload_n 3, 1)), (108, (.invokevirtual 243, 3)), (111, (.ifCond .eq 23, 3)), (114, (.aload_n 0, 1)), (115, (.bipush 16, 2)), (117, (.iconst 2, 1)), (118, (.iload_n 3, 1)), (119, (.imul, 1)), (120, (.iadd, 1)), (121, (.iload_n 2, 1)), (122, (.bipush 10, 2)), (124, (.idiv, 1)), (125, (.iadd, 1)), (126, (.iconst 3, 1)), (127, (.isub, 1)), (128, (.invokevirtual 224, 3)), (131, (.goto 4, 3)), (134, (.iconst (-1), 1)), (135, (.ireturn, 1)), (136, (.iload_n 3, 1)), (137, (.iconst 0, 1)), (138, (.aload_n 0, 1)), (139, (.iconst 4, 1)), (140, (.invokevirtual 224, 3)), (143, (.iconst 1, 1)), (144, (.isub, 1)), (145, (.invokestatic 92, 3)), (148, (.ifCond .eq 23, 3)), (151, (.aload_n 0, 1)), (152, (.bipush 28, 2)), (154, (.iconst 2, 1)), (155, (.iload_n 3, 1)), (156, (.imul, 1))]
theorem ok21_a_model_0_14 : dcs cX10_theatre tb21_a_model_0_14 = true := by decide +kernel
theorem dX10_theatre_96 : decode cX10_theatre 96 = .ok (.iconst 1, 1) := dcs_at ok21_a_model_0_14 0 rfl
theorem dX10_theatre_97 : decode cX10_theatre 97 = .ok (.isub, 1) := dcs_at ok21_a_model_0_14 1 rfl
theorem dX10_theatre_98 : decode cX10_theatre 98 = .ok (.invokevirtual 224, 3) := dcs_at ok21_a_model_0_14 2 rfl
theorem dX10_theatre_101 : decode cX10_theatre 101 = .ok (.goto 4, 3) := dcs_at ok21_a_model_0_14 3 rfl
theorem dX10_theatre_104 : decode cX10_theatre 104 = .ok (.iconst (-1), 1) := dcs_at ok21_a_model_0_14 4 rfl
theorem dX10_theatre_105 : decode cX10_theatre 105 = .ok (.ireturn, 1) := dcs_at ok21_a_model_0_14 5 rfl
theorem dX10_theatre_106 : decode cX10_theatre 106 = .ok (.aload_n 0, 1) := dcs_at ok21_a_model_0_14 6 rfl
theorem dX10_theatre_107 : decode cX10_theatre 107 = .ok (.iload_n 3, 1) := dcs_at ok21_a_model_0_14 7 rfl
theorem dX10_theatre_108 : decode cX10_theatre 108 = .ok (.invokevirtual 243, 3) := dcs_at ok21_a_model_0_14 8 rfl
theorem dX10_theatre_111 : decode cX10_theatre 111 = .ok (.ifCond .eq 23, 3) := dcs_at ok21_a_model_0_14 9 rfl
theorem dX10_theatre_114 : decode cX10_theatre 114 = .ok (.aload_n 0, 1) := dcs_at ok21_a_model_0_14 10 rfl
theorem dX10_theatre_115 : decode cX10_theatre 115 = .ok (.bipush 16, 2) := dcs_at ok21_a_model_0_14 11 rfl
theorem dX10_theatre_117 : decode cX10_theatre 117 = .ok (.iconst 2, 1) := dcs_at ok21_a_model_0_14 12 rfl
theorem dX10_theatre_118 : decode cX10_theatre 118 = .ok (.iload_n 3, 1) := dcs_at ok21_a_model_0_14 13 rfl
theorem dX10_theatre_119 : decode cX10_theatre 119 = .ok (.imul, 1) := dcs_at ok21_a_model_0_14 14 rfl
theorem dX10_theatre_120 : decode cX10_theatre 120 = .ok (.iadd, 1) := dcs_at ok21_a_model_0_14 15 rfl
theorem dX10_theatre_121 : decode cX10_theatre 121 = .ok (.iload_n 2, 1) := dcs_at ok21_a_model_0_14 16 rfl
theorem dX10_theatre_122 : decode cX10_theatre 122 = .ok (.bipush 10, 2) := dcs_at ok21_a_model_0_14 17 rfl
theorem dX10_theatre_124 : decode cX10_theatre 124 = .ok (.idiv, 1) := dcs_at ok21_a_model_0_14 18 rfl
theorem dX10_theatre_125 : decode cX10_theatre 125 = .ok (.iadd, 1) := dcs_at ok21_a_model_0_14 19 rfl
theorem dX10_theatre_126 : decode cX10_theatre 126 = .ok (.iconst 3, 1) := dcs_at ok21_a_model_0_14 20 rfl
theorem dX10_theatre_127 : decode cX10_theatre 127 = .ok (.isub, 1) := dcs_at ok21_a_model_0_14 21 rfl
theorem dX10_theatre_128 : decode cX10_theatre 128 = .ok (.invokevirtual 224, 3) := dcs_at ok21_a_model_0_14 22 rfl
theorem dX10_theatre_131 : decode cX10_theatre 131 = .ok (.goto 4, 3) := dcs_at ok21_a_model_0_14 23 rfl
theorem dX10_theatre_134 : decode cX10_theatre 134 = .ok (.iconst (-1), 1) := dcs_at ok21_a_model_0_14 24 rfl
theorem dX10_theatre_135 : decode cX10_theatre 135 = .ok (.ireturn, 1) := dcs_at ok21_a_model_0_14 25 rfl
theorem dX10_theatre_136 : decode cX10_theatre 136 = .ok (.iload_n 3, 1) := dcs_at ok21_a_model_0_14 26 rfl
theorem dX10_theatre_137 : decode cX10_theatre 137 = .ok (.iconst 0, 1) := dcs_at ok21_a_model_0_14 27 rfl
theorem dX10_theatre_138 : decode cX10_theatre 138 = .ok (.aload_n 0, 1) := dcs_at ok21_a_model_0_14 28 rfl
theorem dX10_theatre_139 : decode cX10_theatre 139 = .ok (.iconst 4, 1) := dcs_at ok21_a_model_0_14 29 rfl
theorem dX10_theatre_140 : decode cX10_theatre 140 = .ok (.invokevirtual 224, 3) := dcs_at ok21_a_model_0_14 30 rfl
theorem dX10_theatre_143 : decode cX10_theatre 143 = .ok (.iconst 1, 1) := dcs_at ok21_a_model_0_14 31 rfl
theorem dX10_theatre_144 : decode cX10_theatre 144 = .ok (.isub, 1) := dcs_at ok21_a_model_0_14 32 rfl
theorem dX10_theatre_145 : decode cX10_theatre 145 = .ok (.invokestatic 92, 3) := dcs_at ok21_a_model_0_14 33 rfl
theorem dX10_theatre_148 : decode cX10_theatre 148 = .ok (.ifCond .eq 23, 3) := dcs_at ok21_a_model_0_14 34 rfl
theorem dX10_theatre_151 : decode cX10_theatre 151 = .ok (.aload_n 0, 1) := dcs_at ok21_a_model_0_14 35 rfl
theorem dX10_theatre_152 : decode cX10_theatre 152 = .ok (.bipush 28, 2) := dcs_at ok21_a_model_0_14 36 rfl
theorem dX10_theatre_154 : decode cX10_theatre 154 = .ok (.iconst 2, 1) := dcs_at ok21_a_model_0_14 37 rfl
theorem dX10_theatre_155 : decode cX10_theatre 155 = .ok (.iload_n 3, 1) := dcs_at ok21_a_model_0_14 38 rfl
theorem dX10_theatre_156 : decode cX10_theatre 156 = .ok (.imul, 1) := dcs_at ok21_a_model_0_14 39 rfl
def tb21_a_model_0_15 : List (Nat × (Instr × Nat)) := [(157, (.iadd, 1)), (158, (.iload_n 2, 1)), (159, (.bipush 10, 2)), (161, (.idiv, 1)), (162, (.iadd, 1)), (163, (.iconst 5, 1)), (164, (.isub, 1)), (165, (.invokevirtual 224, 3)), (168, (.goto 4, 3)), (171, (.iconst (-1), 1)), (172, (.ireturn, 1)), (173, (.iconst (-1), 1)), (174, (.ireturn, 1))]
theorem ok21_a_model_0_15 : dcs cX10_theatre tb21_a_model_0_15 = true := by decide +kernel
theorem dX10_theatre_157 : decode cX10_theatre 157 = .ok (.iadd, 1) := dcs_at ok21_a_model_0_15 0 rfl
theorem dX10_theatre_158 : decode cX10_theatre 158 = .ok (.iload_n 2, 1) := dcs_at ok21_a_model_0_15 1 rfl
theorem dX10_theatre_159 : decode cX10_theatre 159 = .ok (.bipush 10, 2) := dcs_at ok21_a_model_0_15 2 rfl
theorem dX10_theatre_161 : decode cX10_theatre 161 = .ok (.idiv, 1) := dcs_at ok21_a_model_0_15 3 rfl
theorem dX10_theatre_162 : decode cX10_theatre 162 = .ok (.iadd, 1) := dcs_at ok21_a_model_0_15 4 rfl
theorem dX10_theatre_163 : decode cX10_theatre 163 = .ok (.iconst 5, 1) := dcs_at ok21_a_model_0_15 5 rfl
theorem dX10_theatre_164 : decode cX10_theatre 164 = .ok (.isub, 1) := dcs_at ok21_a_model_0_15 6 rfl
theorem dX10_theatre_165 : decode cX10_theatre 165 = .ok (.invokevirtual 224, 3) := dcs_at ok21_a_model_0_15 7 rfl
theorem dX10_theatre_168 : decode cX10_theatre 168 = .ok (.goto 4, 3) := dcs_at ok21_a_model_0_15 8 rfl
theorem dX10_theatre_171 : decode cX10_theatre 171 = .ok (.iconst (-1), 1) := dcs_at ok21_a_model_0_15 9 rfl
theorem dX10_theatre_172 : decode cX10_theatre 172 = .ok (.ireturn, 1) := dcs_at ok21_a_model_0_15 10 rfl
theorem dX10_theatre_173 : decode cX10_theatre 173 = .ok (.iconst (-1), 1) := dcs_at ok21_a_model_0_15 11 rfl
theorem dX10_theatre_174 : decode cX10_theatre 174 = .ok (.ireturn, 1) := dcs_at ok21_a_model_0_15 12 rfl
def tb21_a_model_0_16 : List (Nat × (Instr × Nat)) := [(0, (.aload_n 0, 1)), (1, (.getfield 29, 3)), (4, (.bipush 121, 2)), (6, (.aload_n 0, 1)), (7, (.getfield 246, 3)), (10, (.imul, 1)), (11, (.iaload, 1)), (12, (.ireturn, 1))]
theorem ok21_a_model_0_16 : dcs cX10_deeds tb21_a_model_0_16 = true := by decide +kernel
theorem dX10_deeds_0 : decode cX10_deeds 0 = .ok (.aload_n 0, 1) := dcs_at ok21_a_model_0_16 0 rfl
theorem dX10_deeds_1 : decode cX10_deeds 1 = .ok (.getfield 29, 3) := dcs_at ok21_a_model_0_16 1 rfl
theorem dX10_deeds_4 : decode cX10_deeds 4 = .ok (.bipush 121, 2) := dcs_at ok21_a_model_0_16 2 rfl
theorem dX10_deeds_6 : decode cX10_deeds 6 = .ok (.aload_n 0, 1) := dcs_at ok21_a_model_0_16 3 rfl
theorem dX10_deeds_7 : decode cX10_deeds 7 = .ok (.getfield 246, 3) := dcs_at ok21_a_model_0_16 4 rfl
theorem dX10_deeds_10 : decode cX10_deeds 10 = .ok (.imul, 1) := dcs_at ok21_a_model_0_16 5 rfl
theorem dX10_deeds_11 : decode cX10_deeds 11 = .ok (.iaload, 1) := dcs_at ok21_a_model_0_16 6 rfl
theorem dX10_deeds_12 : decode cX10_deeds 12 = .ok (.ireturn, 1) := dcs_at ok21_a_model_0_16 7 rfl
def tb21_a_model_0_17 : List (Nat × (Instr × Nat)) := [(0, (.aload_n 0, 1)), (1, (.getfield 29, 3)), (4, (.bipush 121, 2)), (6, (.aload_n 0, 1)), (7, (.getfield 246, 3)), (10, (.imul, 1)), (11, (.iconst 1, 1)), (12, (.iadd, 1)), (13, (.iconst 4, 1)), (14, (.iload_n 1, 1)), (15, (.imul, 1)), (16, (.iadd, 1)), (17, (.iload_n 2, 1)), (18, (.iadd, 1)), (19, (.iaload, 1)), (20, (.ireturn, 1))]
theorem ok21_a_model_0_17 : dcs cX10_deedOf tb21_a_model_0_17 = true := by decide +kernel
theorem dX10_deedOf_0 : decode cX10_deedOf 0 = .ok (.aload_n 0, 1) := dcs_at ok21_a_model_0_17 0 rfl
theorem dX10_deedOf_1 : decode cX10_deedOf 1 = .ok (.getfield 29, 3) := dcs_at ok21_a_model_0_17 1 rfl
theorem dX10_deedOf_4 : decode cX10_deedOf 4 = .ok (.bipush 121, 2) := dcs_at ok21_a_model_0_17 2 rfl
theorem dX10_deedOf_6 : decode cX10_deedOf 6 = .ok (.aload_n 0, 1) := dcs_at ok21_a_model_0_17 3 rfl
theorem dX10_deedOf_7 : decode cX10_deedOf 7 = .ok (.getfield 246, 3) := dcs_at ok21_a_model_0_17 4 rfl
theorem dX10_deedOf_10 : decode cX10_deedOf 10 = .ok (.imul, 1) := dcs_at ok21_a_model_0_17 5 rfl
theorem dX10_deedOf_11 : decode cX10_deedOf 11 = .ok (.iconst 1, 1) := dcs_at ok21_a_model_0_17 6 rfl
theorem dX10_deedOf_12 : decode cX10_deedOf 12 = .ok (.iadd, 1) := dcs_at ok21_a_model_0_17 7 rfl
theorem dX10_deedOf_13 : decode cX10_deedOf 13 = .ok (.iconst 4, 1) := dcs_at ok21_a_model_0_17 8 rfl
theorem dX10_deedOf_14 : decode cX10_deedOf 14 = .ok (.iload_n 1, 1) := dcs_at ok21_a_model_0_17 9 rfl
theorem dX10_deedOf_15 : decode cX10_deedOf 15 = .ok (.imul, 1) := dcs_at ok21_a_model_0_17 10 rfl
theorem dX10_deedOf_16 : decode cX10_deedOf 16 = .ok (.iadd, 1) := dcs_at ok21_a_model_0_17 11 rfl
theorem dX10_deedOf_17 : decode cX10_deedOf 17 = .ok (.iload_n 2, 1) := dcs_at ok21_a_model_0_17 12 rfl
theorem dX10_deedOf_18 : decode cX10_deedOf 18 = .ok (.iadd, 1) := dcs_at ok21_a_model_0_17 13 rfl
theorem dX10_deedOf_19 : decode cX10_deedOf 19 = .ok (.iaload, 1) := dcs_at ok21_a_model_0_17 14 rfl
theorem dX10_deedOf_20 : decode cX10_deedOf 20 = .ok (.ireturn, 1) := dcs_at ok21_a_model_0_17 15 rfl
def tb21_a_model_0_18 : List (Nat × (Instr × Nat)) := [(0, (.aload_n 0, 1)), (1, (.iload_n 1, 1)), (2, (.putfield 246, 3)), (5, (.aload_n 0, 1)), (6, (.iconst 1, 1)), (7, (.iload_n 1, 1)), (8, (.invokevirtual 211, 3)), (11, (.ireturn, 1))]
theorem ok21_a_model_0_18 : dcs cX10_hasBook tb21_a_model_0_18 = true := by decide +kernel
theorem dX10_hasBook_0 : decode cX10_hasBook 0 = .ok (.aload_n 0, 1) := dcs_at ok21_a_model_0_18 0 rfl
theorem dX10_hasBook_1 : decode cX10_hasBook 1 = .ok (.iload_n 1, 1) := dcs_at ok21_a_model_0_18 1 rfl
theorem dX10_hasBook_2 : decode cX10_hasBook 2 = .ok (.putfield 246, 3) := dcs_at ok21_a_model_0_18 2 rfl
theorem dX10_hasBook_5 : decode cX10_hasBook 5 = .ok (.aload_n 0, 1) := dcs_at ok21_a_model_0_18 3 rfl
theorem dX10_hasBook_6 : decode cX10_hasBook 6 = .ok (.iconst 1, 1) := dcs_at ok21_a_model_0_18 4 rfl
theorem dX10_hasBook_7 : decode cX10_hasBook 7 = .ok (.iload_n 1, 1) := dcs_at ok21_a_model_0_18 5 rfl
theorem dX10_hasBook_8 : decode cX10_hasBook 8 = .ok (.invokevirtual 211, 3) := dcs_at ok21_a_model_0_18 6 rfl
theorem dX10_hasBook_11 : decode cX10_hasBook 11 = .ok (.ireturn, 1) := dcs_at ok21_a_model_0_18 7 rfl
def tb21_a_model_0_19 : List (Nat × (Instr × Nat)) := [(0, (.aload_n 0, 1)), (1, (.iconst 0, 1)), (2, (.putfield 80, 3)), (5, (.aload_n 0, 1)), (6, (.iload_n 1, 1)), (7, (.invokevirtual 249, 3)), (10, (.ifCond .ne 6, 3)), (13, (.bipush (-2), 2)), (15, (.ireturn, 1)), (16, (.iload_n 2, 1)), (17, (.iconst (-1), 1)), (18, (.if_icmp .ne 17, 3)), (21, (.iload_n 3, 1)), (22, (.ifCond .ne 10, 3)), (25, (.aload_n 0, 1)), (26, (.invokevirtual 252, 3)), (29, (.goto 5, 3)), (32, (.bipush (-2), 2)), (34, (.ireturn, 1)), (35, (.iload_n 2, 1)), (36, (.iconst 0, 1)), (37, (.aload_n 0, 1)), (38, (.invokevirtual 252, 3)), (41, (.iconst 1, 1)), (42, (.isub, 1)), (43, (.invokestatic 92, 3)), (46, (.ifCond .eq 21, 3)), (49, (.iload_n 3, 1)), (50, (.iconst 0, 1)), (51, (.iconst 3, 1)), (52, (.invokestatic 92, 3)), (55, (.ifCond .eq 12, 3)), (58, (.aload_n 0, 1)), (59, (.iload_n 2, 1)), (60, (.iload_n 3, 1)), (61, (.invokevirtual 255, 3)), (64, (.goto 5, 3)), (67, (.bipush (-2), 2)), (69, (.ireturn, 1))]
theorem ok21_a_model_0_19 : dcs cX10_deed tb21_a_model_0_19 = true := by decide +kernel
theorem dX10_deed_0 : decode cX10_deed 0 = .ok (.aload_n 0, 1) := dcs_at ok21_a_model_0_19 0 rfl
theorem dX10_deed_1 : decode cX10_deed 1 = .ok (.iconst 0, 1) := dcs_at ok21_a_model_0_19 1 rfl
theorem dX10_deed_2 : decode cX10_deed 2 = .ok (.putfield 80, 3) := dcs_at ok21_a_model_0_19 2 rfl
theorem dX10_deed_5 : decode cX10_deed 5 = .ok (.aload_n 0, 1) := dcs_at ok21_a_model_0_19 3 rfl
theorem dX10_deed_6 : decode cX10_deed 6 = .ok (.iload_n 1, 1) := dcs_at ok21_a_model_0_19 4 rfl
theorem dX10_deed_7 : decode cX10_deed 7 = .ok (.invokevirtual 249, 3) := dcs_at ok21_a_model_0_19 5 rfl
theorem dX10_deed_10 : decode cX10_deed 10 = .ok (.ifCond .ne 6, 3) := dcs_at ok21_a_model_0_19 6 rfl
theorem dX10_deed_13 : decode cX10_deed 13 = .ok (.bipush (-2), 2) := dcs_at ok21_a_model_0_19 7 rfl
theorem dX10_deed_15 : decode cX10_deed 15 = .ok (.ireturn, 1) := dcs_at ok21_a_model_0_19 8 rfl
theorem dX10_deed_16 : decode cX10_deed 16 = .ok (.iload_n 2, 1) := dcs_at ok21_a_model_0_19 9 rfl
theorem dX10_deed_17 : decode cX10_deed 17 = .ok (.iconst (-1), 1) := dcs_at ok21_a_model_0_19 10 rfl
theorem dX10_deed_18 : decode cX10_deed 18 = .ok (.if_icmp .ne 17, 3) := dcs_at ok21_a_model_0_19 11 rfl
theorem dX10_deed_21 : decode cX10_deed 21 = .ok (.iload_n 3, 1) := dcs_at ok21_a_model_0_19 12 rfl
theorem dX10_deed_22 : decode cX10_deed 22 = .ok (.ifCond .ne 10, 3) := dcs_at ok21_a_model_0_19 13 rfl
theorem dX10_deed_25 : decode cX10_deed 25 = .ok (.aload_n 0, 1) := dcs_at ok21_a_model_0_19 14 rfl
theorem dX10_deed_26 : decode cX10_deed 26 = .ok (.invokevirtual 252, 3) := dcs_at ok21_a_model_0_19 15 rfl
theorem dX10_deed_29 : decode cX10_deed 29 = .ok (.goto 5, 3) := dcs_at ok21_a_model_0_19 16 rfl
theorem dX10_deed_32 : decode cX10_deed 32 = .ok (.bipush (-2), 2) := dcs_at ok21_a_model_0_19 17 rfl
theorem dX10_deed_34 : decode cX10_deed 34 = .ok (.ireturn, 1) := dcs_at ok21_a_model_0_19 18 rfl
theorem dX10_deed_35 : decode cX10_deed 35 = .ok (.iload_n 2, 1) := dcs_at ok21_a_model_0_19 19 rfl
theorem dX10_deed_36 : decode cX10_deed 36 = .ok (.iconst 0, 1) := dcs_at ok21_a_model_0_19 20 rfl
theorem dX10_deed_37 : decode cX10_deed 37 = .ok (.aload_n 0, 1) := dcs_at ok21_a_model_0_19 21 rfl
theorem dX10_deed_38 : decode cX10_deed 38 = .ok (.invokevirtual 252, 3) := dcs_at ok21_a_model_0_19 22 rfl
theorem dX10_deed_41 : decode cX10_deed 41 = .ok (.iconst 1, 1) := dcs_at ok21_a_model_0_19 23 rfl
theorem dX10_deed_42 : decode cX10_deed 42 = .ok (.isub, 1) := dcs_at ok21_a_model_0_19 24 rfl
theorem dX10_deed_43 : decode cX10_deed 43 = .ok (.invokestatic 92, 3) := dcs_at ok21_a_model_0_19 25 rfl
theorem dX10_deed_46 : decode cX10_deed 46 = .ok (.ifCond .eq 21, 3) := dcs_at ok21_a_model_0_19 26 rfl
theorem dX10_deed_49 : decode cX10_deed 49 = .ok (.iload_n 3, 1) := dcs_at ok21_a_model_0_19 27 rfl
theorem dX10_deed_50 : decode cX10_deed 50 = .ok (.iconst 0, 1) := dcs_at ok21_a_model_0_19 28 rfl
theorem dX10_deed_51 : decode cX10_deed 51 = .ok (.iconst 3, 1) := dcs_at ok21_a_model_0_19 29 rfl
theorem dX10_deed_52 : decode cX10_deed 52 = .ok (.invokestatic 92, 3) := dcs_at ok21_a_model_0_19 30 rfl
theorem dX10_deed_55 : decode cX10_deed 55 = .ok (.ifCond .eq 12, 3) := dcs_at ok21_a_model_0_19 31 rfl
theorem dX10_deed_58 : decode cX10_deed 58 = .ok (.aload_n 0, 1) := dcs_at ok21_a_model_0_19 32 rfl
theorem dX10_deed_59 : decode cX10_deed 59 = .ok (.iload_n 2, 1) := dcs_at ok21_a_model_0_19 33 rfl
theorem dX10_deed_60 : decode cX10_deed 60 = .ok (.iload_n 3, 1) := dcs_at ok21_a_model_0_19 34 rfl
theorem dX10_deed_61 : decode cX10_deed 61 = .ok (.invokevirtual 255, 3) := dcs_at ok21_a_model_0_19 35 rfl
theorem dX10_deed_64 : decode cX10_deed 64 = .ok (.goto 5, 3) := dcs_at ok21_a_model_0_19 36 rfl
theorem dX10_deed_67 : decode cX10_deed 67 = .ok (.bipush (-2), 2) := dcs_at ok21_a_model_0_19 37 rfl
theorem dX10_deed_69 : decode cX10_deed 69 = .ok (.ireturn, 1) := dcs_at ok21_a_model_0_19 38 rfl
def tb21_a_model_0_20 : List (Nat × (Instr × Nat)) := [(0, (.aload_n 0, 1)), (1, (.aload_n 0, 1)), (2, (.iconst 3, 1)), (3, (.invokevirtual 224, 3)), (6, (.putfield 258, 3)), (9, (.aload_n 0, 1)), (10, (.iconst 0, 1)), (11, (.putfield 261, 3)), (14, (.aload_n 0, 1)), (15, (.iconst 0, 1)), (16, (.putfield 264, 3)), (19, (.aload_n 0, 1)), (20, (.iconst 1, 1)), (21, (.aload_n 0, 1)), (22, (.getfield 231, 3)), (25, (.ishl, 1)), (26, (.iconst 1, 1)), (27, (.isub, 1)), (28, (.putfield 267, 3)), (31, (.aload_n 0, 1)), (32, (.iconst 0, 1)), (33, (.putfield 270, 3)), (36, (.aload_n 0, 1)), (37, (.iconst (-1), 1)), (38, (.putfield 273, 3)), (41, (.aload_n 0, 1)), (42, (.invokevirtual 276, 3)), (45, (.iconst 0, 1)), (46, (.istore_n 1, 1)), (47, (.iload_n 1, 1)), (48, (.bipush 25, 2)), (50, (.if_icmp .ge 16, 3)), (53, (.aload_n 0, 1)), (54, (.getfield 44, 3)), (57, (.iload_n 1, 1)), (58, (.iconst 0, 1)), (59, (.iastore, 1)), (60, (.iinc 1 1, 3)), (63, (.goto (-16), 3)), (66, (.iconst 0, 1))]
theorem ok21_a_model_0_20 : dcs cX10_begin tb21_a_model_0_20 = true := by decide +kernel
theorem dX10_begin_0 : decode cX10_begin 0 = .ok (.aload_n 0, 1) := dcs_at ok21_a_model_0_20 0 rfl
theorem dX10_begin_1 : decode cX10_begin 1 = .ok (.aload_n 0, 1) := dcs_at ok21_a_model_0_20 1 rfl
theorem dX10_begin_2 : decode cX10_begin 2 = .ok (.iconst 3, 1) := dcs_at ok21_a_model_0_20 2 rfl
theorem dX10_begin_3 : decode cX10_begin 3 = .ok (.invokevirtual 224, 3) := dcs_at ok21_a_model_0_20 3 rfl
theorem dX10_begin_6 : decode cX10_begin 6 = .ok (.putfield 258, 3) := dcs_at ok21_a_model_0_20 4 rfl
theorem dX10_begin_9 : decode cX10_begin 9 = .ok (.aload_n 0, 1) := dcs_at ok21_a_model_0_20 5 rfl
theorem dX10_begin_10 : decode cX10_begin 10 = .ok (.iconst 0, 1) := dcs_at ok21_a_model_0_20 6 rfl
theorem dX10_begin_11 : decode cX10_begin 11 = .ok (.putfield 261, 3) := dcs_at ok21_a_model_0_20 7 rfl
theorem dX10_begin_14 : decode cX10_begin 14 = .ok (.aload_n 0, 1) := dcs_at ok21_a_model_0_20 8 rfl
theorem dX10_begin_15 : decode cX10_begin 15 = .ok (.iconst 0, 1) := dcs_at ok21_a_model_0_20 9 rfl
theorem dX10_begin_16 : decode cX10_begin 16 = .ok (.putfield 264, 3) := dcs_at ok21_a_model_0_20 10 rfl
theorem dX10_begin_19 : decode cX10_begin 19 = .ok (.aload_n 0, 1) := dcs_at ok21_a_model_0_20 11 rfl
theorem dX10_begin_20 : decode cX10_begin 20 = .ok (.iconst 1, 1) := dcs_at ok21_a_model_0_20 12 rfl
theorem dX10_begin_21 : decode cX10_begin 21 = .ok (.aload_n 0, 1) := dcs_at ok21_a_model_0_20 13 rfl
theorem dX10_begin_22 : decode cX10_begin 22 = .ok (.getfield 231, 3) := dcs_at ok21_a_model_0_20 14 rfl
theorem dX10_begin_25 : decode cX10_begin 25 = .ok (.ishl, 1) := dcs_at ok21_a_model_0_20 15 rfl
theorem dX10_begin_26 : decode cX10_begin 26 = .ok (.iconst 1, 1) := dcs_at ok21_a_model_0_20 16 rfl
theorem dX10_begin_27 : decode cX10_begin 27 = .ok (.isub, 1) := dcs_at ok21_a_model_0_20 17 rfl
theorem dX10_begin_28 : decode cX10_begin 28 = .ok (.putfield 267, 3) := dcs_at ok21_a_model_0_20 18 rfl
theorem dX10_begin_31 : decode cX10_begin 31 = .ok (.aload_n 0, 1) := dcs_at ok21_a_model_0_20 19 rfl
theorem dX10_begin_32 : decode cX10_begin 32 = .ok (.iconst 0, 1) := dcs_at ok21_a_model_0_20 20 rfl
theorem dX10_begin_33 : decode cX10_begin 33 = .ok (.putfield 270, 3) := dcs_at ok21_a_model_0_20 21 rfl
theorem dX10_begin_36 : decode cX10_begin 36 = .ok (.aload_n 0, 1) := dcs_at ok21_a_model_0_20 22 rfl
theorem dX10_begin_37 : decode cX10_begin 37 = .ok (.iconst (-1), 1) := dcs_at ok21_a_model_0_20 23 rfl
theorem dX10_begin_38 : decode cX10_begin 38 = .ok (.putfield 273, 3) := dcs_at ok21_a_model_0_20 24 rfl
theorem dX10_begin_41 : decode cX10_begin 41 = .ok (.aload_n 0, 1) := dcs_at ok21_a_model_0_20 25 rfl
theorem dX10_begin_42 : decode cX10_begin 42 = .ok (.invokevirtual 276, 3) := dcs_at ok21_a_model_0_20 26 rfl
theorem dX10_begin_45 : decode cX10_begin 45 = .ok (.iconst 0, 1) := dcs_at ok21_a_model_0_20 27 rfl
theorem dX10_begin_46 : decode cX10_begin 46 = .ok (.istore_n 1, 1) := dcs_at ok21_a_model_0_20 28 rfl
theorem dX10_begin_47 : decode cX10_begin 47 = .ok (.iload_n 1, 1) := dcs_at ok21_a_model_0_20 29 rfl
theorem dX10_begin_48 : decode cX10_begin 48 = .ok (.bipush 25, 2) := dcs_at ok21_a_model_0_20 30 rfl
theorem dX10_begin_50 : decode cX10_begin 50 = .ok (.if_icmp .ge 16, 3) := dcs_at ok21_a_model_0_20 31 rfl
theorem dX10_begin_53 : decode cX10_begin 53 = .ok (.aload_n 0, 1) := dcs_at ok21_a_model_0_20 32 rfl
theorem dX10_begin_54 : decode cX10_begin 54 = .ok (.getfield 44, 3) := dcs_at ok21_a_model_0_20 33 rfl
theorem dX10_begin_57 : decode cX10_begin 57 = .ok (.iload_n 1, 1) := dcs_at ok21_a_model_0_20 34 rfl
theorem dX10_begin_58 : decode cX10_begin 58 = .ok (.iconst 0, 1) := dcs_at ok21_a_model_0_20 35 rfl
theorem dX10_begin_59 : decode cX10_begin 59 = .ok (.iastore, 1) := dcs_at ok21_a_model_0_20 36 rfl
theorem dX10_begin_60 : decode cX10_begin 60 = .ok (.iinc 1 1, 3) := dcs_at ok21_a_model_0_20 37 rfl
theorem dX10_begin_63 : decode cX10_begin 63 = .ok (.goto (-16), 3) := dcs_at ok21_a_model_0_20 38 rfl
theorem dX10_begin_66 : decode cX10_begin 66 = .ok (.iconst 0, 1) := dcs_at ok21_a_model_0_20 39 rfl
def tb21_a_model_0_21 : List (Nat × (Instr × Nat)) := [(67, (.istore_n 1, 1)), (68, (.iload_n 1, 1)), (69, (.bipush 30, 2)), (71, (.if_icmp .ge 16, 3)), (74, (.aload_n 0, 1)), (75, (.getfield 47, 3)), (78, (.iload_n 1, 1)), (79, (.iconst 0, 1)), (80, (.iastore, 1)), (81, (.iinc 1 1, 3)), (84, (.goto (-16), 3)), (87, (.iconst 0, 1)), (88, (.istore_n 1, 1)), (89, (.iload_n 1, 1)), (90, (.bipush 6, 2)), (92, (.if_icmp .ge 53, 3)), (95, (.aload_n 0, 1)), (96, (.getfield 50, 3)), (99, (.iload_n 1, 1)), (100, (.iload_n 1, 1)), (101, (.aload_n 0, 1)), (102, (.getfield 231, 3)), (105, (.if_icmp .ge 18, 3)), (108, (.aload_n 0, 1)), (109, (.bipush 16, 2)), (111, (.iconst 2, 1)), (112, (.iload_n 1, 1)), (113, (.imul, 1)), (114, (.iadd, 1)), (115, (.iconst 1, 1)), (116, (.iadd, 1)), (117, (.invokevirtual 224, 3)), (120, (.goto 4, 3)), (123, (.iconst 0, 1)), (124, (.iastore, 1)), (125, (.aload_n 0, 1)), (126, (.getfield 53, 3)), (129, (.iload_n 1, 1)), (130, (.iconst 0, 1)), (131, (.iastore, 1))]
theorem ok21_a_model_0_21 : dcs cX10_begin tb21_a_model_0_21 = true := by decide +kernel
theorem dX10_begin_67 : decode cX10_begin 67 = .ok (.istore_n 1, 1) := dcs_at ok21_a_model_0_21 0 rfl
theorem dX10_begin_68 : decode cX10_begin 68 = .ok (.iload_n 1, 1) := dcs_at ok21_a_model_0_21 1 rfl
theorem dX10_begin_69 : decode cX10_begin 69 = .ok (.bipush 30, 2) := dcs_at ok21_a_model_0_21 2 rfl
theorem dX10_begin_71 : decode cX10_begin 71 = .ok (.if_icmp .ge 16, 3) := dcs_at ok21_a_model_0_21 3 rfl
theorem dX10_begin_74 : decode cX10_begin 74 = .ok (.aload_n 0, 1) := dcs_at ok21_a_model_0_21 4 rfl
theorem dX10_begin_75 : decode cX10_begin 75 = .ok (.getfield 47, 3) := dcs_at ok21_a_model_0_21 5 rfl
theorem dX10_begin_78 : decode cX10_begin 78 = .ok (.iload_n 1, 1) := dcs_at ok21_a_model_0_21 6 rfl
theorem dX10_begin_79 : decode cX10_begin 79 = .ok (.iconst 0, 1) := dcs_at ok21_a_model_0_21 7 rfl
theorem dX10_begin_80 : decode cX10_begin 80 = .ok (.iastore, 1) := dcs_at ok21_a_model_0_21 8 rfl
theorem dX10_begin_81 : decode cX10_begin 81 = .ok (.iinc 1 1, 3) := dcs_at ok21_a_model_0_21 9 rfl
theorem dX10_begin_84 : decode cX10_begin 84 = .ok (.goto (-16), 3) := dcs_at ok21_a_model_0_21 10 rfl
theorem dX10_begin_87 : decode cX10_begin 87 = .ok (.iconst 0, 1) := dcs_at ok21_a_model_0_21 11 rfl
theorem dX10_begin_88 : decode cX10_begin 88 = .ok (.istore_n 1, 1) := dcs_at ok21_a_model_0_21 12 rfl
theorem dX10_begin_89 : decode cX10_begin 89 = .ok (.iload_n 1, 1) := dcs_at ok21_a_model_0_21 13 rfl
theorem dX10_begin_90 : decode cX10_begin 90 = .ok (.bipush 6, 2) := dcs_at ok21_a_model_0_21 14 rfl
theorem dX10_begin_92 : decode cX10_begin 92 = .ok (.if_icmp .ge 53, 3) := dcs_at ok21_a_model_0_21 15 rfl
theorem dX10_begin_95 : decode cX10_begin 95 = .ok (.aload_n 0, 1) := dcs_at ok21_a_model_0_21 16 rfl
theorem dX10_begin_96 : decode cX10_begin 96 = .ok (.getfield 50, 3) := dcs_at ok21_a_model_0_21 17 rfl
theorem dX10_begin_99 : decode cX10_begin 99 = .ok (.iload_n 1, 1) := dcs_at ok21_a_model_0_21 18 rfl
theorem dX10_begin_100 : decode cX10_begin 100 = .ok (.iload_n 1, 1) := dcs_at ok21_a_model_0_21 19 rfl
theorem dX10_begin_101 : decode cX10_begin 101 = .ok (.aload_n 0, 1) := dcs_at ok21_a_model_0_21 20 rfl
theorem dX10_begin_102 : decode cX10_begin 102 = .ok (.getfield 231, 3) := dcs_at ok21_a_model_0_21 21 rfl
theorem dX10_begin_105 : decode cX10_begin 105 = .ok (.if_icmp .ge 18, 3) := dcs_at ok21_a_model_0_21 22 rfl
theorem dX10_begin_108 : decode cX10_begin 108 = .ok (.aload_n 0, 1) := dcs_at ok21_a_model_0_21 23 rfl
theorem dX10_begin_109 : decode cX10_begin 109 = .ok (.bipush 16, 2) := dcs_at ok21_a_model_0_21 24 rfl
theorem dX10_begin_111 : decode cX10_begin 111 = .ok (.iconst 2, 1) := dcs_at ok21_a_model_0_21 25 rfl
theorem dX10_begin_112 : decode cX10_begin 112 = .ok (.iload_n 1, 1) := dcs_at ok21_a_model_0_21 26 rfl
theorem dX10_begin_113 : decode cX10_begin 113 = .ok (.imul, 1) := dcs_at ok21_a_model_0_21 27 rfl
theorem dX10_begin_114 : decode cX10_begin 114 = .ok (.iadd, 1) := dcs_at ok21_a_model_0_21 28 rfl
theorem dX10_begin_115 : decode cX10_begin 115 = .ok (.iconst 1, 1) := dcs_at ok21_a_model_0_21 29 rfl
theorem dX10_begin_116 : decode cX10_begin 116 = .ok (.iadd, 1) := dcs_at ok21_a_model_0_21 30 rfl
theorem dX10_begin_117 : decode cX10_begin 117 = .ok (.invokevirtual 224, 3) := dcs_at ok21_a_model_0_21 31 rfl
theorem dX10_begin_120 : decode cX10_begin 120 = .ok (.goto 4, 3) := dcs_at ok21_a_model_0_21 32 rfl
theorem dX10_begin_123 : decode cX10_begin 123 = .ok (.iconst 0, 1) := dcs_at ok21_a_model_0_21 33 rfl
theorem dX10_begin_124 : decode cX10_begin 124 = .ok (.iastore, 1) := dcs_at ok21_a_model_0_21 34 rfl
theorem dX10_begin_125 : decode cX10_begin 125 = .ok (.aload_n 0, 1) := dcs_at ok21_a_model_0_21 35 rfl
theorem dX10_begin_126 : decode cX10_begin 126 = .ok (.getfield 53, 3) := dcs_at ok21_a_model_0_21 36 rfl
theorem dX10_begin_129 : decode cX10_begin 129 = .ok (.iload_n 1, 1) := dcs_at ok21_a_model_0_21 37 rfl
theorem dX10_begin_130 : decode cX10_begin 130 = .ok (.iconst 0, 1) := dcs_at ok21_a_model_0_21 38 rfl
theorem dX10_begin_131 : decode cX10_begin 131 = .ok (.iastore, 1) := dcs_at ok21_a_model_0_21 39 rfl
def tb21_a_model_0_22 : List (Nat × (Instr × Nat)) := [(132, (.aload_n 0, 1)), (133, (.getfield 56, 3)), (136, (.iload_n 1, 1)), (137, (.iconst (-1), 1)), (138, (.iastore, 1)), (139, (.iinc 1 1, 3)), (142, (.goto (-53), 3)), (145, (.return_, 1))]
theorem ok21_a_model_0_22 : dcs cX10_begin tb21_a_model_0_22 = true := by decide +kernel
theorem dX10_begin_132 : decode cX10_begin 132 = .ok (.aload_n 0, 1) := dcs_at ok21_a_model_0_22 0 rfl
theorem dX10_begin_133 : decode cX10_begin 133 = .ok (.getfield 56, 3) := dcs_at ok21_a_model_0_22 1 rfl
theorem dX10_begin_136 : decode cX10_begin 136 = .ok (.iload_n 1, 1) := dcs_at ok21_a_model_0_22 2 rfl
theorem dX10_begin_137 : decode cX10_begin 137 = .ok (.iconst (-1), 1) := dcs_at ok21_a_model_0_22 3 rfl
theorem dX10_begin_138 : decode cX10_begin 138 = .ok (.iastore, 1) := dcs_at ok21_a_model_0_22 4 rfl
theorem dX10_begin_139 : decode cX10_begin 139 = .ok (.iinc 1 1, 3) := dcs_at ok21_a_model_0_22 5 rfl
theorem dX10_begin_142 : decode cX10_begin 142 = .ok (.goto (-53), 3) := dcs_at ok21_a_model_0_22 6 rfl
theorem dX10_begin_145 : decode cX10_begin 145 = .ok (.return_, 1) := dcs_at ok21_a_model_0_22 7 rfl
def tb21_a_model_0_23 : List (Nat × (Instr × Nat)) := [(0, (.iconst 0, 1)), (1, (.istore_n 1, 1)), (2, (.iload_n 1, 1)), (3, (.aload_n 0, 1)), (4, (.getfield 228, 3)), (7, (.if_icmp .ge 25, 3)), (10, (.aload_n 0, 1)), (11, (.getfield 41, 3)), (14, (.iload_n 1, 1)), (15, (.aload_n 0, 1)), (16, (.bipush 6, 2)), (18, (.iconst 2, 1)), (19, (.iload_n 1, 1)), (20, (.imul, 1)), (21, (.iadd, 1)), (22, (.invokevirtual 224, 3)), (25, (.iastore, 1)), (26, (.iinc 1 1, 3)), (29, (.goto (-27), 3)), (32, (.aload_n 0, 1)), (33, (.iconst 0, 1)), (34, (.putfield 279, 3)), (37, (.return_, 1))]
theorem ok21_a_model_0_23 : dcs cX10_morning tb21_a_model_0_23 = true := by decide +kernel
theorem dX10_morning_0 : decode cX10_morning 0 = .ok (.iconst 0, 1) := dcs_at ok21_a_model_0_23 0 rfl
theorem dX10_morning_1 : decode cX10_morning 1 = .ok (.istore_n 1, 1) := dcs_at ok21_a_model_0_23 1 rfl
theorem dX10_morning_2 : decode cX10_morning 2 = .ok (.iload_n 1, 1) := dcs_at ok21_a_model_0_23 2 rfl
theorem dX10_morning_3 : decode cX10_morning 3 = .ok (.aload_n 0, 1) := dcs_at ok21_a_model_0_23 3 rfl
theorem dX10_morning_4 : decode cX10_morning 4 = .ok (.getfield 228, 3) := dcs_at ok21_a_model_0_23 4 rfl
theorem dX10_morning_7 : decode cX10_morning 7 = .ok (.if_icmp .ge 25, 3) := dcs_at ok21_a_model_0_23 5 rfl
theorem dX10_morning_10 : decode cX10_morning 10 = .ok (.aload_n 0, 1) := dcs_at ok21_a_model_0_23 6 rfl
theorem dX10_morning_11 : decode cX10_morning 11 = .ok (.getfield 41, 3) := dcs_at ok21_a_model_0_23 7 rfl
theorem dX10_morning_14 : decode cX10_morning 14 = .ok (.iload_n 1, 1) := dcs_at ok21_a_model_0_23 8 rfl
theorem dX10_morning_15 : decode cX10_morning 15 = .ok (.aload_n 0, 1) := dcs_at ok21_a_model_0_23 9 rfl
theorem dX10_morning_16 : decode cX10_morning 16 = .ok (.bipush 6, 2) := dcs_at ok21_a_model_0_23 10 rfl
theorem dX10_morning_18 : decode cX10_morning 18 = .ok (.iconst 2, 1) := dcs_at ok21_a_model_0_23 11 rfl
theorem dX10_morning_19 : decode cX10_morning 19 = .ok (.iload_n 1, 1) := dcs_at ok21_a_model_0_23 12 rfl
theorem dX10_morning_20 : decode cX10_morning 20 = .ok (.imul, 1) := dcs_at ok21_a_model_0_23 13 rfl
theorem dX10_morning_21 : decode cX10_morning 21 = .ok (.iadd, 1) := dcs_at ok21_a_model_0_23 14 rfl
theorem dX10_morning_22 : decode cX10_morning 22 = .ok (.invokevirtual 224, 3) := dcs_at ok21_a_model_0_23 15 rfl
theorem dX10_morning_25 : decode cX10_morning 25 = .ok (.iastore, 1) := dcs_at ok21_a_model_0_23 16 rfl
theorem dX10_morning_26 : decode cX10_morning 26 = .ok (.iinc 1 1, 3) := dcs_at ok21_a_model_0_23 17 rfl
theorem dX10_morning_29 : decode cX10_morning 29 = .ok (.goto (-27), 3) := dcs_at ok21_a_model_0_23 18 rfl
theorem dX10_morning_32 : decode cX10_morning 32 = .ok (.aload_n 0, 1) := dcs_at ok21_a_model_0_23 19 rfl
theorem dX10_morning_33 : decode cX10_morning 33 = .ok (.iconst 0, 1) := dcs_at ok21_a_model_0_23 20 rfl
theorem dX10_morning_34 : decode cX10_morning 34 = .ok (.putfield 279, 3) := dcs_at ok21_a_model_0_23 21 rfl
theorem dX10_morning_37 : decode cX10_morning 37 = .ok (.return_, 1) := dcs_at ok21_a_model_0_23 22 rfl
def tb21_a_model_0_24 : List (Nat × (Instr × Nat)) := [(0, (.aload_n 0, 1)), (1, (.iload_n 1, 1)), (2, (.invokevirtual 243, 3)), (5, (.ifCond .eq 18, 3)), (8, (.aload_n 0, 1)), (9, (.getfield 267, 3)), (12, (.iload_n 1, 1)), (13, (.invokestatic 84, 3)), (16, (.ifCond .eq 7, 3)), (19, (.iconst 1, 1)), (20, (.goto 4, 3)), (23, (.iconst 0, 1)), (24, (.ireturn, 1))]
theorem ok21_a_model_0_24 : dcs cX10_isLiving tb21_a_model_0_24 = true := by decide +kernel
theorem dX10_isLiving_0 : decode cX10_isLiving 0 = .ok (.aload_n 0, 1) := dcs_at ok21_a_model_0_24 0 rfl
theorem dX10_isLiving_1 : decode cX10_isLiving 1 = .ok (.iload_n 1, 1) := dcs_at ok21_a_model_0_24 1 rfl
theorem dX10_isLiving_2 : decode cX10_isLiving 2 = .ok (.invokevirtual 243, 3) := dcs_at ok21_a_model_0_24 2 rfl
theorem dX10_isLiving_5 : decode cX10_isLiving 5 = .ok (.ifCond .eq 18, 3) := dcs_at ok21_a_model_0_24 3 rfl
theorem dX10_isLiving_8 : decode cX10_isLiving 8 = .ok (.aload_n 0, 1) := dcs_at ok21_a_model_0_24 4 rfl
theorem dX10_isLiving_9 : decode cX10_isLiving 9 = .ok (.getfield 267, 3) := dcs_at ok21_a_model_0_24 5 rfl
theorem dX10_isLiving_12 : decode cX10_isLiving 12 = .ok (.iload_n 1, 1) := dcs_at ok21_a_model_0_24 6 rfl
theorem dX10_isLiving_13 : decode cX10_isLiving 13 = .ok (.invokestatic 84, 3) := dcs_at ok21_a_model_0_24 7 rfl
theorem dX10_isLiving_16 : decode cX10_isLiving 16 = .ok (.ifCond .eq 7, 3) := dcs_at ok21_a_model_0_24 8 rfl
theorem dX10_isLiving_19 : decode cX10_isLiving 19 = .ok (.iconst 1, 1) := dcs_at ok21_a_model_0_24 9 rfl
theorem dX10_isLiving_20 : decode cX10_isLiving 20 = .ok (.goto 4, 3) := dcs_at ok21_a_model_0_24 10 rfl
theorem dX10_isLiving_23 : decode cX10_isLiving 23 = .ok (.iconst 0, 1) := dcs_at ok21_a_model_0_24 11 rfl
theorem dX10_isLiving_24 : decode cX10_isLiving 24 = .ok (.ireturn, 1) := dcs_at ok21_a_model_0_24 12 rfl
def tb21_a_model_0_25 : List (Nat × (Instr × Nat)) := [(0, (.aload_n 0, 1)), (1, (.iload_n 1, 1)), (2, (.invokevirtual 282, 3)), (5, (.aload_n 0, 1)), (6, (.iload_n 1, 1)), (7, (.invokevirtual 282, 3)), (10, (.aload_n 0, 1)), (11, (.getfield 261, 3)), (14, (.iload_n 2, 1)), (15, (.iadd, 1)), (16, (.imul, 1)), (17, (.bipush 10, 2)), (19, (.idiv, 1)), (20, (.iadd, 1)), (21, (.ireturn, 1))]
theorem ok21_a_model_0_25 : dcs cX10_eats tb21_a_model_0_25 = true := by decide +kernel
theorem dX10_eats_0 : decode cX10_eats 0 = .ok (.aload_n 0, 1) := dcs_at ok21_a_model_0_25 0 rfl
theorem dX10_eats_1 : decode cX10_eats 1 = .ok (.iload_n 1, 1) := dcs_at ok21_a_model_0_25 1 rfl
theorem dX10_eats_2 : decode cX10_eats 2 = .ok (.invokevirtual 282, 3) := dcs_at ok21_a_model_0_25 2 rfl
theorem dX10_eats_5 : decode cX10_eats 5 = .ok (.aload_n 0, 1) := dcs_at ok21_a_model_0_25 3 rfl
theorem dX10_eats_6 : decode cX10_eats 6 = .ok (.iload_n 1, 1) := dcs_at ok21_a_model_0_25 4 rfl
theorem dX10_eats_7 : decode cX10_eats 7 = .ok (.invokevirtual 282, 3) := dcs_at ok21_a_model_0_25 5 rfl
theorem dX10_eats_10 : decode cX10_eats 10 = .ok (.aload_n 0, 1) := dcs_at ok21_a_model_0_25 6 rfl
theorem dX10_eats_11 : decode cX10_eats 11 = .ok (.getfield 261, 3) := dcs_at ok21_a_model_0_25 7 rfl
theorem dX10_eats_14 : decode cX10_eats 14 = .ok (.iload_n 2, 1) := dcs_at ok21_a_model_0_25 8 rfl
theorem dX10_eats_15 : decode cX10_eats 15 = .ok (.iadd, 1) := dcs_at ok21_a_model_0_25 9 rfl
theorem dX10_eats_16 : decode cX10_eats 16 = .ok (.imul, 1) := dcs_at ok21_a_model_0_25 10 rfl
theorem dX10_eats_17 : decode cX10_eats 17 = .ok (.bipush 10, 2) := dcs_at ok21_a_model_0_25 11 rfl
theorem dX10_eats_19 : decode cX10_eats 19 = .ok (.idiv, 1) := dcs_at ok21_a_model_0_25 12 rfl
theorem dX10_eats_20 : decode cX10_eats 20 = .ok (.iadd, 1) := dcs_at ok21_a_model_0_25 13 rfl
theorem dX10_eats_21 : decode cX10_eats 21 = .ok (.ireturn, 1) := dcs_at ok21_a_model_0_25 14 rfl
def tb21_a_model_0_26 : List (Nat × (Instr × Nat)) := [(0, (.aload_n 0, 1)), (1, (.getfield 50, 3)), (4, (.iload_n 1, 1)), (5, (.dup2, 1)), (6, (.iaload, 1)), (7, (.iload_n 2, 1)), (8, (.iadd, 1)), (9, (.iastore, 1)), (10, (.aload_n 0, 1)), (11, (.dup, 1)), (12, (.getfield 258, 3)), (15, (.iload_n 2, 1)), (16, (.iadd, 1)), (17, (.putfield 258, 3)), (20, (.return_, 1))]
theorem ok21_a_model_0_26 : dcs cX10_gets tb21_a_model_0_26 = true := by decide +kernel
theorem dX10_gets_0 : decode cX10_gets 0 = .ok (.aload_n 0, 1) := dcs_at ok21_a_model_0_26 0 rfl
theorem dX10_gets_1 : decode cX10_gets 1 = .ok (.getfield 50, 3) := dcs_at ok21_a_model_0_26 1 rfl
theorem dX10_gets_4 : decode cX10_gets 4 = .ok (.iload_n 1, 1) := dcs_at ok21_a_model_0_26 2 rfl
theorem dX10_gets_5 : decode cX10_gets 5 = .ok (.dup2, 1) := dcs_at ok21_a_model_0_26 3 rfl
theorem dX10_gets_6 : decode cX10_gets 6 = .ok (.iaload, 1) := dcs_at ok21_a_model_0_26 4 rfl
theorem dX10_gets_7 : decode cX10_gets 7 = .ok (.iload_n 2, 1) := dcs_at ok21_a_model_0_26 5 rfl
theorem dX10_gets_8 : decode cX10_gets 8 = .ok (.iadd, 1) := dcs_at ok21_a_model_0_26 6 rfl
theorem dX10_gets_9 : decode cX10_gets 9 = .ok (.iastore, 1) := dcs_at ok21_a_model_0_26 7 rfl
theorem dX10_gets_10 : decode cX10_gets 10 = .ok (.aload_n 0, 1) := dcs_at ok21_a_model_0_26 8 rfl
theorem dX10_gets_11 : decode cX10_gets 11 = .ok (.dup, 1) := dcs_at ok21_a_model_0_26 9 rfl
theorem dX10_gets_12 : decode cX10_gets 12 = .ok (.getfield 258, 3) := dcs_at ok21_a_model_0_26 10 rfl
theorem dX10_gets_15 : decode cX10_gets 15 = .ok (.iload_n 2, 1) := dcs_at ok21_a_model_0_26 11 rfl
theorem dX10_gets_16 : decode cX10_gets 16 = .ok (.iadd, 1) := dcs_at ok21_a_model_0_26 12 rfl
theorem dX10_gets_17 : decode cX10_gets 17 = .ok (.putfield 258, 3) := dcs_at ok21_a_model_0_26 13 rfl
theorem dX10_gets_20 : decode cX10_gets 20 = .ok (.return_, 1) := dcs_at ok21_a_model_0_26 14 rfl
