def tb25_copies_0_1 : List (Nat × (Instr × Nat)) := [(0, (.iconst 0, 1)), (1, (.istore 4, 2)), (3, (.iload 4, 2)), (5, (.iload_n 1, 1)), (6, (.if_icmp .ge 25, 3)), (9, (.aload_n 0, 1)), (10, (.iload_n 1, 1)), (11, (.iload_n 3, 1)), (12, (.imul, 1)), (13, (.iload 4, 2)), (15, (.iadd, 1)), (16, (.aload_n 0, 1)), (17, (.iload_n 1, 1)), (18, (.iload_n 2, 1)), (19, (.imul, 1)), (20, (.iload 4, 2)), (22, (.iadd, 1)), (23, (.iaload, 1)), (24, (.iastore, 1)), (25, (.iinc 4 1, 3)), (28, (.goto (-25), 3)), (31, (.return_, 1))]
theorem ok25_copies_0_1 : dcs cX10_copyRow tb25_copies_0_1 = true := by decide +kernel
theorem dX10_copyRow_0 : decode cX10_copyRow 0 = .ok (.iconst 0, 1) := dcs_at ok25_copies_0_1 0 rfl
theorem dX10_copyRow_1 : decode cX10_copyRow 1 = .ok (.istore 4, 2) := dcs_at ok25_copies_0_1 1 rfl
theorem dX10_copyRow_3 : decode cX10_copyRow 3 = .ok (.iload 4, 2) := dcs_at ok25_copies_0_1 2 rfl
theorem dX10_copyRow_5 : decode cX10_copyRow 5 = .ok (.iload_n 1, 1) := dcs_at ok25_copies_0_1 3 rfl
theorem dX10_copyRow_6 : decode cX10_copyRow 6 = .ok (.if_icmp .ge 25, 3) := dcs_at ok25_copies_0_1 4 rfl
theorem dX10_copyRow_9 : decode cX10_copyRow 9 = .ok (.aload_n 0, 1) := dcs_at ok25_copies_0_1 5 rfl
theorem dX10_copyRow_10 : decode cX10_copyRow 10 = .ok (.iload_n 1, 1) := dcs_at ok25_copies_0_1 6 rfl
theorem dX10_copyRow_11 : decode cX10_copyRow 11 = .ok (.iload_n 3, 1) := dcs_at ok25_copies_0_1 7 rfl
theorem dX10_copyRow_12 : decode cX10_copyRow 12 = .ok (.imul, 1) := dcs_at ok25_copies_0_1 8 rfl
theorem dX10_copyRow_13 : decode cX10_copyRow 13 = .ok (.iload 4, 2) := dcs_at ok25_copies_0_1 9 rfl
theorem dX10_copyRow_15 : decode cX10_copyRow 15 = .ok (.iadd, 1) := dcs_at ok25_copies_0_1 10 rfl
theorem dX10_copyRow_16 : decode cX10_copyRow 16 = .ok (.aload_n 0, 1) := dcs_at ok25_copies_0_1 11 rfl
theorem dX10_copyRow_17 : decode cX10_copyRow 17 = .ok (.iload_n 1, 1) := dcs_at ok25_copies_0_1 12 rfl
theorem dX10_copyRow_18 : decode cX10_copyRow 18 = .ok (.iload_n 2, 1) := dcs_at ok25_copies_0_1 13 rfl
theorem dX10_copyRow_19 : decode cX10_copyRow 19 = .ok (.imul, 1) := dcs_at ok25_copies_0_1 14 rfl
theorem dX10_copyRow_20 : decode cX10_copyRow 20 = .ok (.iload 4, 2) := dcs_at ok25_copies_0_1 15 rfl
theorem dX10_copyRow_22 : decode cX10_copyRow 22 = .ok (.iadd, 1) := dcs_at ok25_copies_0_1 16 rfl
theorem dX10_copyRow_23 : decode cX10_copyRow 23 = .ok (.iaload, 1) := dcs_at ok25_copies_0_1 17 rfl
theorem dX10_copyRow_24 : decode cX10_copyRow 24 = .ok (.iastore, 1) := dcs_at ok25_copies_0_1 18 rfl
theorem dX10_copyRow_25 : decode cX10_copyRow 25 = .ok (.iinc 4 1, 3) := dcs_at ok25_copies_0_1 19 rfl
theorem dX10_copyRow_28 : decode cX10_copyRow 28 = .ok (.goto (-25), 3) := dcs_at ok25_copies_0_1 20 rfl
theorem dX10_copyRow_31 : decode cX10_copyRow 31 = .ok (.return_, 1) := dcs_at ok25_copies_0_1 21 rfl
def tb25_copies_0_2 : List (Nat × (Instr × Nat)) := [(0, (.iconst 0, 1)), (1, (.istore_n 3, 1)), (2, (.iload_n 3, 1)), (3, (.sipush 600, 3)), (6, (.if_icmp .ge 33, 3)), (9, (.aload_n 0, 1)), (10, (.getfield 7, 3)), (13, (.sipush 600, 3)), (16, (.iload_n 2, 1)), (17, (.imul, 1)), (18, (.iload_n 3, 1)), (19, (.iadd, 1)), (20, (.aload_n 0, 1)), (21, (.getfield 7, 3)), (24, (.sipush 600, 3)), (27, (.iload_n 1, 1)), (28, (.imul, 1)), (29, (.iload_n 3, 1)), (30, (.iadd, 1)), (31, (.baload, 1)), (32, (.bastore, 1)), (33, (.iinc 3 1, 3)), (36, (.goto (-34), 3)), (39, (.aload_n 0, 1)), (40, (.getfield 13, 3)), (43, (.iconst 1, 1)), (44, (.iload_n 1, 1)), (45, (.iload_n 2, 1)), (46, (.invokestatic 88, 3)), (49, (.aload_n 0, 1)), (50, (.getfield 17, 3)), (53, (.iconst 1, 1)), (54, (.iload_n 1, 1)), (55, (.iload_n 2, 1)), (56, (.invokestatic 88, 3)), (59, (.aload_n 0, 1)), (60, (.getfield 20, 3)), (63, (.iconst 1, 1)), (64, (.iload_n 1, 1)), (65, (.iload_n 2, 1))]
theorem ok25_copies_0_2 : dcs cX10_copyAll tb25_copies_0_2 = true := by decide +kernel
theorem dX10_copyAll_0 : decode cX10_copyAll 0 = .ok (.iconst 0, 1) := dcs_at ok25_copies_0_2 0 rfl
theorem dX10_copyAll_1 : decode cX10_copyAll 1 = .ok (.istore_n 3, 1) := dcs_at ok25_copies_0_2 1 rfl
theorem dX10_copyAll_2 : decode cX10_copyAll 2 = .ok (.iload_n 3, 1) := dcs_at ok25_copies_0_2 2 rfl
theorem dX10_copyAll_3 : decode cX10_copyAll 3 = .ok (.sipush 600, 3) := dcs_at ok25_copies_0_2 3 rfl
theorem dX10_copyAll_6 : decode cX10_copyAll 6 = .ok (.if_icmp .ge 33, 3) := dcs_at ok25_copies_0_2 4 rfl
theorem dX10_copyAll_9 : decode cX10_copyAll 9 = .ok (.aload_n 0, 1) := dcs_at ok25_copies_0_2 5 rfl
theorem dX10_copyAll_10 : decode cX10_copyAll 10 = .ok (.getfield 7, 3) := dcs_at ok25_copies_0_2 6 rfl
theorem dX10_copyAll_13 : decode cX10_copyAll 13 = .ok (.sipush 600, 3) := dcs_at ok25_copies_0_2 7 rfl
theorem dX10_copyAll_16 : decode cX10_copyAll 16 = .ok (.iload_n 2, 1) := dcs_at ok25_copies_0_2 8 rfl
theorem dX10_copyAll_17 : decode cX10_copyAll 17 = .ok (.imul, 1) := dcs_at ok25_copies_0_2 9 rfl
theorem dX10_copyAll_18 : decode cX10_copyAll 18 = .ok (.iload_n 3, 1) := dcs_at ok25_copies_0_2 10 rfl
theorem dX10_copyAll_19 : decode cX10_copyAll 19 = .ok (.iadd, 1) := dcs_at ok25_copies_0_2 11 rfl
theorem dX10_copyAll_20 : decode cX10_copyAll 20 = .ok (.aload_n 0, 1) := dcs_at ok25_copies_0_2 12 rfl
theorem dX10_copyAll_21 : decode cX10_copyAll 21 = .ok (.getfield 7, 3) := dcs_at ok25_copies_0_2 13 rfl
theorem dX10_copyAll_24 : decode cX10_copyAll 24 = .ok (.sipush 600, 3) := dcs_at ok25_copies_0_2 14 rfl
theorem dX10_copyAll_27 : decode cX10_copyAll 27 = .ok (.iload_n 1, 1) := dcs_at ok25_copies_0_2 15 rfl
theorem dX10_copyAll_28 : decode cX10_copyAll 28 = .ok (.imul, 1) := dcs_at ok25_copies_0_2 16 rfl
theorem dX10_copyAll_29 : decode cX10_copyAll 29 = .ok (.iload_n 3, 1) := dcs_at ok25_copies_0_2 17 rfl
theorem dX10_copyAll_30 : decode cX10_copyAll 30 = .ok (.iadd, 1) := dcs_at ok25_copies_0_2 18 rfl
theorem dX10_copyAll_31 : decode cX10_copyAll 31 = .ok (.baload, 1) := dcs_at ok25_copies_0_2 19 rfl
theorem dX10_copyAll_32 : decode cX10_copyAll 32 = .ok (.bastore, 1) := dcs_at ok25_copies_0_2 20 rfl
theorem dX10_copyAll_33 : decode cX10_copyAll 33 = .ok (.iinc 3 1, 3) := dcs_at ok25_copies_0_2 21 rfl
theorem dX10_copyAll_36 : decode cX10_copyAll 36 = .ok (.goto (-34), 3) := dcs_at ok25_copies_0_2 22 rfl
theorem dX10_copyAll_39 : decode cX10_copyAll 39 = .ok (.aload_n 0, 1) := dcs_at ok25_copies_0_2 23 rfl
theorem dX10_copyAll_40 : decode cX10_copyAll 40 = .ok (.getfield 13, 3) := dcs_at ok25_copies_0_2 24 rfl
theorem dX10_copyAll_43 : decode cX10_copyAll 43 = .ok (.iconst 1, 1) := dcs_at ok25_copies_0_2 25 rfl
theorem dX10_copyAll_44 : decode cX10_copyAll 44 = .ok (.iload_n 1, 1) := dcs_at ok25_copies_0_2 26 rfl
theorem dX10_copyAll_45 : decode cX10_copyAll 45 = .ok (.iload_n 2, 1) := dcs_at ok25_copies_0_2 27 rfl
theorem dX10_copyAll_46 : decode cX10_copyAll 46 = .ok (.invokestatic 88, 3) := dcs_at ok25_copies_0_2 28 rfl
theorem dX10_copyAll_49 : decode cX10_copyAll 49 = .ok (.aload_n 0, 1) := dcs_at ok25_copies_0_2 29 rfl
theorem dX10_copyAll_50 : decode cX10_copyAll 50 = .ok (.getfield 17, 3) := dcs_at ok25_copies_0_2 30 rfl
theorem dX10_copyAll_53 : decode cX10_copyAll 53 = .ok (.iconst 1, 1) := dcs_at ok25_copies_0_2 31 rfl
theorem dX10_copyAll_54 : decode cX10_copyAll 54 = .ok (.iload_n 1, 1) := dcs_at ok25_copies_0_2 32 rfl
theorem dX10_copyAll_55 : decode cX10_copyAll 55 = .ok (.iload_n 2, 1) := dcs_at ok25_copies_0_2 33 rfl
theorem dX10_copyAll_56 : decode cX10_copyAll 56 = .ok (.invokestatic 88, 3) := dcs_at ok25_copies_0_2 34 rfl
theorem dX10_copyAll_59 : decode cX10_copyAll 59 = .ok (.aload_n 0, 1) := dcs_at ok25_copies_0_2 35 rfl
theorem dX10_copyAll_60 : decode cX10_copyAll 60 = .ok (.getfield 20, 3) := dcs_at ok25_copies_0_2 36 rfl
theorem dX10_copyAll_63 : decode cX10_copyAll 63 = .ok (.iconst 1, 1) := dcs_at ok25_copies_0_2 37 rfl
theorem dX10_copyAll_64 : decode cX10_copyAll 64 = .ok (.iload_n 1, 1) := dcs_at ok25_copies_0_2 38 rfl
theorem dX10_copyAll_65 : decode cX10_copyAll 65 = .ok (.iload_n 2, 1) := dcs_at ok25_copies_0_2 39 rfl
def tb25_copies_0_3 : List (Nat × (Instr × Nat)) := [(66, (.invokestatic 88, 3)), (69, (.aload_n 0, 1)), (70, (.getfield 23, 3)), (73, (.iconst 3, 1)), (74, (.iload_n 1, 1)), (75, (.iload_n 2, 1)), (76, (.invokestatic 88, 3)), (79, (.aload_n 0, 1)), (80, (.getfield 26, 3)), (83, (.bipush 72, 2)), (85, (.iload_n 1, 1)), (86, (.iload_n 2, 1)), (87, (.invokestatic 88, 3)), (90, (.aload_n 0, 1)), (91, (.getfield 29, 3)), (94, (.sipush 242, 3)), (97, (.iload_n 1, 1)), (98, (.iload_n 2, 1)), (99, (.invokestatic 88, 3)), (102, (.aload_n 0, 1)), (103, (.getfield 32, 3)), (106, (.bipush 14, 2)), (108, (.iload_n 1, 1)), (109, (.iload_n 2, 1)), (110, (.invokestatic 88, 3)), (113, (.return_, 1))]
theorem ok25_copies_0_3 : dcs cX10_copyAll tb25_copies_0_3 = true := by decide +kernel
theorem dX10_copyAll_66 : decode cX10_copyAll 66 = .ok (.invokestatic 88, 3) := dcs_at ok25_copies_0_3 0 rfl
theorem dX10_copyAll_69 : decode cX10_copyAll 69 = .ok (.aload_n 0, 1) := dcs_at ok25_copies_0_3 1 rfl
theorem dX10_copyAll_70 : decode cX10_copyAll 70 = .ok (.getfield 23, 3) := dcs_at ok25_copies_0_3 2 rfl
theorem dX10_copyAll_73 : decode cX10_copyAll 73 = .ok (.iconst 3, 1) := dcs_at ok25_copies_0_3 3 rfl
theorem dX10_copyAll_74 : decode cX10_copyAll 74 = .ok (.iload_n 1, 1) := dcs_at ok25_copies_0_3 4 rfl
theorem dX10_copyAll_75 : decode cX10_copyAll 75 = .ok (.iload_n 2, 1) := dcs_at ok25_copies_0_3 5 rfl
theorem dX10_copyAll_76 : decode cX10_copyAll 76 = .ok (.invokestatic 88, 3) := dcs_at ok25_copies_0_3 6 rfl
theorem dX10_copyAll_79 : decode cX10_copyAll 79 = .ok (.aload_n 0, 1) := dcs_at ok25_copies_0_3 7 rfl
theorem dX10_copyAll_80 : decode cX10_copyAll 80 = .ok (.getfield 26, 3) := dcs_at ok25_copies_0_3 8 rfl
theorem dX10_copyAll_83 : decode cX10_copyAll 83 = .ok (.bipush 72, 2) := dcs_at ok25_copies_0_3 9 rfl
theorem dX10_copyAll_85 : decode cX10_copyAll 85 = .ok (.iload_n 1, 1) := dcs_at ok25_copies_0_3 10 rfl
theorem dX10_copyAll_86 : decode cX10_copyAll 86 = .ok (.iload_n 2, 1) := dcs_at ok25_copies_0_3 11 rfl
theorem dX10_copyAll_87 : decode cX10_copyAll 87 = .ok (.invokestatic 88, 3) := dcs_at ok25_copies_0_3 12 rfl
theorem dX10_copyAll_90 : decode cX10_copyAll 90 = .ok (.aload_n 0, 1) := dcs_at ok25_copies_0_3 13 rfl
theorem dX10_copyAll_91 : decode cX10_copyAll 91 = .ok (.getfield 29, 3) := dcs_at ok25_copies_0_3 14 rfl
theorem dX10_copyAll_94 : decode cX10_copyAll 94 = .ok (.sipush 242, 3) := dcs_at ok25_copies_0_3 15 rfl
theorem dX10_copyAll_97 : decode cX10_copyAll 97 = .ok (.iload_n 1, 1) := dcs_at ok25_copies_0_3 16 rfl
theorem dX10_copyAll_98 : decode cX10_copyAll 98 = .ok (.iload_n 2, 1) := dcs_at ok25_copies_0_3 17 rfl
theorem dX10_copyAll_99 : decode cX10_copyAll 99 = .ok (.invokestatic 88, 3) := dcs_at ok25_copies_0_3 18 rfl
theorem dX10_copyAll_102 : decode cX10_copyAll 102 = .ok (.aload_n 0, 1) := dcs_at ok25_copies_0_3 19 rfl
theorem dX10_copyAll_103 : decode cX10_copyAll 103 = .ok (.getfield 32, 3) := dcs_at ok25_copies_0_3 20 rfl
theorem dX10_copyAll_106 : decode cX10_copyAll 106 = .ok (.bipush 14, 2) := dcs_at ok25_copies_0_3 21 rfl
theorem dX10_copyAll_108 : decode cX10_copyAll 108 = .ok (.iload_n 1, 1) := dcs_at ok25_copies_0_3 22 rfl
theorem dX10_copyAll_109 : decode cX10_copyAll 109 = .ok (.iload_n 2, 1) := dcs_at ok25_copies_0_3 23 rfl
theorem dX10_copyAll_110 : decode cX10_copyAll 110 = .ok (.invokestatic 88, 3) := dcs_at ok25_copies_0_3 24 rfl
theorem dX10_copyAll_113 : decode cX10_copyAll 113 = .ok (.return_, 1) := dcs_at ok25_copies_0_3 25 rfl
def tb25_copies_0_4 : List (Nat × (Instr × Nat)) := [(0, (.aload_n 0, 1)), (1, (.iconst 0, 1)), (2, (.putfield 80, 3)), (5, (.iload_n 1, 1)), (6, (.iconst 0, 1)), (7, (.iconst 2, 1)), (8, (.invokestatic 92, 3)), (11, (.ifCond .ne 5, 3)), (14, (.iconst 0, 1)), (15, (.ireturn, 1)), (16, (.aload_n 0, 1)), (17, (.iconst 0, 1)), (18, (.iload_n 1, 1)), (19, (.iconst 1, 1)), (20, (.iadd, 1)), (21, (.invokevirtual 452, 3)), (24, (.aload_n 0, 1)), (25, (.getfield 76, 3)), (28, (.iload_n 1, 1)), (29, (.iconst 1, 1)), (30, (.bastore, 1)), (31, (.iconst 1, 1)), (32, (.ireturn, 1))]
theorem ok25_copies_0_4 : dcs cX10_image tb25_copies_0_4 = true := by decide +kernel
theorem dX10_image_0 : decode cX10_image 0 = .ok (.aload_n 0, 1) := dcs_at ok25_copies_0_4 0 rfl
theorem dX10_image_1 : decode cX10_image 1 = .ok (.iconst 0, 1) := dcs_at ok25_copies_0_4 1 rfl
theorem dX10_image_2 : decode cX10_image 2 = .ok (.putfield 80, 3) := dcs_at ok25_copies_0_4 2 rfl
theorem dX10_image_5 : decode cX10_image 5 = .ok (.iload_n 1, 1) := dcs_at ok25_copies_0_4 3 rfl
theorem dX10_image_6 : decode cX10_image 6 = .ok (.iconst 0, 1) := dcs_at ok25_copies_0_4 4 rfl
theorem dX10_image_7 : decode cX10_image 7 = .ok (.iconst 2, 1) := dcs_at ok25_copies_0_4 5 rfl
theorem dX10_image_8 : decode cX10_image 8 = .ok (.invokestatic 92, 3) := dcs_at ok25_copies_0_4 6 rfl
theorem dX10_image_11 : decode cX10_image 11 = .ok (.ifCond .ne 5, 3) := dcs_at ok25_copies_0_4 7 rfl
theorem dX10_image_14 : decode cX10_image 14 = .ok (.iconst 0, 1) := dcs_at ok25_copies_0_4 8 rfl
theorem dX10_image_15 : decode cX10_image 15 = .ok (.ireturn, 1) := dcs_at ok25_copies_0_4 9 rfl
theorem dX10_image_16 : decode cX10_image 16 = .ok (.aload_n 0, 1) := dcs_at ok25_copies_0_4 10 rfl
theorem dX10_image_17 : decode cX10_image 17 = .ok (.iconst 0, 1) := dcs_at ok25_copies_0_4 11 rfl
theorem dX10_image_18 : decode cX10_image 18 = .ok (.iload_n 1, 1) := dcs_at ok25_copies_0_4 12 rfl
theorem dX10_image_19 : decode cX10_image 19 = .ok (.iconst 1, 1) := dcs_at ok25_copies_0_4 13 rfl
theorem dX10_image_20 : decode cX10_image 20 = .ok (.iadd, 1) := dcs_at ok25_copies_0_4 14 rfl
theorem dX10_image_21 : decode cX10_image 21 = .ok (.invokevirtual 452, 3) := dcs_at ok25_copies_0_4 15 rfl
theorem dX10_image_24 : decode cX10_image 24 = .ok (.aload_n 0, 1) := dcs_at ok25_copies_0_4 16 rfl
theorem dX10_image_25 : decode cX10_image 25 = .ok (.getfield 76, 3) := dcs_at ok25_copies_0_4 17 rfl
theorem dX10_image_28 : decode cX10_image 28 = .ok (.iload_n 1, 1) := dcs_at ok25_copies_0_4 18 rfl
theorem dX10_image_29 : decode cX10_image 29 = .ok (.iconst 1, 1) := dcs_at ok25_copies_0_4 19 rfl
theorem dX10_image_30 : decode cX10_image 30 = .ok (.bastore, 1) := dcs_at ok25_copies_0_4 20 rfl
theorem dX10_image_31 : decode cX10_image 31 = .ok (.iconst 1, 1) := dcs_at ok25_copies_0_4 21 rfl
theorem dX10_image_32 : decode cX10_image 32 = .ok (.ireturn, 1) := dcs_at ok25_copies_0_4 22 rfl
def tb25_copies_0_5 : List (Nat × (Instr × Nat)) := [(0, (.aload_n 0, 1)), (1, (.iconst 0, 1)), (2, (.putfield 80, 3)), (5, (.iload_n 1, 1)), (6, (.iconst 0, 1)), (7, (.iconst 2, 1)), (8, (.invokestatic 92, 3)), (11, (.ifCond .eq 12, 3)), (14, (.aload_n 0, 1)), (15, (.getfield 76, 3)), (18, (.iload_n 1, 1)), (19, (.baload, 1)), (20, (.ifCond .ne 5, 3)), (23, (.iconst 0, 1)), (24, (.ireturn, 1)), (25, (.aload_n 0, 1)), (26, (.iload_n 1, 1)), (27, (.iconst 1, 1)), (28, (.iadd, 1)), (29, (.iconst 0, 1)), (30, (.invokevirtual 452, 3)), (33, (.iconst 1, 1)), (34, (.ireturn, 1))]
theorem ok25_copies_0_5 : dcs cX10_again tb25_copies_0_5 = true := by decide +kernel
theorem dX10_again_0 : decode cX10_again 0 = .ok (.aload_n 0, 1) := dcs_at ok25_copies_0_5 0 rfl
theorem dX10_again_1 : decode cX10_again 1 = .ok (.iconst 0, 1) := dcs_at ok25_copies_0_5 1 rfl
theorem dX10_again_2 : decode cX10_again 2 = .ok (.putfield 80, 3) := dcs_at ok25_copies_0_5 2 rfl
theorem dX10_again_5 : decode cX10_again 5 = .ok (.iload_n 1, 1) := dcs_at ok25_copies_0_5 3 rfl
theorem dX10_again_6 : decode cX10_again 6 = .ok (.iconst 0, 1) := dcs_at ok25_copies_0_5 4 rfl
theorem dX10_again_7 : decode cX10_again 7 = .ok (.iconst 2, 1) := dcs_at ok25_copies_0_5 5 rfl
theorem dX10_again_8 : decode cX10_again 8 = .ok (.invokestatic 92, 3) := dcs_at ok25_copies_0_5 6 rfl
theorem dX10_again_11 : decode cX10_again 11 = .ok (.ifCond .eq 12, 3) := dcs_at ok25_copies_0_5 7 rfl
theorem dX10_again_14 : decode cX10_again 14 = .ok (.aload_n 0, 1) := dcs_at ok25_copies_0_5 8 rfl
theorem dX10_again_15 : decode cX10_again 15 = .ok (.getfield 76, 3) := dcs_at ok25_copies_0_5 9 rfl
theorem dX10_again_18 : decode cX10_again 18 = .ok (.iload_n 1, 1) := dcs_at ok25_copies_0_5 10 rfl
theorem dX10_again_19 : decode cX10_again 19 = .ok (.baload, 1) := dcs_at ok25_copies_0_5 11 rfl
theorem dX10_again_20 : decode cX10_again 20 = .ok (.ifCond .ne 5, 3) := dcs_at ok25_copies_0_5 12 rfl
theorem dX10_again_23 : decode cX10_again 23 = .ok (.iconst 0, 1) := dcs_at ok25_copies_0_5 13 rfl
theorem dX10_again_24 : decode cX10_again 24 = .ok (.ireturn, 1) := dcs_at ok25_copies_0_5 14 rfl
theorem dX10_again_25 : decode cX10_again 25 = .ok (.aload_n 0, 1) := dcs_at ok25_copies_0_5 15 rfl
theorem dX10_again_26 : decode cX10_again 26 = .ok (.iload_n 1, 1) := dcs_at ok25_copies_0_5 16 rfl
theorem dX10_again_27 : decode cX10_again 27 = .ok (.iconst 1, 1) := dcs_at ok25_copies_0_5 17 rfl
theorem dX10_again_28 : decode cX10_again 28 = .ok (.iadd, 1) := dcs_at ok25_copies_0_5 18 rfl
theorem dX10_again_29 : decode cX10_again 29 = .ok (.iconst 0, 1) := dcs_at ok25_copies_0_5 19 rfl
theorem dX10_again_30 : decode cX10_again 30 = .ok (.invokevirtual 452, 3) := dcs_at ok25_copies_0_5 20 rfl
theorem dX10_again_33 : decode cX10_again 33 = .ok (.iconst 1, 1) := dcs_at ok25_copies_0_5 21 rfl
theorem dX10_again_34 : decode cX10_again 34 = .ok (.ireturn, 1) := dcs_at ok25_copies_0_5 22 rfl
