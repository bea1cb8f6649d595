def tb63_loop_0_1 : List (Nat × (Instr × Nat)) := [(18, (.iload_n 3, 1)), (19, (.aload_n 0, 1)), (20, (.arraylength, 1)), (21, (.bipush 6, 2)), (23, (.isub, 1)), (24, (.if_icmp .gt 1223, 3)), (27, (.aload_n 0, 1)), (28, (.iload_n 3, 1)), (29, (.iaload, 1)), (30, (.bipush 31, 2)), (32, (.iand, 1)), (33, (.tableswitch 1208 0 24 #[115, 178, 201, 234, 257, 290, 333, 366, 419, 482, 545, 598, 651, 720, 763, 806, 839, 872, 905, 974, 1027, 1080, 1139, 1162, 1185], 115)), (1241, (.iinc 3 6, 3)), (1244, (.goto (-1226), 3)), (1247, (.iconst 1, 1)), (1248, (.ireturn, 1))]
theorem ok63_loop_0_1 : dcs cL_law tb63_loop_0_1 = true := by decide +kernel
theorem dL_law_18 : decode cL_law 18 = .ok (.iload_n 3, 1) := dcs_at ok63_loop_0_1 0 rfl
theorem dL_law_19 : decode cL_law 19 = .ok (.aload_n 0, 1) := dcs_at ok63_loop_0_1 1 rfl
theorem dL_law_20 : decode cL_law 20 = .ok (.arraylength, 1) := dcs_at ok63_loop_0_1 2 rfl
theorem dL_law_21 : decode cL_law 21 = .ok (.bipush 6, 2) := dcs_at ok63_loop_0_1 3 rfl
theorem dL_law_23 : decode cL_law 23 = .ok (.isub, 1) := dcs_at ok63_loop_0_1 4 rfl
theorem dL_law_24 : decode cL_law 24 = .ok (.if_icmp .gt 1223, 3) := dcs_at ok63_loop_0_1 5 rfl
theorem dL_law_27 : decode cL_law 27 = .ok (.aload_n 0, 1) := dcs_at ok63_loop_0_1 6 rfl
theorem dL_law_28 : decode cL_law 28 = .ok (.iload_n 3, 1) := dcs_at ok63_loop_0_1 7 rfl
theorem dL_law_29 : decode cL_law 29 = .ok (.iaload, 1) := dcs_at ok63_loop_0_1 8 rfl
theorem dL_law_30 : decode cL_law 30 = .ok (.bipush 31, 2) := dcs_at ok63_loop_0_1 9 rfl
theorem dL_law_32 : decode cL_law 32 = .ok (.iand, 1) := dcs_at ok63_loop_0_1 10 rfl
theorem dL_law_33 : decode cL_law 33 = .ok (.tableswitch 1208 0 24 #[115, 178, 201, 234, 257, 290, 333, 366, 419, 482, 545, 598, 651, 720, 763, 806, 839, 872, 905, 974, 1027, 1080, 1139, 1162, 1185], 115) := dcs_at ok63_loop_0_1 11 rfl
theorem dL_law_1241 : decode cL_law 1241 = .ok (.iinc 3 6, 3) := dcs_at ok63_loop_0_1 12 rfl
theorem dL_law_1244 : decode cL_law 1244 = .ok (.goto (-1226), 3) := dcs_at ok63_loop_0_1 13 rfl
theorem dL_law_1247 : decode cL_law 1247 = .ok (.iconst 1, 1) := dcs_at ok63_loop_0_1 14 rfl
theorem dL_law_1248 : decode cL_law 1248 = .ok (.ireturn, 1) := dcs_at ok63_loop_0_1 15 rfl
