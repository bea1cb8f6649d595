def tb64_whole_0_1 : List (Nat × (Instr × Nat)) := [(0, (.new 7, 3)), (3, (.dup, 1)), (4, (.invokespecial 9, 3)), (7, (.astore_n 1, 1)), (8, (.new 10, 3)), (11, (.dup, 1)), (12, (.invokespecial 12, 3)), (15, (.astore_n 2, 1)), (16, (.iconst 0, 1)), (17, (.istore_n 3, 1))]
theorem ok64_whole_0_1 : dcs cL_law tb64_whole_0_1 = true := by decide +kernel
theorem dL_law_0 : decode cL_law 0 = .ok (.new 7, 3) := dcs_at ok64_whole_0_1 0 rfl
theorem dL_law_3 : decode cL_law 3 = .ok (.dup, 1) := dcs_at ok64_whole_0_1 1 rfl
theorem dL_law_4 : decode cL_law 4 = .ok (.invokespecial 9, 3) := dcs_at ok64_whole_0_1 2 rfl
theorem dL_law_7 : decode cL_law 7 = .ok (.astore_n 1, 1) := dcs_at ok64_whole_0_1 3 rfl
theorem dL_law_8 : decode cL_law 8 = .ok (.new 10, 3) := dcs_at ok64_whole_0_1 4 rfl
theorem dL_law_11 : decode cL_law 11 = .ok (.dup, 1) := dcs_at ok64_whole_0_1 5 rfl
theorem dL_law_12 : decode cL_law 12 = .ok (.invokespecial 12, 3) := dcs_at ok64_whole_0_1 6 rfl
theorem dL_law_15 : decode cL_law 15 = .ok (.astore_n 2, 1) := dcs_at ok64_whole_0_1 7 rfl
theorem dL_law_16 : decode cL_law 16 = .ok (.iconst 0, 1) := dcs_at ok64_whole_0_1 8 rfl
theorem dL_law_17 : decode cL_law 17 = .ok (.istore_n 3, 1) := dcs_at ok64_whole_0_1 9 rfl
