def tb47_images_0_1 : List (Nat × (Instr × Nat)) := [(0, (.iload_n 1, 1)), (1, (.ifCond .lt 8, 3)), (4, (.iload_n 1, 1)), (5, (.iconst 3, 1)), (6, (.if_icmp .lt 5, 3)), (9, (.iconst 0, 1)), (10, (.ireturn, 1)), (11, (.aload_n 0, 1)), (12, (.getfield 16, 3)), (15, (.iload_n 1, 1)), (16, (.aaload, 1)), (17, (.astore_n 2, 1)), (18, (.aload_n 2, 1)), (19, (.ifnonnull 18, 3)), (22, (.new 7, 3)), (25, (.dup, 1)), (26, (.invokespecial 9, 3)), (29, (.astore_n 2, 1)), (30, (.aload_n 0, 1)), (31, (.getfield 16, 3)), (34, (.iload_n 1, 1)), (35, (.aload_n 2, 1)), (36, (.aastore, 1)), (37, (.aload_n 2, 1)), (38, (.aload_n 0, 1)), (39, (.getfield 10, 3)), (42, (.invokevirtual 246, 3)), (45, (.iconst 1, 1)), (46, (.ireturn, 1))]
theorem ok47_images_0_1 : dcs cX9_image tb47_images_0_1 = true := by decide +kernel
theorem dX9_image_0 : decode cX9_image 0 = .ok (.iload_n 1, 1) := dcs_at ok47_images_0_1 0 rfl
theorem dX9_image_1 : decode cX9_image 1 = .ok (.ifCond .lt 8, 3) := dcs_at ok47_images_0_1 1 rfl
theorem dX9_image_4 : decode cX9_image 4 = .ok (.iload_n 1, 1) := dcs_at ok47_images_0_1 2 rfl
theorem dX9_image_5 : decode cX9_image 5 = .ok (.iconst 3, 1) := dcs_at ok47_images_0_1 3 rfl
theorem dX9_image_6 : decode cX9_image 6 = .ok (.if_icmp .lt 5, 3) := dcs_at ok47_images_0_1 4 rfl
theorem dX9_image_9 : decode cX9_image 9 = .ok (.iconst 0, 1) := dcs_at ok47_images_0_1 5 rfl
theorem dX9_image_10 : decode cX9_image 10 = .ok (.ireturn, 1) := dcs_at ok47_images_0_1 6 rfl
theorem dX9_image_11 : decode cX9_image 11 = .ok (.aload_n 0, 1) := dcs_at ok47_images_0_1 7 rfl
theorem dX9_image_12 : decode cX9_image 12 = .ok (.getfield 16, 3) := dcs_at ok47_images_0_1 8 rfl
theorem dX9_image_15 : decode cX9_image 15 = .ok (.iload_n 1, 1) := dcs_at ok47_images_0_1 9 rfl
theorem dX9_image_16 : decode cX9_image 16 = .ok (.aaload, 1) := dcs_at ok47_images_0_1 10 rfl
theorem dX9_image_17 : decode cX9_image 17 = .ok (.astore_n 2, 1) := dcs_at ok47_images_0_1 11 rfl
theorem dX9_image_18 : decode cX9_image 18 = .ok (.aload_n 2, 1) := dcs_at ok47_images_0_1 12 rfl
theorem dX9_image_19 : decode cX9_image 19 = .ok (.ifnonnull 18, 3) := dcs_at ok47_images_0_1 13 rfl
theorem dX9_image_22 : decode cX9_image 22 = .ok (.new 7, 3) := dcs_at ok47_images_0_1 14 rfl
theorem dX9_image_25 : decode cX9_image 25 = .ok (.dup, 1) := dcs_at ok47_images_0_1 15 rfl
theorem dX9_image_26 : decode cX9_image 26 = .ok (.invokespecial 9, 3) := dcs_at ok47_images_0_1 16 rfl
theorem dX9_image_29 : decode cX9_image 29 = .ok (.astore_n 2, 1) := dcs_at ok47_images_0_1 17 rfl
theorem dX9_image_30 : decode cX9_image 30 = .ok (.aload_n 0, 1) := dcs_at ok47_images_0_1 18 rfl
theorem dX9_image_31 : decode cX9_image 31 = .ok (.getfield 16, 3) := dcs_at ok47_images_0_1 19 rfl
theorem dX9_image_34 : decode cX9_image 34 = .ok (.iload_n 1, 1) := dcs_at ok47_images_0_1 20 rfl
theorem dX9_image_35 : decode cX9_image 35 = .ok (.aload_n 2, 1) := dcs_at ok47_images_0_1 21 rfl
theorem dX9_image_36 : decode cX9_image 36 = .ok (.aastore, 1) := dcs_at ok47_images_0_1 22 rfl
theorem dX9_image_37 : decode cX9_image 37 = .ok (.aload_n 2, 1) := dcs_at ok47_images_0_1 23 rfl
theorem dX9_image_38 : decode cX9_image 38 = .ok (.aload_n 0, 1) := dcs_at ok47_images_0_1 24 rfl
theorem dX9_image_39 : decode cX9_image 39 = .ok (.getfield 10, 3) := dcs_at ok47_images_0_1 25 rfl
theorem dX9_image_42 : decode cX9_image 42 = .ok (.invokevirtual 246, 3) := dcs_at ok47_images_0_1 26 rfl
theorem dX9_image_45 : decode cX9_image 45 = .ok (.iconst 1, 1) := dcs_at ok47_images_0_1 27 rfl
theorem dX9_image_46 : decode cX9_image 46 = .ok (.ireturn, 1) := dcs_at ok47_images_0_1 28 rfl
def tb47_images_0_2 : List (Nat × (Instr × Nat)) := [(0, (.iload_n 1, 1)), (1, (.ifCond .lt 8, 3)), (4, (.iload_n 1, 1)), (5, (.iconst 3, 1)), (6, (.if_icmp .lt 5, 3)), (9, (.iconst 0, 1)), (10, (.ireturn, 1)), (11, (.aload_n 0, 1)), (12, (.getfield 16, 3)), (15, (.iload_n 1, 1)), (16, (.aaload, 1)), (17, (.astore_n 2, 1)), (18, (.aload_n 2, 1)), (19, (.ifnonnull 5, 3)), (22, (.iconst 0, 1)), (23, (.ireturn, 1)), (24, (.aload_n 0, 1)), (25, (.getfield 10, 3)), (28, (.aload_n 2, 1)), (29, (.invokevirtual 246, 3)), (32, (.iconst 1, 1)), (33, (.ireturn, 1))]
theorem ok47_images_0_2 : dcs cX9_again tb47_images_0_2 = true := by decide +kernel
theorem dX9_again_0 : decode cX9_again 0 = .ok (.iload_n 1, 1) := dcs_at ok47_images_0_2 0 rfl
theorem dX9_again_1 : decode cX9_again 1 = .ok (.ifCond .lt 8, 3) := dcs_at ok47_images_0_2 1 rfl
theorem dX9_again_4 : decode cX9_again 4 = .ok (.iload_n 1, 1) := dcs_at ok47_images_0_2 2 rfl
theorem dX9_again_5 : decode cX9_again 5 = .ok (.iconst 3, 1) := dcs_at ok47_images_0_2 3 rfl
theorem dX9_again_6 : decode cX9_again 6 = .ok (.if_icmp .lt 5, 3) := dcs_at ok47_images_0_2 4 rfl
theorem dX9_again_9 : decode cX9_again 9 = .ok (.iconst 0, 1) := dcs_at ok47_images_0_2 5 rfl
theorem dX9_again_10 : decode cX9_again 10 = .ok (.ireturn, 1) := dcs_at ok47_images_0_2 6 rfl
theorem dX9_again_11 : decode cX9_again 11 = .ok (.aload_n 0, 1) := dcs_at ok47_images_0_2 7 rfl
theorem dX9_again_12 : decode cX9_again 12 = .ok (.getfield 16, 3) := dcs_at ok47_images_0_2 8 rfl
theorem dX9_again_15 : decode cX9_again 15 = .ok (.iload_n 1, 1) := dcs_at ok47_images_0_2 9 rfl
theorem dX9_again_16 : decode cX9_again 16 = .ok (.aaload, 1) := dcs_at ok47_images_0_2 10 rfl
theorem dX9_again_17 : decode cX9_again 17 = .ok (.astore_n 2, 1) := dcs_at ok47_images_0_2 11 rfl
theorem dX9_again_18 : decode cX9_again 18 = .ok (.aload_n 2, 1) := dcs_at ok47_images_0_2 12 rfl
theorem dX9_again_19 : decode cX9_again 19 = .ok (.ifnonnull 5, 3) := dcs_at ok47_images_0_2 13 rfl
theorem dX9_again_22 : decode cX9_again 22 = .ok (.iconst 0, 1) := dcs_at ok47_images_0_2 14 rfl
theorem dX9_again_23 : decode cX9_again 23 = .ok (.ireturn, 1) := dcs_at ok47_images_0_2 15 rfl
theorem dX9_again_24 : decode cX9_again 24 = .ok (.aload_n 0, 1) := dcs_at ok47_images_0_2 16 rfl
theorem dX9_again_25 : decode cX9_again 25 = .ok (.getfield 10, 3) := dcs_at ok47_images_0_2 17 rfl
theorem dX9_again_28 : decode cX9_again 28 = .ok (.aload_n 2, 1) := dcs_at ok47_images_0_2 18 rfl
theorem dX9_again_29 : decode cX9_again 29 = .ok (.invokevirtual 246, 3) := dcs_at ok47_images_0_2 19 rfl
theorem dX9_again_32 : decode cX9_again 32 = .ok (.iconst 1, 1) := dcs_at ok47_images_0_2 20 rfl
theorem dX9_again_33 : decode cX9_again 33 = .ok (.ireturn, 1) := dcs_at ok47_images_0_2 21 rfl
