theorem dG_add_0 : decode bG_add 0 = .ok (.aload_n 0, 1) := by decide +kernel
theorem dG_add_1 : decode bG_add 1 = .ok (.iload_n 1, 1) := by decide +kernel
theorem dG_add_2 : decode bG_add 2 = .ok (.invokevirtual 32, 3) := by decide +kernel
theorem dG_at_0 : decode bG_at 0 = .ok (.aload_n 0, 1) := by decide +kernel
theorem dG_at_1 : decode bG_at 1 = .ok (.iload_n 1, 1) := by decide +kernel
theorem dG_at_2 : decode bG_at 2 = .ok (.invokevirtual 32, 3) := by decide +kernel
theorem dG_content_0 : decode bG_content 0 = .ok (.aload_n 0, 1) := by decide +kernel
theorem dG_content_1 : decode bG_content 1 = .ok (.iload_n 1, 1) := by decide +kernel
theorem dG_content_2 : decode bG_content 2 = .ok (.invokevirtual 32, 3) := by decide +kernel
theorem dG_count_0 : decode bG_count 0 = .ok (.aload_n 0, 1) := by decide +kernel
theorem dG_count_1 : decode bG_count 1 = .ok (.getfield 19, 3) := by decide +kernel
theorem dG_count_4 : decode bG_count 4 = .ok (.ireturn, 1) := by decide +kernel
theorem dG_degree_0 : decode bG_degree 0 = .ok (.aload_n 0, 1) := by decide +kernel
theorem dG_degree_1 : decode bG_degree 1 = .ok (.iload_n 1, 1) := by decide +kernel
theorem dG_degree_2 : decode bG_degree 2 = .ok (.invokevirtual 32, 3) := by decide +kernel
theorem dG_equal_0 : decode bG_equal 0 = .ok (.aload_n 0, 1) := by decide +kernel
theorem dG_equal_1 : decode bG_equal 1 = .ok (.iload_n 1, 1) := by decide +kernel
theorem dG_equal_2 : decode bG_equal 2 = .ok (.invokevirtual 32, 3) := by decide +kernel
theorem dG_gcd_0 : decode bG_gcd 0 = .ok (.aload_n 0, 1) := by decide +kernel
theorem dG_gcd_1 : decode bG_gcd 1 = .ok (.iload_n 1, 1) := by decide +kernel
theorem dG_gcd_2 : decode bG_gcd 2 = .ok (.invokevirtual 32, 3) := by decide +kernel
theorem dG_held_0 : decode bG_held 0 = .ok (.iload_n 1, 1) := by decide +kernel
theorem dG_held_1 : decode bG_held 1 = .ok (.ifCond .lt 20, 3) := by decide +kernel
theorem dG_held_4 : decode bG_held 4 = .ok (.iload_n 1, 1) := by decide +kernel
theorem dG_held_5 : decode bG_held 5 = .ok (.aload_n 0, 1) := by decide +kernel
theorem dG_held_6 : decode bG_held 6 = .ok (.getfield 19, 3) := by decide +kernel
theorem dG_held_9 : decode bG_held 9 = .ok (.if_icmp .ge 12, 3) := by decide +kernel
theorem dG_held_21 : decode bG_held 21 = .ok (.new 137, 3) := by decide +kernel
theorem dG_held_24 : decode bG_held 24 = .ok (.dup, 1) := by decide +kernel
theorem dG_held_25 : decode bG_held 25 = .ok (.ldc 139, 2) := by decide +kernel
theorem dG_held_27 : decode bG_held 27 = .ok (.invokespecial 141, 3) := by decide +kernel
theorem dG_held_30 : decode bG_held 30 = .ok (.athrow, 1) := by decide +kernel
theorem dG_image_0 : decode bG_image 0 = .ok (.aload_n 0, 1) := by decide +kernel
theorem dG_image_1 : decode bG_image 1 = .ok (.iload_n 1, 1) := by decide +kernel
theorem dG_image_2 : decode bG_image 2 = .ok (.invokevirtual 32, 3) := by decide +kernel
theorem dG_init_0 : decode bG_init 0 = .ok (.aload_n 0, 1) := by decide +kernel
theorem dG_init_1 : decode bG_init 1 = .ok (.invokespecial 1, 3) := by decide +kernel
theorem dG_init_4 : decode bG_init 4 = .ok (.aload_n 0, 1) := by decide +kernel
theorem dG_init_5 : decode bG_init 5 = .ok (.iload_n 1, 1) := by decide +kernel
theorem dG_init_6 : decode bG_init 6 = .ok (.iconst 1, 1) := by decide +kernel
theorem dG_init_7 : decode bG_init 7 = .ok (.if_icmp .ge 7, 3) := by decide +kernel
theorem dG_init_10 : decode bG_init 10 = .ok (.iconst 1, 1) := by decide +kernel
theorem dG_init_11 : decode bG_init 11 = .ok (.goto 13, 3) := by decide +kernel
theorem dG_init_14 : decode bG_init 14 = .ok (.iload_n 1, 1) := by decide +kernel
theorem dG_init_15 : decode bG_init 15 = .ok (.iconst 3, 1) := by decide +kernel
theorem dG_init_16 : decode bG_init 16 = .ok (.if_icmp .le 7, 3) := by decide +kernel
theorem dG_init_19 : decode bG_init 19 = .ok (.iconst 3, 1) := by decide +kernel
theorem dG_init_20 : decode bG_init 20 = .ok (.goto 4, 3) := by decide +kernel
theorem dG_init_23 : decode bG_init 23 = .ok (.iload_n 1, 1) := by decide +kernel
theorem dG_init_24 : decode bG_init 24 = .ok (.putfield 9, 3) := by decide +kernel
theorem dG_init_27 : decode bG_init 27 = .ok (.aload_n 0, 1) := by decide +kernel
theorem dG_init_28 : decode bG_init 28 = .ok (.bipush 60, 2) := by decide +kernel
theorem dG_init_30 : decode bG_init 30 = .ok (.anewarray 13, 3) := by decide +kernel
theorem dG_init_33 : decode bG_init 33 = .ok (.putfield 15, 3) := by decide +kernel
theorem dG_init_36 : decode bG_init 36 = .ok (.aload_n 0, 1) := by decide +kernel
theorem dG_init_37 : decode bG_init 37 = .ok (.iconst 0, 1) := by decide +kernel
theorem dG_init_38 : decode bG_init 38 = .ok (.putfield 19, 3) := by decide +kernel
theorem dG_init_41 : decode bG_init 41 = .ok (.return_, 1) := by decide +kernel
theorem dG_keep_0 : decode bG_keep 0 = .ok (.aload_n 0, 1) := by decide +kernel
theorem dG_keep_1 : decode bG_keep 1 = .ok (.getfield 19, 3) := by decide +kernel
theorem dG_keep_4 : decode bG_keep 4 = .ok (.aload_n 0, 1) := by decide +kernel
theorem dG_keep_5 : decode bG_keep 5 = .ok (.getfield 15, 3) := by decide +kernel
theorem dG_keep_8 : decode bG_keep 8 = .ok (.arraylength, 1) := by decide +kernel
theorem dG_keep_9 : decode bG_keep 9 = .ok (.if_icmp .ge 23, 3) := by decide +kernel
theorem dG_keep_12 : decode bG_keep 12 = .ok (.aload_n 0, 1) := by decide +kernel
theorem dG_keep_13 : decode bG_keep 13 = .ok (.getfield 15, 3) := by decide +kernel
theorem dG_keep_16 : decode bG_keep 16 = .ok (.aload_n 0, 1) := by decide +kernel
theorem dG_keep_17 : decode bG_keep 17 = .ok (.getfield 19, 3) := by decide +kernel
theorem dG_keep_20 : decode bG_keep 20 = .ok (.aload_n 1, 1) := by decide +kernel
theorem dG_keep_21 : decode bG_keep 21 = .ok (.aastore, 1) := by decide +kernel
theorem dG_keep_22 : decode bG_keep 22 = .ok (.aload_n 0, 1) := by decide +kernel
theorem dG_keep_23 : decode bG_keep 23 = .ok (.dup, 1) := by decide +kernel
theorem dG_keep_24 : decode bG_keep 24 = .ok (.getfield 19, 3) := by decide +kernel
theorem dG_keep_27 : decode bG_keep 27 = .ok (.iconst 1, 1) := by decide +kernel
theorem dG_keep_28 : decode bG_keep 28 = .ok (.iadd, 1) := by decide +kernel
theorem dG_keep_29 : decode bG_keep 29 = .ok (.putfield 19, 3) := by decide +kernel
theorem dG_keep_32 : decode bG_keep 32 = .ok (.aload_n 0, 1) := by decide +kernel
theorem dG_keep_33 : decode bG_keep 33 = .ok (.getfield 19, 3) := by decide +kernel
theorem dG_keep_36 : decode bG_keep 36 = .ok (.iconst 1, 1) := by decide +kernel
theorem dG_keep_37 : decode bG_keep 37 = .ok (.isub, 1) := by decide +kernel
theorem dG_keep_38 : decode bG_keep 38 = .ok (.ireturn, 1) := by decide +kernel
theorem dG_over_0 : decode bG_over 0 = .ok (.aload_n 0, 1) := by decide +kernel
theorem dG_over_1 : decode bG_over 1 = .ok (.iload_n 1, 1) := by decide +kernel
theorem dG_over_2 : decode bG_over 2 = .ok (.invokevirtual 32, 3) := by decide +kernel
theorem dG_part_0 : decode bG_part 0 = .ok (.aload_n 0, 1) := by decide +kernel
theorem dG_part_1 : decode bG_part 1 = .ok (.iload_n 1, 1) := by decide +kernel
theorem dG_part_2 : decode bG_part 2 = .ok (.invokevirtual 32, 3) := by decide +kernel
theorem dG_poly_0 : decode bG_poly 0 = .ok (.aload_n 0, 1) := by decide +kernel
theorem dG_poly_1 : decode bG_poly 1 = .ok (.invokevirtual 22, 3) := by decide +kernel
theorem dG_poly_4 : decode bG_poly 4 = .ok (.aload_n 0, 1) := by decide +kernel
theorem dG_poly_5 : decode bG_poly 5 = .ok (.new 13, 3) := by decide +kernel
theorem dG_poly_8 : decode bG_poly 8 = .ok (.dup, 1) := by decide +kernel
theorem dG_poly_9 : decode bG_poly 9 = .ok (.iconst 0, 1) := by decide +kernel
theorem dG_poly_10 : decode bG_poly 10 = .ok (.invokespecial 25, 3) := by decide +kernel
theorem dG_poly_13 : decode bG_poly 13 = .ok (.invokevirtual 28, 3) := by decide +kernel
theorem dG_poly_16 : decode bG_poly 16 = .ok (.ireturn, 1) := by decide +kernel
theorem dG_requireRoom_0 : decode bG_requireRoom 0 = .ok (.aload_n 0, 1) := by decide +kernel
theorem dG_requireRoom_1 : decode bG_requireRoom 1 = .ok (.getfield 19, 3) := by decide +kernel
theorem dG_requireRoom_4 : decode bG_requireRoom 4 = .ok (.bipush 60, 2) := by decide +kernel
theorem dG_requireRoom_6 : decode bG_requireRoom 6 = .ok (.if_icmp .lt 13, 3) := by decide +kernel
theorem dG_requireRoom_19 : decode bG_requireRoom 19 = .ok (.return_, 1) := by decide +kernel
theorem dG_resultant_0 : decode bG_resultant 0 = .ok (.aload_n 0, 1) := by decide +kernel
theorem dG_resultant_1 : decode bG_resultant 1 = .ok (.iload_n 1, 1) := by decide +kernel
theorem dG_resultant_2 : decode bG_resultant 2 = .ok (.invokevirtual 32, 3) := by decide +kernel
theorem dG_slope_0 : decode bG_slope 0 = .ok (.aload_n 0, 1) := by decide +kernel
theorem dG_slope_1 : decode bG_slope 1 = .ok (.iload_n 1, 1) := by decide +kernel
theorem dG_slope_2 : decode bG_slope 2 = .ok (.invokevirtual 32, 3) := by decide +kernel
theorem dG_term_0 : decode bG_term 0 = .ok (.aload_n 0, 1) := by decide +kernel
theorem dG_term_1 : decode bG_term 1 = .ok (.iload_n 1, 1) := by decide +kernel
theorem dG_term_2 : decode bG_term 2 = .ok (.invokevirtual 32, 3) := by decide +kernel
theorem dG_terms_0 : decode bG_terms 0 = .ok (.aload_n 0, 1) := by decide +kernel
theorem dG_terms_1 : decode bG_terms 1 = .ok (.iload_n 1, 1) := by decide +kernel
theorem dG_terms_2 : decode bG_terms 2 = .ok (.invokevirtual 32, 3) := by decide +kernel
theorem dG_times_0 : decode bG_times 0 = .ok (.aload_n 0, 1) := by decide +kernel
theorem dG_times_1 : decode bG_times 1 = .ok (.iload_n 1, 1) := by decide +kernel
theorem dG_times_2 : decode bG_times 2 = .ok (.invokevirtual 32, 3) := by decide +kernel
theorem dL_add_0 : decode bL_add 0 = .ok (.aload_n 3, 1) := by decide +kernel
theorem dL_add_1 : decode bL_add 1 = .ok (.iconst 0, 1) := by decide +kernel
theorem dL_add_2 : decode bL_add 2 = .ok (.aload_n 0, 1) := by decide +kernel
theorem dL_add_3 : decode bL_add 3 = .ok (.iload_n 1, 1) := by decide +kernel
