theorem dG_add_0 : decode bG_add 0 = .ok (.aload_n 0, 1) := by decide +kernel
theorem dG_add_1 : decode bG_add 1 = .ok (.iload_n 1, 1) := by decide +kernel
theorem dG_add_2 : decode bG_add 2 = .ok (.invokevirtual 32, 3) := by decide +kernel
theorem dG_at_0 : decode bG_at 0 = .ok (.aload_n 0, 1) := by decide +kernel
theorem dG_at_1 : decode bG_at 1 = .ok (.iload_n 1, 1) := by decide +kernel
theorem dG_at_2 : decode bG_at 2 = .ok (.invokevirtual 32, 3) := by decide +kernel
theorem dG_content_0 : decode bG_content 0 = .ok (.aload_n 0, 1) := by decide +kernel
theorem dG_content_1 : decode bG_content 1 = .ok (.iload_n 1, 1) := by decide +kernel
theorem dG_content_2 : decode bG_content 2 = .ok (.invokevirtual 32, 3) := by decide +kernel
theorem dG_count_0 : decode bG_count 0 = .ok (.aload_n 0, 1) := by decide +kernel
theorem dG_count_1 : decode bG_count 1 = .ok (.getfield 19, 3) := by decide +kernel
theorem dG_count_4 : decode bG_count 4 = .ok (.ireturn, 1) := by decide +kernel
theorem dG_degree_0 : decode bG_degree 0 = .ok (.aload_n 0, 1) := by decide +kernel
theorem dG_degree_1 : decode bG_degree 1 = .ok (.iload_n 1, 1) := by decide +kernel
theorem dG_degree_2 : decode bG_degree 2 = .ok (.invokevirtual 32, 3) := by decide +kernel
theorem dG_equal_0 : decode bG_equal 0 = .ok (.aload_n 0, 1) := by decide +kernel
theorem dG_equal_1 : decode bG_equal 1 = .ok (.iload_n 1, 1) := by decide +kernel
theorem dG_equal_2 : decode bG_equal 2 = .ok (.invokevirtual 32, 3) := by decide +kernel
theorem dG_gcd_0 : decode bG_gcd 0 = .ok (.aload_n 0, 1) := by decide +kernel
theorem dG_gcd_1 : decode bG_gcd 1 = .ok (.iload_n 1, 1) := by decide +kernel
theorem dG_gcd_2 : decode bG_gcd 2 = .ok (.invokevirtual 32, 3) := by decide +kernel
theorem dG_held_0 : decode bG_held 0 = .ok (.iload_n 1, 1) := by decide +kernel
theorem dG_held_1 : decode bG_held 1 = .ok (.ifCond .lt 20, 3) := by decide +kernel
theorem dG_held_4 : decode bG_held 4 = .ok (.iload_n 1, 1) := by decide +kernel
theorem dG_held_5 : decode bG_held 5 = .ok (.aload_n 0, 1) := by decide +kernel
theorem dG_held_6 : decode bG_held 6 = .ok (.getfield 19, 3) := by decide +kernel
theorem dG_held_9 : decode bG_held 9 = .ok (.if_icmp .ge 12, 3) := by decide +kernel
theorem dG_held_21 : decode bG_held 21 = .ok (.new 137, 3) := by decide +kernel
theorem dG_held_24 : decode bG_held 24 = .ok (.dup, 1) := by decide +kernel
theorem dG_held_25 : decode bG_held 25 = .ok (.ldc 139, 2) := by decide +kernel
theorem dG_held_27 : decode bG_held 27 = .ok (.invokespecial 141, 3) := by decide +kernel
theorem dG_held_30 : decode bG_held 30 = .ok (.athrow, 1) := by decide +kernel
theorem dG_image_0 : decode bG_image 0 = .ok (.aload_n 0, 1) := by decide +kernel
theorem dG_image_1 : decode bG_image 1 = .ok (.iload_n 1, 1) := by decide +kernel
theorem dG_image_2 : decode bG_image 2 = .ok (.invokevirtual 32, 3) := by decide +kernel
theorem dG_init_0 : decode bG_init 0 = .ok (.aload_n 0, 1) := by decide +kernel
theorem dG_init_1 : decode bG_init 1 = .ok (.invokespecial 1, 3) := by decide +kernel
theorem dG_init_4 : decode bG_init 4 = .ok (.aload_n 0, 1) := by decide +kernel
theorem dG_init_5 : decode bG_init 5 = .ok (.iload_n 1, 1) := by decide +kernel
theorem dG_init_6 : decode bG_init 6 = .ok (.iconst 1, 1) := by decide +kernel
theorem dG_init_7 : decode bG_init 7 = .ok (.if_icmp .ge 7, 3) := by decide +kernel
theorem dG_init_10 : decode bG_init 10 = .ok (.iconst 1, 1) := by decide +kernel
theorem dG_init_11 : decode bG_init 11 = .ok (.goto 13, 3) := by decide +kernel
theorem dG_init_14 : decode bG_init 14 = .ok (.iload_n 1, 1) := by decide +kernel
theorem dG_init_15 : decode bG_init 15 = .ok (.iconst 3, 1) := by decide +kernel
theorem dG_init_16 : decode bG_init 16 = .ok (.if_icmp .le 7, 3) := by decide +kernel
theorem dG_init_19 : decode bG_init 19 = .ok (.iconst 3, 1) := by decide +kernel
theorem dG_init_20 : decode bG_init 20 = .ok (.goto 4, 3) := by decide +kernel
theorem dG_init_23 : decode bG_init 23 = .ok (.iload_n 1, 1) := by decide +kernel
theorem dG_init_24 : decode bG_init 24 = .ok (.putfield 9, 3) := by decide +kernel
theorem dG_init_27 : decode bG_init 27 = .ok (.aload_n 0, 1) := by decide +kernel
theorem dG_init_28 : decode bG_init 28 = .ok (.bipush 60, 2) := by decide +kernel
theorem dG_init_30 : decode bG_init 30 = .ok (.anewarray 13, 3) := by decide +kernel
theorem dG_init_33 : decode bG_init 33 = .ok (.putfield 15, 3) := by decide +kernel
theorem dG_init_36 : decode bG_init 36 = .ok (.aload_n 0, 1) := by decide +kernel
theorem dG_init_37 : decode bG_init 37 = .ok (.iconst 0, 1) := by decide +kernel
theorem dG_init_38 : decode bG_init 38 = .ok (.putfield 19, 3) := by decide +kernel
theorem dG_init_41 : decode bG_init 41 = .ok (.return_, 1) := by decide +kernel
theorem dG_over_0 : decode bG_over 0 = .ok (.aload_n 0, 1) := by decide +kernel
theorem dG_over_1 : decode bG_over 1 = .ok (.iload_n 1, 1) := by decide +kernel
theorem dG_over_2 : decode bG_over 2 = .ok (.invokevirtual 32, 3) := by decide +kernel
theorem dG_part_0 : decode bG_part 0 = .ok (.aload_n 0, 1) := by decide +kernel
theorem dG_part_1 : decode bG_part 1 = .ok (.iload_n 1, 1) := by decide +kernel
theorem dG_part_2 : decode bG_part 2 = .ok (.invokevirtual 32, 3) := by decide +kernel
theorem dG_resultant_0 : decode bG_resultant 0 = .ok (.aload_n 0, 1) := by decide +kernel
theorem dG_resultant_1 : decode bG_resultant 1 = .ok (.iload_n 1, 1) := by decide +kernel
theorem dG_resultant_2 : decode bG_resultant 2 = .ok (.invokevirtual 32, 3) := by decide +kernel
theorem dG_slope_0 : decode bG_slope 0 = .ok (.aload_n 0, 1) := by decide +kernel
theorem dG_slope_1 : decode bG_slope 1 = .ok (.iload_n 1, 1) := by decide +kernel
theorem dG_slope_2 : decode bG_slope 2 = .ok (.invokevirtual 32, 3) := by decide +kernel
theorem dG_term_0 : decode bG_term 0 = .ok (.aload_n 0, 1) := by decide +kernel
theorem dG_term_1 : decode bG_term 1 = .ok (.iload_n 1, 1) := by decide +kernel
theorem dG_term_2 : decode bG_term 2 = .ok (.invokevirtual 32, 3) := by decide +kernel
theorem dG_terms_0 : decode bG_terms 0 = .ok (.aload_n 0, 1) := by decide +kernel
theorem dG_terms_1 : decode bG_terms 1 = .ok (.iload_n 1, 1) := by decide +kernel
theorem dG_terms_2 : decode bG_terms 2 = .ok (.invokevirtual 32, 3) := by decide +kernel
theorem dG_times_0 : decode bG_times 0 = .ok (.aload_n 0, 1) := by decide +kernel
theorem dG_times_1 : decode bG_times 1 = .ok (.iload_n 1, 1) := by decide +kernel
theorem dG_times_2 : decode bG_times 2 = .ok (.invokevirtual 32, 3) := by decide +kernel
theorem dL_add_0 : decode bL_add 0 = .ok (.aload_n 3, 1) := by decide +kernel
theorem dL_add_1 : decode bL_add 1 = .ok (.iconst 0, 1) := by decide +kernel
theorem dL_add_2 : decode bL_add 2 = .ok (.aload_n 0, 1) := by decide +kernel
theorem dL_add_3 : decode bL_add 3 = .ok (.iload_n 1, 1) := by decide +kernel
theorem dL_add_4 : decode bL_add 4 = .ok (.iload_n 2, 1) := by decide +kernel
theorem dL_add_5 : decode bL_add 5 = .ok (.invokevirtual 25, 3) := by decide +kernel
theorem dL_add_13 : decode bL_add 13 = .ok (.astore 4, 2) := by decide +kernel
theorem dL_add_15 : decode bL_add 15 = .ok (.iconst 1, 1) := by decide +kernel
theorem dL_add_16 : decode bL_add 16 = .ok (.ireturn, 1) := by decide +kernel
theorem dL_at_0 : decode bL_at 0 = .ok (.aload 4, 2) := by decide +kernel
theorem dL_at_2 : decode bL_at 2 = .ok (.iconst 0, 1) := by decide +kernel
theorem dL_at_3 : decode bL_at 3 = .ok (.aload_n 0, 1) := by decide +kernel
theorem dL_at_4 : decode bL_at 4 = .ok (.iload_n 1, 1) := by decide +kernel
theorem dL_at_5 : decode bL_at 5 = .ok (.iload_n 2, 1) := by decide +kernel
theorem dL_at_6 : decode bL_at 6 = .ok (.iload_n 3, 1) := by decide +kernel
theorem dL_at_7 : decode bL_at 7 = .ok (.invokevirtual 62, 3) := by decide +kernel
theorem dL_at_15 : decode bL_at 15 = .ok (.astore 5, 2) := by decide +kernel
theorem dL_at_17 : decode bL_at 17 = .ok (.iconst 1, 1) := by decide +kernel
theorem dL_at_18 : decode bL_at 18 = .ok (.ireturn, 1) := by decide +kernel
theorem dL_cell_0 : decode bL_cell 0 = .ok (.iload_n 1, 1) := by decide +kernel
theorem dL_cell_1 : decode bL_cell 1 = .ok (.aload_n 0, 1) := by decide +kernel
theorem dL_cell_2 : decode bL_cell 2 = .ok (.arraylength, 1) := by decide +kernel
theorem dL_cell_3 : decode bL_cell 3 = .ok (.if_icmp .ge 9, 3) := by decide +kernel
theorem dL_cell_6 : decode bL_cell 6 = .ok (.aload_n 0, 1) := by decide +kernel
theorem dL_cell_7 : decode bL_cell 7 = .ok (.iload_n 1, 1) := by decide +kernel
theorem dL_cell_8 : decode bL_cell 8 = .ok (.iaload, 1) := by decide +kernel
theorem dL_cell_9 : decode bL_cell 9 = .ok (.goto 4, 3) := by decide +kernel
theorem dL_cell_12 : decode bL_cell 12 = .ok (.iconst 0, 1) := by decide +kernel
theorem dL_cell_13 : decode bL_cell 13 = .ok (.ireturn, 1) := by decide +kernel
theorem dL_content_0 : decode bL_content 0 = .ok (.aload_n 3, 1) := by decide +kernel
theorem dL_content_1 : decode bL_content 1 = .ok (.iconst 0, 1) := by decide +kernel
theorem dL_content_2 : decode bL_content 2 = .ok (.aload_n 0, 1) := by decide +kernel
theorem dL_content_3 : decode bL_content 3 = .ok (.iload_n 1, 1) := by decide +kernel
theorem dL_content_4 : decode bL_content 4 = .ok (.iload_n 2, 1) := by decide +kernel
theorem dL_content_5 : decode bL_content 5 = .ok (.invokevirtual 45, 3) := by decide +kernel
theorem dL_content_13 : decode bL_content 13 = .ok (.astore 4, 2) := by decide +kernel
theorem dL_content_15 : decode bL_content 15 = .ok (.iconst 1, 1) := by decide +kernel
theorem dL_content_16 : decode bL_content 16 = .ok (.ireturn, 1) := by decide +kernel
theorem dL_degree_0 : decode bL_degree 0 = .ok (.aload_n 3, 1) := by decide +kernel
theorem dL_degree_1 : decode bL_degree 1 = .ok (.iconst 0, 1) := by decide +kernel
theorem dL_degree_2 : decode bL_degree 2 = .ok (.aload_n 0, 1) := by decide +kernel
