theorem dL_add_4 : decode bL_add 4 = .ok (.iload_n 2, 1) := by decide +kernel
theorem dL_add_5 : decode bL_add 5 = .ok (.invokevirtual 25, 3) := by decide +kernel
theorem dL_add_13 : decode bL_add 13 = .ok (.astore 4, 2) := by decide +kernel
theorem dL_add_15 : decode bL_add 15 = .ok (.iconst 1, 1) := by decide +kernel
theorem dL_add_16 : decode bL_add 16 = .ok (.ireturn, 1) := by decide +kernel
theorem dL_at_0 : decode bL_at 0 = .ok (.aload 4, 2) := by decide +kernel
theorem dL_at_2 : decode bL_at 2 = .ok (.iconst 0, 1) := by decide +kernel
theorem dL_at_3 : decode bL_at 3 = .ok (.aload_n 0, 1) := by decide +kernel
theorem dL_at_4 : decode bL_at 4 = .ok (.iload_n 1, 1) := by decide +kernel
theorem dL_at_5 : decode bL_at 5 = .ok (.iload_n 2, 1) := by decide +kernel
theorem dL_at_6 : decode bL_at 6 = .ok (.iload_n 3, 1) := by decide +kernel
theorem dL_at_7 : decode bL_at 7 = .ok (.invokevirtual 62, 3) := by decide +kernel
theorem dL_at_15 : decode bL_at 15 = .ok (.astore 5, 2) := by decide +kernel
theorem dL_at_17 : decode bL_at 17 = .ok (.iconst 1, 1) := by decide +kernel
theorem dL_at_18 : decode bL_at 18 = .ok (.ireturn, 1) := by decide +kernel
theorem dL_cell_0 : decode bL_cell 0 = .ok (.iload_n 1, 1) := by decide +kernel
theorem dL_cell_1 : decode bL_cell 1 = .ok (.aload_n 0, 1) := by decide +kernel
theorem dL_cell_2 : decode bL_cell 2 = .ok (.arraylength, 1) := by decide +kernel
theorem dL_cell_3 : decode bL_cell 3 = .ok (.if_icmp .ge 9, 3) := by decide +kernel
theorem dL_cell_6 : decode bL_cell 6 = .ok (.aload_n 0, 1) := by decide +kernel
theorem dL_cell_7 : decode bL_cell 7 = .ok (.iload_n 1, 1) := by decide +kernel
theorem dL_cell_8 : decode bL_cell 8 = .ok (.iaload, 1) := by decide +kernel
theorem dL_cell_9 : decode bL_cell 9 = .ok (.goto 4, 3) := by decide +kernel
theorem dL_cell_12 : decode bL_cell 12 = .ok (.iconst 0, 1) := by decide +kernel
theorem dL_cell_13 : decode bL_cell 13 = .ok (.ireturn, 1) := by decide +kernel
theorem dL_content_0 : decode bL_content 0 = .ok (.aload_n 3, 1) := by decide +kernel
theorem dL_content_1 : decode bL_content 1 = .ok (.iconst 0, 1) := by decide +kernel
theorem dL_content_2 : decode bL_content 2 = .ok (.aload_n 0, 1) := by decide +kernel
theorem dL_content_3 : decode bL_content 3 = .ok (.iload_n 1, 1) := by decide +kernel
theorem dL_content_4 : decode bL_content 4 = .ok (.iload_n 2, 1) := by decide +kernel
theorem dL_content_5 : decode bL_content 5 = .ok (.invokevirtual 45, 3) := by decide +kernel
theorem dL_content_13 : decode bL_content 13 = .ok (.astore 4, 2) := by decide +kernel
theorem dL_content_15 : decode bL_content 15 = .ok (.iconst 1, 1) := by decide +kernel
theorem dL_content_16 : decode bL_content 16 = .ok (.ireturn, 1) := by decide +kernel
theorem dL_degree_0 : decode bL_degree 0 = .ok (.aload_n 3, 1) := by decide +kernel
theorem dL_degree_1 : decode bL_degree 1 = .ok (.iconst 0, 1) := by decide +kernel
theorem dL_degree_2 : decode bL_degree 2 = .ok (.aload_n 0, 1) := by decide +kernel
theorem dL_degree_3 : decode bL_degree 3 = .ok (.iload_n 1, 1) := by decide +kernel
theorem dL_degree_4 : decode bL_degree 4 = .ok (.iload_n 2, 1) := by decide +kernel
theorem dL_degree_5 : decode bL_degree 5 = .ok (.invokevirtual 65, 3) := by decide +kernel
theorem dL_degree_13 : decode bL_degree 13 = .ok (.astore 4, 2) := by decide +kernel
theorem dL_degree_15 : decode bL_degree 15 = .ok (.iconst 1, 1) := by decide +kernel
theorem dL_degree_16 : decode bL_degree 16 = .ok (.ireturn, 1) := by decide +kernel
theorem dL_equal_0 : decode bL_equal 0 = .ok (.aload_n 3, 1) := by decide +kernel
theorem dL_equal_1 : decode bL_equal 1 = .ok (.iconst 0, 1) := by decide +kernel
theorem dL_equal_2 : decode bL_equal 2 = .ok (.aload_n 0, 1) := by decide +kernel
theorem dL_equal_3 : decode bL_equal 3 = .ok (.iload_n 1, 1) := by decide +kernel
theorem dL_equal_4 : decode bL_equal 4 = .ok (.iload_n 2, 1) := by decide +kernel
theorem dL_equal_5 : decode bL_equal 5 = .ok (.invokevirtual 54, 3) := by decide +kernel
theorem dL_equal_20 : decode bL_equal 20 = .ok (.astore 4, 2) := by decide +kernel
theorem dL_equal_22 : decode bL_equal 22 = .ok (.iconst 1, 1) := by decide +kernel
theorem dL_equal_23 : decode bL_equal 23 = .ok (.ireturn, 1) := by decide +kernel
theorem dL_gcd_0 : decode bL_gcd 0 = .ok (.aload_n 3, 1) := by decide +kernel
theorem dL_gcd_1 : decode bL_gcd 1 = .ok (.iconst 0, 1) := by decide +kernel
theorem dL_gcd_2 : decode bL_gcd 2 = .ok (.aload_n 0, 1) := by decide +kernel
theorem dL_gcd_3 : decode bL_gcd 3 = .ok (.iload_n 1, 1) := by decide +kernel
theorem dL_gcd_4 : decode bL_gcd 4 = .ok (.iload_n 2, 1) := by decide +kernel
theorem dL_gcd_5 : decode bL_gcd 5 = .ok (.invokevirtual 35, 3) := by decide +kernel
theorem dL_gcd_13 : decode bL_gcd 13 = .ok (.astore 4, 2) := by decide +kernel
theorem dL_gcd_15 : decode bL_gcd 15 = .ok (.iconst 1, 1) := by decide +kernel
theorem dL_gcd_16 : decode bL_gcd 16 = .ok (.ireturn, 1) := by decide +kernel
theorem dL_image_0 : decode bL_image 0 = .ok (.aload 4, 2) := by decide +kernel
theorem dL_image_2 : decode bL_image 2 = .ok (.iconst 0, 1) := by decide +kernel
theorem dL_image_3 : decode bL_image 3 = .ok (.aload_n 0, 1) := by decide +kernel
theorem dL_image_4 : decode bL_image 4 = .ok (.iload_n 1, 1) := by decide +kernel
theorem dL_image_5 : decode bL_image 5 = .ok (.iload_n 2, 1) := by decide +kernel
theorem dL_image_6 : decode bL_image 6 = .ok (.iload_n 3, 1) := by decide +kernel
theorem dL_image_7 : decode bL_image 7 = .ok (.invokevirtual 51, 3) := by decide +kernel
theorem dL_image_15 : decode bL_image 15 = .ok (.astore 5, 2) := by decide +kernel
theorem dL_image_17 : decode bL_image 17 = .ok (.iconst 1, 1) := by decide +kernel
theorem dL_image_18 : decode bL_image 18 = .ok (.ireturn, 1) := by decide +kernel
theorem dL_over_0 : decode bL_over 0 = .ok (.aload_n 3, 1) := by decide +kernel
theorem dL_over_1 : decode bL_over 1 = .ok (.iconst 0, 1) := by decide +kernel
theorem dL_over_2 : decode bL_over 2 = .ok (.aload_n 0, 1) := by decide +kernel
theorem dL_over_3 : decode bL_over 3 = .ok (.iload_n 1, 1) := by decide +kernel
theorem dL_over_4 : decode bL_over 4 = .ok (.iload_n 2, 1) := by decide +kernel
theorem dL_over_5 : decode bL_over 5 = .ok (.invokevirtual 32, 3) := by decide +kernel
theorem dL_over_13 : decode bL_over 13 = .ok (.astore 4, 2) := by decide +kernel
theorem dL_over_15 : decode bL_over 15 = .ok (.iconst 1, 1) := by decide +kernel
theorem dL_over_16 : decode bL_over 16 = .ok (.ireturn, 1) := by decide +kernel
theorem dL_part_0 : decode bL_part 0 = .ok (.aload_n 3, 1) := by decide +kernel
theorem dL_part_1 : decode bL_part 1 = .ok (.iconst 0, 1) := by decide +kernel
theorem dL_part_2 : decode bL_part 2 = .ok (.aload_n 0, 1) := by decide +kernel
theorem dL_part_3 : decode bL_part 3 = .ok (.iload_n 1, 1) := by decide +kernel
theorem dL_part_4 : decode bL_part 4 = .ok (.iload_n 2, 1) := by decide +kernel
theorem dL_part_5 : decode bL_part 5 = .ok (.invokevirtual 48, 3) := by decide +kernel
theorem dL_part_13 : decode bL_part 13 = .ok (.astore 4, 2) := by decide +kernel
theorem dL_part_15 : decode bL_part 15 = .ok (.iconst 1, 1) := by decide +kernel
theorem dL_part_16 : decode bL_part 16 = .ok (.ireturn, 1) := by decide +kernel
theorem dL_poly_0 : decode bL_poly 0 = .ok (.aload_n 1, 1) := by decide +kernel
theorem dL_poly_1 : decode bL_poly 1 = .ok (.iconst 0, 1) := by decide +kernel
theorem dL_poly_2 : decode bL_poly 2 = .ok (.aload_n 0, 1) := by decide +kernel
theorem dL_poly_3 : decode bL_poly 3 = .ok (.invokevirtual 7, 3) := by decide +kernel
theorem dL_poly_6 : decode bL_poly 6 = .ok (.i2l, 1) := by decide +kernel
theorem dL_poly_7 : decode bL_poly 7 = .ok (.lastore, 1) := by decide +kernel
theorem dL_poly_8 : decode bL_poly 8 = .ok (.goto 6, 3) := by decide +kernel
theorem dL_poly_14 : decode bL_poly 14 = .ok (.iconst 0, 1) := by decide +kernel
theorem dL_poly_15 : decode bL_poly 15 = .ok (.ireturn, 1) := by decide +kernel
theorem dL_resultant_0 : decode bL_resultant 0 = .ok (.aload 4, 2) := by decide +kernel
theorem dL_resultant_2 : decode bL_resultant 2 = .ok (.iconst 0, 1) := by decide +kernel
theorem dL_resultant_3 : decode bL_resultant 3 = .ok (.aload_n 0, 1) := by decide +kernel
theorem dL_resultant_4 : decode bL_resultant 4 = .ok (.iload_n 1, 1) := by decide +kernel
theorem dL_resultant_5 : decode bL_resultant 5 = .ok (.iload_n 2, 1) := by decide +kernel
theorem dL_resultant_6 : decode bL_resultant 6 = .ok (.iload_n 3, 1) := by decide +kernel
theorem dL_resultant_7 : decode bL_resultant 7 = .ok (.invokevirtual 38, 3) := by decide +kernel
theorem dL_resultant_15 : decode bL_resultant 15 = .ok (.astore 5, 2) := by decide +kernel
theorem dL_resultant_17 : decode bL_resultant 17 = .ok (.iconst 1, 1) := by decide +kernel
theorem dL_resultant_18 : decode bL_resultant 18 = .ok (.ireturn, 1) := by decide +kernel
theorem dL_slope_0 : decode bL_slope 0 = .ok (.aload_n 3, 1) := by decide +kernel
theorem dL_slope_1 : decode bL_slope 1 = .ok (.iconst 0, 1) := by decide +kernel
theorem dL_slope_2 : decode bL_slope 2 = .ok (.aload_n 0, 1) := by decide +kernel
theorem dL_slope_3 : decode bL_slope 3 = .ok (.iload_n 1, 1) := by decide +kernel
theorem dL_slope_4 : decode bL_slope 4 = .ok (.iload_n 2, 1) := by decide +kernel
theorem dL_slope_5 : decode bL_slope 5 = .ok (.invokevirtual 42, 3) := by decide +kernel
theorem dL_slope_13 : decode bL_slope 13 = .ok (.astore 4, 2) := by decide +kernel
theorem dL_slope_15 : decode bL_slope 15 = .ok (.iconst 1, 1) := by decide +kernel
theorem dL_slope_16 : decode bL_slope 16 = .ok (.ireturn, 1) := by decide +kernel
theorem dL_term_0 : decode bL_term 0 = .ok (.aload 7, 2) := by decide +kernel
theorem dL_term_2 : decode bL_term 2 = .ok (.iconst 0, 1) := by decide +kernel
theorem dL_term_3 : decode bL_term 3 = .ok (.aload_n 0, 1) := by decide +kernel
