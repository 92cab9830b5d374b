theorem dL_degree_3 : decode bL_degree 3 = .ok (.iload_n 1, 1) := by decide +kernel
theorem dL_degree_4 : decode bL_degree 4 = .ok (.iload_n 2, 1) := by decide +kernel
theorem dL_degree_5 : decode bL_degree 5 = .ok (.invokevirtual 65, 3) := by decide +kernel
theorem dL_degree_13 : decode bL_degree 13 = .ok (.astore 4, 2) := by decide +kernel
theorem dL_degree_15 : decode bL_degree 15 = .ok (.iconst 1, 1) := by decide +kernel
theorem dL_degree_16 : decode bL_degree 16 = .ok (.ireturn, 1) := by decide +kernel
theorem dL_equal_0 : decode bL_equal 0 = .ok (.aload_n 3, 1) := by decide +kernel
theorem dL_equal_1 : decode bL_equal 1 = .ok (.iconst 0, 1) := by decide +kernel
theorem dL_equal_2 : decode bL_equal 2 = .ok (.aload_n 0, 1) := by decide +kernel
theorem dL_equal_3 : decode bL_equal 3 = .ok (.iload_n 1, 1) := by decide +kernel
theorem dL_equal_4 : decode bL_equal 4 = .ok (.iload_n 2, 1) := by decide +kernel
theorem dL_equal_5 : decode bL_equal 5 = .ok (.invokevirtual 54, 3) := by decide +kernel
theorem dL_equal_20 : decode bL_equal 20 = .ok (.astore 4, 2) := by decide +kernel
theorem dL_equal_22 : decode bL_equal 22 = .ok (.iconst 1, 1) := by decide +kernel
theorem dL_equal_23 : decode bL_equal 23 = .ok (.ireturn, 1) := by decide +kernel
theorem dL_gcd_0 : decode bL_gcd 0 = .ok (.aload_n 3, 1) := by decide +kernel
theorem dL_gcd_1 : decode bL_gcd 1 = .ok (.iconst 0, 1) := by decide +kernel
theorem dL_gcd_2 : decode bL_gcd 2 = .ok (.aload_n 0, 1) := by decide +kernel
theorem dL_gcd_3 : decode bL_gcd 3 = .ok (.iload_n 1, 1) := by decide +kernel
theorem dL_gcd_4 : decode bL_gcd 4 = .ok (.iload_n 2, 1) := by decide +kernel
theorem dL_gcd_5 : decode bL_gcd 5 = .ok (.invokevirtual 35, 3) := by decide +kernel
theorem dL_gcd_13 : decode bL_gcd 13 = .ok (.astore 4, 2) := by decide +kernel
theorem dL_gcd_15 : decode bL_gcd 15 = .ok (.iconst 1, 1) := by decide +kernel
theorem dL_gcd_16 : decode bL_gcd 16 = .ok (.ireturn, 1) := by decide +kernel
theorem dL_image_0 : decode bL_image 0 = .ok (.aload 4, 2) := by decide +kernel
theorem dL_image_2 : decode bL_image 2 = .ok (.iconst 0, 1) := by decide +kernel
theorem dL_image_3 : decode bL_image 3 = .ok (.aload_n 0, 1) := by decide +kernel
theorem dL_image_4 : decode bL_image 4 = .ok (.iload_n 1, 1) := by decide +kernel
theorem dL_image_5 : decode bL_image 5 = .ok (.iload_n 2, 1) := by decide +kernel
theorem dL_image_6 : decode bL_image 6 = .ok (.iload_n 3, 1) := by decide +kernel
theorem dL_image_7 : decode bL_image 7 = .ok (.invokevirtual 51, 3) := by decide +kernel
theorem dL_image_15 : decode bL_image 15 = .ok (.astore 5, 2) := by decide +kernel
theorem dL_image_17 : decode bL_image 17 = .ok (.iconst 1, 1) := by decide +kernel
theorem dL_image_18 : decode bL_image 18 = .ok (.ireturn, 1) := by decide +kernel
theorem dL_over_0 : decode bL_over 0 = .ok (.aload_n 3, 1) := by decide +kernel
theorem dL_over_1 : decode bL_over 1 = .ok (.iconst 0, 1) := by decide +kernel
theorem dL_over_2 : decode bL_over 2 = .ok (.aload_n 0, 1) := by decide +kernel
theorem dL_over_3 : decode bL_over 3 = .ok (.iload_n 1, 1) := by decide +kernel
theorem dL_over_4 : decode bL_over 4 = .ok (.iload_n 2, 1) := by decide +kernel
theorem dL_over_5 : decode bL_over 5 = .ok (.invokevirtual 32, 3) := by decide +kernel
theorem dL_over_13 : decode bL_over 13 = .ok (.astore 4, 2) := by decide +kernel
theorem dL_over_15 : decode bL_over 15 = .ok (.iconst 1, 1) := by decide +kernel
theorem dL_over_16 : decode bL_over 16 = .ok (.ireturn, 1) := by decide +kernel
theorem dL_part_0 : decode bL_part 0 = .ok (.aload_n 3, 1) := by decide +kernel
theorem dL_part_1 : decode bL_part 1 = .ok (.iconst 0, 1) := by decide +kernel
theorem dL_part_2 : decode bL_part 2 = .ok (.aload_n 0, 1) := by decide +kernel
theorem dL_part_3 : decode bL_part 3 = .ok (.iload_n 1, 1) := by decide +kernel
theorem dL_part_4 : decode bL_part 4 = .ok (.iload_n 2, 1) := by decide +kernel
theorem dL_part_5 : decode bL_part 5 = .ok (.invokevirtual 48, 3) := by decide +kernel
theorem dL_part_13 : decode bL_part 13 = .ok (.astore 4, 2) := by decide +kernel
theorem dL_part_15 : decode bL_part 15 = .ok (.iconst 1, 1) := by decide +kernel
theorem dL_part_16 : decode bL_part 16 = .ok (.ireturn, 1) := by decide +kernel
theorem dL_resultant_0 : decode bL_resultant 0 = .ok (.aload 4, 2) := by decide +kernel
theorem dL_resultant_2 : decode bL_resultant 2 = .ok (.iconst 0, 1) := by decide +kernel
theorem dL_resultant_3 : decode bL_resultant 3 = .ok (.aload_n 0, 1) := by decide +kernel
theorem dL_resultant_4 : decode bL_resultant 4 = .ok (.iload_n 1, 1) := by decide +kernel
theorem dL_resultant_5 : decode bL_resultant 5 = .ok (.iload_n 2, 1) := by decide +kernel
theorem dL_resultant_6 : decode bL_resultant 6 = .ok (.iload_n 3, 1) := by decide +kernel
theorem dL_resultant_7 : decode bL_resultant 7 = .ok (.invokevirtual 38, 3) := by decide +kernel
theorem dL_resultant_15 : decode bL_resultant 15 = .ok (.astore 5, 2) := by decide +kernel
theorem dL_resultant_17 : decode bL_resultant 17 = .ok (.iconst 1, 1) := by decide +kernel
theorem dL_resultant_18 : decode bL_resultant 18 = .ok (.ireturn, 1) := by decide +kernel
theorem dL_slope_0 : decode bL_slope 0 = .ok (.aload_n 3, 1) := by decide +kernel
theorem dL_slope_1 : decode bL_slope 1 = .ok (.iconst 0, 1) := by decide +kernel
theorem dL_slope_2 : decode bL_slope 2 = .ok (.aload_n 0, 1) := by decide +kernel
theorem dL_slope_3 : decode bL_slope 3 = .ok (.iload_n 1, 1) := by decide +kernel
theorem dL_slope_4 : decode bL_slope 4 = .ok (.iload_n 2, 1) := by decide +kernel
theorem dL_slope_5 : decode bL_slope 5 = .ok (.invokevirtual 42, 3) := by decide +kernel
theorem dL_slope_13 : decode bL_slope 13 = .ok (.astore 4, 2) := by decide +kernel
theorem dL_slope_15 : decode bL_slope 15 = .ok (.iconst 1, 1) := by decide +kernel
theorem dL_slope_16 : decode bL_slope 16 = .ok (.ireturn, 1) := by decide +kernel
theorem dL_term_0 : decode bL_term 0 = .ok (.aload 7, 2) := by decide +kernel
theorem dL_term_2 : decode bL_term 2 = .ok (.iconst 0, 1) := by decide +kernel
theorem dL_term_3 : decode bL_term 3 = .ok (.aload_n 0, 1) := by decide +kernel
theorem dL_term_4 : decode bL_term 4 = .ok (.iload_n 1, 1) := by decide +kernel
theorem dL_term_5 : decode bL_term 5 = .ok (.lload_n 2, 1) := by decide +kernel
theorem dL_term_6 : decode bL_term 6 = .ok (.lload 4, 2) := by decide +kernel
theorem dL_term_8 : decode bL_term 8 = .ok (.iload 6, 2) := by decide +kernel
theorem dL_term_10 : decode bL_term 10 = .ok (.invokevirtual 15, 3) := by decide +kernel
theorem dL_term_25 : decode bL_term 25 = .ok (.astore 8, 2) := by decide +kernel
theorem dL_term_27 : decode bL_term 27 = .ok (.iconst 1, 1) := by decide +kernel
theorem dL_term_28 : decode bL_term 28 = .ok (.ireturn, 1) := by decide +kernel
theorem dL_terms_0 : decode bL_terms 0 = .ok (.aload_n 2, 1) := by decide +kernel
theorem dL_terms_1 : decode bL_terms 1 = .ok (.iconst 0, 1) := by decide +kernel
theorem dL_terms_2 : decode bL_terms 2 = .ok (.aload_n 0, 1) := by decide +kernel
theorem dL_terms_3 : decode bL_terms 3 = .ok (.iload_n 1, 1) := by decide +kernel
theorem dL_terms_4 : decode bL_terms 4 = .ok (.invokevirtual 58, 3) := by decide +kernel
theorem dL_terms_12 : decode bL_terms 12 = .ok (.astore_n 3, 1) := by decide +kernel
theorem dL_terms_13 : decode bL_terms 13 = .ok (.iconst 1, 1) := by decide +kernel
theorem dL_terms_14 : decode bL_terms 14 = .ok (.ireturn, 1) := by decide +kernel
theorem dL_times_0 : decode bL_times 0 = .ok (.aload_n 3, 1) := by decide +kernel
theorem dL_times_1 : decode bL_times 1 = .ok (.iconst 0, 1) := by decide +kernel
theorem dL_times_2 : decode bL_times 2 = .ok (.aload_n 0, 1) := by decide +kernel
theorem dL_times_3 : decode bL_times 3 = .ok (.iload_n 1, 1) := by decide +kernel
theorem dL_times_4 : decode bL_times 4 = .ok (.iload_n 2, 1) := by decide +kernel
theorem dL_times_5 : decode bL_times 5 = .ok (.invokevirtual 29, 3) := by decide +kernel
theorem dL_times_13 : decode bL_times 13 = .ok (.astore 4, 2) := by decide +kernel
theorem dL_times_15 : decode bL_times 15 = .ok (.iconst 1, 1) := by decide +kernel
theorem dL_times_16 : decode bL_times 16 = .ok (.ireturn, 1) := by decide +kernel
theorem dM_add_0 : decode bM_add 0 = .ok (.aload_n 0, 1) := by decide +kernel
theorem dM_add_1 : decode bM_add 1 = .ok (.aload_n 0, 1) := by decide +kernel
theorem dM_add_2 : decode bM_add 2 = .ok (.iload_n 1, 1) := by decide +kernel
theorem dM_add_3 : decode bM_add 3 = .ok (.iload_n 2, 1) := by decide +kernel
theorem dM_add_4 : decode bM_add 4 = .ok (.invokevirtual 244, 3) := by decide +kernel
theorem dM_add_7 : decode bM_add 7 = .ok (.aload_n 0, 1) := by decide +kernel
theorem dM_add_8 : decode bM_add 8 = .ok (.invokevirtual 229, 3) := by decide +kernel
theorem dM_add_11 : decode bM_add 11 = .ok (.iconst 0, 1) := by decide +kernel
theorem dM_add_12 : decode bM_add 12 = .ok (.invokevirtual 233, 3) := by decide +kernel
theorem dM_add_15 : decode bM_add 15 = .ok (.ifCond .eq 5, 3) := by decide +kernel
theorem dM_add_18 : decode bM_add 18 = .ok (.iconst 0, 1) := by decide +kernel
theorem dM_add_19 : decode bM_add 19 = .ok (.ireturn, 1) := by decide +kernel
theorem dM_areNot_0 : decode bM_areNot 0 = .ok (.aload_n 0, 1) := by decide +kernel
theorem dM_areNot_1 : decode bM_areNot 1 = .ok (.iload_n 1, 1) := by decide +kernel
theorem dM_areNot_2 : decode bM_areNot 2 = .ok (.invokevirtual 226, 3) := by decide +kernel
theorem dM_areNot_5 : decode bM_areNot 5 = .ok (.ifCond .eq 11, 3) := by decide +kernel
theorem dM_areNot_16 : decode bM_areNot 16 = .ok (.iconst 1, 1) := by decide +kernel
theorem dM_areNot_17 : decode bM_areNot 17 = .ok (.goto 4, 3) := by decide +kernel
theorem dM_areNot_21 : decode bM_areNot 21 = .ok (.ireturn, 1) := by decide +kernel
theorem dM_at_0 : decode bM_at 0 = .ok (.aload_n 0, 1) := by decide +kernel
theorem dM_at_1 : decode bM_at 1 = .ok (.iload_n 1, 1) := by decide +kernel
