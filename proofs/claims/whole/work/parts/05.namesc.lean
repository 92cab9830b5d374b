theorem dL_over_2 : decode bL_over 2 = .ok (.aload_n 0, 1) := by decide +kernel
theorem dL_over_3 : decode bL_over 3 = .ok (.iload_n 1, 1) := by decide +kernel
theorem dL_over_4 : decode bL_over 4 = .ok (.iload_n 2, 1) := by decide +kernel
theorem dL_over_5 : decode bL_over 5 = .ok (.invokevirtual 32, 3) := by decide +kernel
theorem dL_over_13 : decode bL_over 13 = .ok (.astore 4, 2) := by decide +kernel
theorem dL_over_15 : decode bL_over 15 = .ok (.iconst 1, 1) := by decide +kernel
theorem dL_over_16 : decode bL_over 16 = .ok (.ireturn, 1) := by decide +kernel
theorem dL_part_0 : decode bL_part 0 = .ok (.aload_n 3, 1) := by decide +kernel
theorem dL_part_1 : decode bL_part 1 = .ok (.iconst 0, 1) := by decide +kernel
theorem dL_part_2 : decode bL_part 2 = .ok (.aload_n 0, 1) := by decide +kernel
theorem dL_part_3 : decode bL_part 3 = .ok (.iload_n 1, 1) := by decide +kernel
theorem dL_part_4 : decode bL_part 4 = .ok (.iload_n 2, 1) := by decide +kernel
theorem dL_part_5 : decode bL_part 5 = .ok (.invokevirtual 48, 3) := by decide +kernel
theorem dL_part_13 : decode bL_part 13 = .ok (.astore 4, 2) := by decide +kernel
theorem dL_part_15 : decode bL_part 15 = .ok (.iconst 1, 1) := by decide +kernel
theorem dL_part_16 : decode bL_part 16 = .ok (.ireturn, 1) := by decide +kernel
theorem dL_resultant_0 : decode bL_resultant 0 = .ok (.aload 4, 2) := by decide +kernel
theorem dL_resultant_2 : decode bL_resultant 2 = .ok (.iconst 0, 1) := by decide +kernel
theorem dL_resultant_3 : decode bL_resultant 3 = .ok (.aload_n 0, 1) := by decide +kernel
theorem dL_resultant_4 : decode bL_resultant 4 = .ok (.iload_n 1, 1) := by decide +kernel
theorem dL_resultant_5 : decode bL_resultant 5 = .ok (.iload_n 2, 1) := by decide +kernel
theorem dL_resultant_6 : decode bL_resultant 6 = .ok (.iload_n 3, 1) := by decide +kernel
theorem dL_resultant_7 : decode bL_resultant 7 = .ok (.invokevirtual 38, 3) := by decide +kernel
theorem dL_resultant_15 : decode bL_resultant 15 = .ok (.astore 5, 2) := by decide +kernel
theorem dL_resultant_17 : decode bL_resultant 17 = .ok (.iconst 1, 1) := by decide +kernel
theorem dL_resultant_18 : decode bL_resultant 18 = .ok (.ireturn, 1) := by decide +kernel
theorem dL_slope_0 : decode bL_slope 0 = .ok (.aload_n 3, 1) := by decide +kernel
theorem dL_slope_1 : decode bL_slope 1 = .ok (.iconst 0, 1) := by decide +kernel
theorem dL_slope_2 : decode bL_slope 2 = .ok (.aload_n 0, 1) := by decide +kernel
theorem dL_slope_3 : decode bL_slope 3 = .ok (.iload_n 1, 1) := by decide +kernel
theorem dL_slope_4 : decode bL_slope 4 = .ok (.iload_n 2, 1) := by decide +kernel
theorem dL_slope_5 : decode bL_slope 5 = .ok (.invokevirtual 42, 3) := by decide +kernel
theorem dL_slope_13 : decode bL_slope 13 = .ok (.astore 4, 2) := by decide +kernel
theorem dL_slope_15 : decode bL_slope 15 = .ok (.iconst 1, 1) := by decide +kernel
theorem dL_slope_16 : decode bL_slope 16 = .ok (.ireturn, 1) := by decide +kernel
theorem dL_term_0 : decode bL_term 0 = .ok (.aload 7, 2) := by decide +kernel
theorem dL_term_2 : decode bL_term 2 = .ok (.iconst 0, 1) := by decide +kernel
theorem dL_term_3 : decode bL_term 3 = .ok (.aload_n 0, 1) := by decide +kernel
theorem dL_term_4 : decode bL_term 4 = .ok (.iload_n 1, 1) := by decide +kernel
theorem dL_term_5 : decode bL_term 5 = .ok (.lload_n 2, 1) := by decide +kernel
theorem dL_term_6 : decode bL_term 6 = .ok (.lload 4, 2) := by decide +kernel
theorem dL_term_8 : decode bL_term 8 = .ok (.iload 6, 2) := by decide +kernel
theorem dL_term_10 : decode bL_term 10 = .ok (.invokevirtual 15, 3) := by decide +kernel
theorem dL_term_25 : decode bL_term 25 = .ok (.astore 8, 2) := by decide +kernel
theorem dL_term_27 : decode bL_term 27 = .ok (.iconst 1, 1) := by decide +kernel
theorem dL_term_28 : decode bL_term 28 = .ok (.ireturn, 1) := by decide +kernel
theorem dL_terms_0 : decode bL_terms 0 = .ok (.aload_n 2, 1) := by decide +kernel
theorem dL_terms_1 : decode bL_terms 1 = .ok (.iconst 0, 1) := by decide +kernel
theorem dL_terms_2 : decode bL_terms 2 = .ok (.aload_n 0, 1) := by decide +kernel
theorem dL_terms_3 : decode bL_terms 3 = .ok (.iload_n 1, 1) := by decide +kernel
theorem dL_terms_4 : decode bL_terms 4 = .ok (.invokevirtual 58, 3) := by decide +kernel
theorem dL_terms_12 : decode bL_terms 12 = .ok (.astore_n 3, 1) := by decide +kernel
theorem dL_terms_13 : decode bL_terms 13 = .ok (.iconst 1, 1) := by decide +kernel
theorem dL_terms_14 : decode bL_terms 14 = .ok (.ireturn, 1) := by decide +kernel
theorem dL_times_0 : decode bL_times 0 = .ok (.aload_n 3, 1) := by decide +kernel
theorem dL_times_1 : decode bL_times 1 = .ok (.iconst 0, 1) := by decide +kernel
theorem dL_times_2 : decode bL_times 2 = .ok (.aload_n 0, 1) := by decide +kernel
theorem dL_times_3 : decode bL_times 3 = .ok (.iload_n 1, 1) := by decide +kernel
theorem dL_times_4 : decode bL_times 4 = .ok (.iload_n 2, 1) := by decide +kernel
theorem dL_times_5 : decode bL_times 5 = .ok (.invokevirtual 29, 3) := by decide +kernel
theorem dL_times_13 : decode bL_times 13 = .ok (.astore 4, 2) := by decide +kernel
theorem dL_times_15 : decode bL_times 15 = .ok (.iconst 1, 1) := by decide +kernel
theorem dL_times_16 : decode bL_times 16 = .ok (.ireturn, 1) := by decide +kernel
