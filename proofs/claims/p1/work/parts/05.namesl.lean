theorem dM_made_23 : decode bM_made 23 = .ok (.iconst 1, 1) := by decide +kernel
theorem dM_made_24 : decode bM_made 24 = .ok (.isub, 1) := by decide +kernel
theorem dM_made_25 : decode bM_made 25 = .ok (.ireturn, 1) := by decide +kernel
theorem dM_number_0 : decode bM_number 0 = .ok (.lload_n 0, 1) := by decide +kernel
theorem dM_number_1 : decode bM_number 1 = .ok (.ldc2_w 72, 3) := by decide +kernel
theorem dM_number_4 : decode bM_number 4 = .ok (.lrem, 1) := by decide +kernel
theorem dM_number_5 : decode bM_number 5 = .ok (.l2i, 1) := by decide +kernel
theorem dM_number_6 : decode bM_number 6 = .ok (.istore_n 2, 1) := by decide +kernel
theorem dM_number_7 : decode bM_number 7 = .ok (.iload_n 2, 1) := by decide +kernel
theorem dM_number_8 : decode bM_number 8 = .ok (.ifCond .ge 11, 3) := by decide +kernel
theorem dM_number_11 : decode bM_number 11 = .ok (.iload_n 2, 1) := by decide +kernel
theorem dM_number_12 : decode bM_number 12 = .ok (.sipush 32003, 3) := by decide +kernel
theorem dM_number_15 : decode bM_number 15 = .ok (.iadd, 1) := by decide +kernel
theorem dM_number_16 : decode bM_number 16 = .ok (.goto 4, 3) := by decide +kernel
theorem dM_number_19 : decode bM_number 19 = .ok (.iload_n 2, 1) := by decide +kernel
theorem dM_number_20 : decode bM_number 20 = .ok (.ireturn, 1) := by decide +kernel
theorem dM_over_0 : decode bM_over 0 = .ok (.aload_n 0, 1) := by decide +kernel
theorem dM_over_1 : decode bM_over 1 = .ok (.aload_n 0, 1) := by decide +kernel
theorem dM_over_2 : decode bM_over 2 = .ok (.iload_n 1, 1) := by decide +kernel
theorem dM_over_3 : decode bM_over 3 = .ok (.iload_n 2, 1) := by decide +kernel
theorem dM_over_4 : decode bM_over 4 = .ok (.invokevirtual 244, 3) := by decide +kernel
theorem dM_over_7 : decode bM_over 7 = .ok (.aload_n 0, 1) := by decide +kernel
theorem dM_over_8 : decode bM_over 8 = .ok (.invokevirtual 229, 3) := by decide +kernel
theorem dM_over_11 : decode bM_over 11 = .ok (.iconst 0, 1) := by decide +kernel
theorem dM_over_12 : decode bM_over 12 = .ok (.invokevirtual 233, 3) := by decide +kernel
theorem dM_over_15 : decode bM_over 15 = .ok (.ifCond .eq 5, 3) := by decide +kernel
theorem dM_over_18 : decode bM_over 18 = .ok (.iconst 0, 1) := by decide +kernel
theorem dM_over_19 : decode bM_over 19 = .ok (.ireturn, 1) := by decide +kernel
theorem dM_part_0 : decode bM_part 0 = .ok (.aload_n 0, 1) := by decide +kernel
theorem dM_part_1 : decode bM_part 1 = .ok (.iload_n 1, 1) := by decide +kernel
theorem dM_part_2 : decode bM_part 2 = .ok (.invokevirtual 226, 3) := by decide +kernel
theorem dM_part_5 : decode bM_part 5 = .ok (.ifCond .ne 7, 3) := by decide +kernel
theorem dM_part_8 : decode bM_part 8 = .ok (.iconst 1, 1) := by decide +kernel
theorem dM_part_9 : decode bM_part 9 = .ok (.goto 4, 3) := by decide +kernel
theorem dM_part_13 : decode bM_part 13 = .ok (.istore_n 3, 1) := by decide +kernel
theorem dM_part_14 : decode bM_part 14 = .ok (.iload_n 3, 1) := by decide +kernel
theorem dM_part_15 : decode bM_part 15 = .ok (.ifCond .ne 26, 3) := by decide +kernel
theorem dM_part_41 : decode bM_part 41 = .ok (.iconst 0, 1) := by decide +kernel
theorem dM_part_42 : decode bM_part 42 = .ok (.istore 4, 2) := by decide +kernel
theorem dM_part_44 : decode bM_part 44 = .ok (.aload_n 0, 1) := by decide +kernel
theorem dM_part_45 : decode bM_part 45 = .ok (.iload_n 3, 1) := by decide +kernel
theorem dM_part_46 : decode bM_part 46 = .ok (.aload_n 0, 1) := by decide +kernel
theorem dM_part_47 : decode bM_part 47 = .ok (.invokevirtual 229, 3) := by decide +kernel
theorem dM_part_50 : decode bM_part 50 = .ok (.iload 4, 2) := by decide +kernel
theorem dM_part_52 : decode bM_part 52 = .ok (.invokevirtual 233, 3) := by decide +kernel
theorem dM_part_55 : decode bM_part 55 = .ok (.ifCond .eq 5, 3) := by decide +kernel
theorem dM_part_58 : decode bM_part 58 = .ok (.iconst 0, 1) := by decide +kernel
theorem dM_part_59 : decode bM_part 59 = .ok (.ireturn, 1) := by decide +kernel
theorem dM_poly_0 : decode bM_poly 0 = .ok (.aload_n 0, 1) := by decide +kernel
theorem dM_poly_1 : decode bM_poly 1 = .ok (.aload_n 0, 1) := by decide +kernel
theorem dM_poly_2 : decode bM_poly 2 = .ok (.invokevirtual 229, 3) := by decide +kernel
theorem dM_poly_5 : decode bM_poly 5 = .ok (.iconst 0, 1) := by decide +kernel
theorem dM_poly_6 : decode bM_poly 6 = .ok (.iconst 0, 1) := by decide +kernel
theorem dM_poly_7 : decode bM_poly 7 = .ok (.invokevirtual 233, 3) := by decide +kernel
theorem dM_poly_10 : decode bM_poly 10 = .ok (.ifCond .eq 5, 3) := by decide +kernel
theorem dM_poly_15 : decode bM_poly 15 = .ok (.aload_n 0, 1) := by decide +kernel
theorem dM_poly_16 : decode bM_poly 16 = .ok (.bipush 66, 2) := by decide +kernel
theorem dM_poly_18 : decode bM_poly 18 = .ok (.invokevirtual 95, 3) := by decide +kernel
theorem dM_poly_21 : decode bM_poly 21 = .ok (.aload_n 0, 1) := by decide +kernel
theorem dM_poly_22 : decode bM_poly 22 = .ok (.bipush 66, 2) := by decide +kernel
theorem dM_poly_24 : decode bM_poly 24 = .ok (.invokevirtual 237, 3) := by decide +kernel
theorem dM_poly_27 : decode bM_poly 27 = .ok (.ireturn, 1) := by decide +kernel
theorem dM_resultant_0 : decode bM_resultant 0 = .ok (.aload_n 0, 1) := by decide +kernel
theorem dM_resultant_1 : decode bM_resultant 1 = .ok (.iload_n 1, 1) := by decide +kernel
theorem dM_resultant_2 : decode bM_resultant 2 = .ok (.iload_n 2, 1) := by decide +kernel
theorem dM_resultant_3 : decode bM_resultant 3 = .ok (.invokevirtual 244, 3) := by decide +kernel
theorem dM_resultant_6 : decode bM_resultant 6 = .ok (.istore 4, 2) := by decide +kernel
theorem dM_resultant_8 : decode bM_resultant 8 = .ok (.iload 4, 2) := by decide +kernel
theorem dM_resultant_10 : decode bM_resultant 10 = .ok (.ifCond .ne 25, 3) := by decide +kernel
theorem dM_resultant_35 : decode bM_resultant 35 = .ok (.iconst 0, 1) := by decide +kernel
theorem dM_resultant_36 : decode bM_resultant 36 = .ok (.istore 5, 2) := by decide +kernel
theorem dM_resultant_38 : decode bM_resultant 38 = .ok (.aload_n 0, 1) := by decide +kernel
theorem dM_resultant_39 : decode bM_resultant 39 = .ok (.iload 4, 2) := by decide +kernel
theorem dM_resultant_41 : decode bM_resultant 41 = .ok (.aload_n 0, 1) := by decide +kernel
theorem dM_resultant_42 : decode bM_resultant 42 = .ok (.invokevirtual 229, 3) := by decide +kernel
theorem dM_resultant_45 : decode bM_resultant 45 = .ok (.iload 5, 2) := by decide +kernel
theorem dM_resultant_47 : decode bM_resultant 47 = .ok (.invokevirtual 233, 3) := by decide +kernel
theorem dM_resultant_50 : decode bM_resultant 50 = .ok (.ifCond .eq 5, 3) := by decide +kernel
theorem dM_resultant_53 : decode bM_resultant 53 = .ok (.iconst 0, 1) := by decide +kernel
theorem dM_resultant_54 : decode bM_resultant 54 = .ok (.ireturn, 1) := by decide +kernel
theorem dM_slope_0 : decode bM_slope 0 = .ok (.aload_n 0, 1) := by decide +kernel
theorem dM_slope_1 : decode bM_slope 1 = .ok (.aload_n 0, 1) := by decide +kernel
theorem dM_slope_2 : decode bM_slope 2 = .ok (.iload_n 1, 1) := by decide +kernel
theorem dM_slope_3 : decode bM_slope 3 = .ok (.invokevirtual 226, 3) := by decide +kernel
theorem dM_slope_6 : decode bM_slope 6 = .ok (.ifCond .ne 7, 3) := by decide +kernel
theorem dM_slope_9 : decode bM_slope 9 = .ok (.iconst 1, 1) := by decide +kernel
theorem dM_slope_10 : decode bM_slope 10 = .ok (.goto 4, 3) := by decide +kernel
theorem dM_slope_14 : decode bM_slope 14 = .ok (.aload_n 0, 1) := by decide +kernel
theorem dM_slope_15 : decode bM_slope 15 = .ok (.invokevirtual 229, 3) := by decide +kernel
theorem dM_slope_18 : decode bM_slope 18 = .ok (.aload_n 0, 1) := by decide +kernel
theorem dM_slope_19 : decode bM_slope 19 = .ok (.iload_n 2, 1) := by decide +kernel
theorem dM_slope_20 : decode bM_slope 20 = .ok (.invokevirtual 268, 3) := by decide +kernel
theorem dM_slope_23 : decode bM_slope 23 = .ok (.ifCond .ne 7, 3) := by decide +kernel
theorem dM_slope_26 : decode bM_slope 26 = .ok (.iconst 1, 1) := by decide +kernel
theorem dM_slope_27 : decode bM_slope 27 = .ok (.goto 4, 3) := by decide +kernel
theorem dM_slope_30 : decode bM_slope 30 = .ok (.iconst 0, 1) := by decide +kernel
theorem dM_slope_31 : decode bM_slope 31 = .ok (.invokevirtual 233, 3) := by decide +kernel
theorem dM_slope_34 : decode bM_slope 34 = .ok (.ifCond .eq 5, 3) := by decide +kernel
theorem dM_slope_37 : decode bM_slope 37 = .ok (.iconst 0, 1) := by decide +kernel
theorem dM_slope_38 : decode bM_slope 38 = .ok (.ireturn, 1) := by decide +kernel
theorem dM_term_0 : decode bM_term 0 = .ok (.aload_n 0, 1) := by decide +kernel
theorem dM_term_1 : decode bM_term 1 = .ok (.aload_n 0, 1) := by decide +kernel
theorem dM_term_2 : decode bM_term 2 = .ok (.iload_n 1, 1) := by decide +kernel
theorem dM_term_3 : decode bM_term 3 = .ok (.invokevirtual 226, 3) := by decide +kernel
theorem dM_term_6 : decode bM_term 6 = .ok (.ifCond .ne 7, 3) := by decide +kernel
theorem dM_term_9 : decode bM_term 9 = .ok (.iconst 1, 1) := by decide +kernel
theorem dM_term_10 : decode bM_term 10 = .ok (.goto 4, 3) := by decide +kernel
theorem dM_term_14 : decode bM_term 14 = .ok (.iload 6, 2) := by decide +kernel
theorem dM_term_16 : decode bM_term 16 = .ok (.ifCond .lt 16, 3) := by decide +kernel
theorem dM_term_19 : decode bM_term 19 = .ok (.iload 6, 2) := by decide +kernel
theorem dM_term_21 : decode bM_term 21 = .ok (.iconst 1, 1) := by decide +kernel
theorem dM_term_22 : decode bM_term 22 = .ok (.iconst 4, 1) := by decide +kernel
theorem dM_term_23 : decode bM_term 23 = .ok (.aload_n 0, 1) := by decide +kernel
theorem dM_term_24 : decode bM_term 24 = .ok (.getfield 65, 3) := by decide +kernel
theorem dM_term_27 : decode bM_term 27 = .ok (.imul, 1) := by decide +kernel
theorem dM_term_28 : decode bM_term 28 = .ok (.ishl, 1) := by decide +kernel
theorem dM_term_29 : decode bM_term 29 = .ok (.if_icmp .lt 7, 3) := by decide +kernel
theorem dM_term_32 : decode bM_term 32 = .ok (.iconst 1, 1) := by decide +kernel
theorem dM_term_33 : decode bM_term 33 = .ok (.goto 4, 3) := by decide +kernel
theorem dM_term_36 : decode bM_term 36 = .ok (.iconst 0, 1) := by decide +kernel
