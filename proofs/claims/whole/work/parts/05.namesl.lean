theorem dM_part_13 : decode bM_part 13 = .ok (.istore_n 3, 1) := by decide +kernel
theorem dM_part_14 : decode bM_part 14 = .ok (.iload_n 3, 1) := by decide +kernel
theorem dM_part_15 : decode bM_part 15 = .ok (.ifCond .ne 26, 3) := by decide +kernel
theorem dM_part_41 : decode bM_part 41 = .ok (.iconst 0, 1) := by decide +kernel
theorem dM_part_42 : decode bM_part 42 = .ok (.istore 4, 2) := by decide +kernel
theorem dM_part_44 : decode bM_part 44 = .ok (.aload_n 0, 1) := by decide +kernel
theorem dM_part_45 : decode bM_part 45 = .ok (.iload_n 3, 1) := by decide +kernel
theorem dM_part_46 : decode bM_part 46 = .ok (.aload_n 0, 1) := by decide +kernel
theorem dM_part_47 : decode bM_part 47 = .ok (.invokevirtual 229, 3) := by decide +kernel
theorem dM_part_50 : decode bM_part 50 = .ok (.iload 4, 2) := by decide +kernel
theorem dM_part_52 : decode bM_part 52 = .ok (.invokevirtual 233, 3) := by decide +kernel
theorem dM_part_55 : decode bM_part 55 = .ok (.ifCond .eq 5, 3) := by decide +kernel
theorem dM_part_58 : decode bM_part 58 = .ok (.iconst 0, 1) := by decide +kernel
theorem dM_part_59 : decode bM_part 59 = .ok (.ireturn, 1) := by decide +kernel
theorem dM_poly_0 : decode bM_poly 0 = .ok (.aload_n 0, 1) := by decide +kernel
theorem dM_poly_1 : decode bM_poly 1 = .ok (.aload_n 0, 1) := by decide +kernel
theorem dM_poly_2 : decode bM_poly 2 = .ok (.invokevirtual 229, 3) := by decide +kernel
theorem dM_poly_5 : decode bM_poly 5 = .ok (.iconst 0, 1) := by decide +kernel
theorem dM_poly_6 : decode bM_poly 6 = .ok (.iconst 0, 1) := by decide +kernel
theorem dM_poly_7 : decode bM_poly 7 = .ok (.invokevirtual 233, 3) := by decide +kernel
theorem dM_poly_10 : decode bM_poly 10 = .ok (.ifCond .eq 5, 3) := by decide +kernel
theorem dM_poly_15 : decode bM_poly 15 = .ok (.aload_n 0, 1) := by decide +kernel
theorem dM_poly_16 : decode bM_poly 16 = .ok (.bipush 66, 2) := by decide +kernel
theorem dM_poly_18 : decode bM_poly 18 = .ok (.invokevirtual 95, 3) := by decide +kernel
theorem dM_poly_21 : decode bM_poly 21 = .ok (.aload_n 0, 1) := by decide +kernel
theorem dM_poly_22 : decode bM_poly 22 = .ok (.bipush 66, 2) := by decide +kernel
theorem dM_poly_24 : decode bM_poly 24 = .ok (.invokevirtual 237, 3) := by decide +kernel
theorem dM_poly_27 : decode bM_poly 27 = .ok (.ireturn, 1) := by decide +kernel
theorem dM_resultant_0 : decode bM_resultant 0 = .ok (.aload_n 0, 1) := by decide +kernel
theorem dM_resultant_1 : decode bM_resultant 1 = .ok (.iload_n 1, 1) := by decide +kernel
theorem dM_resultant_2 : decode bM_resultant 2 = .ok (.iload_n 2, 1) := by decide +kernel
theorem dM_resultant_3 : decode bM_resultant 3 = .ok (.invokevirtual 244, 3) := by decide +kernel
theorem dM_resultant_6 : decode bM_resultant 6 = .ok (.istore 4, 2) := by decide +kernel
theorem dM_resultant_8 : decode bM_resultant 8 = .ok (.iload 4, 2) := by decide +kernel
theorem dM_resultant_10 : decode bM_resultant 10 = .ok (.ifCond .ne 25, 3) := by decide +kernel
theorem dM_resultant_35 : decode bM_resultant 35 = .ok (.iconst 0, 1) := by decide +kernel
theorem dM_resultant_36 : decode bM_resultant 36 = .ok (.istore 5, 2) := by decide +kernel
theorem dM_resultant_38 : decode bM_resultant 38 = .ok (.aload_n 0, 1) := by decide +kernel
theorem dM_resultant_39 : decode bM_resultant 39 = .ok (.iload 4, 2) := by decide +kernel
theorem dM_resultant_41 : decode bM_resultant 41 = .ok (.aload_n 0, 1) := by decide +kernel
theorem dM_resultant_42 : decode bM_resultant 42 = .ok (.invokevirtual 229, 3) := by decide +kernel
theorem dM_resultant_45 : decode bM_resultant 45 = .ok (.iload 5, 2) := by decide +kernel
theorem dM_resultant_47 : decode bM_resultant 47 = .ok (.invokevirtual 233, 3) := by decide +kernel
theorem dM_resultant_50 : decode bM_resultant 50 = .ok (.ifCond .eq 5, 3) := by decide +kernel
theorem dM_resultant_53 : decode bM_resultant 53 = .ok (.iconst 0, 1) := by decide +kernel
theorem dM_resultant_54 : decode bM_resultant 54 = .ok (.ireturn, 1) := by decide +kernel
theorem dM_slope_0 : decode bM_slope 0 = .ok (.aload_n 0, 1) := by decide +kernel
theorem dM_slope_1 : decode bM_slope 1 = .ok (.aload_n 0, 1) := by decide +kernel
theorem dM_slope_2 : decode bM_slope 2 = .ok (.iload_n 1, 1) := by decide +kernel
theorem dM_slope_3 : decode bM_slope 3 = .ok (.invokevirtual 226, 3) := by decide +kernel
theorem dM_slope_6 : decode bM_slope 6 = .ok (.ifCond .ne 7, 3) := by decide +kernel
theorem dM_slope_9 : decode bM_slope 9 = .ok (.iconst 1, 1) := by decide +kernel
theorem dM_slope_10 : decode bM_slope 10 = .ok (.goto 4, 3) := by decide +kernel
theorem dM_slope_14 : decode bM_slope 14 = .ok (.aload_n 0, 1) := by decide +kernel
theorem dM_slope_15 : decode bM_slope 15 = .ok (.invokevirtual 229, 3) := by decide +kernel
theorem dM_slope_18 : decode bM_slope 18 = .ok (.aload_n 0, 1) := by decide +kernel
theorem dM_slope_19 : decode bM_slope 19 = .ok (.iload_n 2, 1) := by decide +kernel
theorem dM_slope_20 : decode bM_slope 20 = .ok (.invokevirtual 268, 3) := by decide +kernel
theorem dM_slope_23 : decode bM_slope 23 = .ok (.ifCond .ne 7, 3) := by decide +kernel
theorem dM_slope_26 : decode bM_slope 26 = .ok (.iconst 1, 1) := by decide +kernel
theorem dM_slope_27 : decode bM_slope 27 = .ok (.goto 4, 3) := by decide +kernel
theorem dM_slope_30 : decode bM_slope 30 = .ok (.iconst 0, 1) := by decide +kernel
theorem dM_slope_31 : decode bM_slope 31 = .ok (.invokevirtual 233, 3) := by decide +kernel
theorem dM_slope_34 : decode bM_slope 34 = .ok (.ifCond .eq 5, 3) := by decide +kernel
theorem dM_slope_37 : decode bM_slope 37 = .ok (.iconst 0, 1) := by decide +kernel
theorem dM_slope_38 : decode bM_slope 38 = .ok (.ireturn, 1) := by decide +kernel
theorem dM_term_0 : decode bM_term 0 = .ok (.aload_n 0, 1) := by decide +kernel
theorem dM_term_1 : decode bM_term 1 = .ok (.aload_n 0, 1) := by decide +kernel
theorem dM_term_2 : decode bM_term 2 = .ok (.iload_n 1, 1) := by decide +kernel
theorem dM_term_3 : decode bM_term 3 = .ok (.invokevirtual 226, 3) := by decide +kernel
theorem dM_term_6 : decode bM_term 6 = .ok (.ifCond .ne 7, 3) := by decide +kernel
theorem dM_term_9 : decode bM_term 9 = .ok (.iconst 1, 1) := by decide +kernel
theorem dM_term_10 : decode bM_term 10 = .ok (.goto 4, 3) := by decide +kernel
theorem dM_term_14 : decode bM_term 14 = .ok (.iload 6, 2) := by decide +kernel
theorem dM_term_16 : decode bM_term 16 = .ok (.ifCond .lt 16, 3) := by decide +kernel
theorem dM_term_19 : decode bM_term 19 = .ok (.iload 6, 2) := by decide +kernel
theorem dM_term_21 : decode bM_term 21 = .ok (.iconst 1, 1) := by decide +kernel
theorem dM_term_22 : decode bM_term 22 = .ok (.iconst 4, 1) := by decide +kernel
theorem dM_term_23 : decode bM_term 23 = .ok (.aload_n 0, 1) := by decide +kernel
theorem dM_term_24 : decode bM_term 24 = .ok (.getfield 65, 3) := by decide +kernel
theorem dM_term_27 : decode bM_term 27 = .ok (.imul, 1) := by decide +kernel
theorem dM_term_28 : decode bM_term 28 = .ok (.ishl, 1) := by decide +kernel
theorem dM_term_29 : decode bM_term 29 = .ok (.if_icmp .lt 7, 3) := by decide +kernel
theorem dM_term_32 : decode bM_term 32 = .ok (.iconst 1, 1) := by decide +kernel
theorem dM_term_33 : decode bM_term 33 = .ok (.goto 4, 3) := by decide +kernel
theorem dM_term_36 : decode bM_term 36 = .ok (.iconst 0, 1) := by decide +kernel
theorem dM_term_37 : decode bM_term 37 = .ok (.lload 4, 2) := by decide +kernel
theorem dM_term_39 : decode bM_term 39 = .ok (.invokestatic 240, 3) := by decide +kernel
theorem dM_term_42 : decode bM_term 42 = .ok (.ifCond .ne 7, 3) := by decide +kernel
theorem dM_term_45 : decode bM_term 45 = .ok (.iconst 1, 1) := by decide +kernel
theorem dM_term_46 : decode bM_term 46 = .ok (.goto 4, 3) := by decide +kernel
theorem dM_term_49 : decode bM_term 49 = .ok (.iconst 0, 1) := by decide +kernel
theorem dM_term_50 : decode bM_term 50 = .ok (.invokevirtual 233, 3) := by decide +kernel
theorem dM_term_53 : decode bM_term 53 = .ok (.ifCond .eq 5, 3) := by decide +kernel
theorem dM_term_56 : decode bM_term 56 = .ok (.iconst 0, 1) := by decide +kernel
theorem dM_term_57 : decode bM_term 57 = .ok (.ireturn, 1) := by decide +kernel
theorem dM_terms_0 : decode bM_terms 0 = .ok (.aload_n 0, 1) := by decide +kernel
theorem dM_terms_1 : decode bM_terms 1 = .ok (.aload_n 0, 1) := by decide +kernel
theorem dM_terms_2 : decode bM_terms 2 = .ok (.iload_n 1, 1) := by decide +kernel
theorem dM_terms_3 : decode bM_terms 3 = .ok (.invokevirtual 226, 3) := by decide +kernel
theorem dM_terms_6 : decode bM_terms 6 = .ok (.ifCond .ne 7, 3) := by decide +kernel
theorem dM_terms_9 : decode bM_terms 9 = .ok (.iconst 1, 1) := by decide +kernel
theorem dM_terms_10 : decode bM_terms 10 = .ok (.goto 4, 3) := by decide +kernel
theorem dM_terms_14 : decode bM_terms 14 = .ok (.iconst 0, 1) := by decide +kernel
theorem dM_terms_15 : decode bM_terms 15 = .ok (.iconst 0, 1) := by decide +kernel
theorem dM_terms_16 : decode bM_terms 16 = .ok (.invokevirtual 233, 3) := by decide +kernel
theorem dM_terms_19 : decode bM_terms 19 = .ok (.ifCond .eq 5, 3) := by decide +kernel
theorem dM_terms_22 : decode bM_terms 22 = .ok (.iconst 0, 1) := by decide +kernel
theorem dM_terms_23 : decode bM_terms 23 = .ok (.ireturn, 1) := by decide +kernel
theorem dM_thrown_0 : decode bM_thrown 0 = .ok (.aload_n 0, 1) := by decide +kernel
theorem dM_thrown_1 : decode bM_thrown 1 = .ok (.getfield 69, 3) := by decide +kernel
theorem dM_thrown_4 : decode bM_thrown 4 = .ok (.ireturn, 1) := by decide +kernel
theorem dM_times_0 : decode bM_times 0 = .ok (.aload_n 0, 1) := by decide +kernel
theorem dM_times_1 : decode bM_times 1 = .ok (.aload_n 0, 1) := by decide +kernel
theorem dM_times_2 : decode bM_times 2 = .ok (.iload_n 1, 1) := by decide +kernel
theorem dM_times_3 : decode bM_times 3 = .ok (.iload_n 2, 1) := by decide +kernel
theorem dM_times_4 : decode bM_times 4 = .ok (.invokevirtual 244, 3) := by decide +kernel
theorem dM_times_7 : decode bM_times 7 = .ok (.aload_n 0, 1) := by decide +kernel
theorem dM_times_8 : decode bM_times 8 = .ok (.invokevirtual 229, 3) := by decide +kernel
theorem dM_times_11 : decode bM_times 11 = .ok (.aload_n 0, 1) := by decide +kernel
