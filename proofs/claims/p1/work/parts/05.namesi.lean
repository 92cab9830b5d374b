theorem dL_poly_8 : decode bL_poly 8 = .ok (.goto 6, 3) := by decide +kernel
theorem dL_poly_14 : decode bL_poly 14 = .ok (.iconst 0, 1) := by decide +kernel
theorem dL_poly_15 : decode bL_poly 15 = .ok (.ireturn, 1) := by decide +kernel
theorem dL_resultant_0 : decode bL_resultant 0 = .ok (.aload 4, 2) := by decide +kernel
theorem dL_resultant_2 : decode bL_resultant 2 = .ok (.iconst 0, 1) := by decide +kernel
theorem dL_resultant_3 : decode bL_resultant 3 = .ok (.aload_n 0, 1) := by decide +kernel
theorem dL_resultant_4 : decode bL_resultant 4 = .ok (.iload_n 1, 1) := by decide +kernel
theorem dL_resultant_5 : decode bL_resultant 5 = .ok (.iload_n 2, 1) := by decide +kernel
theorem dL_resultant_6 : decode bL_resultant 6 = .ok (.iload_n 3, 1) := by decide +kernel
theorem dL_resultant_7 : decode bL_resultant 7 = .ok (.invokevirtual 38, 3) := by decide +kernel
theorem dL_resultant_15 : decode bL_resultant 15 = .ok (.astore 5, 2) := by decide +kernel
theorem dL_resultant_17 : decode bL_resultant 17 = .ok (.iconst 1, 1) := by decide +kernel
theorem dL_resultant_18 : decode bL_resultant 18 = .ok (.ireturn, 1) := by decide +kernel
theorem dL_slope_0 : decode bL_slope 0 = .ok (.aload_n 3, 1) := by decide +kernel
theorem dL_slope_1 : decode bL_slope 1 = .ok (.iconst 0, 1) := by decide +kernel
theorem dL_slope_2 : decode bL_slope 2 = .ok (.aload_n 0, 1) := by decide +kernel
theorem dL_slope_3 : decode bL_slope 3 = .ok (.iload_n 1, 1) := by decide +kernel
theorem dL_slope_4 : decode bL_slope 4 = .ok (.iload_n 2, 1) := by decide +kernel
theorem dL_slope_5 : decode bL_slope 5 = .ok (.invokevirtual 42, 3) := by decide +kernel
theorem dL_slope_13 : decode bL_slope 13 = .ok (.astore 4, 2) := by decide +kernel
theorem dL_slope_15 : decode bL_slope 15 = .ok (.iconst 1, 1) := by decide +kernel
theorem dL_slope_16 : decode bL_slope 16 = .ok (.ireturn, 1) := by decide +kernel
theorem dL_term_0 : decode bL_term 0 = .ok (.aload 7, 2) := by decide +kernel
theorem dL_term_2 : decode bL_term 2 = .ok (.iconst 0, 1) := by decide +kernel
theorem dL_term_3 : decode bL_term 3 = .ok (.aload_n 0, 1) := by decide +kernel
theorem dL_term_4 : decode bL_term 4 = .ok (.iload_n 1, 1) := by decide +kernel
theorem dL_term_5 : decode bL_term 5 = .ok (.lload_n 2, 1) := by decide +kernel
theorem dL_term_6 : decode bL_term 6 = .ok (.lload 4, 2) := by decide +kernel
theorem dL_term_8 : decode bL_term 8 = .ok (.iload 6, 2) := by decide +kernel
theorem dL_term_10 : decode bL_term 10 = .ok (.invokevirtual 15, 3) := by decide +kernel
theorem dL_term_25 : decode bL_term 25 = .ok (.astore 8, 2) := by decide +kernel
theorem dL_term_27 : decode bL_term 27 = .ok (.iconst 1, 1) := by decide +kernel
theorem dL_term_28 : decode bL_term 28 = .ok (.ireturn, 1) := by decide +kernel
theorem dL_terms_0 : decode bL_terms 0 = .ok (.aload_n 2, 1) := by decide +kernel
theorem dL_terms_1 : decode bL_terms 1 = .ok (.iconst 0, 1) := by decide +kernel
theorem dL_terms_2 : decode bL_terms 2 = .ok (.aload_n 0, 1) := by decide +kernel
theorem dL_terms_3 : decode bL_terms 3 = .ok (.iload_n 1, 1) := by decide +kernel
theorem dL_terms_4 : decode bL_terms 4 = .ok (.invokevirtual 58, 3) := by decide +kernel
theorem dL_terms_12 : decode bL_terms 12 = .ok (.astore_n 3, 1) := by decide +kernel
theorem dL_terms_13 : decode bL_terms 13 = .ok (.iconst 1, 1) := by decide +kernel
theorem dL_terms_14 : decode bL_terms 14 = .ok (.ireturn, 1) := by decide +kernel
theorem dL_times_0 : decode bL_times 0 = .ok (.aload_n 3, 1) := by decide +kernel
theorem dL_times_1 : decode bL_times 1 = .ok (.iconst 0, 1) := by decide +kernel
theorem dL_times_2 : decode bL_times 2 = .ok (.aload_n 0, 1) := by decide +kernel
theorem dL_times_3 : decode bL_times 3 = .ok (.iload_n 1, 1) := by decide +kernel
theorem dL_times_4 : decode bL_times 4 = .ok (.iload_n 2, 1) := by decide +kernel
theorem dL_times_5 : decode bL_times 5 = .ok (.invokevirtual 29, 3) := by decide +kernel
theorem dL_times_13 : decode bL_times 13 = .ok (.astore 4, 2) := by decide +kernel
theorem dL_times_15 : decode bL_times 15 = .ok (.iconst 1, 1) := by decide +kernel
theorem dL_times_16 : decode bL_times 16 = .ok (.ireturn, 1) := by decide +kernel
theorem dM_add_0 : decode bM_add 0 = .ok (.aload_n 0, 1) := by decide +kernel
theorem dM_add_1 : decode bM_add 1 = .ok (.aload_n 0, 1) := by decide +kernel
theorem dM_add_2 : decode bM_add 2 = .ok (.iload_n 1, 1) := by decide +kernel
theorem dM_add_3 : decode bM_add 3 = .ok (.iload_n 2, 1) := by decide +kernel
theorem dM_add_4 : decode bM_add 4 = .ok (.invokevirtual 244, 3) := by decide +kernel
theorem dM_add_7 : decode bM_add 7 = .ok (.aload_n 0, 1) := by decide +kernel
theorem dM_add_8 : decode bM_add 8 = .ok (.invokevirtual 229, 3) := by decide +kernel
theorem dM_add_11 : decode bM_add 11 = .ok (.iconst 0, 1) := by decide +kernel
theorem dM_add_12 : decode bM_add 12 = .ok (.invokevirtual 233, 3) := by decide +kernel
theorem dM_add_15 : decode bM_add 15 = .ok (.ifCond .eq 5, 3) := by decide +kernel
theorem dM_add_18 : decode bM_add 18 = .ok (.iconst 0, 1) := by decide +kernel
theorem dM_add_19 : decode bM_add 19 = .ok (.ireturn, 1) := by decide +kernel
theorem dM_areNot_0 : decode bM_areNot 0 = .ok (.aload_n 0, 1) := by decide +kernel
theorem dM_areNot_1 : decode bM_areNot 1 = .ok (.iload_n 1, 1) := by decide +kernel
theorem dM_areNot_2 : decode bM_areNot 2 = .ok (.invokevirtual 226, 3) := by decide +kernel
theorem dM_areNot_5 : decode bM_areNot 5 = .ok (.ifCond .eq 11, 3) := by decide +kernel
theorem dM_areNot_16 : decode bM_areNot 16 = .ok (.iconst 1, 1) := by decide +kernel
theorem dM_areNot_17 : decode bM_areNot 17 = .ok (.goto 4, 3) := by decide +kernel
theorem dM_areNot_21 : decode bM_areNot 21 = .ok (.ireturn, 1) := by decide +kernel
theorem dM_at_0 : decode bM_at 0 = .ok (.aload_n 0, 1) := by decide +kernel
theorem dM_at_1 : decode bM_at 1 = .ok (.iload_n 1, 1) := by decide +kernel
theorem dM_at_2 : decode bM_at 2 = .ok (.invokevirtual 226, 3) := by decide +kernel
theorem dM_at_5 : decode bM_at 5 = .ok (.ifCond .ne 7, 3) := by decide +kernel
theorem dM_at_8 : decode bM_at 8 = .ok (.iconst 1, 1) := by decide +kernel
theorem dM_at_9 : decode bM_at 9 = .ok (.goto 4, 3) := by decide +kernel
theorem dM_at_13 : decode bM_at 13 = .ok (.istore 4, 2) := by decide +kernel
theorem dM_at_15 : decode bM_at 15 = .ok (.aload_n 0, 1) := by decide +kernel
theorem dM_at_16 : decode bM_at 16 = .ok (.iload 4, 2) := by decide +kernel
theorem dM_at_18 : decode bM_at 18 = .ok (.iload 4, 2) := by decide +kernel
theorem dM_at_20 : decode bM_at 20 = .ok (.ifCond .ne 29, 3) := by decide +kernel
theorem dM_at_49 : decode bM_at 49 = .ok (.iconst 0, 1) := by decide +kernel
theorem dM_at_50 : decode bM_at 50 = .ok (.iconst 0, 1) := by decide +kernel
theorem dM_at_51 : decode bM_at 51 = .ok (.invokevirtual 233, 3) := by decide +kernel
theorem dM_at_54 : decode bM_at 54 = .ok (.ifCond .eq 5, 3) := by decide +kernel
theorem dM_at_57 : decode bM_at 57 = .ok (.iconst 0, 1) := by decide +kernel
theorem dM_at_58 : decode bM_at 58 = .ok (.ireturn, 1) := by decide +kernel
theorem dM_clear_0 : decode bM_clear 0 = .ok (.iconst 0, 1) := by decide +kernel
theorem dM_clear_1 : decode bM_clear 1 = .ok (.istore_n 2, 1) := by decide +kernel
theorem dM_clear_2 : decode bM_clear 2 = .ok (.iload_n 2, 1) := by decide +kernel
theorem dM_clear_3 : decode bM_clear 3 = .ok (.sipush 4096, 3) := by decide +kernel
theorem dM_clear_6 : decode bM_clear 6 = .ok (.if_icmp .ge 22, 3) := by decide +kernel
theorem dM_clear_9 : decode bM_clear 9 = .ok (.aload_n 0, 1) := by decide +kernel
theorem dM_clear_10 : decode bM_clear 10 = .ok (.getfield 8, 3) := by decide +kernel
theorem dM_clear_13 : decode bM_clear 13 = .ok (.sipush 4096, 3) := by decide +kernel
theorem dM_clear_16 : decode bM_clear 16 = .ok (.iload_n 1, 1) := by decide +kernel
theorem dM_clear_17 : decode bM_clear 17 = .ok (.imul, 1) := by decide +kernel
theorem dM_clear_18 : decode bM_clear 18 = .ok (.iload_n 2, 1) := by decide +kernel
theorem dM_clear_19 : decode bM_clear 19 = .ok (.iadd, 1) := by decide +kernel
theorem dM_clear_20 : decode bM_clear 20 = .ok (.iconst 0, 1) := by decide +kernel
theorem dM_clear_21 : decode bM_clear 21 = .ok (.iastore, 1) := by decide +kernel
theorem dM_clear_22 : decode bM_clear 22 = .ok (.iinc 2 1, 3) := by decide +kernel
theorem dM_clear_25 : decode bM_clear 25 = .ok (.goto (-23), 3) := by decide +kernel
theorem dM_clear_28 : decode bM_clear 28 = .ok (.return_, 1) := by decide +kernel
theorem dM_content_0 : decode bM_content 0 = .ok (.aload_n 0, 1) := by decide +kernel
theorem dM_content_1 : decode bM_content 1 = .ok (.aload_n 0, 1) := by decide +kernel
theorem dM_content_2 : decode bM_content 2 = .ok (.iload_n 1, 1) := by decide +kernel
theorem dM_content_3 : decode bM_content 3 = .ok (.invokevirtual 226, 3) := by decide +kernel
theorem dM_content_6 : decode bM_content 6 = .ok (.ifCond .ne 7, 3) := by decide +kernel
theorem dM_content_9 : decode bM_content 9 = .ok (.iconst 1, 1) := by decide +kernel
theorem dM_content_10 : decode bM_content 10 = .ok (.goto 4, 3) := by decide +kernel
theorem dM_content_14 : decode bM_content 14 = .ok (.aload_n 0, 1) := by decide +kernel
theorem dM_content_15 : decode bM_content 15 = .ok (.invokevirtual 229, 3) := by decide +kernel
theorem dM_content_18 : decode bM_content 18 = .ok (.aload_n 0, 1) := by decide +kernel
theorem dM_content_19 : decode bM_content 19 = .ok (.iload_n 2, 1) := by decide +kernel
theorem dM_content_20 : decode bM_content 20 = .ok (.invokevirtual 268, 3) := by decide +kernel
theorem dM_content_23 : decode bM_content 23 = .ok (.ifCond .ne 7, 3) := by decide +kernel
theorem dM_content_26 : decode bM_content 26 = .ok (.iconst 1, 1) := by decide +kernel
theorem dM_content_27 : decode bM_content 27 = .ok (.goto 4, 3) := by decide +kernel
theorem dM_content_30 : decode bM_content 30 = .ok (.iconst 0, 1) := by decide +kernel
theorem dM_content_31 : decode bM_content 31 = .ok (.invokevirtual 233, 3) := by decide +kernel
