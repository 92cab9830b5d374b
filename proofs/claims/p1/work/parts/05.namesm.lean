theorem dM_term_37 : decode bM_term 37 = .ok (.lload 4, 2) := by decide +kernel
theorem dM_term_39 : decode bM_term 39 = .ok (.invokestatic 240, 3) := by decide +kernel
theorem dM_term_42 : decode bM_term 42 = .ok (.ifCond .ne 7, 3) := by decide +kernel
theorem dM_term_45 : decode bM_term 45 = .ok (.iconst 1, 1) := by decide +kernel
theorem dM_term_46 : decode bM_term 46 = .ok (.goto 4, 3) := by decide +kernel
theorem dM_term_49 : decode bM_term 49 = .ok (.iconst 0, 1) := by decide +kernel
theorem dM_term_50 : decode bM_term 50 = .ok (.invokevirtual 233, 3) := by decide +kernel
theorem dM_term_53 : decode bM_term 53 = .ok (.ifCond .eq 5, 3) := by decide +kernel
theorem dM_term_56 : decode bM_term 56 = .ok (.iconst 0, 1) := by decide +kernel
theorem dM_term_57 : decode bM_term 57 = .ok (.ireturn, 1) := by decide +kernel
theorem dM_terms_0 : decode bM_terms 0 = .ok (.aload_n 0, 1) := by decide +kernel
theorem dM_terms_1 : decode bM_terms 1 = .ok (.aload_n 0, 1) := by decide +kernel
theorem dM_terms_2 : decode bM_terms 2 = .ok (.iload_n 1, 1) := by decide +kernel
theorem dM_terms_3 : decode bM_terms 3 = .ok (.invokevirtual 226, 3) := by decide +kernel
theorem dM_terms_6 : decode bM_terms 6 = .ok (.ifCond .ne 7, 3) := by decide +kernel
theorem dM_terms_9 : decode bM_terms 9 = .ok (.iconst 1, 1) := by decide +kernel
theorem dM_terms_10 : decode bM_terms 10 = .ok (.goto 4, 3) := by decide +kernel
theorem dM_terms_14 : decode bM_terms 14 = .ok (.iconst 0, 1) := by decide +kernel
theorem dM_terms_15 : decode bM_terms 15 = .ok (.iconst 0, 1) := by decide +kernel
theorem dM_terms_16 : decode bM_terms 16 = .ok (.invokevirtual 233, 3) := by decide +kernel
theorem dM_terms_19 : decode bM_terms 19 = .ok (.ifCond .eq 5, 3) := by decide +kernel
theorem dM_terms_22 : decode bM_terms 22 = .ok (.iconst 0, 1) := by decide +kernel
theorem dM_terms_23 : decode bM_terms 23 = .ok (.ireturn, 1) := by decide +kernel
theorem dM_thrown_0 : decode bM_thrown 0 = .ok (.aload_n 0, 1) := by decide +kernel
theorem dM_thrown_1 : decode bM_thrown 1 = .ok (.getfield 69, 3) := by decide +kernel
theorem dM_thrown_4 : decode bM_thrown 4 = .ok (.ireturn, 1) := by decide +kernel
theorem dM_times_0 : decode bM_times 0 = .ok (.aload_n 0, 1) := by decide +kernel
theorem dM_times_1 : decode bM_times 1 = .ok (.aload_n 0, 1) := by decide +kernel
theorem dM_times_2 : decode bM_times 2 = .ok (.iload_n 1, 1) := by decide +kernel
theorem dM_times_3 : decode bM_times 3 = .ok (.iload_n 2, 1) := by decide +kernel
theorem dM_times_4 : decode bM_times 4 = .ok (.invokevirtual 244, 3) := by decide +kernel
theorem dM_times_7 : decode bM_times 7 = .ok (.aload_n 0, 1) := by decide +kernel
theorem dM_times_8 : decode bM_times 8 = .ok (.invokevirtual 229, 3) := by decide +kernel
theorem dM_times_11 : decode bM_times 11 = .ok (.aload_n 0, 1) := by decide +kernel
theorem dM_times_12 : decode bM_times 12 = .ok (.iload_n 1, 1) := by decide +kernel
theorem dM_times_13 : decode bM_times 13 = .ok (.iload_n 2, 1) := by decide +kernel
theorem dM_times_14 : decode bM_times 14 = .ok (.invokevirtual 244, 3) := by decide +kernel
theorem dM_times_17 : decode bM_times 17 = .ok (.ifCond .ne 16, 3) := by decide +kernel
theorem dM_times_33 : decode bM_times 33 = .ok (.iconst 0, 1) := by decide +kernel
theorem dM_times_34 : decode bM_times 34 = .ok (.invokevirtual 233, 3) := by decide +kernel
theorem dM_times_37 : decode bM_times 37 = .ok (.ifCond .eq 5, 3) := by decide +kernel
theorem dM_times_40 : decode bM_times 40 = .ok (.iconst 0, 1) := by decide +kernel
theorem dM_times_41 : decode bM_times 41 = .ok (.ireturn, 1) := by decide +kernel
theorem dP_init_0 : decode bP_init 0 = .ok (.aload_n 0, 1) := by decide +kernel
theorem dP_init_1 : decode bP_init 1 = .ok (.invokespecial 3, 3) := by decide +kernel
theorem dP_init_4 : decode bP_init 4 = .ok (.iload_n 1, 1) := by decide +kernel
theorem dP_init_5 : decode bP_init 5 = .ok (.ifCond .ge 7, 3) := by decide +kernel
theorem dP_init_12 : decode bP_init 12 = .ok (.iload_n 1, 1) := by decide +kernel
theorem dP_init_13 : decode bP_init 13 = .ok (.istore_n 2, 1) := by decide +kernel
theorem dP_init_14 : decode bP_init 14 = .ok (.aload_n 0, 1) := by decide +kernel
theorem dP_init_15 : decode bP_init 15 = .ok (.iconst 0, 1) := by decide +kernel
theorem dP_init_16 : decode bP_init 16 = .ok (.putfield 9, 3) := by decide +kernel
theorem dP_init_19 : decode bP_init 19 = .ok (.aload_n 0, 1) := by decide +kernel
theorem dP_init_20 : decode bP_init 20 = .ok (.iload_n 2, 1) := by decide +kernel
theorem dP_init_21 : decode bP_init 21 = .ok (.newarray .int, 2) := by decide +kernel
theorem dP_init_23 : decode bP_init 23 = .ok (.putfield 15, 3) := by decide +kernel
theorem dP_init_26 : decode bP_init 26 = .ok (.aload_n 0, 1) := by decide +kernel
theorem dP_init_27 : decode bP_init 27 = .ok (.iload_n 2, 1) := by decide +kernel
theorem dP_init_28 : decode bP_init 28 = .ok (.newarray .int, 2) := by decide +kernel
theorem dP_init_30 : decode bP_init 30 = .ok (.putfield 19, 3) := by decide +kernel
theorem dP_init_33 : decode bP_init 33 = .ok (.return_, 1) := by decide +kernel
