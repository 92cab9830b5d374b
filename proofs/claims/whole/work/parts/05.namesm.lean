theorem dM_times_12 : decode bM_times 12 = .ok (.iload_n 1, 1) := by decide +kernel
theorem dM_times_13 : decode bM_times 13 = .ok (.iload_n 2, 1) := by decide +kernel
theorem dM_times_14 : decode bM_times 14 = .ok (.invokevirtual 244, 3) := by decide +kernel
theorem dM_times_17 : decode bM_times 17 = .ok (.ifCond .ne 16, 3) := by decide +kernel
theorem dM_times_33 : decode bM_times 33 = .ok (.iconst 0, 1) := by decide +kernel
theorem dM_times_34 : decode bM_times 34 = .ok (.invokevirtual 233, 3) := by decide +kernel
theorem dM_times_37 : decode bM_times 37 = .ok (.ifCond .eq 5, 3) := by decide +kernel
theorem dM_times_40 : decode bM_times 40 = .ok (.iconst 0, 1) := by decide +kernel
theorem dM_times_41 : decode bM_times 41 = .ok (.ireturn, 1) := by decide +kernel
theorem dP_init_0 : decode bP_init 0 = .ok (.aload_n 0, 1) := by decide +kernel
theorem dP_init_1 : decode bP_init 1 = .ok (.invokespecial 3, 3) := by decide +kernel
theorem dP_init_4 : decode bP_init 4 = .ok (.iload_n 1, 1) := by decide +kernel
theorem dP_init_5 : decode bP_init 5 = .ok (.ifCond .ge 7, 3) := by decide +kernel
theorem dP_init_12 : decode bP_init 12 = .ok (.iload_n 1, 1) := by decide +kernel
theorem dP_init_13 : decode bP_init 13 = .ok (.istore_n 2, 1) := by decide +kernel
theorem dP_init_14 : decode bP_init 14 = .ok (.aload_n 0, 1) := by decide +kernel
theorem dP_init_15 : decode bP_init 15 = .ok (.iconst 0, 1) := by decide +kernel
theorem dP_init_16 : decode bP_init 16 = .ok (.putfield 9, 3) := by decide +kernel
theorem dP_init_19 : decode bP_init 19 = .ok (.aload_n 0, 1) := by decide +kernel
theorem dP_init_20 : decode bP_init 20 = .ok (.iload_n 2, 1) := by decide +kernel
theorem dP_init_21 : decode bP_init 21 = .ok (.newarray .int, 2) := by decide +kernel
theorem dP_init_23 : decode bP_init 23 = .ok (.putfield 15, 3) := by decide +kernel
theorem dP_init_26 : decode bP_init 26 = .ok (.aload_n 0, 1) := by decide +kernel
theorem dP_init_27 : decode bP_init 27 = .ok (.iload_n 2, 1) := by decide +kernel
theorem dP_init_28 : decode bP_init 28 = .ok (.newarray .int, 2) := by decide +kernel
theorem dP_init_30 : decode bP_init 30 = .ok (.putfield 19, 3) := by decide +kernel
theorem dP_init_33 : decode bP_init 33 = .ok (.return_, 1) := by decide +kernel
