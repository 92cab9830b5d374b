theorem dM_times_0 : decode bM_times 0 = .ok (.aload_n 0, 1) := by decide +kernel
theorem dM_times_1 : decode bM_times 1 = .ok (.aload_n 0, 1) := by decide +kernel
theorem dM_times_2 : decode bM_times 2 = .ok (.iload_n 1, 1) := by decide +kernel
theorem dM_times_3 : decode bM_times 3 = .ok (.iload_n 2, 1) := by decide +kernel
theorem dM_times_4 : decode bM_times 4 = .ok (.invokevirtual 244, 3) := by decide +kernel
theorem dM_times_7 : decode bM_times 7 = .ok (.aload_n 0, 1) := by decide +kernel
theorem dM_times_8 : decode bM_times 8 = .ok (.invokevirtual 229, 3) := by decide +kernel
theorem dM_times_11 : decode bM_times 11 = .ok (.aload_n 0, 1) := by decide +kernel
theorem dM_times_12 : decode bM_times 12 = .ok (.iload_n 1, 1) := by decide +kernel
theorem dM_times_13 : decode bM_times 13 = .ok (.iload_n 2, 1) := by decide +kernel
theorem dM_times_14 : decode bM_times 14 = .ok (.invokevirtual 244, 3) := by decide +kernel
theorem dM_times_17 : decode bM_times 17 = .ok (.ifCond .ne 16, 3) := by decide +kernel
theorem dM_times_33 : decode bM_times 33 = .ok (.iconst 0, 1) := by decide +kernel
theorem dM_times_34 : decode bM_times 34 = .ok (.invokevirtual 233, 3) := by decide +kernel
theorem dM_times_37 : decode bM_times 37 = .ok (.ifCond .eq 5, 3) := by decide +kernel
theorem dM_times_40 : decode bM_times 40 = .ok (.iconst 0, 1) := by decide +kernel
theorem dM_times_41 : decode bM_times 41 = .ok (.ireturn, 1) := by decide +kernel
