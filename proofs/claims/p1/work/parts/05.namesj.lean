theorem dM_content_34 : decode bM_content 34 = .ok (.ifCond .eq 5, 3) := by decide +kernel
theorem dM_content_37 : decode bM_content 37 = .ok (.iconst 0, 1) := by decide +kernel
theorem dM_content_38 : decode bM_content 38 = .ok (.ireturn, 1) := by decide +kernel
theorem dM_copy_0 : decode bM_copy 0 = .ok (.iconst 0, 1) := by decide +kernel
theorem dM_copy_1 : decode bM_copy 1 = .ok (.istore_n 3, 1) := by decide +kernel
theorem dM_copy_2 : decode bM_copy 2 = .ok (.iload_n 3, 1) := by decide +kernel
theorem dM_copy_3 : decode bM_copy 3 = .ok (.sipush 4096, 3) := by decide +kernel
theorem dM_copy_6 : decode bM_copy 6 = .ok (.if_icmp .ge 33, 3) := by decide +kernel
theorem dM_copy_9 : decode bM_copy 9 = .ok (.aload_n 0, 1) := by decide +kernel
theorem dM_copy_10 : decode bM_copy 10 = .ok (.getfield 8, 3) := by decide +kernel
theorem dM_copy_13 : decode bM_copy 13 = .ok (.sipush 4096, 3) := by decide +kernel
theorem dM_copy_16 : decode bM_copy 16 = .ok (.iload_n 2, 1) := by decide +kernel
theorem dM_copy_17 : decode bM_copy 17 = .ok (.imul, 1) := by decide +kernel
theorem dM_copy_18 : decode bM_copy 18 = .ok (.iload_n 3, 1) := by decide +kernel
theorem dM_copy_19 : decode bM_copy 19 = .ok (.iadd, 1) := by decide +kernel
theorem dM_copy_20 : decode bM_copy 20 = .ok (.aload_n 0, 1) := by decide +kernel
theorem dM_copy_21 : decode bM_copy 21 = .ok (.getfield 8, 3) := by decide +kernel
theorem dM_copy_24 : decode bM_copy 24 = .ok (.sipush 4096, 3) := by decide +kernel
theorem dM_copy_27 : decode bM_copy 27 = .ok (.iload_n 1, 1) := by decide +kernel
theorem dM_copy_28 : decode bM_copy 28 = .ok (.imul, 1) := by decide +kernel
theorem dM_copy_29 : decode bM_copy 29 = .ok (.iload_n 3, 1) := by decide +kernel
theorem dM_copy_30 : decode bM_copy 30 = .ok (.iadd, 1) := by decide +kernel
theorem dM_copy_31 : decode bM_copy 31 = .ok (.iaload, 1) := by decide +kernel
theorem dM_copy_32 : decode bM_copy 32 = .ok (.iastore, 1) := by decide +kernel
theorem dM_copy_33 : decode bM_copy 33 = .ok (.iinc 3 1, 3) := by decide +kernel
theorem dM_copy_36 : decode bM_copy 36 = .ok (.goto (-34), 3) := by decide +kernel
theorem dM_copy_39 : decode bM_copy 39 = .ok (.return_, 1) := by decide +kernel
theorem dM_count_0 : decode bM_count 0 = .ok (.aload_n 0, 1) := by decide +kernel
theorem dM_count_1 : decode bM_count 1 = .ok (.iconst 0, 1) := by decide +kernel
theorem dM_count_2 : decode bM_count 2 = .ok (.putfield 69, 3) := by decide +kernel
theorem dM_count_5 : decode bM_count 5 = .ok (.aload_n 0, 1) := by decide +kernel
theorem dM_count_6 : decode bM_count 6 = .ok (.getfield 223, 3) := by decide +kernel
theorem dM_count_9 : decode bM_count 9 = .ok (.ireturn, 1) := by decide +kernel
theorem dM_degree_0 : decode bM_degree 0 = .ok (.aload_n 0, 1) := by decide +kernel
theorem dM_degree_1 : decode bM_degree 1 = .ok (.iload_n 1, 1) := by decide +kernel
theorem dM_degree_2 : decode bM_degree 2 = .ok (.invokevirtual 226, 3) := by decide +kernel
theorem dM_degree_5 : decode bM_degree 5 = .ok (.ifCond .ne 7, 3) := by decide +kernel
theorem dM_degree_8 : decode bM_degree 8 = .ok (.iconst 1, 1) := by decide +kernel
theorem dM_degree_9 : decode bM_degree 9 = .ok (.goto 4, 3) := by decide +kernel
theorem dM_degree_13 : decode bM_degree 13 = .ok (.istore_n 3, 1) := by decide +kernel
theorem dM_degree_14 : decode bM_degree 14 = .ok (.aload_n 0, 1) := by decide +kernel
theorem dM_degree_15 : decode bM_degree 15 = .ok (.iload_n 3, 1) := by decide +kernel
theorem dM_degree_16 : decode bM_degree 16 = .ok (.aload_n 0, 1) := by decide +kernel
theorem dM_degree_17 : decode bM_degree 17 = .ok (.iload_n 2, 1) := by decide +kernel
theorem dM_degree_18 : decode bM_degree 18 = .ok (.invokevirtual 268, 3) := by decide +kernel
theorem dM_degree_21 : decode bM_degree 21 = .ok (.ifCond .ne 7, 3) := by decide +kernel
theorem dM_degree_24 : decode bM_degree 24 = .ok (.iconst 1, 1) := by decide +kernel
theorem dM_degree_25 : decode bM_degree 25 = .ok (.goto 4, 3) := by decide +kernel
theorem dM_degree_28 : decode bM_degree 28 = .ok (.iconst 0, 1) := by decide +kernel
theorem dM_degree_29 : decode bM_degree 29 = .ok (.iconst 0, 1) := by decide +kernel
theorem dM_degree_30 : decode bM_degree 30 = .ok (.invokevirtual 233, 3) := by decide +kernel
theorem dM_degree_33 : decode bM_degree 33 = .ok (.ifCond .eq 5, 3) := by decide +kernel
theorem dM_degree_36 : decode bM_degree 36 = .ok (.iconst 0, 1) := by decide +kernel
theorem dM_degree_37 : decode bM_degree 37 = .ok (.ireturn, 1) := by decide +kernel
theorem dM_equal_0 : decode bM_equal 0 = .ok (.aload_n 0, 1) := by decide +kernel
theorem dM_equal_1 : decode bM_equal 1 = .ok (.aload_n 0, 1) := by decide +kernel
theorem dM_equal_2 : decode bM_equal 2 = .ok (.iload_n 1, 1) := by decide +kernel
theorem dM_equal_3 : decode bM_equal 3 = .ok (.iload_n 2, 1) := by decide +kernel
theorem dM_equal_4 : decode bM_equal 4 = .ok (.invokevirtual 244, 3) := by decide +kernel
theorem dM_equal_7 : decode bM_equal 7 = .ok (.iconst 0, 1) := by decide +kernel
theorem dM_equal_8 : decode bM_equal 8 = .ok (.iconst 0, 1) := by decide +kernel
theorem dM_equal_9 : decode bM_equal 9 = .ok (.invokevirtual 233, 3) := by decide +kernel
theorem dM_equal_12 : decode bM_equal 12 = .ok (.ifCond .eq 5, 3) := by decide +kernel
theorem dM_equal_15 : decode bM_equal 15 = .ok (.iconst 0, 1) := by decide +kernel
theorem dM_equal_16 : decode bM_equal 16 = .ok (.ireturn, 1) := by decide +kernel
theorem dM_fails_0 : decode bM_fails 0 = .ok (.aload_n 0, 1) := by decide +kernel
theorem dM_fails_1 : decode bM_fails 1 = .ok (.iload_n 1, 1) := by decide +kernel
theorem dM_fails_2 : decode bM_fails 2 = .ok (.ifCond .eq 7, 3) := by decide +kernel
theorem dM_fails_5 : decode bM_fails 5 = .ok (.iconst 1, 1) := by decide +kernel
theorem dM_fails_6 : decode bM_fails 6 = .ok (.goto 20, 3) := by decide +kernel
theorem dM_fails_9 : decode bM_fails 9 = .ok (.iload_n 2, 1) := by decide +kernel
theorem dM_fails_10 : decode bM_fails 10 = .ok (.ifCond .eq 7, 3) := by decide +kernel
theorem dM_fails_17 : decode bM_fails 17 = .ok (.iload_n 3, 1) := by decide +kernel
theorem dM_fails_18 : decode bM_fails 18 = .ok (.ifCond .eq 7, 3) := by decide +kernel
theorem dM_fails_25 : decode bM_fails 25 = .ok (.iconst 0, 1) := by decide +kernel
theorem dM_fails_26 : decode bM_fails 26 = .ok (.putfield 69, 3) := by decide +kernel
theorem dM_fails_29 : decode bM_fails 29 = .ok (.aload_n 0, 1) := by decide +kernel
theorem dM_fails_30 : decode bM_fails 30 = .ok (.getfield 69, 3) := by decide +kernel
theorem dM_fails_33 : decode bM_fails 33 = .ok (.ifCond .le 7, 3) := by decide +kernel
theorem dM_fails_36 : decode bM_fails 36 = .ok (.iconst 1, 1) := by decide +kernel
theorem dM_fails_37 : decode bM_fails 37 = .ok (.goto 4, 3) := by decide +kernel
theorem dM_fails_40 : decode bM_fails 40 = .ok (.iconst 0, 1) := by decide +kernel
theorem dM_fails_41 : decode bM_fails 41 = .ok (.ireturn, 1) := by decide +kernel
theorem dM_gcd_0 : decode bM_gcd 0 = .ok (.aload_n 0, 1) := by decide +kernel
theorem dM_gcd_1 : decode bM_gcd 1 = .ok (.aload_n 0, 1) := by decide +kernel
theorem dM_gcd_2 : decode bM_gcd 2 = .ok (.iload_n 1, 1) := by decide +kernel
theorem dM_gcd_3 : decode bM_gcd 3 = .ok (.iload_n 2, 1) := by decide +kernel
theorem dM_gcd_4 : decode bM_gcd 4 = .ok (.invokevirtual 244, 3) := by decide +kernel
theorem dM_gcd_7 : decode bM_gcd 7 = .ok (.aload_n 0, 1) := by decide +kernel
theorem dM_gcd_8 : decode bM_gcd 8 = .ok (.invokevirtual 229, 3) := by decide +kernel
theorem dM_gcd_11 : decode bM_gcd 11 = .ok (.iconst 0, 1) := by decide +kernel
theorem dM_gcd_12 : decode bM_gcd 12 = .ok (.invokevirtual 233, 3) := by decide +kernel
theorem dM_gcd_15 : decode bM_gcd 15 = .ok (.ifCond .eq 5, 3) := by decide +kernel
theorem dM_gcd_18 : decode bM_gcd 18 = .ok (.iconst 0, 1) := by decide +kernel
theorem dM_gcd_19 : decode bM_gcd 19 = .ok (.ireturn, 1) := by decide +kernel
theorem dM_image_0 : decode bM_image 0 = .ok (.aload_n 0, 1) := by decide +kernel
theorem dM_image_1 : decode bM_image 1 = .ok (.aload_n 0, 1) := by decide +kernel
theorem dM_image_2 : decode bM_image 2 = .ok (.iload_n 1, 1) := by decide +kernel
theorem dM_image_3 : decode bM_image 3 = .ok (.invokevirtual 226, 3) := by decide +kernel
theorem dM_image_6 : decode bM_image 6 = .ok (.ifCond .ne 7, 3) := by decide +kernel
theorem dM_image_9 : decode bM_image 9 = .ok (.iconst 1, 1) := by decide +kernel
theorem dM_image_10 : decode bM_image 10 = .ok (.goto 4, 3) := by decide +kernel
theorem dM_image_14 : decode bM_image 14 = .ok (.aload_n 0, 1) := by decide +kernel
theorem dM_image_15 : decode bM_image 15 = .ok (.invokevirtual 229, 3) := by decide +kernel
theorem dM_image_18 : decode bM_image 18 = .ok (.aload_n 0, 1) := by decide +kernel
theorem dM_image_19 : decode bM_image 19 = .ok (.iload_n 2, 1) := by decide +kernel
theorem dM_image_20 : decode bM_image 20 = .ok (.invokevirtual 268, 3) := by decide +kernel
theorem dM_image_23 : decode bM_image 23 = .ok (.ifCond .ne 7, 3) := by decide +kernel
theorem dM_image_26 : decode bM_image 26 = .ok (.iconst 1, 1) := by decide +kernel
theorem dM_image_27 : decode bM_image 27 = .ok (.goto 4, 3) := by decide +kernel
theorem dM_image_30 : decode bM_image 30 = .ok (.iconst 0, 1) := by decide +kernel
theorem dM_image_31 : decode bM_image 31 = .ok (.invokevirtual 233, 3) := by decide +kernel
theorem dM_image_34 : decode bM_image 34 = .ok (.ifCond .eq 5, 3) := by decide +kernel
theorem dM_image_37 : decode bM_image 37 = .ok (.iconst 0, 1) := by decide +kernel
theorem dM_image_38 : decode bM_image 38 = .ok (.ireturn, 1) := by decide +kernel
theorem dM_init_0 : decode bM_init 0 = .ok (.aload_n 0, 1) := by decide +kernel
theorem dM_init_1 : decode bM_init 1 = .ok (.invokespecial 1, 3) := by decide +kernel
theorem dM_init_4 : decode bM_init 4 = .ok (.aload_n 0, 1) := by decide +kernel
theorem dM_init_5 : decode bM_init 5 = .ok (.ldc 7, 2) := by decide +kernel
theorem dM_init_7 : decode bM_init 7 = .ok (.newarray .int, 2) := by decide +kernel
