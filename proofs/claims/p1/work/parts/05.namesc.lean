theorem dL_add_4 : decode bL_add 4 = .ok (.iload_n 2, 1) := by decide +kernel
theorem dL_add_5 : decode bL_add 5 = .ok (.invokevirtual 25, 3) := by decide +kernel
theorem dL_add_13 : decode bL_add 13 = .ok (.astore 4, 2) := by decide +kernel
theorem dL_add_15 : decode bL_add 15 = .ok (.iconst 1, 1) := by decide +kernel
theorem dL_add_16 : decode bL_add 16 = .ok (.ireturn, 1) := by decide +kernel
theorem dL_at_0 : decode bL_at 0 = .ok (.aload 4, 2) := by decide +kernel
theorem dL_at_2 : decode bL_at 2 = .ok (.iconst 0, 1) := by decide +kernel
theorem dL_at_3 : decode bL_at 3 = .ok (.aload_n 0, 1) := by decide +kernel
theorem dL_at_4 : decode bL_at 4 = .ok (.iload_n 1, 1) := by decide +kernel
theorem dL_at_5 : decode bL_at 5 = .ok (.iload_n 2, 1) := by decide +kernel
theorem dL_at_6 : decode bL_at 6 = .ok (.iload_n 3, 1) := by decide +kernel
theorem dL_at_7 : decode bL_at 7 = .ok (.invokevirtual 62, 3) := by decide +kernel
theorem dL_at_15 : decode bL_at 15 = .ok (.astore 5, 2) := by decide +kernel
theorem dL_at_17 : decode bL_at 17 = .ok (.iconst 1, 1) := by decide +kernel
theorem dL_at_18 : decode bL_at 18 = .ok (.ireturn, 1) := by decide +kernel
theorem dL_cell_0 : decode bL_cell 0 = .ok (.iload_n 1, 1) := by decide +kernel
theorem dL_cell_1 : decode bL_cell 1 = .ok (.aload_n 0, 1) := by decide +kernel
theorem dL_cell_2 : decode bL_cell 2 = .ok (.arraylength, 1) := by decide +kernel
theorem dL_cell_3 : decode bL_cell 3 = .ok (.if_icmp .ge 9, 3) := by decide +kernel
theorem dL_cell_6 : decode bL_cell 6 = .ok (.aload_n 0, 1) := by decide +kernel
theorem dL_cell_7 : decode bL_cell 7 = .ok (.iload_n 1, 1) := by decide +kernel
theorem dL_cell_8 : decode bL_cell 8 = .ok (.iaload, 1) := by decide +kernel
theorem dL_cell_9 : decode bL_cell 9 = .ok (.goto 4, 3) := by decide +kernel
theorem dL_cell_12 : decode bL_cell 12 = .ok (.iconst 0, 1) := by decide +kernel
theorem dL_cell_13 : decode bL_cell 13 = .ok (.ireturn, 1) := by decide +kernel
theorem dL_content_0 : decode bL_content 0 = .ok (.aload_n 3, 1) := by decide +kernel
theorem dL_content_1 : decode bL_content 1 = .ok (.iconst 0, 1) := by decide +kernel
theorem dL_content_2 : decode bL_content 2 = .ok (.aload_n 0, 1) := by decide +kernel
theorem dL_content_3 : decode bL_content 3 = .ok (.iload_n 1, 1) := by decide +kernel
theorem dL_content_4 : decode bL_content 4 = .ok (.iload_n 2, 1) := by decide +kernel
theorem dL_content_5 : decode bL_content 5 = .ok (.invokevirtual 45, 3) := by decide +kernel
theorem dL_content_13 : decode bL_content 13 = .ok (.astore 4, 2) := by decide +kernel
theorem dL_content_15 : decode bL_content 15 = .ok (.iconst 1, 1) := by decide +kernel
theorem dL_content_16 : decode bL_content 16 = .ok (.ireturn, 1) := by decide +kernel
theorem dL_degree_0 : decode bL_degree 0 = .ok (.aload_n 3, 1) := by decide +kernel
theorem dL_degree_1 : decode bL_degree 1 = .ok (.iconst 0, 1) := by decide +kernel
theorem dL_degree_2 : decode bL_degree 2 = .ok (.aload_n 0, 1) := by decide +kernel
theorem dL_degree_3 : decode bL_degree 3 = .ok (.iload_n 1, 1) := by decide +kernel
theorem dL_degree_4 : decode bL_degree 4 = .ok (.iload_n 2, 1) := by decide +kernel
theorem dL_degree_5 : decode bL_degree 5 = .ok (.invokevirtual 65, 3) := by decide +kernel
theorem dL_degree_13 : decode bL_degree 13 = .ok (.astore 4, 2) := by decide +kernel
theorem dL_degree_15 : decode bL_degree 15 = .ok (.iconst 1, 1) := by decide +kernel
theorem dL_degree_16 : decode bL_degree 16 = .ok (.ireturn, 1) := by decide +kernel
theorem dL_equal_0 : decode bL_equal 0 = .ok (.aload_n 3, 1) := by decide +kernel
theorem dL_equal_1 : decode bL_equal 1 = .ok (.iconst 0, 1) := by decide +kernel
theorem dL_equal_2 : decode bL_equal 2 = .ok (.aload_n 0, 1) := by decide +kernel
theorem dL_equal_3 : decode bL_equal 3 = .ok (.iload_n 1, 1) := by decide +kernel
theorem dL_equal_4 : decode bL_equal 4 = .ok (.iload_n 2, 1) := by decide +kernel
theorem dL_equal_5 : decode bL_equal 5 = .ok (.invokevirtual 54, 3) := by decide +kernel
theorem dL_equal_20 : decode bL_equal 20 = .ok (.astore 4, 2) := by decide +kernel
theorem dL_equal_22 : decode bL_equal 22 = .ok (.iconst 1, 1) := by decide +kernel
theorem dL_equal_23 : decode bL_equal 23 = .ok (.ireturn, 1) := by decide +kernel
theorem dL_gcd_0 : decode bL_gcd 0 = .ok (.aload_n 3, 1) := by decide +kernel
theorem dL_gcd_1 : decode bL_gcd 1 = .ok (.iconst 0, 1) := by decide +kernel
theorem dL_gcd_2 : decode bL_gcd 2 = .ok (.aload_n 0, 1) := by decide +kernel
theorem dL_gcd_3 : decode bL_gcd 3 = .ok (.iload_n 1, 1) := by decide +kernel
theorem dL_gcd_4 : decode bL_gcd 4 = .ok (.iload_n 2, 1) := by decide +kernel
theorem dL_gcd_5 : decode bL_gcd 5 = .ok (.invokevirtual 35, 3) := by decide +kernel
theorem dL_gcd_13 : decode bL_gcd 13 = .ok (.astore 4, 2) := by decide +kernel
theorem dL_gcd_15 : decode bL_gcd 15 = .ok (.iconst 1, 1) := by decide +kernel
theorem dL_gcd_16 : decode bL_gcd 16 = .ok (.ireturn, 1) := by decide +kernel
theorem dL_image_0 : decode bL_image 0 = .ok (.aload 4, 2) := by decide +kernel
theorem dL_image_2 : decode bL_image 2 = .ok (.iconst 0, 1) := by decide +kernel
theorem dL_image_3 : decode bL_image 3 = .ok (.aload_n 0, 1) := by decide +kernel
theorem dL_image_4 : decode bL_image 4 = .ok (.iload_n 1, 1) := by decide +kernel
theorem dL_image_5 : decode bL_image 5 = .ok (.iload_n 2, 1) := by decide +kernel
theorem dL_image_6 : decode bL_image 6 = .ok (.iload_n 3, 1) := by decide +kernel
theorem dL_image_7 : decode bL_image 7 = .ok (.invokevirtual 51, 3) := by decide +kernel
theorem dL_image_15 : decode bL_image 15 = .ok (.astore 5, 2) := by decide +kernel
theorem dL_image_17 : decode bL_image 17 = .ok (.iconst 1, 1) := by decide +kernel
theorem dL_image_18 : decode bL_image 18 = .ok (.ireturn, 1) := by decide +kernel
theorem dL_law_0 : decode bL_law 0 = .ok (.new 8, 3) := by decide +kernel
theorem dL_law_3 : decode bL_law 3 = .ok (.dup, 1) := by decide +kernel
theorem dL_law_4 : decode bL_law 4 = .ok (.aload_n 0, 1) := by decide +kernel
theorem dL_law_5 : decode bL_law 5 = .ok (.iconst 0, 1) := by decide +kernel
theorem dL_law_6 : decode bL_law 6 = .ok (.invokestatic 68, 3) := by decide +kernel
theorem dL_law_9 : decode bL_law 9 = .ok (.invokespecial 74, 3) := by decide +kernel
theorem dL_law_12 : decode bL_law 12 = .ok (.astore_n 1, 1) := by decide +kernel
theorem dL_law_13 : decode bL_law 13 = .ok (.new 77, 3) := by decide +kernel
theorem dL_law_16 : decode bL_law 16 = .ok (.dup, 1) := by decide +kernel
theorem dL_law_17 : decode bL_law 17 = .ok (.aload_n 0, 1) := by decide +kernel
theorem dL_law_18 : decode bL_law 18 = .ok (.iconst 0, 1) := by decide +kernel
theorem dL_law_19 : decode bL_law 19 = .ok (.invokestatic 68, 3) := by decide +kernel
theorem dL_law_22 : decode bL_law 22 = .ok (.invokespecial 79, 3) := by decide +kernel
theorem dL_law_25 : decode bL_law 25 = .ok (.astore_n 2, 1) := by decide +kernel
theorem dL_law_26 : decode bL_law 26 = .ok (.iconst 1, 1) := by decide +kernel
theorem dL_law_27 : decode bL_law 27 = .ok (.newarray .long, 2) := by decide +kernel
theorem dL_law_29 : decode bL_law 29 = .ok (.astore_n 3, 1) := by decide +kernel
theorem dL_law_30 : decode bL_law 30 = .ok (.iconst 1, 1) := by decide +kernel
theorem dL_law_31 : decode bL_law 31 = .ok (.istore 4, 2) := by decide +kernel
theorem dL_law_33 : decode bL_law 33 = .ok (.iload 4, 2) := by decide +kernel
theorem dL_law_35 : decode bL_law 35 = .ok (.aload_n 0, 1) := by decide +kernel
theorem dL_law_36 : decode bL_law 36 = .ok (.arraylength, 1) := by decide +kernel
theorem dL_law_37 : decode bL_law 37 = .ok (.bipush 7, 2) := by decide +kernel
theorem dL_law_39 : decode bL_law 39 = .ok (.isub, 1) := by decide +kernel
theorem dL_law_40 : decode bL_law 40 = .ok (.if_icmp .gt 1231, 3) := by decide +kernel
theorem dL_law_43 : decode bL_law 43 = .ok (.aload_n 0, 1) := by decide +kernel
theorem dL_law_44 : decode bL_law 44 = .ok (.iload 4, 2) := by decide +kernel
theorem dL_law_46 : decode bL_law 46 = .ok (.iaload, 1) := by decide +kernel
theorem dL_law_47 : decode bL_law 47 = .ok (.bipush 15, 2) := by decide +kernel
theorem dL_law_49 : decode bL_law 49 = .ok (.iand, 1) := by decide +kernel
theorem dL_law_50 : decode bL_law 50 = .ok (.tableswitch 1215 0 15 #[78, 122, 287, 355, 423, 491, 559, 639, 707, 775, 843, 923, 998, 1054, 1134, 1202], 78) := by decide +kernel
theorem dL_law_128 : decode bL_law 128 = .ok (.aload_n 1, 1) := by decide +kernel
theorem dL_law_129 : decode bL_law 129 = .ok (.aload_n 3, 1) := by decide +kernel
theorem dL_law_130 : decode bL_law 130 = .ok (.invokestatic 80, 3) := by decide +kernel
theorem dL_law_133 : decode bL_law 133 = .ok (.istore 5, 2) := by decide +kernel
theorem dL_law_135 : decode bL_law 135 = .ok (.aload_n 2, 1) := by decide +kernel
theorem dL_law_136 : decode bL_law 136 = .ok (.invokevirtual 83, 3) := by decide +kernel
theorem dL_law_139 : decode bL_law 139 = .ok (.istore 6, 2) := by decide +kernel
theorem dL_law_141 : decode bL_law 141 = .ok (.aload_n 2, 1) := by decide +kernel
theorem dL_law_142 : decode bL_law 142 = .ok (.invokevirtual 84, 3) := by decide +kernel
theorem dL_law_145 : decode bL_law 145 = .ok (.iload 5, 2) := by decide +kernel
theorem dL_law_147 : decode bL_law 147 = .ok (.if_icmp .eq 5, 3) := by decide +kernel
theorem dL_law_152 : decode bL_law 152 = .ok (.iload 5, 2) := by decide +kernel
theorem dL_law_154 : decode bL_law 154 = .ok (.ifCond .ne 15, 3) := by decide +kernel
theorem dL_law_157 : decode bL_law 157 = .ok (.aload_n 3, 1) := by decide +kernel
theorem dL_law_158 : decode bL_law 158 = .ok (.iconst 0, 1) := by decide +kernel
theorem dL_law_159 : decode bL_law 159 = .ok (.laload, 1) := by decide +kernel
theorem dL_law_160 : decode bL_law 160 = .ok (.iload 6, 2) := by decide +kernel
theorem dL_law_162 : decode bL_law 162 = .ok (.i2l, 1) := by decide +kernel
