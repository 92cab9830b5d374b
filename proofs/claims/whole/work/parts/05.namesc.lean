theorem dL_add_4 : decode bL_add 4 = .ok (.iload_n 2, 1) := by decide +kernel
theorem dL_add_5 : decode bL_add 5 = .ok (.invokevirtual 25, 3) := by decide +kernel
theorem dL_add_13 : decode bL_add 13 = .ok (.astore 4, 2) := by decide +kernel
theorem dL_add_15 : decode bL_add 15 = .ok (.iconst 1, 1) := by decide +kernel
theorem dL_add_16 : decode bL_add 16 = .ok (.ireturn, 1) := by decide +kernel
theorem dL_at_0 : decode bL_at 0 = .ok (.aload 4, 2) := by decide +kernel
theorem dL_at_2 : decode bL_at 2 = .ok (.iconst 0, 1) := by decide +kernel
theorem dL_at_3 : decode bL_at 3 = .ok (.aload_n 0, 1) := by decide +kernel
theorem dL_at_4 : decode bL_at 4 = .ok (.iload_n 1, 1) := by decide +kernel
theorem dL_at_5 : decode bL_at 5 = .ok (.iload_n 2, 1) := by decide +kernel
theorem dL_at_6 : decode bL_at 6 = .ok (.iload_n 3, 1) := by decide +kernel
theorem dL_at_7 : decode bL_at 7 = .ok (.invokevirtual 62, 3) := by decide +kernel
theorem dL_at_15 : decode bL_at 15 = .ok (.astore 5, 2) := by decide +kernel
theorem dL_at_17 : decode bL_at 17 = .ok (.iconst 1, 1) := by decide +kernel
theorem dL_at_18 : decode bL_at 18 = .ok (.ireturn, 1) := by decide +kernel
theorem dL_cell_0 : decode bL_cell 0 = .ok (.iload_n 1, 1) := by decide +kernel
theorem dL_cell_1 : decode bL_cell 1 = .ok (.aload_n 0, 1) := by decide +kernel
theorem dL_cell_2 : decode bL_cell 2 = .ok (.arraylength, 1) := by decide +kernel
theorem dL_cell_3 : decode bL_cell 3 = .ok (.if_icmp .ge 9, 3) := by decide +kernel
theorem dL_cell_6 : decode bL_cell 6 = .ok (.aload_n 0, 1) := by decide +kernel
theorem dL_cell_7 : decode bL_cell 7 = .ok (.iload_n 1, 1) := by decide +kernel
theorem dL_cell_8 : decode bL_cell 8 = .ok (.iaload, 1) := by decide +kernel
theorem dL_cell_9 : decode bL_cell 9 = .ok (.goto 4, 3) := by decide +kernel
theorem dL_cell_12 : decode bL_cell 12 = .ok (.iconst 0, 1) := by decide +kernel
theorem dL_cell_13 : decode bL_cell 13 = .ok (.ireturn, 1) := by decide +kernel
theorem dL_content_0 : decode bL_content 0 = .ok (.aload_n 3, 1) := by decide +kernel
theorem dL_content_1 : decode bL_content 1 = .ok (.iconst 0, 1) := by decide +kernel
theorem dL_content_2 : decode bL_content 2 = .ok (.aload_n 0, 1) := by decide +kernel
theorem dL_content_3 : decode bL_content 3 = .ok (.iload_n 1, 1) := by decide +kernel
theorem dL_content_4 : decode bL_content 4 = .ok (.iload_n 2, 1) := by decide +kernel
theorem dL_content_5 : decode bL_content 5 = .ok (.invokevirtual 45, 3) := by decide +kernel
theorem dL_content_13 : decode bL_content 13 = .ok (.astore 4, 2) := by decide +kernel
theorem dL_content_15 : decode bL_content 15 = .ok (.iconst 1, 1) := by decide +kernel
theorem dL_content_16 : decode bL_content 16 = .ok (.ireturn, 1) := by decide +kernel
theorem dL_degree_0 : decode bL_degree 0 = .ok (.aload_n 3, 1) := by decide +kernel
theorem dL_degree_1 : decode bL_degree 1 = .ok (.iconst 0, 1) := by decide +kernel
theorem dL_degree_2 : decode bL_degree 2 = .ok (.aload_n 0, 1) := by decide +kernel
theorem dL_degree_3 : decode bL_degree 3 = .ok (.iload_n 1, 1) := by decide +kernel
theorem dL_degree_4 : decode bL_degree 4 = .ok (.iload_n 2, 1) := by decide +kernel
theorem dL_degree_5 : decode bL_degree 5 = .ok (.invokevirtual 65, 3) := by decide +kernel
theorem dL_degree_13 : decode bL_degree 13 = .ok (.astore 4, 2) := by decide +kernel
theorem dL_degree_15 : decode bL_degree 15 = .ok (.iconst 1, 1) := by decide +kernel
theorem dL_degree_16 : decode bL_degree 16 = .ok (.ireturn, 1) := by decide +kernel
theorem dL_equal_0 : decode bL_equal 0 = .ok (.aload_n 3, 1) := by decide +kernel
theorem dL_equal_1 : decode bL_equal 1 = .ok (.iconst 0, 1) := by decide +kernel
theorem dL_equal_2 : decode bL_equal 2 = .ok (.aload_n 0, 1) := by decide +kernel
theorem dL_equal_3 : decode bL_equal 3 = .ok (.iload_n 1, 1) := by decide +kernel
theorem dL_equal_4 : decode bL_equal 4 = .ok (.iload_n 2, 1) := by decide +kernel
theorem dL_equal_5 : decode bL_equal 5 = .ok (.invokevirtual 54, 3) := by decide +kernel
theorem dL_equal_20 : decode bL_equal 20 = .ok (.astore 4, 2) := by decide +kernel
theorem dL_equal_22 : decode bL_equal 22 = .ok (.iconst 1, 1) := by decide +kernel
theorem dL_equal_23 : decode bL_equal 23 = .ok (.ireturn, 1) := by decide +kernel
theorem dL_gcd_0 : decode bL_gcd 0 = .ok (.aload_n 3, 1) := by decide +kernel
theorem dL_gcd_1 : decode bL_gcd 1 = .ok (.iconst 0, 1) := by decide +kernel
theorem dL_gcd_2 : decode bL_gcd 2 = .ok (.aload_n 0, 1) := by decide +kernel
theorem dL_gcd_3 : decode bL_gcd 3 = .ok (.iload_n 1, 1) := by decide +kernel
theorem dL_gcd_4 : decode bL_gcd 4 = .ok (.iload_n 2, 1) := by decide +kernel
theorem dL_gcd_5 : decode bL_gcd 5 = .ok (.invokevirtual 35, 3) := by decide +kernel
theorem dL_gcd_13 : decode bL_gcd 13 = .ok (.astore 4, 2) := by decide +kernel
theorem dL_gcd_15 : decode bL_gcd 15 = .ok (.iconst 1, 1) := by decide +kernel
theorem dL_gcd_16 : decode bL_gcd 16 = .ok (.ireturn, 1) := by decide +kernel
theorem dL_image_0 : decode bL_image 0 = .ok (.aload 4, 2) := by decide +kernel
theorem dL_image_2 : decode bL_image 2 = .ok (.iconst 0, 1) := by decide +kernel
theorem dL_image_3 : decode bL_image 3 = .ok (.aload_n 0, 1) := by decide +kernel
theorem dL_image_4 : decode bL_image 4 = .ok (.iload_n 1, 1) := by decide +kernel
theorem dL_image_5 : decode bL_image 5 = .ok (.iload_n 2, 1) := by decide +kernel
theorem dL_image_6 : decode bL_image 6 = .ok (.iload_n 3, 1) := by decide +kernel
theorem dL_image_7 : decode bL_image 7 = .ok (.invokevirtual 51, 3) := by decide +kernel
theorem dL_image_15 : decode bL_image 15 = .ok (.astore 5, 2) := by decide +kernel
theorem dL_image_17 : decode bL_image 17 = .ok (.iconst 1, 1) := by decide +kernel
theorem dL_image_18 : decode bL_image 18 = .ok (.ireturn, 1) := by decide +kernel
theorem dL_law_128 : decode bL_law 128 = .ok (.aload_n 1, 1) := by decide +kernel
theorem dL_law_129 : decode bL_law 129 = .ok (.aload_n 3, 1) := by decide +kernel
theorem dL_law_130 : decode bL_law 130 = .ok (.invokestatic 80, 3) := by decide +kernel
theorem dL_law_133 : decode bL_law 133 = .ok (.istore 5, 2) := by decide +kernel
theorem dL_law_135 : decode bL_law 135 = .ok (.aload_n 2, 1) := by decide +kernel
theorem dL_law_136 : decode bL_law 136 = .ok (.invokevirtual 83, 3) := by decide +kernel
theorem dL_law_139 : decode bL_law 139 = .ok (.istore 6, 2) := by decide +kernel
theorem dL_law_141 : decode bL_law 141 = .ok (.aload_n 2, 1) := by decide +kernel
theorem dL_law_142 : decode bL_law 142 = .ok (.invokevirtual 84, 3) := by decide +kernel
theorem dL_law_145 : decode bL_law 145 = .ok (.iload 5, 2) := by decide +kernel
theorem dL_law_147 : decode bL_law 147 = .ok (.if_icmp .eq 5, 3) := by decide +kernel
theorem dL_law_152 : decode bL_law 152 = .ok (.iload 5, 2) := by decide +kernel
theorem dL_law_154 : decode bL_law 154 = .ok (.ifCond .ne 15, 3) := by decide +kernel
theorem dL_law_157 : decode bL_law 157 = .ok (.aload_n 3, 1) := by decide +kernel
theorem dL_law_158 : decode bL_law 158 = .ok (.iconst 0, 1) := by decide +kernel
theorem dL_law_159 : decode bL_law 159 = .ok (.laload, 1) := by decide +kernel
theorem dL_law_160 : decode bL_law 160 = .ok (.iload 6, 2) := by decide +kernel
theorem dL_law_162 : decode bL_law 162 = .ok (.i2l, 1) := by decide +kernel
theorem dL_law_163 : decode bL_law 163 = .ok (.lcmp, 1) := by decide +kernel
theorem dL_law_164 : decode bL_law 164 = .ok (.ifCond .eq 5, 3) := by decide +kernel
theorem dL_law_169 : decode bL_law 169 = .ok (.goto 1096, 3) := by decide +kernel
theorem dL_law_172 : decode bL_law 172 = .ok (.aload_n 1, 1) := by decide +kernel
theorem dL_law_173 : decode bL_law 173 = .ok (.aload_n 0, 1) := by decide +kernel
theorem dL_law_174 : decode bL_law 174 = .ok (.iload 4, 2) := by decide +kernel
theorem dL_law_176 : decode bL_law 176 = .ok (.iconst 1, 1) := by decide +kernel
theorem dL_law_177 : decode bL_law 177 = .ok (.iadd, 1) := by decide +kernel
theorem dL_law_178 : decode bL_law 178 = .ok (.iaload, 1) := by decide +kernel
theorem dL_law_179 : decode bL_law 179 = .ok (.aload_n 0, 1) := by decide +kernel
theorem dL_law_180 : decode bL_law 180 = .ok (.iload 4, 2) := by decide +kernel
theorem dL_law_182 : decode bL_law 182 = .ok (.iconst 2, 1) := by decide +kernel
theorem dL_law_183 : decode bL_law 183 = .ok (.iadd, 1) := by decide +kernel
theorem dL_law_184 : decode bL_law 184 = .ok (.iaload, 1) := by decide +kernel
theorem dL_law_185 : decode bL_law 185 = .ok (.i2l, 1) := by decide +kernel
theorem dL_law_186 : decode bL_law 186 = .ok (.bipush 32, 2) := by decide +kernel
theorem dL_law_188 : decode bL_law 188 = .ok (.lshl, 1) := by decide +kernel
theorem dL_law_189 : decode bL_law 189 = .ok (.aload_n 0, 1) := by decide +kernel
theorem dL_law_190 : decode bL_law 190 = .ok (.iload 4, 2) := by decide +kernel
theorem dL_law_192 : decode bL_law 192 = .ok (.iconst 3, 1) := by decide +kernel
theorem dL_law_193 : decode bL_law 193 = .ok (.iadd, 1) := by decide +kernel
theorem dL_law_194 : decode bL_law 194 = .ok (.iaload, 1) := by decide +kernel
theorem dL_law_195 : decode bL_law 195 = .ok (.i2l, 1) := by decide +kernel
theorem dL_law_196 : decode bL_law 196 = .ok (.ldc2_w 87, 3) := by decide +kernel
theorem dL_law_199 : decode bL_law 199 = .ok (.land, 1) := by decide +kernel
theorem dL_law_200 : decode bL_law 200 = .ok (.lor, 1) := by decide +kernel
theorem dL_law_201 : decode bL_law 201 = .ok (.aload_n 0, 1) := by decide +kernel
theorem dL_law_202 : decode bL_law 202 = .ok (.iload 4, 2) := by decide +kernel
theorem dL_law_204 : decode bL_law 204 = .ok (.iconst 4, 1) := by decide +kernel
theorem dL_law_205 : decode bL_law 205 = .ok (.iadd, 1) := by decide +kernel
theorem dL_law_206 : decode bL_law 206 = .ok (.iaload, 1) := by decide +kernel
