theorem dM_init_9 : decode bM_init 9 = .ok (.putfield 8, 3) := by decide +kernel
theorem dM_init_12 : decode bM_init 12 = .ok (.aload_n 0, 1) := by decide +kernel
theorem dM_init_13 : decode bM_init 13 = .ok (.sipush 16384, 3) := by decide +kernel
theorem dM_init_16 : decode bM_init 16 = .ok (.newarray .int, 2) := by decide +kernel
theorem dM_init_18 : decode bM_init 18 = .ok (.putfield 14, 3) := by decide +kernel
theorem dM_init_21 : decode bM_init 21 = .ok (.aload_n 0, 1) := by decide +kernel
theorem dM_init_22 : decode bM_init 22 = .ok (.sipush 128, 3) := by decide +kernel
theorem dM_init_25 : decode bM_init 25 = .ok (.newarray .int, 2) := by decide +kernel
theorem dM_init_27 : decode bM_init 27 = .ok (.putfield 17, 3) := by decide +kernel
theorem dM_init_30 : decode bM_init 30 = .ok (.aload_n 0, 1) := by decide +kernel
theorem dM_init_31 : decode bM_init 31 = .ok (.sipush 128, 3) := by decide +kernel
theorem dM_init_34 : decode bM_init 34 = .ok (.newarray .int, 2) := by decide +kernel
theorem dM_init_36 : decode bM_init 36 = .ok (.putfield 20, 3) := by decide +kernel
theorem dM_init_39 : decode bM_init 39 = .ok (.aload_n 0, 1) := by decide +kernel
theorem dM_init_40 : decode bM_init 40 = .ok (.sipush 128, 3) := by decide +kernel
theorem dM_init_43 : decode bM_init 43 = .ok (.newarray .int, 2) := by decide +kernel
theorem dM_init_45 : decode bM_init 45 = .ok (.putfield 23, 3) := by decide +kernel
theorem dM_init_48 : decode bM_init 48 = .ok (.aload_n 0, 1) := by decide +kernel
theorem dM_init_49 : decode bM_init 49 = .ok (.bipush 64, 2) := by decide +kernel
theorem dM_init_51 : decode bM_init 51 = .ok (.newarray .int, 2) := by decide +kernel
theorem dM_init_53 : decode bM_init 53 = .ok (.putfield 26, 3) := by decide +kernel
theorem dM_init_56 : decode bM_init 56 = .ok (.aload_n 0, 1) := by decide +kernel
theorem dM_init_57 : decode bM_init 57 = .ok (.bipush 64, 2) := by decide +kernel
theorem dM_init_59 : decode bM_init 59 = .ok (.newarray .int, 2) := by decide +kernel
theorem dM_init_61 : decode bM_init 61 = .ok (.putfield 29, 3) := by decide +kernel
theorem dM_init_64 : decode bM_init 64 = .ok (.aload_n 0, 1) := by decide +kernel
theorem dM_init_65 : decode bM_init 65 = .ok (.bipush 64, 2) := by decide +kernel
theorem dM_init_67 : decode bM_init 67 = .ok (.newarray .int, 2) := by decide +kernel
theorem dM_init_69 : decode bM_init 69 = .ok (.putfield 32, 3) := by decide +kernel
theorem dM_init_72 : decode bM_init 72 = .ok (.aload_n 0, 1) := by decide +kernel
theorem dM_init_73 : decode bM_init 73 = .ok (.bipush 64, 2) := by decide +kernel
theorem dM_init_75 : decode bM_init 75 = .ok (.newarray .int, 2) := by decide +kernel
theorem dM_init_77 : decode bM_init 77 = .ok (.putfield 35, 3) := by decide +kernel
theorem dM_init_80 : decode bM_init 80 = .ok (.aload_n 0, 1) := by decide +kernel
theorem dM_init_81 : decode bM_init 81 = .ok (.sipush 2048, 3) := by decide +kernel
theorem dM_init_84 : decode bM_init 84 = .ok (.newarray .int, 2) := by decide +kernel
theorem dM_init_86 : decode bM_init 86 = .ok (.putfield 38, 3) := by decide +kernel
theorem dM_init_89 : decode bM_init 89 = .ok (.aload_n 0, 1) := by decide +kernel
theorem dM_init_90 : decode bM_init 90 = .ok (.bipush 32, 2) := by decide +kernel
theorem dM_init_92 : decode bM_init 92 = .ok (.newarray .int, 2) := by decide +kernel
theorem dM_init_94 : decode bM_init 94 = .ok (.putfield 41, 3) := by decide +kernel
theorem dM_init_97 : decode bM_init 97 = .ok (.aload_n 0, 1) := by decide +kernel
theorem dM_init_98 : decode bM_init 98 = .ok (.sipush 512, 3) := by decide +kernel
theorem dM_init_101 : decode bM_init 101 = .ok (.newarray .int, 2) := by decide +kernel
theorem dM_init_103 : decode bM_init 103 = .ok (.putfield 44, 3) := by decide +kernel
theorem dM_init_106 : decode bM_init 106 = .ok (.aload_n 0, 1) := by decide +kernel
theorem dM_init_107 : decode bM_init 107 = .ok (.bipush 32, 2) := by decide +kernel
theorem dM_init_109 : decode bM_init 109 = .ok (.newarray .int, 2) := by decide +kernel
theorem dM_init_111 : decode bM_init 111 = .ok (.putfield 47, 3) := by decide +kernel
theorem dM_init_114 : decode bM_init 114 = .ok (.aload_n 0, 1) := by decide +kernel
theorem dM_init_115 : decode bM_init 115 = .ok (.sipush 16384, 3) := by decide +kernel
theorem dM_init_118 : decode bM_init 118 = .ok (.newarray .int, 2) := by decide +kernel
theorem dM_init_120 : decode bM_init 120 = .ok (.putfield 50, 3) := by decide +kernel
theorem dM_init_123 : decode bM_init 123 = .ok (.aload_n 0, 1) := by decide +kernel
theorem dM_init_124 : decode bM_init 124 = .ok (.sipush 16384, 3) := by decide +kernel
theorem dM_init_127 : decode bM_init 127 = .ok (.newarray .int, 2) := by decide +kernel
theorem dM_init_129 : decode bM_init 129 = .ok (.putfield 53, 3) := by decide +kernel
theorem dM_init_132 : decode bM_init 132 = .ok (.aload_n 0, 1) := by decide +kernel
theorem dM_init_133 : decode bM_init 133 = .ok (.sipush 256, 3) := by decide +kernel
theorem dM_init_136 : decode bM_init 136 = .ok (.newarray .int, 2) := by decide +kernel
theorem dM_init_138 : decode bM_init 138 = .ok (.putfield 56, 3) := by decide +kernel
theorem dM_init_141 : decode bM_init 141 = .ok (.aload_n 0, 1) := by decide +kernel
theorem dM_init_142 : decode bM_init 142 = .ok (.sipush 256, 3) := by decide +kernel
theorem dM_init_145 : decode bM_init 145 = .ok (.newarray .int, 2) := by decide +kernel
theorem dM_init_147 : decode bM_init 147 = .ok (.putfield 59, 3) := by decide +kernel
theorem dM_init_150 : decode bM_init 150 = .ok (.aload_n 0, 1) := by decide +kernel
theorem dM_init_151 : decode bM_init 151 = .ok (.sipush 900, 3) := by decide +kernel
theorem dM_init_154 : decode bM_init 154 = .ok (.newarray .int, 2) := by decide +kernel
theorem dM_init_156 : decode bM_init 156 = .ok (.putfield 62, 3) := by decide +kernel
theorem dM_init_159 : decode bM_init 159 = .ok (.aload_n 0, 1) := by decide +kernel
theorem dM_init_160 : decode bM_init 160 = .ok (.iload_n 1, 1) := by decide +kernel
theorem dM_init_161 : decode bM_init 161 = .ok (.iconst 1, 1) := by decide +kernel
theorem dM_init_162 : decode bM_init 162 = .ok (.if_icmp .ge 7, 3) := by decide +kernel
theorem dM_init_165 : decode bM_init 165 = .ok (.iconst 1, 1) := by decide +kernel
theorem dM_init_166 : decode bM_init 166 = .ok (.goto 13, 3) := by decide +kernel
theorem dM_init_169 : decode bM_init 169 = .ok (.iload_n 1, 1) := by decide +kernel
theorem dM_init_170 : decode bM_init 170 = .ok (.iconst 3, 1) := by decide +kernel
theorem dM_init_171 : decode bM_init 171 = .ok (.if_icmp .le 7, 3) := by decide +kernel
theorem dM_init_174 : decode bM_init 174 = .ok (.iconst 3, 1) := by decide +kernel
theorem dM_init_175 : decode bM_init 175 = .ok (.goto 4, 3) := by decide +kernel
theorem dM_init_178 : decode bM_init 178 = .ok (.iload_n 1, 1) := by decide +kernel
theorem dM_init_179 : decode bM_init 179 = .ok (.putfield 65, 3) := by decide +kernel
theorem dM_init_182 : decode bM_init 182 = .ok (.return_, 1) := by decide +kernel
theorem dM_isFull_0 : decode bM_isFull 0 = .ok (.aload_n 0, 1) := by decide +kernel
theorem dM_isFull_1 : decode bM_isFull 1 = .ok (.getfield 223, 3) := by decide +kernel
theorem dM_isFull_4 : decode bM_isFull 4 = .ok (.bipush 60, 2) := by decide +kernel
theorem dM_isFull_6 : decode bM_isFull 6 = .ok (.if_icmp .ne 7, 3) := by decide +kernel
theorem dM_isFull_13 : decode bM_isFull 13 = .ok (.iconst 0, 1) := by decide +kernel
theorem dM_isFull_14 : decode bM_isFull 14 = .ok (.ireturn, 1) := by decide +kernel
theorem dM_isLetter_0 : decode bM_isLetter 0 = .ok (.iload_n 1, 1) := by decide +kernel
theorem dM_isLetter_1 : decode bM_isLetter 1 = .ok (.ifCond .lt 15, 3) := by decide +kernel
theorem dM_isLetter_4 : decode bM_isLetter 4 = .ok (.iload_n 1, 1) := by decide +kernel
theorem dM_isLetter_5 : decode bM_isLetter 5 = .ok (.aload_n 0, 1) := by decide +kernel
theorem dM_isLetter_6 : decode bM_isLetter 6 = .ok (.getfield 65, 3) := by decide +kernel
theorem dM_isLetter_9 : decode bM_isLetter 9 = .ok (.if_icmp .ge 7, 3) := by decide +kernel
theorem dM_isLetter_12 : decode bM_isLetter 12 = .ok (.iconst 1, 1) := by decide +kernel
theorem dM_isLetter_13 : decode bM_isLetter 13 = .ok (.goto 4, 3) := by decide +kernel
theorem dM_isLetter_16 : decode bM_isLetter 16 = .ok (.iconst 0, 1) := by decide +kernel
theorem dM_isLetter_17 : decode bM_isLetter 17 = .ok (.ireturn, 1) := by decide +kernel
theorem dM_isPoly_0 : decode bM_isPoly 0 = .ok (.iload_n 1, 1) := by decide +kernel
theorem dM_isPoly_1 : decode bM_isPoly 1 = .ok (.ifCond .lt 15, 3) := by decide +kernel
theorem dM_isPoly_4 : decode bM_isPoly 4 = .ok (.iload_n 1, 1) := by decide +kernel
theorem dM_isPoly_5 : decode bM_isPoly 5 = .ok (.aload_n 0, 1) := by decide +kernel
theorem dM_isPoly_6 : decode bM_isPoly 6 = .ok (.getfield 223, 3) := by decide +kernel
theorem dM_isPoly_9 : decode bM_isPoly 9 = .ok (.if_icmp .ge 7, 3) := by decide +kernel
theorem dM_isPoly_16 : decode bM_isPoly 16 = .ok (.iconst 0, 1) := by decide +kernel
theorem dM_isPoly_17 : decode bM_isPoly 17 = .ok (.ireturn, 1) := by decide +kernel
theorem dM_made_0 : decode bM_made 0 = .ok (.aload_n 0, 1) := by decide +kernel
theorem dM_made_1 : decode bM_made 1 = .ok (.iload_n 1, 1) := by decide +kernel
theorem dM_made_2 : decode bM_made 2 = .ok (.aload_n 0, 1) := by decide +kernel
theorem dM_made_3 : decode bM_made 3 = .ok (.getfield 223, 3) := by decide +kernel
theorem dM_made_6 : decode bM_made 6 = .ok (.invokevirtual 99, 3) := by decide +kernel
theorem dM_made_9 : decode bM_made 9 = .ok (.aload_n 0, 1) := by decide +kernel
theorem dM_made_10 : decode bM_made 10 = .ok (.dup, 1) := by decide +kernel
theorem dM_made_11 : decode bM_made 11 = .ok (.getfield 223, 3) := by decide +kernel
theorem dM_made_14 : decode bM_made 14 = .ok (.iconst 1, 1) := by decide +kernel
theorem dM_made_15 : decode bM_made 15 = .ok (.iadd, 1) := by decide +kernel
theorem dM_made_16 : decode bM_made 16 = .ok (.putfield 223, 3) := by decide +kernel
theorem dM_made_19 : decode bM_made 19 = .ok (.aload_n 0, 1) := by decide +kernel
theorem dM_made_20 : decode bM_made 20 = .ok (.getfield 223, 3) := by decide +kernel
