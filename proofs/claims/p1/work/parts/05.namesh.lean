theorem dL_law_1068 : decode bL_law 1068 = .ok (.invokevirtual 128, 3) := by decide +kernel
theorem dL_law_1071 : decode bL_law 1071 = .ok (.istore 6, 2) := by decide +kernel
theorem dL_law_1073 : decode bL_law 1073 = .ok (.aload_n 2, 1) := by decide +kernel
theorem dL_law_1074 : decode bL_law 1074 = .ok (.invokevirtual 84, 3) := by decide +kernel
theorem dL_law_1077 : decode bL_law 1077 = .ok (.iload 5, 2) := by decide +kernel
theorem dL_law_1079 : decode bL_law 1079 = .ok (.if_icmp .eq 5, 3) := by decide +kernel
theorem dL_law_1084 : decode bL_law 1084 = .ok (.iload 5, 2) := by decide +kernel
theorem dL_law_1086 : decode bL_law 1086 = .ok (.ifCond .ne 15, 3) := by decide +kernel
theorem dL_law_1101 : decode bL_law 1101 = .ok (.goto 164, 3) := by decide +kernel
theorem dL_law_1104 : decode bL_law 1104 = .ok (.aload_n 1, 1) := by decide +kernel
theorem dL_law_1105 : decode bL_law 1105 = .ok (.aload_n 0, 1) := by decide +kernel
theorem dL_law_1106 : decode bL_law 1106 = .ok (.iload 4, 2) := by decide +kernel
theorem dL_law_1108 : decode bL_law 1108 = .ok (.iconst 1, 1) := by decide +kernel
theorem dL_law_1109 : decode bL_law 1109 = .ok (.iadd, 1) := by decide +kernel
theorem dL_law_1110 : decode bL_law 1110 = .ok (.iaload, 1) := by decide +kernel
theorem dL_law_1111 : decode bL_law 1111 = .ok (.aload_n 0, 1) := by decide +kernel
theorem dL_law_1112 : decode bL_law 1112 = .ok (.iload 4, 2) := by decide +kernel
theorem dL_law_1114 : decode bL_law 1114 = .ok (.iconst 2, 1) := by decide +kernel
theorem dL_law_1115 : decode bL_law 1115 = .ok (.iadd, 1) := by decide +kernel
theorem dL_law_1116 : decode bL_law 1116 = .ok (.iaload, 1) := by decide +kernel
theorem dL_law_1117 : decode bL_law 1117 = .ok (.aload_n 0, 1) := by decide +kernel
theorem dL_law_1118 : decode bL_law 1118 = .ok (.iload 4, 2) := by decide +kernel
theorem dL_law_1120 : decode bL_law 1120 = .ok (.iconst 3, 1) := by decide +kernel
theorem dL_law_1121 : decode bL_law 1121 = .ok (.iadd, 1) := by decide +kernel
theorem dL_law_1122 : decode bL_law 1122 = .ok (.iaload, 1) := by decide +kernel
theorem dL_law_1123 : decode bL_law 1123 = .ok (.aload_n 3, 1) := by decide +kernel
theorem dL_law_1124 : decode bL_law 1124 = .ok (.invokestatic 129, 3) := by decide +kernel
theorem dL_law_1127 : decode bL_law 1127 = .ok (.istore 5, 2) := by decide +kernel
theorem dL_law_1129 : decode bL_law 1129 = .ok (.aload_n 2, 1) := by decide +kernel
theorem dL_law_1130 : decode bL_law 1130 = .ok (.aload_n 0, 1) := by decide +kernel
theorem dL_law_1131 : decode bL_law 1131 = .ok (.iload 4, 2) := by decide +kernel
theorem dL_law_1133 : decode bL_law 1133 = .ok (.iconst 1, 1) := by decide +kernel
theorem dL_law_1134 : decode bL_law 1134 = .ok (.iadd, 1) := by decide +kernel
theorem dL_law_1135 : decode bL_law 1135 = .ok (.iaload, 1) := by decide +kernel
theorem dL_law_1136 : decode bL_law 1136 = .ok (.aload_n 0, 1) := by decide +kernel
theorem dL_law_1137 : decode bL_law 1137 = .ok (.iload 4, 2) := by decide +kernel
theorem dL_law_1139 : decode bL_law 1139 = .ok (.iconst 2, 1) := by decide +kernel
theorem dL_law_1140 : decode bL_law 1140 = .ok (.iadd, 1) := by decide +kernel
theorem dL_law_1141 : decode bL_law 1141 = .ok (.iaload, 1) := by decide +kernel
theorem dL_law_1142 : decode bL_law 1142 = .ok (.aload_n 0, 1) := by decide +kernel
theorem dL_law_1143 : decode bL_law 1143 = .ok (.iload 4, 2) := by decide +kernel
theorem dL_law_1145 : decode bL_law 1145 = .ok (.iconst 3, 1) := by decide +kernel
theorem dL_law_1146 : decode bL_law 1146 = .ok (.iadd, 1) := by decide +kernel
theorem dL_law_1147 : decode bL_law 1147 = .ok (.iaload, 1) := by decide +kernel
theorem dL_law_1148 : decode bL_law 1148 = .ok (.invokevirtual 131, 3) := by decide +kernel
theorem dL_law_1151 : decode bL_law 1151 = .ok (.istore 6, 2) := by decide +kernel
theorem dL_law_1153 : decode bL_law 1153 = .ok (.aload_n 2, 1) := by decide +kernel
theorem dL_law_1154 : decode bL_law 1154 = .ok (.invokevirtual 84, 3) := by decide +kernel
theorem dL_law_1157 : decode bL_law 1157 = .ok (.iload 5, 2) := by decide +kernel
theorem dL_law_1159 : decode bL_law 1159 = .ok (.if_icmp .eq 5, 3) := by decide +kernel
theorem dL_law_1164 : decode bL_law 1164 = .ok (.iload 5, 2) := by decide +kernel
theorem dL_law_1166 : decode bL_law 1166 = .ok (.ifCond .ne 15, 3) := by decide +kernel
theorem dL_law_1181 : decode bL_law 1181 = .ok (.goto 84, 3) := by decide +kernel
theorem dL_law_1184 : decode bL_law 1184 = .ok (.aload_n 1, 1) := by decide +kernel
theorem dL_law_1185 : decode bL_law 1185 = .ok (.aload_n 0, 1) := by decide +kernel
theorem dL_law_1186 : decode bL_law 1186 = .ok (.iload 4, 2) := by decide +kernel
theorem dL_law_1188 : decode bL_law 1188 = .ok (.iconst 1, 1) := by decide +kernel
theorem dL_law_1189 : decode bL_law 1189 = .ok (.iadd, 1) := by decide +kernel
theorem dL_law_1190 : decode bL_law 1190 = .ok (.iaload, 1) := by decide +kernel
theorem dL_law_1191 : decode bL_law 1191 = .ok (.aload_n 0, 1) := by decide +kernel
theorem dL_law_1192 : decode bL_law 1192 = .ok (.iload 4, 2) := by decide +kernel
theorem dL_law_1194 : decode bL_law 1194 = .ok (.iconst 2, 1) := by decide +kernel
theorem dL_law_1195 : decode bL_law 1195 = .ok (.iadd, 1) := by decide +kernel
theorem dL_law_1196 : decode bL_law 1196 = .ok (.iaload, 1) := by decide +kernel
theorem dL_law_1197 : decode bL_law 1197 = .ok (.aload_n 3, 1) := by decide +kernel
theorem dL_law_1198 : decode bL_law 1198 = .ok (.invokestatic 132, 3) := by decide +kernel
theorem dL_law_1201 : decode bL_law 1201 = .ok (.istore 5, 2) := by decide +kernel
theorem dL_law_1203 : decode bL_law 1203 = .ok (.aload_n 2, 1) := by decide +kernel
theorem dL_law_1204 : decode bL_law 1204 = .ok (.aload_n 0, 1) := by decide +kernel
theorem dL_law_1205 : decode bL_law 1205 = .ok (.iload 4, 2) := by decide +kernel
theorem dL_law_1207 : decode bL_law 1207 = .ok (.iconst 1, 1) := by decide +kernel
theorem dL_law_1208 : decode bL_law 1208 = .ok (.iadd, 1) := by decide +kernel
theorem dL_law_1209 : decode bL_law 1209 = .ok (.iaload, 1) := by decide +kernel
theorem dL_law_1210 : decode bL_law 1210 = .ok (.aload_n 0, 1) := by decide +kernel
theorem dL_law_1211 : decode bL_law 1211 = .ok (.iload 4, 2) := by decide +kernel
theorem dL_law_1213 : decode bL_law 1213 = .ok (.iconst 2, 1) := by decide +kernel
theorem dL_law_1214 : decode bL_law 1214 = .ok (.iadd, 1) := by decide +kernel
theorem dL_law_1215 : decode bL_law 1215 = .ok (.iaload, 1) := by decide +kernel
theorem dL_law_1216 : decode bL_law 1216 = .ok (.invokevirtual 134, 3) := by decide +kernel
theorem dL_law_1219 : decode bL_law 1219 = .ok (.istore 6, 2) := by decide +kernel
theorem dL_law_1221 : decode bL_law 1221 = .ok (.aload_n 2, 1) := by decide +kernel
theorem dL_law_1222 : decode bL_law 1222 = .ok (.invokevirtual 84, 3) := by decide +kernel
theorem dL_law_1225 : decode bL_law 1225 = .ok (.iload 5, 2) := by decide +kernel
theorem dL_law_1227 : decode bL_law 1227 = .ok (.if_icmp .eq 5, 3) := by decide +kernel
theorem dL_law_1232 : decode bL_law 1232 = .ok (.iload 5, 2) := by decide +kernel
theorem dL_law_1234 : decode bL_law 1234 = .ok (.ifCond .ne 15, 3) := by decide +kernel
theorem dL_law_1249 : decode bL_law 1249 = .ok (.goto 16, 3) := by decide +kernel
theorem dL_law_1252 : decode bL_law 1252 = .ok (.aload_n 1, 1) := by decide +kernel
theorem dL_law_1253 : decode bL_law 1253 = .ok (.invokevirtual 135, 3) := by decide +kernel
theorem dL_law_1256 : decode bL_law 1256 = .ok (.aload_n 2, 1) := by decide +kernel
theorem dL_law_1257 : decode bL_law 1257 = .ok (.invokevirtual 138, 3) := by decide +kernel
theorem dL_law_1260 : decode bL_law 1260 = .ok (.if_icmp .eq 5, 3) := by decide +kernel
theorem dL_law_1265 : decode bL_law 1265 = .ok (.iinc 4 7, 3) := by decide +kernel
theorem dL_law_1268 : decode bL_law 1268 = .ok (.goto (-1235), 3) := by decide +kernel
theorem dL_law_1271 : decode bL_law 1271 = .ok (.iconst 1, 1) := by decide +kernel
theorem dL_law_1272 : decode bL_law 1272 = .ok (.ireturn, 1) := by decide +kernel
theorem dL_over_0 : decode bL_over 0 = .ok (.aload_n 3, 1) := by decide +kernel
theorem dL_over_1 : decode bL_over 1 = .ok (.iconst 0, 1) := by decide +kernel
theorem dL_over_2 : decode bL_over 2 = .ok (.aload_n 0, 1) := by decide +kernel
theorem dL_over_3 : decode bL_over 3 = .ok (.iload_n 1, 1) := by decide +kernel
theorem dL_over_4 : decode bL_over 4 = .ok (.iload_n 2, 1) := by decide +kernel
theorem dL_over_5 : decode bL_over 5 = .ok (.invokevirtual 32, 3) := by decide +kernel
theorem dL_over_13 : decode bL_over 13 = .ok (.astore 4, 2) := by decide +kernel
theorem dL_over_15 : decode bL_over 15 = .ok (.iconst 1, 1) := by decide +kernel
theorem dL_over_16 : decode bL_over 16 = .ok (.ireturn, 1) := by decide +kernel
theorem dL_part_0 : decode bL_part 0 = .ok (.aload_n 3, 1) := by decide +kernel
theorem dL_part_1 : decode bL_part 1 = .ok (.iconst 0, 1) := by decide +kernel
theorem dL_part_2 : decode bL_part 2 = .ok (.aload_n 0, 1) := by decide +kernel
theorem dL_part_3 : decode bL_part 3 = .ok (.iload_n 1, 1) := by decide +kernel
theorem dL_part_4 : decode bL_part 4 = .ok (.iload_n 2, 1) := by decide +kernel
theorem dL_part_5 : decode bL_part 5 = .ok (.invokevirtual 48, 3) := by decide +kernel
theorem dL_part_13 : decode bL_part 13 = .ok (.astore 4, 2) := by decide +kernel
theorem dL_part_15 : decode bL_part 15 = .ok (.iconst 1, 1) := by decide +kernel
theorem dL_part_16 : decode bL_part 16 = .ok (.ireturn, 1) := by decide +kernel
theorem dL_poly_0 : decode bL_poly 0 = .ok (.aload_n 1, 1) := by decide +kernel
theorem dL_poly_1 : decode bL_poly 1 = .ok (.iconst 0, 1) := by decide +kernel
theorem dL_poly_2 : decode bL_poly 2 = .ok (.aload_n 0, 1) := by decide +kernel
theorem dL_poly_3 : decode bL_poly 3 = .ok (.invokevirtual 7, 3) := by decide +kernel
theorem dL_poly_6 : decode bL_poly 6 = .ok (.i2l, 1) := by decide +kernel
theorem dL_poly_7 : decode bL_poly 7 = .ok (.lastore, 1) := by decide +kernel
