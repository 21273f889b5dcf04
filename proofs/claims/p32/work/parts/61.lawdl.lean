theorem dL_law_1093 : decode cL_law 1093 = .ok (.aload 5, 2) := by decide +kernel
theorem dL_law_1095 : decode cL_law 1095 = .ok (.aload 6, 2) := by decide +kernel
theorem dL_law_1097 : decode cL_law 1097 = .ok (.aload 7, 2) := by decide +kernel
theorem dL_law_1099 : decode cL_law 1099 = .ok (.aload 8, 2) := by decide +kernel
theorem dL_law_1101 : decode cL_law 1101 = .ok (.aload 10, 2) := by decide +kernel
theorem dL_law_1103 : decode cL_law 1103 = .ok (.invokestatic 155, 3) := by decide +kernel
theorem dL_law_1106 : decode cL_law 1106 = .ok (.istore 19, 2) := by decide +kernel
theorem dL_law_1108 : decode cL_law 1108 = .ok (.aload_n 1, 1) := by decide +kernel
theorem dL_law_1109 : decode cL_law 1109 = .ok (.iload 21, 2) := by decide +kernel
theorem dL_law_1111 : decode cL_law 1111 = .ok (.invokevirtual 159, 3) := by decide +kernel
theorem dL_law_1114 : decode cL_law 1114 = .ok (.istore 20, 2) := by decide +kernel
theorem dL_law_1116 : decode cL_law 1116 = .ok (.goto 109, 3) := by decide +kernel
theorem dL_law_1119 : decode cL_law 1119 = .ok (.iload 14, 2) := by decide +kernel
theorem dL_law_1121 : decode cL_law 1121 = .ok (.bipush 19, 2) := by decide +kernel
theorem dL_law_1123 : decode cL_law 1123 = .ok (.if_icmp .ne 40, 3) := by decide +kernel
theorem dL_law_1126 : decode cL_law 1126 = .ok (.aload_n 3, 1) := by decide +kernel
theorem dL_law_1127 : decode cL_law 1127 = .ok (.iload 17, 2) := by decide +kernel
theorem dL_law_1129 : decode cL_law 1129 = .ok (.iaload, 1) := by decide +kernel
theorem dL_law_1130 : decode cL_law 1130 = .ok (.istore 19, 2) := by decide +kernel
theorem dL_law_1132 : decode cL_law 1132 = .ok (.aload_n 3, 1) := by decide +kernel
theorem dL_law_1133 : decode cL_law 1133 = .ok (.iload 17, 2) := by decide +kernel
theorem dL_law_1135 : decode cL_law 1135 = .ok (.iload 13, 2) := by decide +kernel
theorem dL_law_1137 : decode cL_law 1137 = .ok (.bipush 13, 2) := by decide +kernel
theorem dL_law_1139 : decode cL_law 1139 = .ok (.ishr, 1) := by decide +kernel
theorem dL_law_1140 : decode cL_law 1140 = .ok (.bipush 14, 2) := by decide +kernel
theorem dL_law_1142 : decode cL_law 1142 = .ok (.invokestatic 130, 3) := by decide +kernel
theorem dL_law_1145 : decode cL_law 1145 = .ok (.iastore, 1) := by decide +kernel
theorem dL_law_1146 : decode cL_law 1146 = .ok (.aload_n 1, 1) := by decide +kernel
theorem dL_law_1147 : decode cL_law 1147 = .ok (.bipush 6, 2) := by decide +kernel
theorem dL_law_1149 : decode cL_law 1149 = .ok (.iload 17, 2) := by decide +kernel
theorem dL_law_1151 : decode cL_law 1151 = .ok (.aload_n 3, 1) := by decide +kernel
theorem dL_law_1152 : decode cL_law 1152 = .ok (.iload 17, 2) := by decide +kernel
theorem dL_law_1154 : decode cL_law 1154 = .ok (.iaload, 1) := by decide +kernel
theorem dL_law_1155 : decode cL_law 1155 = .ok (.invokestatic 133, 3) := by decide +kernel
theorem dL_law_1158 : decode cL_law 1158 = .ok (.istore 20, 2) := by decide +kernel
theorem dL_law_1160 : decode cL_law 1160 = .ok (.goto 65, 3) := by decide +kernel
theorem dL_law_1163 : decode cL_law 1163 = .ok (.iload 14, 2) := by decide +kernel
theorem dL_law_1165 : decode cL_law 1165 = .ok (.bipush 20, 2) := by decide +kernel
theorem dL_law_1167 : decode cL_law 1167 = .ok (.if_icmp .ne 23, 3) := by decide +kernel
theorem dL_law_1170 : decode cL_law 1170 = .ok (.aload_n 2, 1) := by decide +kernel
theorem dL_law_1171 : decode cL_law 1171 = .ok (.aload_n 3, 1) := by decide +kernel
theorem dL_law_1172 : decode cL_law 1172 = .ok (.aload 5, 2) := by decide +kernel
theorem dL_law_1174 : decode cL_law 1174 = .ok (.aload 8, 2) := by decide +kernel
theorem dL_law_1176 : decode cL_law 1176 = .ok (.invokestatic 162, 3) := by decide +kernel
theorem dL_law_1179 : decode cL_law 1179 = .ok (.istore 19, 2) := by decide +kernel
theorem dL_law_1181 : decode cL_law 1181 = .ok (.aload_n 1, 1) := by decide +kernel
theorem dL_law_1182 : decode cL_law 1182 = .ok (.invokevirtual 166, 3) := by decide +kernel
theorem dL_law_1185 : decode cL_law 1185 = .ok (.istore 20, 2) := by decide +kernel
theorem dL_law_1187 : decode cL_law 1187 = .ok (.goto 38, 3) := by decide +kernel
theorem dL_law_1190 : decode cL_law 1190 = .ok (.iload 13, 2) := by decide +kernel
theorem dL_law_1192 : decode cL_law 1192 = .ok (.iconst 5, 1) := by decide +kernel
theorem dL_law_1193 : decode cL_law 1193 = .ok (.ishr, 1) := by decide +kernel
theorem dL_law_1194 : decode cL_law 1194 = .ok (.iconst 3, 1) := by decide +kernel
theorem dL_law_1195 : decode cL_law 1195 = .ok (.invokestatic 130, 3) := by decide +kernel
theorem dL_law_1198 : decode cL_law 1198 = .ok (.ifCond .ne 27, 3) := by decide +kernel
theorem dL_law_1201 : decode cL_law 1201 = .ok (.aload_n 2, 1) := by decide +kernel
theorem dL_law_1202 : decode cL_law 1202 = .ok (.aload_n 3, 1) := by decide +kernel
theorem dL_law_1203 : decode cL_law 1203 = .ok (.aload 5, 2) := by decide +kernel
theorem dL_law_1205 : decode cL_law 1205 = .ok (.aload 8, 2) := by decide +kernel
theorem dL_law_1207 : decode cL_law 1207 = .ok (.invokestatic 162, 3) := by decide +kernel
theorem dL_law_1210 : decode cL_law 1210 = .ok (.ifCond .lt 9, 3) := by decide +kernel
theorem dL_law_1213 : decode cL_law 1213 = .ok (.iinc 19 1, 3) := by decide +kernel
theorem dL_law_1216 : decode cL_law 1216 = .ok (.goto (-15), 3) := by decide +kernel
theorem dL_law_1219 : decode cL_law 1219 = .ok (.aload_n 1, 1) := by decide +kernel
theorem dL_law_1220 : decode cL_law 1220 = .ok (.invokevirtual 169, 3) := by decide +kernel
theorem dL_law_1223 : decode cL_law 1223 = .ok (.istore 20, 2) := by decide +kernel
theorem dL_law_1225 : decode cL_law 1225 = .ok (.iload 20, 2) := by decide +kernel
theorem dL_law_1227 : decode cL_law 1227 = .ok (.iload 19, 2) := by decide +kernel
theorem dL_law_1229 : decode cL_law 1229 = .ok (.if_icmp .ne 26, 3) := by decide +kernel
theorem dL_law_1232 : decode cL_law 1232 = .ok (.aload_n 1, 1) := by decide +kernel
theorem dL_law_1233 : decode cL_law 1233 = .ok (.aload_n 2, 1) := by decide +kernel
theorem dL_law_1234 : decode cL_law 1234 = .ok (.aload_n 3, 1) := by decide +kernel
theorem dL_law_1235 : decode cL_law 1235 = .ok (.aload 4, 2) := by decide +kernel
theorem dL_law_1237 : decode cL_law 1237 = .ok (.aload 5, 2) := by decide +kernel
theorem dL_law_1239 : decode cL_law 1239 = .ok (.aload 6, 2) := by decide +kernel
theorem dL_law_1241 : decode cL_law 1241 = .ok (.aload 7, 2) := by decide +kernel
theorem dL_law_1243 : decode cL_law 1243 = .ok (.aload 8, 2) := by decide +kernel
theorem dL_law_1245 : decode cL_law 1245 = .ok (.aload 11, 2) := by decide +kernel
theorem dL_law_1247 : decode cL_law 1247 = .ok (.aload 10, 2) := by decide +kernel
theorem dL_law_1249 : decode cL_law 1249 = .ok (.invokestatic 172, 3) := by decide +kernel
theorem dL_law_1252 : decode cL_law 1252 = .ok (.ifCond .ne 5, 3) := by decide +kernel
theorem dL_law_1255 : decode cL_law 1255 = .ok (.iconst 0, 1) := by decide +kernel
theorem dL_law_1256 : decode cL_law 1256 = .ok (.ireturn, 1) := by decide +kernel
theorem dL_law_1257 : decode cL_law 1257 = .ok (.iinc 12 1, 3) := by decide +kernel
theorem dL_law_1260 : decode cL_law 1260 = .ok (.goto (-1192), 3) := by decide +kernel
theorem dL_law_1263 : decode cL_law 1263 = .ok (.iconst 1, 1) := by decide +kernel
theorem dL_law_1264 : decode cL_law 1264 = .ok (.ireturn, 1) := by decide +kernel
