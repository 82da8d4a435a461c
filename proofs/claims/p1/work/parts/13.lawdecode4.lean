theorem d_L_law_1127 : decode code 1127 = .ok (.iload 4, 2) := by decide +kernel
theorem d_L_law_1129 : decode code 1129 = .ok (.iconst 4, 1) := by decide +kernel
theorem d_L_law_1130 : decode code 1130 = .ok (.iadd, 1) := by decide +kernel
theorem d_L_law_1131 : decode code 1131 = .ok (.iaload, 1) := by decide +kernel
theorem d_L_law_1132 : decode code 1132 = .ok (.aload_n 3, 1) := by decide +kernel
theorem d_L_law_1133 : decode code 1133 = .ok (.invokestatic 132, 3) := by decide +kernel
theorem d_L_law_1136 : decode code 1136 = .ok (.istore 5, 2) := by decide +kernel
theorem d_L_law_1138 : decode code 1138 = .ok (.aload_n 2, 1) := by decide +kernel
theorem d_L_law_1139 : decode code 1139 = .ok (.aload_n 0, 1) := by decide +kernel
theorem d_L_law_1140 : decode code 1140 = .ok (.iload 4, 2) := by decide +kernel
theorem d_L_law_1142 : decode code 1142 = .ok (.iconst 1, 1) := by decide +kernel
theorem d_L_law_1143 : decode code 1143 = .ok (.iadd, 1) := by decide +kernel
theorem d_L_law_1144 : decode code 1144 = .ok (.iaload, 1) := by decide +kernel
theorem d_L_law_1145 : decode code 1145 = .ok (.aload_n 0, 1) := by decide +kernel
theorem d_L_law_1146 : decode code 1146 = .ok (.iload 4, 2) := by decide +kernel
theorem d_L_law_1148 : decode code 1148 = .ok (.iconst 2, 1) := by decide +kernel
theorem d_L_law_1149 : decode code 1149 = .ok (.iadd, 1) := by decide +kernel
theorem d_L_law_1150 : decode code 1150 = .ok (.iaload, 1) := by decide +kernel
theorem d_L_law_1151 : decode code 1151 = .ok (.aload_n 0, 1) := by decide +kernel
theorem d_L_law_1152 : decode code 1152 = .ok (.iload 4, 2) := by decide +kernel
theorem d_L_law_1154 : decode code 1154 = .ok (.iconst 3, 1) := by decide +kernel
theorem d_L_law_1155 : decode code 1155 = .ok (.iadd, 1) := by decide +kernel
theorem d_L_law_1156 : decode code 1156 = .ok (.iaload, 1) := by decide +kernel
theorem d_L_law_1157 : decode code 1157 = .ok (.aload_n 0, 1) := by decide +kernel
theorem d_L_law_1158 : decode code 1158 = .ok (.iload 4, 2) := by decide +kernel
theorem d_L_law_1160 : decode code 1160 = .ok (.iconst 4, 1) := by decide +kernel
theorem d_L_law_1161 : decode code 1161 = .ok (.iadd, 1) := by decide +kernel
theorem d_L_law_1162 : decode code 1162 = .ok (.iaload, 1) := by decide +kernel
theorem d_L_law_1163 : decode code 1163 = .ok (.invokevirtual 134, 3) := by decide +kernel
theorem d_L_law_1166 : decode code 1166 = .ok (.istore 6, 2) := by decide +kernel
theorem d_L_law_1168 : decode code 1168 = .ok (.aload_n 2, 1) := by decide +kernel
theorem d_L_law_1169 : decode code 1169 = .ok (.invokevirtual 85, 3) := by decide +kernel
theorem d_L_law_1172 : decode code 1172 = .ok (.iload 5, 2) := by decide +kernel
theorem d_L_law_1174 : decode code 1174 = .ok (.if_icmp .eq 5, 3) := by decide +kernel
theorem d_L_law_1179 : decode code 1179 = .ok (.iload 5, 2) := by decide +kernel
theorem d_L_law_1181 : decode code 1181 = .ok (.ifCond .ne 15, 3) := by decide +kernel
theorem d_L_law_1184 : decode code 1184 = .ok (.aload_n 3, 1) := by decide +kernel
theorem d_L_law_1185 : decode code 1185 = .ok (.iconst 0, 1) := by decide +kernel
theorem d_L_law_1186 : decode code 1186 = .ok (.laload, 1) := by decide +kernel
theorem d_L_law_1187 : decode code 1187 = .ok (.iload 6, 2) := by decide +kernel
theorem d_L_law_1189 : decode code 1189 = .ok (.i2l, 1) := by decide +kernel
theorem d_L_law_1190 : decode code 1190 = .ok (.lcmp, 1) := by decide +kernel
theorem d_L_law_1191 : decode code 1191 = .ok (.ifCond .eq 5, 3) := by decide +kernel
theorem d_L_law_1196 : decode code 1196 = .ok (.goto 136, 3) := by decide +kernel
theorem d_L_law_1199 : decode code 1199 = .ok (.aload_n 1, 1) := by decide +kernel
theorem d_L_law_1200 : decode code 1200 = .ok (.aload_n 3, 1) := by decide +kernel
theorem d_L_law_1201 : decode code 1201 = .ok (.invokestatic 135, 3) := by decide +kernel
theorem d_L_law_1204 : decode code 1204 = .ok (.istore 5, 2) := by decide +kernel
theorem d_L_law_1206 : decode code 1206 = .ok (.aload_n 2, 1) := by decide +kernel
theorem d_L_law_1207 : decode code 1207 = .ok (.invokevirtual 137, 3) := by decide +kernel
theorem d_L_law_1210 : decode code 1210 = .ok (.istore 6, 2) := by decide +kernel
theorem d_L_law_1212 : decode code 1212 = .ok (.aload_n 2, 1) := by decide +kernel
theorem d_L_law_1213 : decode code 1213 = .ok (.invokevirtual 85, 3) := by decide +kernel
theorem d_L_law_1216 : decode code 1216 = .ok (.iload 5, 2) := by decide +kernel
theorem d_L_law_1218 : decode code 1218 = .ok (.if_icmp .eq 5, 3) := by decide +kernel
theorem d_L_law_1223 : decode code 1223 = .ok (.iload 5, 2) := by decide +kernel
theorem d_L_law_1225 : decode code 1225 = .ok (.ifCond .ne 15, 3) := by decide +kernel
theorem d_L_law_1228 : decode code 1228 = .ok (.aload_n 3, 1) := by decide +kernel
theorem d_L_law_1229 : decode code 1229 = .ok (.iconst 0, 1) := by decide +kernel
theorem d_L_law_1230 : decode code 1230 = .ok (.laload, 1) := by decide +kernel
theorem d_L_law_1231 : decode code 1231 = .ok (.iload 6, 2) := by decide +kernel
theorem d_L_law_1233 : decode code 1233 = .ok (.i2l, 1) := by decide +kernel
theorem d_L_law_1234 : decode code 1234 = .ok (.lcmp, 1) := by decide +kernel
theorem d_L_law_1235 : decode code 1235 = .ok (.ifCond .eq 5, 3) := by decide +kernel
theorem d_L_law_1240 : decode code 1240 = .ok (.goto 92, 3) := by decide +kernel
theorem d_L_law_1243 : decode code 1243 = .ok (.aload_n 1, 1) := by decide +kernel
theorem d_L_law_1244 : decode code 1244 = .ok (.aload_n 0, 1) := by decide +kernel
theorem d_L_law_1245 : decode code 1245 = .ok (.iload 4, 2) := by decide +kernel
theorem d_L_law_1247 : decode code 1247 = .ok (.iconst 1, 1) := by decide +kernel
theorem d_L_law_1248 : decode code 1248 = .ok (.iadd, 1) := by decide +kernel
theorem d_L_law_1249 : decode code 1249 = .ok (.iaload, 1) := by decide +kernel
theorem d_L_law_1250 : decode code 1250 = .ok (.aload_n 3, 1) := by decide +kernel
theorem d_L_law_1251 : decode code 1251 = .ok (.invokestatic 138, 3) := by decide +kernel
theorem d_L_law_1254 : decode code 1254 = .ok (.istore 5, 2) := by decide +kernel
theorem d_L_law_1256 : decode code 1256 = .ok (.aload_n 2, 1) := by decide +kernel
theorem d_L_law_1257 : decode code 1257 = .ok (.aload_n 0, 1) := by decide +kernel
theorem d_L_law_1258 : decode code 1258 = .ok (.iload 4, 2) := by decide +kernel
theorem d_L_law_1260 : decode code 1260 = .ok (.iconst 1, 1) := by decide +kernel
theorem d_L_law_1261 : decode code 1261 = .ok (.iadd, 1) := by decide +kernel
theorem d_L_law_1262 : decode code 1262 = .ok (.iaload, 1) := by decide +kernel
theorem d_L_law_1263 : decode code 1263 = .ok (.invokevirtual 140, 3) := by decide +kernel
theorem d_L_law_1266 : decode code 1266 = .ok (.istore 6, 2) := by decide +kernel
theorem d_L_law_1268 : decode code 1268 = .ok (.aload_n 2, 1) := by decide +kernel
theorem d_L_law_1269 : decode code 1269 = .ok (.invokevirtual 85, 3) := by decide +kernel
theorem d_L_law_1272 : decode code 1272 = .ok (.iload 5, 2) := by decide +kernel
theorem d_L_law_1274 : decode code 1274 = .ok (.if_icmp .eq 5, 3) := by decide +kernel
theorem d_L_law_1279 : decode code 1279 = .ok (.iload 5, 2) := by decide +kernel
theorem d_L_law_1281 : decode code 1281 = .ok (.ifCond .ne 22, 3) := by decide +kernel
theorem d_L_law_1284 : decode code 1284 = .ok (.aload_n 3, 1) := by decide +kernel
theorem d_L_law_1285 : decode code 1285 = .ok (.iconst 0, 1) := by decide +kernel
theorem d_L_law_1286 : decode code 1286 = .ok (.laload, 1) := by decide +kernel
theorem d_L_law_1287 : decode code 1287 = .ok (.iload 6, 2) := by decide +kernel
theorem d_L_law_1289 : decode code 1289 = .ok (.ifCond .eq 7, 3) := by decide +kernel
theorem d_L_law_1292 : decode code 1292 = .ok (.lconst 1, 1) := by decide +kernel
theorem d_L_law_1293 : decode code 1293 = .ok (.goto 4, 3) := by decide +kernel
theorem d_L_law_1296 : decode code 1296 = .ok (.lconst 0, 1) := by decide +kernel
theorem d_L_law_1297 : decode code 1297 = .ok (.lcmp, 1) := by decide +kernel
theorem d_L_law_1298 : decode code 1298 = .ok (.ifCond .eq 5, 3) := by decide +kernel
theorem d_L_law_1303 : decode code 1303 = .ok (.goto 29, 3) := by decide +kernel
theorem d_L_law_1306 : decode code 1306 = .ok (.aload_n 1, 1) := by decide +kernel
theorem d_L_law_1307 : decode code 1307 = .ok (.invokevirtual 141, 3) := by decide +kernel
theorem d_L_law_1310 : decode code 1310 = .ok (.aload_n 2, 1) := by decide +kernel
theorem d_L_law_1311 : decode code 1311 = .ok (.invokevirtual 145, 3) := by decide +kernel
theorem d_L_law_1314 : decode code 1314 = .ok (.if_icmp .eq 18, 3) := by decide +kernel
theorem d_L_law_1319 : decode code 1319 = .ok (.aload_n 1, 1) := by decide +kernel
theorem d_L_law_1320 : decode code 1320 = .ok (.invokevirtual 146, 3) := by decide +kernel
theorem d_L_law_1323 : decode code 1323 = .ok (.aload_n 2, 1) := by decide +kernel
theorem d_L_law_1324 : decode code 1324 = .ok (.invokevirtual 149, 3) := by decide +kernel
theorem d_L_law_1327 : decode code 1327 = .ok (.if_icmp .eq 5, 3) := by decide +kernel
theorem d_L_law_1332 : decode code 1332 = .ok (.iinc 4 6, 3) := by decide +kernel
theorem d_L_law_1335 : decode code 1335 = .ok (.goto (-1312), 3) := by decide +kernel
theorem d_L_law_1338 : decode code 1338 = .ok (.iconst 1, 1) := by decide +kernel
theorem d_L_law_1339 : decode code 1339 = .ok (.ireturn, 1) := by decide +kernel
