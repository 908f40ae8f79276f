theorem d_Law_law_1154 : decode m_Law_law.2.1 1154 = .ok (.ifCond .ne 14, 3) := by decide +kernel
theorem d_Law_law_1157 : decode m_Law_law.2.1 1157 = .ok (.aload_n 3, 1) := by decide +kernel
theorem d_Law_law_1158 : decode m_Law_law.2.1 1158 = .ok (.iconst 0, 1) := by decide +kernel
theorem d_Law_law_1159 : decode m_Law_law.2.1 1159 = .ok (.laload, 1) := by decide +kernel
theorem d_Law_law_1160 : decode m_Law_law.2.1 1160 = .ok (.lload 6, 2) := by decide +kernel
theorem d_Law_law_1162 : decode m_Law_law.2.1 1162 = .ok (.lcmp, 1) := by decide +kernel
theorem d_Law_law_1163 : decode m_Law_law.2.1 1163 = .ok (.ifCond .eq 5, 3) := by decide +kernel
theorem d_Law_law_1166 : decode m_Law_law.2.1 1166 = .ok (.iconst 0, 1) := by decide +kernel
theorem d_Law_law_1167 : decode m_Law_law.2.1 1167 = .ok (.ireturn, 1) := by decide +kernel
theorem d_Law_law_1168 : decode m_Law_law.2.1 1168 = .ok (.goto 294, 3) := by decide +kernel
theorem d_Law_law_1171 : decode m_Law_law.2.1 1171 = .ok (.aload_n 1, 1) := by decide +kernel
theorem d_Law_law_1172 : decode m_Law_law.2.1 1172 = .ok (.aload_n 0, 1) := by decide +kernel
theorem d_Law_law_1173 : decode m_Law_law.2.1 1173 = .ok (.iload 4, 2) := by decide +kernel
theorem d_Law_law_1175 : decode m_Law_law.2.1 1175 = .ok (.iconst 1, 1) := by decide +kernel
theorem d_Law_law_1176 : decode m_Law_law.2.1 1176 = .ok (.iadd, 1) := by decide +kernel
theorem d_Law_law_1177 : decode m_Law_law.2.1 1177 = .ok (.iaload, 1) := by decide +kernel
theorem d_Law_law_1178 : decode m_Law_law.2.1 1178 = .ok (.aload_n 0, 1) := by decide +kernel
theorem d_Law_law_1179 : decode m_Law_law.2.1 1179 = .ok (.iload 4, 2) := by decide +kernel
theorem d_Law_law_1181 : decode m_Law_law.2.1 1181 = .ok (.iconst 2, 1) := by decide +kernel
theorem d_Law_law_1182 : decode m_Law_law.2.1 1182 = .ok (.iadd, 1) := by decide +kernel
theorem d_Law_law_1183 : decode m_Law_law.2.1 1183 = .ok (.iaload, 1) := by decide +kernel
theorem d_Law_law_1184 : decode m_Law_law.2.1 1184 = .ok (.aload_n 3, 1) := by decide +kernel
theorem d_Law_law_1185 : decode m_Law_law.2.1 1185 = .ok (.invokestatic 123, 3) := by decide +kernel
theorem d_Law_law_1188 : decode m_Law_law.2.1 1188 = .ok (.istore 5, 2) := by decide +kernel
theorem d_Law_law_1190 : decode m_Law_law.2.1 1190 = .ok (.aload_n 2, 1) := by decide +kernel
theorem d_Law_law_1191 : decode m_Law_law.2.1 1191 = .ok (.aload_n 0, 1) := by decide +kernel
theorem d_Law_law_1192 : decode m_Law_law.2.1 1192 = .ok (.iload 4, 2) := by decide +kernel
theorem d_Law_law_1194 : decode m_Law_law.2.1 1194 = .ok (.iconst 1, 1) := by decide +kernel
theorem d_Law_law_1195 : decode m_Law_law.2.1 1195 = .ok (.iadd, 1) := by decide +kernel
theorem d_Law_law_1196 : decode m_Law_law.2.1 1196 = .ok (.iaload, 1) := by decide +kernel
theorem d_Law_law_1197 : decode m_Law_law.2.1 1197 = .ok (.aload_n 0, 1) := by decide +kernel
theorem d_Law_law_1198 : decode m_Law_law.2.1 1198 = .ok (.iload 4, 2) := by decide +kernel
theorem d_Law_law_1200 : decode m_Law_law.2.1 1200 = .ok (.iconst 2, 1) := by decide +kernel
theorem d_Law_law_1201 : decode m_Law_law.2.1 1201 = .ok (.iadd, 1) := by decide +kernel
theorem d_Law_law_1202 : decode m_Law_law.2.1 1202 = .ok (.iaload, 1) := by decide +kernel
theorem d_Law_law_1203 : decode m_Law_law.2.1 1203 = .ok (.invokevirtual 125, 3) := by decide +kernel
theorem d_Law_law_1206 : decode m_Law_law.2.1 1206 = .ok (.istore 6, 2) := by decide +kernel
theorem d_Law_law_1208 : decode m_Law_law.2.1 1208 = .ok (.aload_n 2, 1) := by decide +kernel
theorem d_Law_law_1209 : decode m_Law_law.2.1 1209 = .ok (.invokevirtual 73, 3) := by decide +kernel
theorem d_Law_law_1212 : decode m_Law_law.2.1 1212 = .ok (.iload 5, 2) := by decide +kernel
theorem d_Law_law_1214 : decode m_Law_law.2.1 1214 = .ok (.if_icmp .eq 5, 3) := by decide +kernel
theorem d_Law_law_1217 : decode m_Law_law.2.1 1217 = .ok (.iconst 0, 1) := by decide +kernel
theorem d_Law_law_1218 : decode m_Law_law.2.1 1218 = .ok (.ireturn, 1) := by decide +kernel
theorem d_Law_law_1219 : decode m_Law_law.2.1 1219 = .ok (.iload 5, 2) := by decide +kernel
theorem d_Law_law_1221 : decode m_Law_law.2.1 1221 = .ok (.ifCond .ne 22, 3) := by decide +kernel
theorem d_Law_law_1224 : decode m_Law_law.2.1 1224 = .ok (.aload_n 3, 1) := by decide +kernel
theorem d_Law_law_1225 : decode m_Law_law.2.1 1225 = .ok (.iconst 0, 1) := by decide +kernel
theorem d_Law_law_1226 : decode m_Law_law.2.1 1226 = .ok (.laload, 1) := by decide +kernel
theorem d_Law_law_1227 : decode m_Law_law.2.1 1227 = .ok (.iload 6, 2) := by decide +kernel
theorem d_Law_law_1229 : decode m_Law_law.2.1 1229 = .ok (.ifCond .eq 7, 3) := by decide +kernel
theorem d_Law_law_1232 : decode m_Law_law.2.1 1232 = .ok (.lconst 1, 1) := by decide +kernel
theorem d_Law_law_1233 : decode m_Law_law.2.1 1233 = .ok (.goto 4, 3) := by decide +kernel
theorem d_Law_law_1236 : decode m_Law_law.2.1 1236 = .ok (.lconst 0, 1) := by decide +kernel
theorem d_Law_law_1237 : decode m_Law_law.2.1 1237 = .ok (.lcmp, 1) := by decide +kernel
theorem d_Law_law_1238 : decode m_Law_law.2.1 1238 = .ok (.ifCond .eq 5, 3) := by decide +kernel
theorem d_Law_law_1241 : decode m_Law_law.2.1 1241 = .ok (.iconst 0, 1) := by decide +kernel
theorem d_Law_law_1242 : decode m_Law_law.2.1 1242 = .ok (.ireturn, 1) := by decide +kernel
theorem d_Law_law_1243 : decode m_Law_law.2.1 1243 = .ok (.goto 219, 3) := by decide +kernel
theorem d_Law_law_1246 : decode m_Law_law.2.1 1246 = .ok (.aload_n 1, 1) := by decide +kernel
theorem d_Law_law_1247 : decode m_Law_law.2.1 1247 = .ok (.aload_n 0, 1) := by decide +kernel
theorem d_Law_law_1248 : decode m_Law_law.2.1 1248 = .ok (.iload 4, 2) := by decide +kernel
theorem d_Law_law_1250 : decode m_Law_law.2.1 1250 = .ok (.iconst 1, 1) := by decide +kernel
theorem d_Law_law_1251 : decode m_Law_law.2.1 1251 = .ok (.iadd, 1) := by decide +kernel
theorem d_Law_law_1252 : decode m_Law_law.2.1 1252 = .ok (.iaload, 1) := by decide +kernel
theorem d_Law_law_1253 : decode m_Law_law.2.1 1253 = .ok (.aload_n 0, 1) := by decide +kernel
theorem d_Law_law_1254 : decode m_Law_law.2.1 1254 = .ok (.iload 4, 2) := by decide +kernel
theorem d_Law_law_1256 : decode m_Law_law.2.1 1256 = .ok (.iconst 2, 1) := by decide +kernel
theorem d_Law_law_1257 : decode m_Law_law.2.1 1257 = .ok (.iadd, 1) := by decide +kernel
theorem d_Law_law_1258 : decode m_Law_law.2.1 1258 = .ok (.iaload, 1) := by decide +kernel
theorem d_Law_law_1259 : decode m_Law_law.2.1 1259 = .ok (.invokevirtual 126, 3) := by decide +kernel
theorem d_Law_law_1262 : decode m_Law_law.2.1 1262 = .ok (.aload_n 2, 1) := by decide +kernel
theorem d_Law_law_1263 : decode m_Law_law.2.1 1263 = .ok (.aload_n 0, 1) := by decide +kernel
theorem d_Law_law_1264 : decode m_Law_law.2.1 1264 = .ok (.iload 4, 2) := by decide +kernel
theorem d_Law_law_1266 : decode m_Law_law.2.1 1266 = .ok (.iconst 1, 1) := by decide +kernel
theorem d_Law_law_1267 : decode m_Law_law.2.1 1267 = .ok (.iadd, 1) := by decide +kernel
theorem d_Law_law_1268 : decode m_Law_law.2.1 1268 = .ok (.iaload, 1) := by decide +kernel
theorem d_Law_law_1269 : decode m_Law_law.2.1 1269 = .ok (.aload_n 0, 1) := by decide +kernel
theorem d_Law_law_1270 : decode m_Law_law.2.1 1270 = .ok (.iload 4, 2) := by decide +kernel
theorem d_Law_law_1272 : decode m_Law_law.2.1 1272 = .ok (.iconst 2, 1) := by decide +kernel
theorem d_Law_law_1273 : decode m_Law_law.2.1 1273 = .ok (.iadd, 1) := by decide +kernel
theorem d_Law_law_1274 : decode m_Law_law.2.1 1274 = .ok (.iaload, 1) := by decide +kernel
theorem d_Law_law_1275 : decode m_Law_law.2.1 1275 = .ok (.invokevirtual 129, 3) := by decide +kernel
theorem d_Law_law_1278 : decode m_Law_law.2.1 1278 = .ok (.if_icmp .eq 184, 3) := by decide +kernel
theorem d_Law_law_1281 : decode m_Law_law.2.1 1281 = .ok (.iconst 0, 1) := by decide +kernel
theorem d_Law_law_1282 : decode m_Law_law.2.1 1282 = .ok (.ireturn, 1) := by decide +kernel
theorem d_Law_law_1283 : decode m_Law_law.2.1 1283 = .ok (.aload_n 1, 1) := by decide +kernel
theorem d_Law_law_1284 : decode m_Law_law.2.1 1284 = .ok (.aload_n 0, 1) := by decide +kernel
theorem d_Law_law_1285 : decode m_Law_law.2.1 1285 = .ok (.iload 4, 2) := by decide +kernel
theorem d_Law_law_1287 : decode m_Law_law.2.1 1287 = .ok (.iconst 1, 1) := by decide +kernel
theorem d_Law_law_1288 : decode m_Law_law.2.1 1288 = .ok (.iadd, 1) := by decide +kernel
theorem d_Law_law_1289 : decode m_Law_law.2.1 1289 = .ok (.iaload, 1) := by decide +kernel
theorem d_Law_law_1290 : decode m_Law_law.2.1 1290 = .ok (.aload_n 0, 1) := by decide +kernel
theorem d_Law_law_1291 : decode m_Law_law.2.1 1291 = .ok (.iload 4, 2) := by decide +kernel
theorem d_Law_law_1293 : decode m_Law_law.2.1 1293 = .ok (.iconst 2, 1) := by decide +kernel
theorem d_Law_law_1294 : decode m_Law_law.2.1 1294 = .ok (.iadd, 1) := by decide +kernel
theorem d_Law_law_1295 : decode m_Law_law.2.1 1295 = .ok (.iaload, 1) := by decide +kernel
theorem d_Law_law_1296 : decode m_Law_law.2.1 1296 = .ok (.invokevirtual 130, 3) := by decide +kernel
theorem d_Law_law_1299 : decode m_Law_law.2.1 1299 = .ok (.aload_n 2, 1) := by decide +kernel
theorem d_Law_law_1300 : decode m_Law_law.2.1 1300 = .ok (.aload_n 0, 1) := by decide +kernel
theorem d_Law_law_1301 : decode m_Law_law.2.1 1301 = .ok (.iload 4, 2) := by decide +kernel
theorem d_Law_law_1303 : decode m_Law_law.2.1 1303 = .ok (.iconst 1, 1) := by decide +kernel
theorem d_Law_law_1304 : decode m_Law_law.2.1 1304 = .ok (.iadd, 1) := by decide +kernel
theorem d_Law_law_1305 : decode m_Law_law.2.1 1305 = .ok (.iaload, 1) := by decide +kernel
theorem d_Law_law_1306 : decode m_Law_law.2.1 1306 = .ok (.aload_n 0, 1) := by decide +kernel
theorem d_Law_law_1307 : decode m_Law_law.2.1 1307 = .ok (.iload 4, 2) := by decide +kernel
theorem d_Law_law_1309 : decode m_Law_law.2.1 1309 = .ok (.iconst 2, 1) := by decide +kernel
theorem d_Law_law_1310 : decode m_Law_law.2.1 1310 = .ok (.iadd, 1) := by decide +kernel
theorem d_Law_law_1311 : decode m_Law_law.2.1 1311 = .ok (.iaload, 1) := by decide +kernel
theorem d_Law_law_1312 : decode m_Law_law.2.1 1312 = .ok (.invokevirtual 133, 3) := by decide +kernel
theorem d_Law_law_1315 : decode m_Law_law.2.1 1315 = .ok (.if_icmp .eq 147, 3) := by decide +kernel
theorem d_Law_law_1318 : decode m_Law_law.2.1 1318 = .ok (.iconst 0, 1) := by decide +kernel
theorem d_Law_law_1319 : decode m_Law_law.2.1 1319 = .ok (.ireturn, 1) := by decide +kernel
theorem d_Law_law_1320 : decode m_Law_law.2.1 1320 = .ok (.aload_n 1, 1) := by decide +kernel
theorem d_Law_law_1321 : decode m_Law_law.2.1 1321 = .ok (.aload_n 0, 1) := by decide +kernel
theorem d_Law_law_1322 : decode m_Law_law.2.1 1322 = .ok (.iload 4, 2) := by decide +kernel
theorem d_Law_law_1324 : decode m_Law_law.2.1 1324 = .ok (.iconst 1, 1) := by decide +kernel
theorem d_Law_law_1325 : decode m_Law_law.2.1 1325 = .ok (.iadd, 1) := by decide +kernel
theorem d_Law_law_1326 : decode m_Law_law.2.1 1326 = .ok (.iaload, 1) := by decide +kernel
theorem d_Law_law_1327 : decode m_Law_law.2.1 1327 = .ok (.aload_n 0, 1) := by decide +kernel
theorem d_Law_law_1328 : decode m_Law_law.2.1 1328 = .ok (.iload 4, 2) := by decide +kernel
