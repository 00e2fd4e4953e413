/-! The law's decode rows, 8 of 10. -/
theorem d_Law_law_1184 : decode b_Law_law 1184 = .ok (.iload 6, 2) := by decide +kernel
theorem d_Law_law_1186 : decode b_Law_law 1186 = .ok (.i2l, 1) := by decide +kernel
theorem d_Law_law_1187 : decode b_Law_law 1187 = .ok (.lcmp, 1) := by decide +kernel
theorem d_Law_law_1188 : decode b_Law_law 1188 = .ok (.ifCond .eq 5, 3) := by decide +kernel
theorem d_Law_law_1193 : decode b_Law_law 1193 = .ok (.goto 455, 3) := by decide +kernel
theorem d_Law_law_1196 : decode b_Law_law 1196 = .ok (.aload_n 1, 1) := by decide +kernel
theorem d_Law_law_1197 : decode b_Law_law 1197 = .ok (.aload_n 0, 1) := by decide +kernel
theorem d_Law_law_1198 : decode b_Law_law 1198 = .ok (.iload 4, 2) := by decide +kernel
theorem d_Law_law_1200 : decode b_Law_law 1200 = .ok (.iconst 1, 1) := by decide +kernel
theorem d_Law_law_1201 : decode b_Law_law 1201 = .ok (.iadd, 1) := by decide +kernel
theorem d_Law_law_1202 : decode b_Law_law 1202 = .ok (.iaload, 1) := by decide +kernel
theorem d_Law_law_1203 : decode b_Law_law 1203 = .ok (.aload_n 3, 1) := by decide +kernel
theorem d_Law_law_1204 : decode b_Law_law 1204 = .ok (.invokestatic 146, 3) := by decide +kernel
theorem d_Law_law_1207 : decode b_Law_law 1207 = .ok (.istore 5, 2) := by decide +kernel
theorem d_Law_law_1209 : decode b_Law_law 1209 = .ok (.aload_n 2, 1) := by decide +kernel
theorem d_Law_law_1210 : decode b_Law_law 1210 = .ok (.aload_n 0, 1) := by decide +kernel
theorem d_Law_law_1211 : decode b_Law_law 1211 = .ok (.iload 4, 2) := by decide +kernel
theorem d_Law_law_1213 : decode b_Law_law 1213 = .ok (.iconst 1, 1) := by decide +kernel
theorem d_Law_law_1214 : decode b_Law_law 1214 = .ok (.iadd, 1) := by decide +kernel
theorem d_Law_law_1215 : decode b_Law_law 1215 = .ok (.iaload, 1) := by decide +kernel
theorem d_Law_law_1216 : decode b_Law_law 1216 = .ok (.invokevirtual 148, 3) := by decide +kernel
theorem d_Law_law_1219 : decode b_Law_law 1219 = .ok (.istore 6, 2) := by decide +kernel
theorem d_Law_law_1221 : decode b_Law_law 1221 = .ok (.aload_n 2, 1) := by decide +kernel
theorem d_Law_law_1222 : decode b_Law_law 1222 = .ok (.invokevirtual 97, 3) := by decide +kernel
theorem d_Law_law_1225 : decode b_Law_law 1225 = .ok (.iload 5, 2) := by decide +kernel
theorem d_Law_law_1227 : decode b_Law_law 1227 = .ok (.if_icmp .eq 5, 3) := by decide +kernel
theorem d_Law_law_1232 : decode b_Law_law 1232 = .ok (.iload 5, 2) := by decide +kernel
theorem d_Law_law_1234 : decode b_Law_law 1234 = .ok (.ifCond .ne 15, 3) := by decide +kernel
theorem d_Law_law_1237 : decode b_Law_law 1237 = .ok (.aload_n 3, 1) := by decide +kernel
theorem d_Law_law_1238 : decode b_Law_law 1238 = .ok (.iconst 0, 1) := by decide +kernel
theorem d_Law_law_1239 : decode b_Law_law 1239 = .ok (.laload, 1) := by decide +kernel
theorem d_Law_law_1240 : decode b_Law_law 1240 = .ok (.iload 6, 2) := by decide +kernel
theorem d_Law_law_1242 : decode b_Law_law 1242 = .ok (.i2l, 1) := by decide +kernel
theorem d_Law_law_1243 : decode b_Law_law 1243 = .ok (.lcmp, 1) := by decide +kernel
theorem d_Law_law_1244 : decode b_Law_law 1244 = .ok (.ifCond .eq 5, 3) := by decide +kernel
theorem d_Law_law_1249 : decode b_Law_law 1249 = .ok (.goto 399, 3) := by decide +kernel
theorem d_Law_law_1252 : decode b_Law_law 1252 = .ok (.aload_n 1, 1) := by decide +kernel
theorem d_Law_law_1253 : decode b_Law_law 1253 = .ok (.aload_n 0, 1) := by decide +kernel
theorem d_Law_law_1254 : decode b_Law_law 1254 = .ok (.iload 4, 2) := by decide +kernel
theorem d_Law_law_1256 : decode b_Law_law 1256 = .ok (.iconst 1, 1) := by decide +kernel
theorem d_Law_law_1257 : decode b_Law_law 1257 = .ok (.iadd, 1) := by decide +kernel
theorem d_Law_law_1258 : decode b_Law_law 1258 = .ok (.iaload, 1) := by decide +kernel
theorem d_Law_law_1259 : decode b_Law_law 1259 = .ok (.aload_n 0, 1) := by decide +kernel
theorem d_Law_law_1260 : decode b_Law_law 1260 = .ok (.iload 4, 2) := by decide +kernel
theorem d_Law_law_1262 : decode b_Law_law 1262 = .ok (.iconst 2, 1) := by decide +kernel
theorem d_Law_law_1263 : decode b_Law_law 1263 = .ok (.iadd, 1) := by decide +kernel
theorem d_Law_law_1264 : decode b_Law_law 1264 = .ok (.iaload, 1) := by decide +kernel
theorem d_Law_law_1265 : decode b_Law_law 1265 = .ok (.aload_n 3, 1) := by decide +kernel
theorem d_Law_law_1266 : decode b_Law_law 1266 = .ok (.invokestatic 149, 3) := by decide +kernel
theorem d_Law_law_1269 : decode b_Law_law 1269 = .ok (.istore 5, 2) := by decide +kernel
theorem d_Law_law_1271 : decode b_Law_law 1271 = .ok (.aload_n 2, 1) := by decide +kernel
theorem d_Law_law_1272 : decode b_Law_law 1272 = .ok (.aload_n 0, 1) := by decide +kernel
theorem d_Law_law_1273 : decode b_Law_law 1273 = .ok (.iload 4, 2) := by decide +kernel
theorem d_Law_law_1275 : decode b_Law_law 1275 = .ok (.iconst 1, 1) := by decide +kernel
theorem d_Law_law_1276 : decode b_Law_law 1276 = .ok (.iadd, 1) := by decide +kernel
theorem d_Law_law_1277 : decode b_Law_law 1277 = .ok (.iaload, 1) := by decide +kernel
theorem d_Law_law_1278 : decode b_Law_law 1278 = .ok (.aload_n 0, 1) := by decide +kernel
theorem d_Law_law_1279 : decode b_Law_law 1279 = .ok (.iload 4, 2) := by decide +kernel
theorem d_Law_law_1281 : decode b_Law_law 1281 = .ok (.iconst 2, 1) := by decide +kernel
theorem d_Law_law_1282 : decode b_Law_law 1282 = .ok (.iadd, 1) := by decide +kernel
theorem d_Law_law_1283 : decode b_Law_law 1283 = .ok (.iaload, 1) := by decide +kernel
theorem d_Law_law_1284 : decode b_Law_law 1284 = .ok (.invokevirtual 151, 3) := by decide +kernel
theorem d_Law_law_1287 : decode b_Law_law 1287 = .ok (.istore 6, 2) := by decide +kernel
theorem d_Law_law_1289 : decode b_Law_law 1289 = .ok (.aload_n 2, 1) := by decide +kernel
theorem d_Law_law_1290 : decode b_Law_law 1290 = .ok (.invokevirtual 97, 3) := by decide +kernel
theorem d_Law_law_1293 : decode b_Law_law 1293 = .ok (.iload 5, 2) := by decide +kernel
theorem d_Law_law_1295 : decode b_Law_law 1295 = .ok (.if_icmp .eq 5, 3) := by decide +kernel
theorem d_Law_law_1300 : decode b_Law_law 1300 = .ok (.iload 5, 2) := by decide +kernel
theorem d_Law_law_1302 : decode b_Law_law 1302 = .ok (.ifCond .ne 15, 3) := by decide +kernel
theorem d_Law_law_1305 : decode b_Law_law 1305 = .ok (.aload_n 3, 1) := by decide +kernel
theorem d_Law_law_1306 : decode b_Law_law 1306 = .ok (.iconst 0, 1) := by decide +kernel
theorem d_Law_law_1307 : decode b_Law_law 1307 = .ok (.laload, 1) := by decide +kernel
theorem d_Law_law_1308 : decode b_Law_law 1308 = .ok (.iload 6, 2) := by decide +kernel
theorem d_Law_law_1310 : decode b_Law_law 1310 = .ok (.i2l, 1) := by decide +kernel
theorem d_Law_law_1311 : decode b_Law_law 1311 = .ok (.lcmp, 1) := by decide +kernel
theorem d_Law_law_1312 : decode b_Law_law 1312 = .ok (.ifCond .eq 5, 3) := by decide +kernel
theorem d_Law_law_1317 : decode b_Law_law 1317 = .ok (.goto 331, 3) := by decide +kernel
theorem d_Law_law_1320 : decode b_Law_law 1320 = .ok (.aload_n 1, 1) := by decide +kernel
theorem d_Law_law_1321 : decode b_Law_law 1321 = .ok (.aload_n 0, 1) := by decide +kernel
theorem d_Law_law_1322 : decode b_Law_law 1322 = .ok (.iload 4, 2) := by decide +kernel
theorem d_Law_law_1324 : decode b_Law_law 1324 = .ok (.iconst 1, 1) := by decide +kernel
theorem d_Law_law_1325 : decode b_Law_law 1325 = .ok (.iadd, 1) := by decide +kernel
theorem d_Law_law_1326 : decode b_Law_law 1326 = .ok (.iaload, 1) := by decide +kernel
theorem d_Law_law_1327 : decode b_Law_law 1327 = .ok (.aload_n 0, 1) := by decide +kernel
theorem d_Law_law_1328 : decode b_Law_law 1328 = .ok (.iload 4, 2) := by decide +kernel
theorem d_Law_law_1330 : decode b_Law_law 1330 = .ok (.iconst 2, 1) := by decide +kernel
theorem d_Law_law_1331 : decode b_Law_law 1331 = .ok (.iadd, 1) := by decide +kernel
theorem d_Law_law_1332 : decode b_Law_law 1332 = .ok (.iaload, 1) := by decide +kernel
theorem d_Law_law_1333 : decode b_Law_law 1333 = .ok (.aload_n 3, 1) := by decide +kernel
theorem d_Law_law_1334 : decode b_Law_law 1334 = .ok (.invokestatic 152, 3) := by decide +kernel
theorem d_Law_law_1337 : decode b_Law_law 1337 = .ok (.istore 5, 2) := by decide +kernel
theorem d_Law_law_1339 : decode b_Law_law 1339 = .ok (.aload_n 2, 1) := by decide +kernel
theorem d_Law_law_1340 : decode b_Law_law 1340 = .ok (.aload_n 0, 1) := by decide +kernel
theorem d_Law_law_1341 : decode b_Law_law 1341 = .ok (.iload 4, 2) := by decide +kernel
theorem d_Law_law_1343 : decode b_Law_law 1343 = .ok (.iconst 1, 1) := by decide +kernel
