theorem dL_law_1216_c : decode cL_law 1216 = .ok (.iload 4, 2) ∧ decode cL_law 1218 = .ok (.iconst 3, 1) ∧ decode cL_law 1219 = .ok (.iadd, 1) ∧ decode cL_law 1220 = .ok (.iaload, 1) ∧ decode cL_law 1221 = .ok (.invokevirtual 192, 3) ∧ decode cL_law 1224 = .ok (.istore 6, 2) ∧ decode cL_law 1226 = .ok (.goto 447, 3) ∧ decode cL_law 1229 = .ok (.aload_n 1, 1) ∧ decode cL_law 1230 = .ok (.aload_n 0, 1) ∧ decode cL_law 1231 = .ok (.iload 4, 2) ∧ decode cL_law 1233 = .ok (.iconst 1, 1) ∧ decode cL_law 1234 = .ok (.iadd, 1) ∧ decode cL_law 1235 = .ok (.iaload, 1) ∧ decode cL_law 1236 = .ok (.aload_n 0, 1) ∧ decode cL_law 1237 = .ok (.iload 4, 2) ∧ decode cL_law 1239 = .ok (.iconst 2, 1) := by decide +kernel
theorem dL_law_1216 : decode cL_law 1216 = .ok (.iload 4, 2) := dL_law_1216_c.1
theorem dL_law_1218 : decode cL_law 1218 = .ok (.iconst 3, 1) := dL_law_1216_c.2.1
theorem dL_law_1219 : decode cL_law 1219 = .ok (.iadd, 1) := dL_law_1216_c.2.2.1
theorem dL_law_1220 : decode cL_law 1220 = .ok (.iaload, 1) := dL_law_1216_c.2.2.2.1
theorem dL_law_1221 : decode cL_law 1221 = .ok (.invokevirtual 192, 3) := dL_law_1216_c.2.2.2.2.1
theorem dL_law_1224 : decode cL_law 1224 = .ok (.istore 6, 2) := dL_law_1216_c.2.2.2.2.2.1
theorem dL_law_1226 : decode cL_law 1226 = .ok (.goto 447, 3) := dL_law_1216_c.2.2.2.2.2.2.1
theorem dL_law_1229 : decode cL_law 1229 = .ok (.aload_n 1, 1) := dL_law_1216_c.2.2.2.2.2.2.2.1
theorem dL_law_1230 : decode cL_law 1230 = .ok (.aload_n 0, 1) := dL_law_1216_c.2.2.2.2.2.2.2.2.1
theorem dL_law_1231 : decode cL_law 1231 = .ok (.iload 4, 2) := dL_law_1216_c.2.2.2.2.2.2.2.2.2.1
theorem dL_law_1233 : decode cL_law 1233 = .ok (.iconst 1, 1) := dL_law_1216_c.2.2.2.2.2.2.2.2.2.2.1
theorem dL_law_1234 : decode cL_law 1234 = .ok (.iadd, 1) := dL_law_1216_c.2.2.2.2.2.2.2.2.2.2.2.1
theorem dL_law_1235 : decode cL_law 1235 = .ok (.iaload, 1) := dL_law_1216_c.2.2.2.2.2.2.2.2.2.2.2.2.1
theorem dL_law_1236 : decode cL_law 1236 = .ok (.aload_n 0, 1) := dL_law_1216_c.2.2.2.2.2.2.2.2.2.2.2.2.2.1
theorem dL_law_1237 : decode cL_law 1237 = .ok (.iload 4, 2) := dL_law_1216_c.2.2.2.2.2.2.2.2.2.2.2.2.2.2.1
theorem dL_law_1239 : decode cL_law 1239 = .ok (.iconst 2, 1) := dL_law_1216_c.2.2.2.2.2.2.2.2.2.2.2.2.2.2.2
theorem dL_law_1240_c : decode cL_law 1240 = .ok (.iadd, 1) ∧ decode cL_law 1241 = .ok (.iaload, 1) ∧ decode cL_law 1242 = .ok (.aload_n 3, 1) ∧ decode cL_law 1243 = .ok (.invokestatic 193, 3) ∧ decode cL_law 1246 = .ok (.istore 5, 2) ∧ decode cL_law 1248 = .ok (.aload_n 2, 1) ∧ decode cL_law 1249 = .ok (.aload_n 0, 1) ∧ decode cL_law 1250 = .ok (.iload 4, 2) ∧ decode cL_law 1252 = .ok (.iconst 1, 1) ∧ decode cL_law 1253 = .ok (.iadd, 1) ∧ decode cL_law 1254 = .ok (.iaload, 1) ∧ decode cL_law 1255 = .ok (.aload_n 0, 1) ∧ decode cL_law 1256 = .ok (.iload 4, 2) ∧ decode cL_law 1258 = .ok (.iconst 2, 1) ∧ decode cL_law 1259 = .ok (.iadd, 1) ∧ decode cL_law 1260 = .ok (.iaload, 1) := by decide +kernel
theorem dL_law_1240 : decode cL_law 1240 = .ok (.iadd, 1) := dL_law_1240_c.1
theorem dL_law_1241 : decode cL_law 1241 = .ok (.iaload, 1) := dL_law_1240_c.2.1
theorem dL_law_1242 : decode cL_law 1242 = .ok (.aload_n 3, 1) := dL_law_1240_c.2.2.1
theorem dL_law_1243 : decode cL_law 1243 = .ok (.invokestatic 193, 3) := dL_law_1240_c.2.2.2.1
theorem dL_law_1246 : decode cL_law 1246 = .ok (.istore 5, 2) := dL_law_1240_c.2.2.2.2.1
theorem dL_law_1248 : decode cL_law 1248 = .ok (.aload_n 2, 1) := dL_law_1240_c.2.2.2.2.2.1
theorem dL_law_1249 : decode cL_law 1249 = .ok (.aload_n 0, 1) := dL_law_1240_c.2.2.2.2.2.2.1
theorem dL_law_1250 : decode cL_law 1250 = .ok (.iload 4, 2) := dL_law_1240_c.2.2.2.2.2.2.2.1
theorem dL_law_1252 : decode cL_law 1252 = .ok (.iconst 1, 1) := dL_law_1240_c.2.2.2.2.2.2.2.2.1
theorem dL_law_1253 : decode cL_law 1253 = .ok (.iadd, 1) := dL_law_1240_c.2.2.2.2.2.2.2.2.2.1
theorem dL_law_1254 : decode cL_law 1254 = .ok (.iaload, 1) := dL_law_1240_c.2.2.2.2.2.2.2.2.2.2.1
theorem dL_law_1255 : decode cL_law 1255 = .ok (.aload_n 0, 1) := dL_law_1240_c.2.2.2.2.2.2.2.2.2.2.2.1
theorem dL_law_1256 : decode cL_law 1256 = .ok (.iload 4, 2) := dL_law_1240_c.2.2.2.2.2.2.2.2.2.2.2.2.1
theorem dL_law_1258 : decode cL_law 1258 = .ok (.iconst 2, 1) := dL_law_1240_c.2.2.2.2.2.2.2.2.2.2.2.2.2.1
theorem dL_law_1259 : decode cL_law 1259 = .ok (.iadd, 1) := dL_law_1240_c.2.2.2.2.2.2.2.2.2.2.2.2.2.2.1
theorem dL_law_1260 : decode cL_law 1260 = .ok (.iaload, 1) := dL_law_1240_c.2.2.2.2.2.2.2.2.2.2.2.2.2.2.2
theorem dL_law_1261_c : decode cL_law 1261 = .ok (.invokevirtual 195, 3) ∧ decode cL_law 1264 = .ok (.istore 6, 2) ∧ decode cL_law 1266 = .ok (.goto 407, 3) ∧ decode cL_law 1269 = .ok (.aload_n 1, 1) ∧ decode cL_law 1270 = .ok (.aload_n 0, 1) ∧ decode cL_law 1271 = .ok (.iload 4, 2) ∧ decode cL_law 1273 = .ok (.iconst 1, 1) ∧ decode cL_law 1274 = .ok (.iadd, 1) ∧ decode cL_law 1275 = .ok (.iaload, 1) ∧ decode cL_law 1276 = .ok (.aload_n 0, 1) ∧ decode cL_law 1277 = .ok (.iload 4, 2) ∧ decode cL_law 1279 = .ok (.iconst 2, 1) ∧ decode cL_law 1280 = .ok (.iadd, 1) ∧ decode cL_law 1281 = .ok (.iaload, 1) ∧ decode cL_law 1282 = .ok (.aload_n 0, 1) ∧ decode cL_law 1283 = .ok (.iload 4, 2) := by decide +kernel
theorem dL_law_1261 : decode cL_law 1261 = .ok (.invokevirtual 195, 3) := dL_law_1261_c.1
theorem dL_law_1264 : decode cL_law 1264 = .ok (.istore 6, 2) := dL_law_1261_c.2.1
theorem dL_law_1266 : decode cL_law 1266 = .ok (.goto 407, 3) := dL_law_1261_c.2.2.1
theorem dL_law_1269 : decode cL_law 1269 = .ok (.aload_n 1, 1) := dL_law_1261_c.2.2.2.1
theorem dL_law_1270 : decode cL_law 1270 = .ok (.aload_n 0, 1) := dL_law_1261_c.2.2.2.2.1
theorem dL_law_1271 : decode cL_law 1271 = .ok (.iload 4, 2) := dL_law_1261_c.2.2.2.2.2.1
theorem dL_law_1273 : decode cL_law 1273 = .ok (.iconst 1, 1) := dL_law_1261_c.2.2.2.2.2.2.1
theorem dL_law_1274 : decode cL_law 1274 = .ok (.iadd, 1) := dL_law_1261_c.2.2.2.2.2.2.2.1
theorem dL_law_1275 : decode cL_law 1275 = .ok (.iaload, 1) := dL_law_1261_c.2.2.2.2.2.2.2.2.1
theorem dL_law_1276 : decode cL_law 1276 = .ok (.aload_n 0, 1) := dL_law_1261_c.2.2.2.2.2.2.2.2.2.1
theorem dL_law_1277 : decode cL_law 1277 = .ok (.iload 4, 2) := dL_law_1261_c.2.2.2.2.2.2.2.2.2.2.1
theorem dL_law_1279 : decode cL_law 1279 = .ok (.iconst 2, 1) := dL_law_1261_c.2.2.2.2.2.2.2.2.2.2.2.1
theorem dL_law_1280 : decode cL_law 1280 = .ok (.iadd, 1) := dL_law_1261_c.2.2.2.2.2.2.2.2.2.2.2.2.1
theorem dL_law_1281 : decode cL_law 1281 = .ok (.iaload, 1) := dL_law_1261_c.2.2.2.2.2.2.2.2.2.2.2.2.2.1
theorem dL_law_1282 : decode cL_law 1282 = .ok (.aload_n 0, 1) := dL_law_1261_c.2.2.2.2.2.2.2.2.2.2.2.2.2.2.1
theorem dL_law_1283 : decode cL_law 1283 = .ok (.iload 4, 2) := dL_law_1261_c.2.2.2.2.2.2.2.2.2.2.2.2.2.2.2
theorem dL_law_1285_c : decode cL_law 1285 = .ok (.iconst 3, 1) ∧ decode cL_law 1286 = .ok (.iadd, 1) ∧ decode cL_law 1287 = .ok (.iaload, 1) ∧ decode cL_law 1288 = .ok (.aload_n 0, 1) ∧ decode cL_law 1289 = .ok (.iload 4, 2) ∧ decode cL_law 1291 = .ok (.iconst 4, 1) ∧ decode cL_law 1292 = .ok (.iadd, 1) ∧ decode cL_law 1293 = .ok (.iaload, 1) ∧ decode cL_law 1294 = .ok (.aload_n 3, 1) ∧ decode cL_law 1295 = .ok (.invokestatic 196, 3) ∧ decode cL_law 1298 = .ok (.istore 5, 2) ∧ decode cL_law 1300 = .ok (.aload_n 2, 1) ∧ decode cL_law 1301 = .ok (.aload_n 0, 1) ∧ decode cL_law 1302 = .ok (.iload 4, 2) ∧ decode cL_law 1304 = .ok (.iconst 1, 1) ∧ decode cL_law 1305 = .ok (.iadd, 1) := by decide +kernel
theorem dL_law_1285 : decode cL_law 1285 = .ok (.iconst 3, 1) := dL_law_1285_c.1
theorem dL_law_1286 : decode cL_law 1286 = .ok (.iadd, 1) := dL_law_1285_c.2.1
theorem dL_law_1287 : decode cL_law 1287 = .ok (.iaload, 1) := dL_law_1285_c.2.2.1
theorem dL_law_1288 : decode cL_law 1288 = .ok (.aload_n 0, 1) := dL_law_1285_c.2.2.2.1
theorem dL_law_1289 : decode cL_law 1289 = .ok (.iload 4, 2) := dL_law_1285_c.2.2.2.2.1
theorem dL_law_1291 : decode cL_law 1291 = .ok (.iconst 4, 1) := dL_law_1285_c.2.2.2.2.2.1
theorem dL_law_1292 : decode cL_law 1292 = .ok (.iadd, 1) := dL_law_1285_c.2.2.2.2.2.2.1
theorem dL_law_1293 : decode cL_law 1293 = .ok (.iaload, 1) := dL_law_1285_c.2.2.2.2.2.2.2.1
theorem dL_law_1294 : decode cL_law 1294 = .ok (.aload_n 3, 1) := dL_law_1285_c.2.2.2.2.2.2.2.2.1
theorem dL_law_1295 : decode cL_law 1295 = .ok (.invokestatic 196, 3) := dL_law_1285_c.2.2.2.2.2.2.2.2.2.1
theorem dL_law_1298 : decode cL_law 1298 = .ok (.istore 5, 2) := dL_law_1285_c.2.2.2.2.2.2.2.2.2.2.1
theorem dL_law_1300 : decode cL_law 1300 = .ok (.aload_n 2, 1) := dL_law_1285_c.2.2.2.2.2.2.2.2.2.2.2.1
theorem dL_law_1301 : decode cL_law 1301 = .ok (.aload_n 0, 1) := dL_law_1285_c.2.2.2.2.2.2.2.2.2.2.2.2.1
theorem dL_law_1302 : decode cL_law 1302 = .ok (.iload 4, 2) := dL_law_1285_c.2.2.2.2.2.2.2.2.2.2.2.2.2.1
theorem dL_law_1304 : decode cL_law 1304 = .ok (.iconst 1, 1) := dL_law_1285_c.2.2.2.2.2.2.2.2.2.2.2.2.2.2.1
theorem dL_law_1305 : decode cL_law 1305 = .ok (.iadd, 1) := dL_law_1285_c.2.2.2.2.2.2.2.2.2.2.2.2.2.2.2
theorem dL_law_1306_c : decode cL_law 1306 = .ok (.iaload, 1) ∧ decode cL_law 1307 = .ok (.aload_n 0, 1) ∧ decode cL_law 1308 = .ok (.iload 4, 2) ∧ decode cL_law 1310 = .ok (.iconst 2, 1) ∧ decode cL_law 1311 = .ok (.iadd, 1) ∧ decode cL_law 1312 = .ok (.iaload, 1) ∧ decode cL_law 1313 = .ok (.aload_n 0, 1) ∧ decode cL_law 1314 = .ok (.iload 4, 2) ∧ decode cL_law 1316 = .ok (.iconst 3, 1) ∧ decode cL_law 1317 = .ok (.iadd, 1) ∧ decode cL_law 1318 = .ok (.iaload, 1) ∧ decode cL_law 1319 = .ok (.aload_n 0, 1) ∧ decode cL_law 1320 = .ok (.iload 4, 2) ∧ decode cL_law 1322 = .ok (.iconst 4, 1) ∧ decode cL_law 1323 = .ok (.iadd, 1) ∧ decode cL_law 1324 = .ok (.iaload, 1) := by decide +kernel
theorem dL_law_1306 : decode cL_law 1306 = .ok (.iaload, 1) := dL_law_1306_c.1
theorem dL_law_1307 : decode cL_law 1307 = .ok (.aload_n 0, 1) := dL_law_1306_c.2.1
theorem dL_law_1308 : decode cL_law 1308 = .ok (.iload 4, 2) := dL_law_1306_c.2.2.1
theorem dL_law_1310 : decode cL_law 1310 = .ok (.iconst 2, 1) := dL_law_1306_c.2.2.2.1
theorem dL_law_1311 : decode cL_law 1311 = .ok (.iadd, 1) := dL_law_1306_c.2.2.2.2.1
theorem dL_law_1312 : decode cL_law 1312 = .ok (.iaload, 1) := dL_law_1306_c.2.2.2.2.2.1
theorem dL_law_1313 : decode cL_law 1313 = .ok (.aload_n 0, 1) := dL_law_1306_c.2.2.2.2.2.2.1
theorem dL_law_1314 : decode cL_law 1314 = .ok (.iload 4, 2) := dL_law_1306_c.2.2.2.2.2.2.2.1
theorem dL_law_1316 : decode cL_law 1316 = .ok (.iconst 3, 1) := dL_law_1306_c.2.2.2.2.2.2.2.2.1
theorem dL_law_1317 : decode cL_law 1317 = .ok (.iadd, 1) := dL_law_1306_c.2.2.2.2.2.2.2.2.2.1
theorem dL_law_1318 : decode cL_law 1318 = .ok (.iaload, 1) := dL_law_1306_c.2.2.2.2.2.2.2.2.2.2.1
theorem dL_law_1319 : decode cL_law 1319 = .ok (.aload_n 0, 1) := dL_law_1306_c.2.2.2.2.2.2.2.2.2.2.2.1
theorem dL_law_1320 : decode cL_law 1320 = .ok (.iload 4, 2) := dL_law_1306_c.2.2.2.2.2.2.2.2.2.2.2.2.1
theorem dL_law_1322 : decode cL_law 1322 = .ok (.iconst 4, 1) := dL_law_1306_c.2.2.2.2.2.2.2.2.2.2.2.2.2.1
theorem dL_law_1323 : decode cL_law 1323 = .ok (.iadd, 1) := dL_law_1306_c.2.2.2.2.2.2.2.2.2.2.2.2.2.2.1
theorem dL_law_1324 : decode cL_law 1324 = .ok (.iaload, 1) := dL_law_1306_c.2.2.2.2.2.2.2.2.2.2.2.2.2.2.2
theorem dL_law_1325_c : decode cL_law 1325 = .ok (.invokevirtual 198, 3) ∧ decode cL_law 1328 = .ok (.istore 6, 2) ∧ decode cL_law 1330 = .ok (.goto 343, 3) ∧ decode cL_law 1333 = .ok (.aload_n 1, 1) ∧ decode cL_law 1334 = .ok (.aload_n 0, 1) ∧ decode cL_law 1335 = .ok (.iload 4, 2) ∧ decode cL_law 1337 = .ok (.iconst 1, 1) ∧ decode cL_law 1338 = .ok (.iadd, 1) ∧ decode cL_law 1339 = .ok (.iaload, 1) ∧ decode cL_law 1340 = .ok (.aload_n 3, 1) ∧ decode cL_law 1341 = .ok (.invokestatic 199, 3) ∧ decode cL_law 1344 = .ok (.istore 5, 2) ∧ decode cL_law 1346 = .ok (.aload_n 2, 1) ∧ decode cL_law 1347 = .ok (.aload_n 0, 1) ∧ decode cL_law 1348 = .ok (.iload 4, 2) ∧ decode cL_law 1350 = .ok (.iconst 1, 1) := by decide +kernel
theorem dL_law_1325 : decode cL_law 1325 = .ok (.invokevirtual 198, 3) := dL_law_1325_c.1
theorem dL_law_1328 : decode cL_law 1328 = .ok (.istore 6, 2) := dL_law_1325_c.2.1
theorem dL_law_1330 : decode cL_law 1330 = .ok (.goto 343, 3) := dL_law_1325_c.2.2.1
theorem dL_law_1333 : decode cL_law 1333 = .ok (.aload_n 1, 1) := dL_law_1325_c.2.2.2.1
theorem dL_law_1334 : decode cL_law 1334 = .ok (.aload_n 0, 1) := dL_law_1325_c.2.2.2.2.1
theorem dL_law_1335 : decode cL_law 1335 = .ok (.iload 4, 2) := dL_law_1325_c.2.2.2.2.2.1
theorem dL_law_1337 : decode cL_law 1337 = .ok (.iconst 1, 1) := dL_law_1325_c.2.2.2.2.2.2.1
theorem dL_law_1338 : decode cL_law 1338 = .ok (.iadd, 1) := dL_law_1325_c.2.2.2.2.2.2.2.1
theorem dL_law_1339 : decode cL_law 1339 = .ok (.iaload, 1) := dL_law_1325_c.2.2.2.2.2.2.2.2.1
theorem dL_law_1340 : decode cL_law 1340 = .ok (.aload_n 3, 1) := dL_law_1325_c.2.2.2.2.2.2.2.2.2.1
theorem dL_law_1341 : decode cL_law 1341 = .ok (.invokestatic 199, 3) := dL_law_1325_c.2.2.2.2.2.2.2.2.2.2.1
theorem dL_law_1344 : decode cL_law 1344 = .ok (.istore 5, 2) := dL_law_1325_c.2.2.2.2.2.2.2.2.2.2.2.1
theorem dL_law_1346 : decode cL_law 1346 = .ok (.aload_n 2, 1) := dL_law_1325_c.2.2.2.2.2.2.2.2.2.2.2.2.1
theorem dL_law_1347 : decode cL_law 1347 = .ok (.aload_n 0, 1) := dL_law_1325_c.2.2.2.2.2.2.2.2.2.2.2.2.2.1
theorem dL_law_1348 : decode cL_law 1348 = .ok (.iload 4, 2) := dL_law_1325_c.2.2.2.2.2.2.2.2.2.2.2.2.2.2.1
theorem dL_law_1350 : decode cL_law 1350 = .ok (.iconst 1, 1) := dL_law_1325_c.2.2.2.2.2.2.2.2.2.2.2.2.2.2.2
theorem dL_law_1351_c : decode cL_law 1351 = .ok (.iadd, 1) ∧ decode cL_law 1352 = .ok (.iaload, 1) ∧ decode cL_law 1353 = .ok (.invokevirtual 201, 3) ∧ decode cL_law 1356 = .ok (.istore 6, 2) ∧ decode cL_law 1358 = .ok (.goto 315, 3) ∧ decode cL_law 1361 = .ok (.aload_n 1, 1) ∧ decode cL_law 1362 = .ok (.aload_n 0, 1) ∧ decode cL_law 1363 = .ok (.iload 4, 2) ∧ decode cL_law 1365 = .ok (.iconst 1, 1) ∧ decode cL_law 1366 = .ok (.iadd, 1) ∧ decode cL_law 1367 = .ok (.iaload, 1) ∧ decode cL_law 1368 = .ok (.aload_n 3, 1) ∧ decode cL_law 1369 = .ok (.invokestatic 202, 3) ∧ decode cL_law 1372 = .ok (.istore 5, 2) ∧ decode cL_law 1374 = .ok (.aload_n 2, 1) ∧ decode cL_law 1375 = .ok (.aload_n 0, 1) := by decide +kernel
theorem dL_law_1351 : decode cL_law 1351 = .ok (.iadd, 1) := dL_law_1351_c.1
theorem dL_law_1352 : decode cL_law 1352 = .ok (.iaload, 1) := dL_law_1351_c.2.1
theorem dL_law_1353 : decode cL_law 1353 = .ok (.invokevirtual 201, 3) := dL_law_1351_c.2.2.1
theorem dL_law_1356 : decode cL_law 1356 = .ok (.istore 6, 2) := dL_law_1351_c.2.2.2.1
theorem dL_law_1358 : decode cL_law 1358 = .ok (.goto 315, 3) := dL_law_1351_c.2.2.2.2.1
theorem dL_law_1361 : decode cL_law 1361 = .ok (.aload_n 1, 1) := dL_law_1351_c.2.2.2.2.2.1
theorem dL_law_1362 : decode cL_law 1362 = .ok (.aload_n 0, 1) := dL_law_1351_c.2.2.2.2.2.2.1
theorem dL_law_1363 : decode cL_law 1363 = .ok (.iload 4, 2) := dL_law_1351_c.2.2.2.2.2.2.2.1
theorem dL_law_1365 : decode cL_law 1365 = .ok (.iconst 1, 1) := dL_law_1351_c.2.2.2.2.2.2.2.2.1
theorem dL_law_1366 : decode cL_law 1366 = .ok (.iadd, 1) := dL_law_1351_c.2.2.2.2.2.2.2.2.2.1
theorem dL_law_1367 : decode cL_law 1367 = .ok (.iaload, 1) := dL_law_1351_c.2.2.2.2.2.2.2.2.2.2.1
theorem dL_law_1368 : decode cL_law 1368 = .ok (.aload_n 3, 1) := dL_law_1351_c.2.2.2.2.2.2.2.2.2.2.2.1
theorem dL_law_1369 : decode cL_law 1369 = .ok (.invokestatic 202, 3) := dL_law_1351_c.2.2.2.2.2.2.2.2.2.2.2.2.1
theorem dL_law_1372 : decode cL_law 1372 = .ok (.istore 5, 2) := dL_law_1351_c.2.2.2.2.2.2.2.2.2.2.2.2.2.1
theorem dL_law_1374 : decode cL_law 1374 = .ok (.aload_n 2, 1) := dL_law_1351_c.2.2.2.2.2.2.2.2.2.2.2.2.2.2.1
theorem dL_law_1375 : decode cL_law 1375 = .ok (.aload_n 0, 1) := dL_law_1351_c.2.2.2.2.2.2.2.2.2.2.2.2.2.2.2
theorem dL_law_1376_c : decode cL_law 1376 = .ok (.iload 4, 2) ∧ decode cL_law 1378 = .ok (.iconst 1, 1) ∧ decode cL_law 1379 = .ok (.iadd, 1) ∧ decode cL_law 1380 = .ok (.iaload, 1) ∧ decode cL_law 1381 = .ok (.invokevirtual 204, 3) ∧ decode cL_law 1384 = .ok (.istore 6, 2) ∧ decode cL_law 1386 = .ok (.goto 287, 3) ∧ decode cL_law 1389 = .ok (.aload_n 1, 1) ∧ decode cL_law 1390 = .ok (.aload_n 0, 1) ∧ decode cL_law 1391 = .ok (.iload 4, 2) ∧ decode cL_law 1393 = .ok (.iconst 1, 1) ∧ decode cL_law 1394 = .ok (.iadd, 1) ∧ decode cL_law 1395 = .ok (.iaload, 1) ∧ decode cL_law 1396 = .ok (.aload_n 0, 1) ∧ decode cL_law 1397 = .ok (.iload 4, 2) ∧ decode cL_law 1399 = .ok (.iconst 2, 1) := by decide +kernel
theorem dL_law_1376 : decode cL_law 1376 = .ok (.iload 4, 2) := dL_law_1376_c.1
theorem dL_law_1378 : decode cL_law 1378 = .ok (.iconst 1, 1) := dL_law_1376_c.2.1
theorem dL_law_1379 : decode cL_law 1379 = .ok (.iadd, 1) := dL_law_1376_c.2.2.1
theorem dL_law_1380 : decode cL_law 1380 = .ok (.iaload, 1) := dL_law_1376_c.2.2.2.1
theorem dL_law_1381 : decode cL_law 1381 = .ok (.invokevirtual 204, 3) := dL_law_1376_c.2.2.2.2.1
theorem dL_law_1384 : decode cL_law 1384 = .ok (.istore 6, 2) := dL_law_1376_c.2.2.2.2.2.1
theorem dL_law_1386 : decode cL_law 1386 = .ok (.goto 287, 3) := dL_law_1376_c.2.2.2.2.2.2.1
theorem dL_law_1389 : decode cL_law 1389 = .ok (.aload_n 1, 1) := dL_law_1376_c.2.2.2.2.2.2.2.1
theorem dL_law_1390 : decode cL_law 1390 = .ok (.aload_n 0, 1) := dL_law_1376_c.2.2.2.2.2.2.2.2.1
theorem dL_law_1391 : decode cL_law 1391 = .ok (.iload 4, 2) := dL_law_1376_c.2.2.2.2.2.2.2.2.2.1
theorem dL_law_1393 : decode cL_law 1393 = .ok (.iconst 1, 1) := dL_law_1376_c.2.2.2.2.2.2.2.2.2.2.1
theorem dL_law_1394 : decode cL_law 1394 = .ok (.iadd, 1) := dL_law_1376_c.2.2.2.2.2.2.2.2.2.2.2.1
theorem dL_law_1395 : decode cL_law 1395 = .ok (.iaload, 1) := dL_law_1376_c.2.2.2.2.2.2.2.2.2.2.2.2.1
theorem dL_law_1396 : decode cL_law 1396 = .ok (.aload_n 0, 1) := dL_law_1376_c.2.2.2.2.2.2.2.2.2.2.2.2.2.1
theorem dL_law_1397 : decode cL_law 1397 = .ok (.iload 4, 2) := dL_law_1376_c.2.2.2.2.2.2.2.2.2.2.2.2.2.2.1
theorem dL_law_1399 : decode cL_law 1399 = .ok (.iconst 2, 1) := dL_law_1376_c.2.2.2.2.2.2.2.2.2.2.2.2.2.2.2
theorem dL_law_1400_c : decode cL_law 1400 = .ok (.iadd, 1) ∧ decode cL_law 1401 = .ok (.iaload, 1) ∧ decode cL_law 1402 = .ok (.aload_n 3, 1) ∧ decode cL_law 1403 = .ok (.invokestatic 205, 3) ∧ decode cL_law 1406 = .ok (.istore 5, 2) ∧ decode cL_law 1408 = .ok (.aload_n 2, 1) ∧ decode cL_law 1409 = .ok (.aload_n 0, 1) ∧ decode cL_law 1410 = .ok (.iload 4, 2) ∧ decode cL_law 1412 = .ok (.iconst 1, 1) ∧ decode cL_law 1413 = .ok (.iadd, 1) ∧ decode cL_law 1414 = .ok (.iaload, 1) ∧ decode cL_law 1415 = .ok (.aload_n 0, 1) ∧ decode cL_law 1416 = .ok (.iload 4, 2) ∧ decode cL_law 1418 = .ok (.iconst 2, 1) ∧ decode cL_law 1419 = .ok (.iadd, 1) ∧ decode cL_law 1420 = .ok (.iaload, 1) := by decide +kernel
theorem dL_law_1400 : decode cL_law 1400 = .ok (.iadd, 1) := dL_law_1400_c.1
theorem dL_law_1401 : decode cL_law 1401 = .ok (.iaload, 1) := dL_law_1400_c.2.1
theorem dL_law_1402 : decode cL_law 1402 = .ok (.aload_n 3, 1) := dL_law_1400_c.2.2.1
theorem dL_law_1403 : decode cL_law 1403 = .ok (.invokestatic 205, 3) := dL_law_1400_c.2.2.2.1
theorem dL_law_1406 : decode cL_law 1406 = .ok (.istore 5, 2) := dL_law_1400_c.2.2.2.2.1
theorem dL_law_1408 : decode cL_law 1408 = .ok (.aload_n 2, 1) := dL_law_1400_c.2.2.2.2.2.1
theorem dL_law_1409 : decode cL_law 1409 = .ok (.aload_n 0, 1) := dL_law_1400_c.2.2.2.2.2.2.1
theorem dL_law_1410 : decode cL_law 1410 = .ok (.iload 4, 2) := dL_law_1400_c.2.2.2.2.2.2.2.1
theorem dL_law_1412 : decode cL_law 1412 = .ok (.iconst 1, 1) := dL_law_1400_c.2.2.2.2.2.2.2.2.1
theorem dL_law_1413 : decode cL_law 1413 = .ok (.iadd, 1) := dL_law_1400_c.2.2.2.2.2.2.2.2.2.1
theorem dL_law_1414 : decode cL_law 1414 = .ok (.iaload, 1) := dL_law_1400_c.2.2.2.2.2.2.2.2.2.2.1
theorem dL_law_1415 : decode cL_law 1415 = .ok (.aload_n 0, 1) := dL_law_1400_c.2.2.2.2.2.2.2.2.2.2.2.1
theorem dL_law_1416 : decode cL_law 1416 = .ok (.iload 4, 2) := dL_law_1400_c.2.2.2.2.2.2.2.2.2.2.2.2.1
theorem dL_law_1418 : decode cL_law 1418 = .ok (.iconst 2, 1) := dL_law_1400_c.2.2.2.2.2.2.2.2.2.2.2.2.2.1
theorem dL_law_1419 : decode cL_law 1419 = .ok (.iadd, 1) := dL_law_1400_c.2.2.2.2.2.2.2.2.2.2.2.2.2.2.1
theorem dL_law_1420 : decode cL_law 1420 = .ok (.iaload, 1) := dL_law_1400_c.2.2.2.2.2.2.2.2.2.2.2.2.2.2.2
theorem dL_law_1421_c : decode cL_law 1421 = .ok (.invokevirtual 207, 3) ∧ decode cL_law 1424 = .ok (.istore 6, 2) ∧ decode cL_law 1426 = .ok (.goto 247, 3) ∧ decode cL_law 1429 = .ok (.aload_n 1, 1) ∧ decode cL_law 1430 = .ok (.aload_n 0, 1) ∧ decode cL_law 1431 = .ok (.iload 4, 2) := by decide +kernel
theorem dL_law_1421 : decode cL_law 1421 = .ok (.invokevirtual 207, 3) := dL_law_1421_c.1
theorem dL_law_1424 : decode cL_law 1424 = .ok (.istore 6, 2) := dL_law_1421_c.2.1
theorem dL_law_1426 : decode cL_law 1426 = .ok (.goto 247, 3) := dL_law_1421_c.2.2.1
theorem dL_law_1429 : decode cL_law 1429 = .ok (.aload_n 1, 1) := dL_law_1421_c.2.2.2.1
theorem dL_law_1430 : decode cL_law 1430 = .ok (.aload_n 0, 1) := dL_law_1421_c.2.2.2.2.1
theorem dL_law_1431 : decode cL_law 1431 = .ok (.iload 4, 2) := dL_law_1421_c.2.2.2.2.2
