/-! decode rows of the law -/
theorem dL_law_1282 : decode mL.2.1 1282 = .ok (.iaload, 1) := by decide +kernel
theorem dL_law_1283 : decode mL.2.1 1283 = .ok (.aload_n 0, 1) := by decide +kernel
theorem dL_law_1284 : decode mL.2.1 1284 = .ok (.iload_n 3, 1) := by decide +kernel
theorem dL_law_1285 : decode mL.2.1 1285 = .ok (.iconst 2, 1) := by decide +kernel
theorem dL_law_1286 : decode mL.2.1 1286 = .ok (.iadd, 1) := by decide +kernel
theorem dL_law_1287 : decode mL.2.1 1287 = .ok (.iaload, 1) := by decide +kernel
theorem dL_law_1288 : decode mL.2.1 1288 = .ok (.aload_n 0, 1) := by decide +kernel
theorem dL_law_1289 : decode mL.2.1 1289 = .ok (.iload_n 3, 1) := by decide +kernel
theorem dL_law_1290 : decode mL.2.1 1290 = .ok (.iconst 3, 1) := by decide +kernel
theorem dL_law_1291 : decode mL.2.1 1291 = .ok (.iadd, 1) := by decide +kernel
theorem dL_law_1292 : decode mL.2.1 1292 = .ok (.iaload, 1) := by decide +kernel
theorem dL_law_1293 : decode mL.2.1 1293 = .ok (.invokevirtual 177, 3) := by decide +kernel
theorem dL_law_1296 : decode mL.2.1 1296 = .ok (.if_icmp .eq 199, 3) := by decide +kernel
theorem dL_law_1301 : decode mL.2.1 1301 = .ok (.aload_n 1, 1) := by decide +kernel
theorem dL_law_1302 : decode mL.2.1 1302 = .ok (.aload_n 0, 1) := by decide +kernel
theorem dL_law_1303 : decode mL.2.1 1303 = .ok (.iload_n 3, 1) := by decide +kernel
theorem dL_law_1304 : decode mL.2.1 1304 = .ok (.iconst 1, 1) := by decide +kernel
theorem dL_law_1305 : decode mL.2.1 1305 = .ok (.iadd, 1) := by decide +kernel
theorem dL_law_1306 : decode mL.2.1 1306 = .ok (.iaload, 1) := by decide +kernel
theorem dL_law_1307 : decode mL.2.1 1307 = .ok (.aload_n 0, 1) := by decide +kernel
theorem dL_law_1308 : decode mL.2.1 1308 = .ok (.iload_n 3, 1) := by decide +kernel
theorem dL_law_1309 : decode mL.2.1 1309 = .ok (.iconst 2, 1) := by decide +kernel
theorem dL_law_1310 : decode mL.2.1 1310 = .ok (.iadd, 1) := by decide +kernel
theorem dL_law_1311 : decode mL.2.1 1311 = .ok (.iaload, 1) := by decide +kernel
theorem dL_law_1312 : decode mL.2.1 1312 = .ok (.aload_n 0, 1) := by decide +kernel
theorem dL_law_1313 : decode mL.2.1 1313 = .ok (.iload_n 3, 1) := by decide +kernel
theorem dL_law_1314 : decode mL.2.1 1314 = .ok (.iconst 3, 1) := by decide +kernel
theorem dL_law_1315 : decode mL.2.1 1315 = .ok (.iadd, 1) := by decide +kernel
theorem dL_law_1316 : decode mL.2.1 1316 = .ok (.iaload, 1) := by decide +kernel
theorem dL_law_1317 : decode mL.2.1 1317 = .ok (.aload_n 0, 1) := by decide +kernel
theorem dL_law_1318 : decode mL.2.1 1318 = .ok (.iload_n 3, 1) := by decide +kernel
theorem dL_law_1319 : decode mL.2.1 1319 = .ok (.iconst 4, 1) := by decide +kernel
theorem dL_law_1320 : decode mL.2.1 1320 = .ok (.iadd, 1) := by decide +kernel
theorem dL_law_1321 : decode mL.2.1 1321 = .ok (.iaload, 1) := by decide +kernel
theorem dL_law_1322 : decode mL.2.1 1322 = .ok (.aload_n 0, 1) := by decide +kernel
theorem dL_law_1323 : decode mL.2.1 1323 = .ok (.iload_n 3, 1) := by decide +kernel
theorem dL_law_1324 : decode mL.2.1 1324 = .ok (.iconst 5, 1) := by decide +kernel
theorem dL_law_1325 : decode mL.2.1 1325 = .ok (.iadd, 1) := by decide +kernel
theorem dL_law_1326 : decode mL.2.1 1326 = .ok (.iaload, 1) := by decide +kernel
theorem dL_law_1327 : decode mL.2.1 1327 = .ok (.invokevirtual 178, 3) := by decide +kernel
theorem dL_law_1330 : decode mL.2.1 1330 = .ok (.aload_n 2, 1) := by decide +kernel
theorem dL_law_1331 : decode mL.2.1 1331 = .ok (.aload_n 0, 1) := by decide +kernel
theorem dL_law_1332 : decode mL.2.1 1332 = .ok (.iload_n 3, 1) := by decide +kernel
theorem dL_law_1333 : decode mL.2.1 1333 = .ok (.iconst 1, 1) := by decide +kernel
theorem dL_law_1334 : decode mL.2.1 1334 = .ok (.iadd, 1) := by decide +kernel
theorem dL_law_1335 : decode mL.2.1 1335 = .ok (.iaload, 1) := by decide +kernel
theorem dL_law_1336 : decode mL.2.1 1336 = .ok (.aload_n 0, 1) := by decide +kernel
theorem dL_law_1337 : decode mL.2.1 1337 = .ok (.iload_n 3, 1) := by decide +kernel
theorem dL_law_1338 : decode mL.2.1 1338 = .ok (.iconst 2, 1) := by decide +kernel
theorem dL_law_1339 : decode mL.2.1 1339 = .ok (.iadd, 1) := by decide +kernel
theorem dL_law_1340 : decode mL.2.1 1340 = .ok (.iaload, 1) := by decide +kernel
theorem dL_law_1341 : decode mL.2.1 1341 = .ok (.aload_n 0, 1) := by decide +kernel
theorem dL_law_1342 : decode mL.2.1 1342 = .ok (.iload_n 3, 1) := by decide +kernel
theorem dL_law_1343 : decode mL.2.1 1343 = .ok (.iconst 3, 1) := by decide +kernel
theorem dL_law_1344 : decode mL.2.1 1344 = .ok (.iadd, 1) := by decide +kernel
theorem dL_law_1345 : decode mL.2.1 1345 = .ok (.iaload, 1) := by decide +kernel
theorem dL_law_1346 : decode mL.2.1 1346 = .ok (.aload_n 0, 1) := by decide +kernel
theorem dL_law_1347 : decode mL.2.1 1347 = .ok (.iload_n 3, 1) := by decide +kernel
theorem dL_law_1348 : decode mL.2.1 1348 = .ok (.iconst 4, 1) := by decide +kernel
theorem dL_law_1349 : decode mL.2.1 1349 = .ok (.iadd, 1) := by decide +kernel
theorem dL_law_1350 : decode mL.2.1 1350 = .ok (.iaload, 1) := by decide +kernel
theorem dL_law_1351 : decode mL.2.1 1351 = .ok (.aload_n 0, 1) := by decide +kernel
theorem dL_law_1352 : decode mL.2.1 1352 = .ok (.iload_n 3, 1) := by decide +kernel
theorem dL_law_1353 : decode mL.2.1 1353 = .ok (.iconst 5, 1) := by decide +kernel
theorem dL_law_1354 : decode mL.2.1 1354 = .ok (.iadd, 1) := by decide +kernel
theorem dL_law_1355 : decode mL.2.1 1355 = .ok (.iaload, 1) := by decide +kernel
theorem dL_law_1356 : decode mL.2.1 1356 = .ok (.invokevirtual 182, 3) := by decide +kernel
theorem dL_law_1359 : decode mL.2.1 1359 = .ok (.if_icmp .eq 136, 3) := by decide +kernel
theorem dL_law_1364 : decode mL.2.1 1364 = .ok (.aload_n 1, 1) := by decide +kernel
theorem dL_law_1365 : decode mL.2.1 1365 = .ok (.aload_n 0, 1) := by decide +kernel
theorem dL_law_1366 : decode mL.2.1 1366 = .ok (.iload_n 3, 1) := by decide +kernel
theorem dL_law_1367 : decode mL.2.1 1367 = .ok (.iconst 1, 1) := by decide +kernel
theorem dL_law_1368 : decode mL.2.1 1368 = .ok (.iadd, 1) := by decide +kernel
theorem dL_law_1369 : decode mL.2.1 1369 = .ok (.iaload, 1) := by decide +kernel
theorem dL_law_1370 : decode mL.2.1 1370 = .ok (.invokevirtual 183, 3) := by decide +kernel
