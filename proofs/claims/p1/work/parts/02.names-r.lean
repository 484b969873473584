set_option maxRecDepth 20000 in
theorem dLb_75 : decode cL_law 1272 = .ok (.aload_n 0, 1) ∧ decode cL_law 1273 = .ok (.iload 5, 2) ∧ decode cL_law 1275 = .ok (.iconst 1, 1) ∧ decode cL_law 1276 = .ok (.iadd, 1) ∧ decode cL_law 1277 = .ok (.iaload, 1) ∧ decode cL_law 1278 = .ok (.aload_n 0, 1) ∧ decode cL_law 1279 = .ok (.iload 5, 2) ∧ decode cL_law 1281 = .ok (.iconst 2, 1) := by decide +kernel
theorem dL_law_1272 : decode cL_law 1272 = .ok (.aload_n 0, 1) := dLb_75.1
theorem dL_law_1273 : decode cL_law 1273 = .ok (.iload 5, 2) := dLb_75.2.1
theorem dL_law_1275 : decode cL_law 1275 = .ok (.iconst 1, 1) := dLb_75.2.2.1
theorem dL_law_1276 : decode cL_law 1276 = .ok (.iadd, 1) := dLb_75.2.2.2.1
theorem dL_law_1277 : decode cL_law 1277 = .ok (.iaload, 1) := dLb_75.2.2.2.2.1
theorem dL_law_1278 : decode cL_law 1278 = .ok (.aload_n 0, 1) := dLb_75.2.2.2.2.2.1
theorem dL_law_1279 : decode cL_law 1279 = .ok (.iload 5, 2) := dLb_75.2.2.2.2.2.2.1
theorem dL_law_1281 : decode cL_law 1281 = .ok (.iconst 2, 1) := dLb_75.2.2.2.2.2.2.2
set_option maxRecDepth 20000 in
theorem dLb_76 : decode cL_law 1282 = .ok (.iadd, 1) ∧ decode cL_law 1283 = .ok (.iaload, 1) ∧ decode cL_law 1284 = .ok (.aload_n 3, 1) ∧ decode cL_law 1285 = .ok (.invokestatic 195, 3) ∧ decode cL_law 1288 = .ok (.istore 6, 2) ∧ decode cL_law 1290 = .ok (.aload_n 2, 1) ∧ decode cL_law 1291 = .ok (.aload_n 0, 1) ∧ decode cL_law 1292 = .ok (.iload 5, 2) := by decide +kernel
theorem dL_law_1282 : decode cL_law 1282 = .ok (.iadd, 1) := dLb_76.1
theorem dL_law_1283 : decode cL_law 1283 = .ok (.iaload, 1) := dLb_76.2.1
theorem dL_law_1284 : decode cL_law 1284 = .ok (.aload_n 3, 1) := dLb_76.2.2.1
theorem dL_law_1285 : decode cL_law 1285 = .ok (.invokestatic 195, 3) := dLb_76.2.2.2.1
theorem dL_law_1288 : decode cL_law 1288 = .ok (.istore 6, 2) := dLb_76.2.2.2.2.1
theorem dL_law_1290 : decode cL_law 1290 = .ok (.aload_n 2, 1) := dLb_76.2.2.2.2.2.1
theorem dL_law_1291 : decode cL_law 1291 = .ok (.aload_n 0, 1) := dLb_76.2.2.2.2.2.2.1
theorem dL_law_1292 : decode cL_law 1292 = .ok (.iload 5, 2) := dLb_76.2.2.2.2.2.2.2
set_option maxRecDepth 20000 in
theorem dLb_77 : decode cL_law 1294 = .ok (.iconst 1, 1) ∧ decode cL_law 1295 = .ok (.iadd, 1) ∧ decode cL_law 1296 = .ok (.iaload, 1) ∧ decode cL_law 1297 = .ok (.aload_n 0, 1) ∧ decode cL_law 1298 = .ok (.iload 5, 2) ∧ decode cL_law 1300 = .ok (.iconst 2, 1) ∧ decode cL_law 1301 = .ok (.iadd, 1) ∧ decode cL_law 1302 = .ok (.iaload, 1) := by decide +kernel
theorem dL_law_1294 : decode cL_law 1294 = .ok (.iconst 1, 1) := dLb_77.1
theorem dL_law_1295 : decode cL_law 1295 = .ok (.iadd, 1) := dLb_77.2.1
theorem dL_law_1296 : decode cL_law 1296 = .ok (.iaload, 1) := dLb_77.2.2.1
theorem dL_law_1297 : decode cL_law 1297 = .ok (.aload_n 0, 1) := dLb_77.2.2.2.1
theorem dL_law_1298 : decode cL_law 1298 = .ok (.iload 5, 2) := dLb_77.2.2.2.2.1
theorem dL_law_1300 : decode cL_law 1300 = .ok (.iconst 2, 1) := dLb_77.2.2.2.2.2.1
theorem dL_law_1301 : decode cL_law 1301 = .ok (.iadd, 1) := dLb_77.2.2.2.2.2.2.1
theorem dL_law_1302 : decode cL_law 1302 = .ok (.iaload, 1) := dLb_77.2.2.2.2.2.2.2
set_option maxRecDepth 20000 in
theorem dLb_78 : decode cL_law 1303 = .ok (.invokevirtual 197, 3) ∧ decode cL_law 1306 = .ok (.istore 7, 2) ∧ decode cL_law 1308 = .ok (.aload_n 2, 1) ∧ decode cL_law 1309 = .ok (.invokevirtual 144, 3) ∧ decode cL_law 1312 = .ok (.iload 6, 2) ∧ decode cL_law 1314 = .ok (.if_icmp .eq 5, 3) ∧ decode cL_law 1319 = .ok (.iload 6, 2) ∧ decode cL_law 1321 = .ok (.ifCond .ne 22, 3) := by decide +kernel
theorem dL_law_1303 : decode cL_law 1303 = .ok (.invokevirtual 197, 3) := dLb_78.1
theorem dL_law_1306 : decode cL_law 1306 = .ok (.istore 7, 2) := dLb_78.2.1
theorem dL_law_1308 : decode cL_law 1308 = .ok (.aload_n 2, 1) := dLb_78.2.2.1
theorem dL_law_1309 : decode cL_law 1309 = .ok (.invokevirtual 144, 3) := dLb_78.2.2.2.1
theorem dL_law_1312 : decode cL_law 1312 = .ok (.iload 6, 2) := dLb_78.2.2.2.2.1
theorem dL_law_1314 : decode cL_law 1314 = .ok (.if_icmp .eq 5, 3) := dLb_78.2.2.2.2.2.1
theorem dL_law_1319 : decode cL_law 1319 = .ok (.iload 6, 2) := dLb_78.2.2.2.2.2.2.1
theorem dL_law_1321 : decode cL_law 1321 = .ok (.ifCond .ne 22, 3) := dLb_78.2.2.2.2.2.2.2
set_option maxRecDepth 20000 in
theorem dLb_79 : decode cL_law 1343 = .ok (.goto 1047, 3) ∧ decode cL_law 1346 = .ok (.aload_n 1, 1) ∧ decode cL_law 1347 = .ok (.aload_n 0, 1) ∧ decode cL_law 1348 = .ok (.iload 5, 2) ∧ decode cL_law 1350 = .ok (.iconst 1, 1) ∧ decode cL_law 1351 = .ok (.iadd, 1) ∧ decode cL_law 1352 = .ok (.iaload, 1) ∧ decode cL_law 1353 = .ok (.aload_n 0, 1) := by decide +kernel
theorem dL_law_1343 : decode cL_law 1343 = .ok (.goto 1047, 3) := dLb_79.1
theorem dL_law_1346 : decode cL_law 1346 = .ok (.aload_n 1, 1) := dLb_79.2.1
theorem dL_law_1347 : decode cL_law 1347 = .ok (.aload_n 0, 1) := dLb_79.2.2.1
theorem dL_law_1348 : decode cL_law 1348 = .ok (.iload 5, 2) := dLb_79.2.2.2.1
theorem dL_law_1350 : decode cL_law 1350 = .ok (.iconst 1, 1) := dLb_79.2.2.2.2.1
theorem dL_law_1351 : decode cL_law 1351 = .ok (.iadd, 1) := dLb_79.2.2.2.2.2.1
theorem dL_law_1352 : decode cL_law 1352 = .ok (.iaload, 1) := dLb_79.2.2.2.2.2.2.1
theorem dL_law_1353 : decode cL_law 1353 = .ok (.aload_n 0, 1) := dLb_79.2.2.2.2.2.2.2
set_option maxRecDepth 20000 in
theorem dLb_80 : decode cL_law 1354 = .ok (.iload 5, 2) ∧ decode cL_law 1356 = .ok (.iconst 2, 1) ∧ decode cL_law 1357 = .ok (.iadd, 1) ∧ decode cL_law 1358 = .ok (.iaload, 1) ∧ decode cL_law 1359 = .ok (.aload_n 3, 1) ∧ decode cL_law 1360 = .ok (.invokestatic 198, 3) ∧ decode cL_law 1363 = .ok (.istore 6, 2) ∧ decode cL_law 1365 = .ok (.aload_n 2, 1) := by decide +kernel
theorem dL_law_1354 : decode cL_law 1354 = .ok (.iload 5, 2) := dLb_80.1
theorem dL_law_1356 : decode cL_law 1356 = .ok (.iconst 2, 1) := dLb_80.2.1
theorem dL_law_1357 : decode cL_law 1357 = .ok (.iadd, 1) := dLb_80.2.2.1
theorem dL_law_1358 : decode cL_law 1358 = .ok (.iaload, 1) := dLb_80.2.2.2.1
theorem dL_law_1359 : decode cL_law 1359 = .ok (.aload_n 3, 1) := dLb_80.2.2.2.2.1
theorem dL_law_1360 : decode cL_law 1360 = .ok (.invokestatic 198, 3) := dLb_80.2.2.2.2.2.1
theorem dL_law_1363 : decode cL_law 1363 = .ok (.istore 6, 2) := dLb_80.2.2.2.2.2.2.1
theorem dL_law_1365 : decode cL_law 1365 = .ok (.aload_n 2, 1) := dLb_80.2.2.2.2.2.2.2
set_option maxRecDepth 20000 in
theorem dLb_81 : decode cL_law 1366 = .ok (.aload_n 0, 1) ∧ decode cL_law 1367 = .ok (.iload 5, 2) ∧ decode cL_law 1369 = .ok (.iconst 1, 1) ∧ decode cL_law 1370 = .ok (.iadd, 1) ∧ decode cL_law 1371 = .ok (.iaload, 1) ∧ decode cL_law 1372 = .ok (.aload_n 0, 1) ∧ decode cL_law 1373 = .ok (.iload 5, 2) ∧ decode cL_law 1375 = .ok (.iconst 2, 1) := by decide +kernel
theorem dL_law_1366 : decode cL_law 1366 = .ok (.aload_n 0, 1) := dLb_81.1
theorem dL_law_1367 : decode cL_law 1367 = .ok (.iload 5, 2) := dLb_81.2.1
theorem dL_law_1369 : decode cL_law 1369 = .ok (.iconst 1, 1) := dLb_81.2.2.1
theorem dL_law_1370 : decode cL_law 1370 = .ok (.iadd, 1) := dLb_81.2.2.2.1
theorem dL_law_1371 : decode cL_law 1371 = .ok (.iaload, 1) := dLb_81.2.2.2.2.1
theorem dL_law_1372 : decode cL_law 1372 = .ok (.aload_n 0, 1) := dLb_81.2.2.2.2.2.1
theorem dL_law_1373 : decode cL_law 1373 = .ok (.iload 5, 2) := dLb_81.2.2.2.2.2.2.1
theorem dL_law_1375 : decode cL_law 1375 = .ok (.iconst 2, 1) := dLb_81.2.2.2.2.2.2.2
set_option maxRecDepth 20000 in
theorem dLb_82 : decode cL_law 1376 = .ok (.iadd, 1) ∧ decode cL_law 1377 = .ok (.iaload, 1) ∧ decode cL_law 1378 = .ok (.invokevirtual 200, 3) ∧ decode cL_law 1381 = .ok (.istore 7, 2) ∧ decode cL_law 1383 = .ok (.aload_n 2, 1) ∧ decode cL_law 1384 = .ok (.invokevirtual 144, 3) ∧ decode cL_law 1387 = .ok (.iload 6, 2) ∧ decode cL_law 1389 = .ok (.if_icmp .eq 5, 3) := by decide +kernel
theorem dL_law_1376 : decode cL_law 1376 = .ok (.iadd, 1) := dLb_82.1
theorem dL_law_1377 : decode cL_law 1377 = .ok (.iaload, 1) := dLb_82.2.1
theorem dL_law_1378 : decode cL_law 1378 = .ok (.invokevirtual 200, 3) := dLb_82.2.2.1
theorem dL_law_1381 : decode cL_law 1381 = .ok (.istore 7, 2) := dLb_82.2.2.2.1
theorem dL_law_1383 : decode cL_law 1383 = .ok (.aload_n 2, 1) := dLb_82.2.2.2.2.1
theorem dL_law_1384 : decode cL_law 1384 = .ok (.invokevirtual 144, 3) := dLb_82.2.2.2.2.2.1
theorem dL_law_1387 : decode cL_law 1387 = .ok (.iload 6, 2) := dLb_82.2.2.2.2.2.2.1
theorem dL_law_1389 : decode cL_law 1389 = .ok (.if_icmp .eq 5, 3) := dLb_82.2.2.2.2.2.2.2
set_option maxRecDepth 20000 in
theorem dLb_83 : decode cL_law 1394 = .ok (.iload 6, 2) ∧ decode cL_law 1396 = .ok (.ifCond .ne 15, 3) ∧ decode cL_law 1411 = .ok (.goto 979, 3) ∧ decode cL_law 1414 = .ok (.aload_n 1, 1) ∧ decode cL_law 1415 = .ok (.aload_n 0, 1) ∧ decode cL_law 1416 = .ok (.iload 5, 2) ∧ decode cL_law 1418 = .ok (.iconst 1, 1) ∧ decode cL_law 1419 = .ok (.iadd, 1) := by decide +kernel
theorem dL_law_1394 : decode cL_law 1394 = .ok (.iload 6, 2) := dLb_83.1
theorem dL_law_1396 : decode cL_law 1396 = .ok (.ifCond .ne 15, 3) := dLb_83.2.1
theorem dL_law_1411 : decode cL_law 1411 = .ok (.goto 979, 3) := dLb_83.2.2.1
theorem dL_law_1414 : decode cL_law 1414 = .ok (.aload_n 1, 1) := dLb_83.2.2.2.1
theorem dL_law_1415 : decode cL_law 1415 = .ok (.aload_n 0, 1) := dLb_83.2.2.2.2.1
theorem dL_law_1416 : decode cL_law 1416 = .ok (.iload 5, 2) := dLb_83.2.2.2.2.2.1
theorem dL_law_1418 : decode cL_law 1418 = .ok (.iconst 1, 1) := dLb_83.2.2.2.2.2.2.1
theorem dL_law_1419 : decode cL_law 1419 = .ok (.iadd, 1) := dLb_83.2.2.2.2.2.2.2
set_option maxRecDepth 20000 in
theorem dLb_84 : decode cL_law 1420 = .ok (.iaload, 1) ∧ decode cL_law 1421 = .ok (.aload_n 0, 1) ∧ decode cL_law 1422 = .ok (.iload 5, 2) ∧ decode cL_law 1424 = .ok (.iconst 2, 1) ∧ decode cL_law 1425 = .ok (.iadd, 1) ∧ decode cL_law 1426 = .ok (.iaload, 1) ∧ decode cL_law 1427 = .ok (.aload_n 3, 1) ∧ decode cL_law 1428 = .ok (.invokestatic 201, 3) := by decide +kernel
theorem dL_law_1420 : decode cL_law 1420 = .ok (.iaload, 1) := dLb_84.1
theorem dL_law_1421 : decode cL_law 1421 = .ok (.aload_n 0, 1) := dLb_84.2.1
theorem dL_law_1422 : decode cL_law 1422 = .ok (.iload 5, 2) := dLb_84.2.2.1
theorem dL_law_1424 : decode cL_law 1424 = .ok (.iconst 2, 1) := dLb_84.2.2.2.1
theorem dL_law_1425 : decode cL_law 1425 = .ok (.iadd, 1) := dLb_84.2.2.2.2.1
theorem dL_law_1426 : decode cL_law 1426 = .ok (.iaload, 1) := dLb_84.2.2.2.2.2.1
theorem dL_law_1427 : decode cL_law 1427 = .ok (.aload_n 3, 1) := dLb_84.2.2.2.2.2.2.1
theorem dL_law_1428 : decode cL_law 1428 = .ok (.invokestatic 201, 3) := dLb_84.2.2.2.2.2.2.2
set_option maxRecDepth 20000 in
theorem dLb_85 : decode cL_law 1431 = .ok (.istore 6, 2) ∧ decode cL_law 1433 = .ok (.aload_n 2, 1) ∧ decode cL_law 1434 = .ok (.aload_n 0, 1) ∧ decode cL_law 1435 = .ok (.iload 5, 2) ∧ decode cL_law 1437 = .ok (.iconst 1, 1) ∧ decode cL_law 1438 = .ok (.iadd, 1) ∧ decode cL_law 1439 = .ok (.iaload, 1) ∧ decode cL_law 1440 = .ok (.aload_n 0, 1) := by decide +kernel
theorem dL_law_1431 : decode cL_law 1431 = .ok (.istore 6, 2) := dLb_85.1
theorem dL_law_1433 : decode cL_law 1433 = .ok (.aload_n 2, 1) := dLb_85.2.1
theorem dL_law_1434 : decode cL_law 1434 = .ok (.aload_n 0, 1) := dLb_85.2.2.1
theorem dL_law_1435 : decode cL_law 1435 = .ok (.iload 5, 2) := dLb_85.2.2.2.1
theorem dL_law_1437 : decode cL_law 1437 = .ok (.iconst 1, 1) := dLb_85.2.2.2.2.1
theorem dL_law_1438 : decode cL_law 1438 = .ok (.iadd, 1) := dLb_85.2.2.2.2.2.1
theorem dL_law_1439 : decode cL_law 1439 = .ok (.iaload, 1) := dLb_85.2.2.2.2.2.2.1
theorem dL_law_1440 : decode cL_law 1440 = .ok (.aload_n 0, 1) := dLb_85.2.2.2.2.2.2.2
set_option maxRecDepth 20000 in
theorem dLb_86 : decode cL_law 1441 = .ok (.iload 5, 2) ∧ decode cL_law 1443 = .ok (.iconst 2, 1) ∧ decode cL_law 1444 = .ok (.iadd, 1) ∧ decode cL_law 1445 = .ok (.iaload, 1) ∧ decode cL_law 1446 = .ok (.invokevirtual 203, 3) ∧ decode cL_law 1449 = .ok (.istore 7, 2) ∧ decode cL_law 1451 = .ok (.aload_n 2, 1) ∧ decode cL_law 1452 = .ok (.invokevirtual 144, 3) := by decide +kernel
theorem dL_law_1441 : decode cL_law 1441 = .ok (.iload 5, 2) := dLb_86.1
theorem dL_law_1443 : decode cL_law 1443 = .ok (.iconst 2, 1) := dLb_86.2.1
theorem dL_law_1444 : decode cL_law 1444 = .ok (.iadd, 1) := dLb_86.2.2.1
theorem dL_law_1445 : decode cL_law 1445 = .ok (.iaload, 1) := dLb_86.2.2.2.1
theorem dL_law_1446 : decode cL_law 1446 = .ok (.invokevirtual 203, 3) := dLb_86.2.2.2.2.1
theorem dL_law_1449 : decode cL_law 1449 = .ok (.istore 7, 2) := dLb_86.2.2.2.2.2.1
theorem dL_law_1451 : decode cL_law 1451 = .ok (.aload_n 2, 1) := dLb_86.2.2.2.2.2.2.1
theorem dL_law_1452 : decode cL_law 1452 = .ok (.invokevirtual 144, 3) := dLb_86.2.2.2.2.2.2.2
set_option maxRecDepth 20000 in
theorem dLb_87 : decode cL_law 1455 = .ok (.iload 6, 2) ∧ decode cL_law 1457 = .ok (.if_icmp .eq 5, 3) ∧ decode cL_law 1462 = .ok (.iload 6, 2) ∧ decode cL_law 1464 = .ok (.ifCond .ne 15, 3) ∧ decode cL_law 1479 = .ok (.goto 911, 3) ∧ decode cL_law 1482 = .ok (.aload_n 1, 1) ∧ decode cL_law 1483 = .ok (.aload_n 0, 1) ∧ decode cL_law 1484 = .ok (.iload 5, 2) := by decide +kernel
theorem dL_law_1455 : decode cL_law 1455 = .ok (.iload 6, 2) := dLb_87.1
theorem dL_law_1457 : decode cL_law 1457 = .ok (.if_icmp .eq 5, 3) := dLb_87.2.1
theorem dL_law_1462 : decode cL_law 1462 = .ok (.iload 6, 2) := dLb_87.2.2.1
theorem dL_law_1464 : decode cL_law 1464 = .ok (.ifCond .ne 15, 3) := dLb_87.2.2.2.1
theorem dL_law_1479 : decode cL_law 1479 = .ok (.goto 911, 3) := dLb_87.2.2.2.2.1
theorem dL_law_1482 : decode cL_law 1482 = .ok (.aload_n 1, 1) := dLb_87.2.2.2.2.2.1
theorem dL_law_1483 : decode cL_law 1483 = .ok (.aload_n 0, 1) := dLb_87.2.2.2.2.2.2.1
theorem dL_law_1484 : decode cL_law 1484 = .ok (.iload 5, 2) := dLb_87.2.2.2.2.2.2.2
set_option maxRecDepth 20000 in
theorem dLb_88 : decode cL_law 1486 = .ok (.iconst 1, 1) ∧ decode cL_law 1487 = .ok (.iadd, 1) ∧ decode cL_law 1488 = .ok (.iaload, 1) ∧ decode cL_law 1489 = .ok (.aload_n 0, 1) ∧ decode cL_law 1490 = .ok (.iload 5, 2) ∧ decode cL_law 1492 = .ok (.iconst 2, 1) ∧ decode cL_law 1493 = .ok (.iadd, 1) ∧ decode cL_law 1494 = .ok (.iaload, 1) := by decide +kernel
theorem dL_law_1486 : decode cL_law 1486 = .ok (.iconst 1, 1) := dLb_88.1
theorem dL_law_1487 : decode cL_law 1487 = .ok (.iadd, 1) := dLb_88.2.1
theorem dL_law_1488 : decode cL_law 1488 = .ok (.iaload, 1) := dLb_88.2.2.1
theorem dL_law_1489 : decode cL_law 1489 = .ok (.aload_n 0, 1) := dLb_88.2.2.2.1
theorem dL_law_1490 : decode cL_law 1490 = .ok (.iload 5, 2) := dLb_88.2.2.2.2.1
theorem dL_law_1492 : decode cL_law 1492 = .ok (.iconst 2, 1) := dLb_88.2.2.2.2.2.1
theorem dL_law_1493 : decode cL_law 1493 = .ok (.iadd, 1) := dLb_88.2.2.2.2.2.2.1
theorem dL_law_1494 : decode cL_law 1494 = .ok (.iaload, 1) := dLb_88.2.2.2.2.2.2.2
set_option maxRecDepth 20000 in
theorem dLb_89 : decode cL_law 1495 = .ok (.aload_n 0, 1) ∧ decode cL_law 1496 = .ok (.iload 5, 2) ∧ decode cL_law 1498 = .ok (.iconst 3, 1) ∧ decode cL_law 1499 = .ok (.iadd, 1) ∧ decode cL_law 1500 = .ok (.iaload, 1) ∧ decode cL_law 1501 = .ok (.aload_n 3, 1) ∧ decode cL_law 1502 = .ok (.invokestatic 204, 3) ∧ decode cL_law 1505 = .ok (.istore 6, 2) := by decide +kernel
theorem dL_law_1495 : decode cL_law 1495 = .ok (.aload_n 0, 1) := dLb_89.1
theorem dL_law_1496 : decode cL_law 1496 = .ok (.iload 5, 2) := dLb_89.2.1
theorem dL_law_1498 : decode cL_law 1498 = .ok (.iconst 3, 1) := dLb_89.2.2.1
theorem dL_law_1499 : decode cL_law 1499 = .ok (.iadd, 1) := dLb_89.2.2.2.1
theorem dL_law_1500 : decode cL_law 1500 = .ok (.iaload, 1) := dLb_89.2.2.2.2.1
theorem dL_law_1501 : decode cL_law 1501 = .ok (.aload_n 3, 1) := dLb_89.2.2.2.2.2.1
theorem dL_law_1502 : decode cL_law 1502 = .ok (.invokestatic 204, 3) := dLb_89.2.2.2.2.2.2.1
theorem dL_law_1505 : decode cL_law 1505 = .ok (.istore 6, 2) := dLb_89.2.2.2.2.2.2.2
set_option maxRecDepth 20000 in
theorem dLb_90 : decode cL_law 1507 = .ok (.aload_n 2, 1) ∧ decode cL_law 1508 = .ok (.aload_n 0, 1) ∧ decode cL_law 1509 = .ok (.iload 5, 2) ∧ decode cL_law 1511 = .ok (.iconst 1, 1) ∧ decode cL_law 1512 = .ok (.iadd, 1) ∧ decode cL_law 1513 = .ok (.iaload, 1) ∧ decode cL_law 1514 = .ok (.aload_n 0, 1) ∧ decode cL_law 1515 = .ok (.iload 5, 2) := by decide +kernel
theorem dL_law_1507 : decode cL_law 1507 = .ok (.aload_n 2, 1) := dLb_90.1
theorem dL_law_1508 : decode cL_law 1508 = .ok (.aload_n 0, 1) := dLb_90.2.1
theorem dL_law_1509 : decode cL_law 1509 = .ok (.iload 5, 2) := dLb_90.2.2.1
theorem dL_law_1511 : decode cL_law 1511 = .ok (.iconst 1, 1) := dLb_90.2.2.2.1
theorem dL_law_1512 : decode cL_law 1512 = .ok (.iadd, 1) := dLb_90.2.2.2.2.1
theorem dL_law_1513 : decode cL_law 1513 = .ok (.iaload, 1) := dLb_90.2.2.2.2.2.1
theorem dL_law_1514 : decode cL_law 1514 = .ok (.aload_n 0, 1) := dLb_90.2.2.2.2.2.2.1
theorem dL_law_1515 : decode cL_law 1515 = .ok (.iload 5, 2) := dLb_90.2.2.2.2.2.2.2
set_option maxRecDepth 20000 in
theorem dLb_91 : decode cL_law 1517 = .ok (.iconst 2, 1) ∧ decode cL_law 1518 = .ok (.iadd, 1) ∧ decode cL_law 1519 = .ok (.iaload, 1) ∧ decode cL_law 1520 = .ok (.aload_n 0, 1) ∧ decode cL_law 1521 = .ok (.iload 5, 2) ∧ decode cL_law 1523 = .ok (.iconst 3, 1) ∧ decode cL_law 1524 = .ok (.iadd, 1) ∧ decode cL_law 1525 = .ok (.iaload, 1) := by decide +kernel
theorem dL_law_1517 : decode cL_law 1517 = .ok (.iconst 2, 1) := dLb_91.1
theorem dL_law_1518 : decode cL_law 1518 = .ok (.iadd, 1) := dLb_91.2.1
theorem dL_law_1519 : decode cL_law 1519 = .ok (.iaload, 1) := dLb_91.2.2.1
theorem dL_law_1520 : decode cL_law 1520 = .ok (.aload_n 0, 1) := dLb_91.2.2.2.1
theorem dL_law_1521 : decode cL_law 1521 = .ok (.iload 5, 2) := dLb_91.2.2.2.2.1
theorem dL_law_1523 : decode cL_law 1523 = .ok (.iconst 3, 1) := dLb_91.2.2.2.2.2.1
theorem dL_law_1524 : decode cL_law 1524 = .ok (.iadd, 1) := dLb_91.2.2.2.2.2.2.1
theorem dL_law_1525 : decode cL_law 1525 = .ok (.iaload, 1) := dLb_91.2.2.2.2.2.2.2
set_option maxRecDepth 20000 in
theorem dLb_92 : decode cL_law 1526 = .ok (.invokevirtual 206, 3) ∧ decode cL_law 1529 = .ok (.istore 7, 2) ∧ decode cL_law 1531 = .ok (.aload_n 2, 1) ∧ decode cL_law 1532 = .ok (.invokevirtual 144, 3) ∧ decode cL_law 1535 = .ok (.iload 6, 2) ∧ decode cL_law 1537 = .ok (.if_icmp .eq 5, 3) ∧ decode cL_law 1542 = .ok (.iload 6, 2) ∧ decode cL_law 1544 = .ok (.ifCond .ne 15, 3) := by decide +kernel
theorem dL_law_1526 : decode cL_law 1526 = .ok (.invokevirtual 206, 3) := dLb_92.1
theorem dL_law_1529 : decode cL_law 1529 = .ok (.istore 7, 2) := dLb_92.2.1
theorem dL_law_1531 : decode cL_law 1531 = .ok (.aload_n 2, 1) := dLb_92.2.2.1
theorem dL_law_1532 : decode cL_law 1532 = .ok (.invokevirtual 144, 3) := dLb_92.2.2.2.1
theorem dL_law_1535 : decode cL_law 1535 = .ok (.iload 6, 2) := dLb_92.2.2.2.2.1
theorem dL_law_1537 : decode cL_law 1537 = .ok (.if_icmp .eq 5, 3) := dLb_92.2.2.2.2.2.1
theorem dL_law_1542 : decode cL_law 1542 = .ok (.iload 6, 2) := dLb_92.2.2.2.2.2.2.1
theorem dL_law_1544 : decode cL_law 1544 = .ok (.ifCond .ne 15, 3) := dLb_92.2.2.2.2.2.2.2
set_option maxRecDepth 20000 in
theorem dLb_93 : decode cL_law 1559 = .ok (.goto 831, 3) ∧ decode cL_law 1562 = .ok (.aload_n 1, 1) ∧ decode cL_law 1563 = .ok (.aload_n 0, 1) ∧ decode cL_law 1564 = .ok (.iload 5, 2) ∧ decode cL_law 1566 = .ok (.iconst 1, 1) ∧ decode cL_law 1567 = .ok (.iadd, 1) ∧ decode cL_law 1568 = .ok (.iaload, 1) ∧ decode cL_law 1569 = .ok (.aload_n 0, 1) := by decide +kernel
theorem dL_law_1559 : decode cL_law 1559 = .ok (.goto 831, 3) := dLb_93.1
theorem dL_law_1562 : decode cL_law 1562 = .ok (.aload_n 1, 1) := dLb_93.2.1
theorem dL_law_1563 : decode cL_law 1563 = .ok (.aload_n 0, 1) := dLb_93.2.2.1
theorem dL_law_1564 : decode cL_law 1564 = .ok (.iload 5, 2) := dLb_93.2.2.2.1
theorem dL_law_1566 : decode cL_law 1566 = .ok (.iconst 1, 1) := dLb_93.2.2.2.2.1
theorem dL_law_1567 : decode cL_law 1567 = .ok (.iadd, 1) := dLb_93.2.2.2.2.2.1
theorem dL_law_1568 : decode cL_law 1568 = .ok (.iaload, 1) := dLb_93.2.2.2.2.2.2.1
theorem dL_law_1569 : decode cL_law 1569 = .ok (.aload_n 0, 1) := dLb_93.2.2.2.2.2.2.2
set_option maxRecDepth 20000 in
theorem dLb_94 : decode cL_law 1570 = .ok (.iload 5, 2) ∧ decode cL_law 1572 = .ok (.iconst 2, 1) ∧ decode cL_law 1573 = .ok (.iadd, 1) ∧ decode cL_law 1574 = .ok (.iaload, 1) ∧ decode cL_law 1575 = .ok (.aload_n 0, 1) ∧ decode cL_law 1576 = .ok (.iload 5, 2) ∧ decode cL_law 1578 = .ok (.iconst 3, 1) ∧ decode cL_law 1579 = .ok (.iadd, 1) := by decide +kernel
theorem dL_law_1570 : decode cL_law 1570 = .ok (.iload 5, 2) := dLb_94.1
theorem dL_law_1572 : decode cL_law 1572 = .ok (.iconst 2, 1) := dLb_94.2.1
theorem dL_law_1573 : decode cL_law 1573 = .ok (.iadd, 1) := dLb_94.2.2.1
theorem dL_law_1574 : decode cL_law 1574 = .ok (.iaload, 1) := dLb_94.2.2.2.1
theorem dL_law_1575 : decode cL_law 1575 = .ok (.aload_n 0, 1) := dLb_94.2.2.2.2.1
theorem dL_law_1576 : decode cL_law 1576 = .ok (.iload 5, 2) := dLb_94.2.2.2.2.2.1
theorem dL_law_1578 : decode cL_law 1578 = .ok (.iconst 3, 1) := dLb_94.2.2.2.2.2.2.1
theorem dL_law_1579 : decode cL_law 1579 = .ok (.iadd, 1) := dLb_94.2.2.2.2.2.2.2
set_option maxRecDepth 20000 in
theorem dLb_95 : decode cL_law 1580 = .ok (.iaload, 1) ∧ decode cL_law 1581 = .ok (.aload_n 3, 1) ∧ decode cL_law 1582 = .ok (.invokestatic 207, 3) ∧ decode cL_law 1585 = .ok (.istore 6, 2) ∧ decode cL_law 1587 = .ok (.aload_n 2, 1) ∧ decode cL_law 1588 = .ok (.aload_n 0, 1) ∧ decode cL_law 1589 = .ok (.iload 5, 2) ∧ decode cL_law 1591 = .ok (.iconst 1, 1) := by decide +kernel
theorem dL_law_1580 : decode cL_law 1580 = .ok (.iaload, 1) := dLb_95.1
theorem dL_law_1581 : decode cL_law 1581 = .ok (.aload_n 3, 1) := dLb_95.2.1
theorem dL_law_1582 : decode cL_law 1582 = .ok (.invokestatic 207, 3) := dLb_95.2.2.1
theorem dL_law_1585 : decode cL_law 1585 = .ok (.istore 6, 2) := dLb_95.2.2.2.1
theorem dL_law_1587 : decode cL_law 1587 = .ok (.aload_n 2, 1) := dLb_95.2.2.2.2.1
theorem dL_law_1588 : decode cL_law 1588 = .ok (.aload_n 0, 1) := dLb_95.2.2.2.2.2.1
theorem dL_law_1589 : decode cL_law 1589 = .ok (.iload 5, 2) := dLb_95.2.2.2.2.2.2.1
theorem dL_law_1591 : decode cL_law 1591 = .ok (.iconst 1, 1) := dLb_95.2.2.2.2.2.2.2
set_option maxRecDepth 20000 in
theorem dLb_96 : decode cL_law 1592 = .ok (.iadd, 1) ∧ decode cL_law 1593 = .ok (.iaload, 1) ∧ decode cL_law 1594 = .ok (.aload_n 0, 1) ∧ decode cL_law 1595 = .ok (.iload 5, 2) ∧ decode cL_law 1597 = .ok (.iconst 2, 1) ∧ decode cL_law 1598 = .ok (.iadd, 1) ∧ decode cL_law 1599 = .ok (.iaload, 1) ∧ decode cL_law 1600 = .ok (.aload_n 0, 1) := by decide +kernel
theorem dL_law_1592 : decode cL_law 1592 = .ok (.iadd, 1) := dLb_96.1
theorem dL_law_1593 : decode cL_law 1593 = .ok (.iaload, 1) := dLb_96.2.1
theorem dL_law_1594 : decode cL_law 1594 = .ok (.aload_n 0, 1) := dLb_96.2.2.1
theorem dL_law_1595 : decode cL_law 1595 = .ok (.iload 5, 2) := dLb_96.2.2.2.1
theorem dL_law_1597 : decode cL_law 1597 = .ok (.iconst 2, 1) := dLb_96.2.2.2.2.1
theorem dL_law_1598 : decode cL_law 1598 = .ok (.iadd, 1) := dLb_96.2.2.2.2.2.1
theorem dL_law_1599 : decode cL_law 1599 = .ok (.iaload, 1) := dLb_96.2.2.2.2.2.2.1
theorem dL_law_1600 : decode cL_law 1600 = .ok (.aload_n 0, 1) := dLb_96.2.2.2.2.2.2.2
set_option maxRecDepth 20000 in
theorem dLb_97 : decode cL_law 1601 = .ok (.iload 5, 2) ∧ decode cL_law 1603 = .ok (.iconst 3, 1) ∧ decode cL_law 1604 = .ok (.iadd, 1) ∧ decode cL_law 1605 = .ok (.iaload, 1) ∧ decode cL_law 1606 = .ok (.invokevirtual 209, 3) ∧ decode cL_law 1609 = .ok (.istore 7, 2) ∧ decode cL_law 1611 = .ok (.aload_n 2, 1) ∧ decode cL_law 1612 = .ok (.invokevirtual 144, 3) := by decide +kernel
theorem dL_law_1601 : decode cL_law 1601 = .ok (.iload 5, 2) := dLb_97.1
theorem dL_law_1603 : decode cL_law 1603 = .ok (.iconst 3, 1) := dLb_97.2.1
theorem dL_law_1604 : decode cL_law 1604 = .ok (.iadd, 1) := dLb_97.2.2.1
theorem dL_law_1605 : decode cL_law 1605 = .ok (.iaload, 1) := dLb_97.2.2.2.1
theorem dL_law_1606 : decode cL_law 1606 = .ok (.invokevirtual 209, 3) := dLb_97.2.2.2.2.1
theorem dL_law_1609 : decode cL_law 1609 = .ok (.istore 7, 2) := dLb_97.2.2.2.2.2.1
theorem dL_law_1611 : decode cL_law 1611 = .ok (.aload_n 2, 1) := dLb_97.2.2.2.2.2.2.1
theorem dL_law_1612 : decode cL_law 1612 = .ok (.invokevirtual 144, 3) := dLb_97.2.2.2.2.2.2.2
set_option maxRecDepth 20000 in
theorem dLb_98 : decode cL_law 1615 = .ok (.iload 6, 2) ∧ decode cL_law 1617 = .ok (.if_icmp .eq 5, 3) ∧ decode cL_law 1622 = .ok (.iload 6, 2) ∧ decode cL_law 1624 = .ok (.ifCond .ne 15, 3) ∧ decode cL_law 1639 = .ok (.goto 751, 3) ∧ decode cL_law 1642 = .ok (.aload_n 1, 1) ∧ decode cL_law 1643 = .ok (.aload_n 0, 1) ∧ decode cL_law 1644 = .ok (.iload 5, 2) := by decide +kernel
theorem dL_law_1615 : decode cL_law 1615 = .ok (.iload 6, 2) := dLb_98.1
theorem dL_law_1617 : decode cL_law 1617 = .ok (.if_icmp .eq 5, 3) := dLb_98.2.1
theorem dL_law_1622 : decode cL_law 1622 = .ok (.iload 6, 2) := dLb_98.2.2.1
theorem dL_law_1624 : decode cL_law 1624 = .ok (.ifCond .ne 15, 3) := dLb_98.2.2.2.1
theorem dL_law_1639 : decode cL_law 1639 = .ok (.goto 751, 3) := dLb_98.2.2.2.2.1
theorem dL_law_1642 : decode cL_law 1642 = .ok (.aload_n 1, 1) := dLb_98.2.2.2.2.2.1
theorem dL_law_1643 : decode cL_law 1643 = .ok (.aload_n 0, 1) := dLb_98.2.2.2.2.2.2.1
theorem dL_law_1644 : decode cL_law 1644 = .ok (.iload 5, 2) := dLb_98.2.2.2.2.2.2.2
set_option maxRecDepth 20000 in
theorem dLb_99 : decode cL_law 1646 = .ok (.iconst 1, 1) ∧ decode cL_law 1647 = .ok (.iadd, 1) ∧ decode cL_law 1648 = .ok (.iaload, 1) ∧ decode cL_law 1649 = .ok (.aload_n 0, 1) ∧ decode cL_law 1650 = .ok (.iload 5, 2) ∧ decode cL_law 1652 = .ok (.iconst 2, 1) ∧ decode cL_law 1653 = .ok (.iadd, 1) ∧ decode cL_law 1654 = .ok (.iaload, 1) := by decide +kernel
theorem dL_law_1646 : decode cL_law 1646 = .ok (.iconst 1, 1) := dLb_99.1
theorem dL_law_1647 : decode cL_law 1647 = .ok (.iadd, 1) := dLb_99.2.1
theorem dL_law_1648 : decode cL_law 1648 = .ok (.iaload, 1) := dLb_99.2.2.1
theorem dL_law_1649 : decode cL_law 1649 = .ok (.aload_n 0, 1) := dLb_99.2.2.2.1
theorem dL_law_1650 : decode cL_law 1650 = .ok (.iload 5, 2) := dLb_99.2.2.2.2.1
theorem dL_law_1652 : decode cL_law 1652 = .ok (.iconst 2, 1) := dLb_99.2.2.2.2.2.1
theorem dL_law_1653 : decode cL_law 1653 = .ok (.iadd, 1) := dLb_99.2.2.2.2.2.2.1
theorem dL_law_1654 : decode cL_law 1654 = .ok (.iaload, 1) := dLb_99.2.2.2.2.2.2.2
