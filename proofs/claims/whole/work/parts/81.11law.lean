/-! decode rows of the law -/
theorem dL_law_1373 : decode mL.2.1 1373 = .ok (.aload_n 2, 1) := by decide +kernel
theorem dL_law_1374 : decode mL.2.1 1374 = .ok (.aload_n 0, 1) := by decide +kernel
theorem dL_law_1375 : decode mL.2.1 1375 = .ok (.iload_n 3, 1) := by decide +kernel
theorem dL_law_1376 : decode mL.2.1 1376 = .ok (.iconst 1, 1) := by decide +kernel
theorem dL_law_1377 : decode mL.2.1 1377 = .ok (.iadd, 1) := by decide +kernel
theorem dL_law_1378 : decode mL.2.1 1378 = .ok (.iaload, 1) := by decide +kernel
theorem dL_law_1379 : decode mL.2.1 1379 = .ok (.invokevirtual 186, 3) := by decide +kernel
theorem dL_law_1382 : decode mL.2.1 1382 = .ok (.if_icmp .eq 113, 3) := by decide +kernel
theorem dL_law_1387 : decode mL.2.1 1387 = .ok (.aload_n 1, 1) := by decide +kernel
theorem dL_law_1388 : decode mL.2.1 1388 = .ok (.aload_n 0, 1) := by decide +kernel
theorem dL_law_1389 : decode mL.2.1 1389 = .ok (.iload_n 3, 1) := by decide +kernel
theorem dL_law_1390 : decode mL.2.1 1390 = .ok (.iconst 1, 1) := by decide +kernel
theorem dL_law_1391 : decode mL.2.1 1391 = .ok (.iadd, 1) := by decide +kernel
theorem dL_law_1392 : decode mL.2.1 1392 = .ok (.iaload, 1) := by decide +kernel
theorem dL_law_1393 : decode mL.2.1 1393 = .ok (.invokevirtual 187, 3) := by decide +kernel
theorem dL_law_1396 : decode mL.2.1 1396 = .ok (.aload_n 2, 1) := by decide +kernel
theorem dL_law_1397 : decode mL.2.1 1397 = .ok (.aload_n 0, 1) := by decide +kernel
theorem dL_law_1398 : decode mL.2.1 1398 = .ok (.iload_n 3, 1) := by decide +kernel
theorem dL_law_1399 : decode mL.2.1 1399 = .ok (.iconst 1, 1) := by decide +kernel
theorem dL_law_1400 : decode mL.2.1 1400 = .ok (.iadd, 1) := by decide +kernel
theorem dL_law_1401 : decode mL.2.1 1401 = .ok (.iaload, 1) := by decide +kernel
theorem dL_law_1402 : decode mL.2.1 1402 = .ok (.invokevirtual 190, 3) := by decide +kernel
theorem dL_law_1405 : decode mL.2.1 1405 = .ok (.if_icmp .eq 90, 3) := by decide +kernel
theorem dL_law_1410 : decode mL.2.1 1410 = .ok (.aload_n 1, 1) := by decide +kernel
theorem dL_law_1411 : decode mL.2.1 1411 = .ok (.invokevirtual 191, 3) := by decide +kernel
theorem dL_law_1414 : decode mL.2.1 1414 = .ok (.aload_n 2, 1) := by decide +kernel
theorem dL_law_1415 : decode mL.2.1 1415 = .ok (.invokevirtual 194, 3) := by decide +kernel
theorem dL_law_1418 : decode mL.2.1 1418 = .ok (.if_icmp .eq 77, 3) := by decide +kernel
theorem dL_law_1423 : decode mL.2.1 1423 = .ok (.aload_n 1, 1) := by decide +kernel
theorem dL_law_1424 : decode mL.2.1 1424 = .ok (.invokevirtual 195, 3) := by decide +kernel
theorem dL_law_1427 : decode mL.2.1 1427 = .ok (.aload_n 2, 1) := by decide +kernel
theorem dL_law_1428 : decode mL.2.1 1428 = .ok (.invokevirtual 198, 3) := by decide +kernel
theorem dL_law_1431 : decode mL.2.1 1431 = .ok (.if_icmp .eq 64, 3) := by decide +kernel
theorem dL_law_1436 : decode mL.2.1 1436 = .ok (.aload_n 1, 1) := by decide +kernel
theorem dL_law_1437 : decode mL.2.1 1437 = .ok (.invokevirtual 199, 3) := by decide +kernel
theorem dL_law_1440 : decode mL.2.1 1440 = .ok (.aload_n 2, 1) := by decide +kernel
theorem dL_law_1441 : decode mL.2.1 1441 = .ok (.invokevirtual 202, 3) := by decide +kernel
theorem dL_law_1444 : decode mL.2.1 1444 = .ok (.if_icmp .eq 51, 3) := by decide +kernel
theorem dL_law_1449 : decode mL.2.1 1449 = .ok (.aload_n 1, 1) := by decide +kernel
theorem dL_law_1450 : decode mL.2.1 1450 = .ok (.aload_n 0, 1) := by decide +kernel
theorem dL_law_1451 : decode mL.2.1 1451 = .ok (.iload_n 3, 1) := by decide +kernel
theorem dL_law_1452 : decode mL.2.1 1452 = .ok (.iconst 1, 1) := by decide +kernel
theorem dL_law_1453 : decode mL.2.1 1453 = .ok (.iadd, 1) := by decide +kernel
theorem dL_law_1454 : decode mL.2.1 1454 = .ok (.iaload, 1) := by decide +kernel
theorem dL_law_1455 : decode mL.2.1 1455 = .ok (.invokevirtual 203, 3) := by decide +kernel
theorem dL_law_1458 : decode mL.2.1 1458 = .ok (.aload_n 2, 1) := by decide +kernel
theorem dL_law_1459 : decode mL.2.1 1459 = .ok (.aload_n 0, 1) := by decide +kernel
theorem dL_law_1460 : decode mL.2.1 1460 = .ok (.iload_n 3, 1) := by decide +kernel
theorem dL_law_1461 : decode mL.2.1 1461 = .ok (.iconst 1, 1) := by decide +kernel
theorem dL_law_1462 : decode mL.2.1 1462 = .ok (.iadd, 1) := by decide +kernel
theorem dL_law_1463 : decode mL.2.1 1463 = .ok (.iaload, 1) := by decide +kernel
theorem dL_law_1464 : decode mL.2.1 1464 = .ok (.invokevirtual 206, 3) := by decide +kernel
theorem dL_law_1467 : decode mL.2.1 1467 = .ok (.if_icmp .eq 28, 3) := by decide +kernel
theorem dL_law_1472 : decode mL.2.1 1472 = .ok (.aload_n 1, 1) := by decide +kernel
theorem dL_law_1473 : decode mL.2.1 1473 = .ok (.aload_n 0, 1) := by decide +kernel
theorem dL_law_1474 : decode mL.2.1 1474 = .ok (.iload_n 3, 1) := by decide +kernel
theorem dL_law_1475 : decode mL.2.1 1475 = .ok (.iconst 1, 1) := by decide +kernel
theorem dL_law_1476 : decode mL.2.1 1476 = .ok (.iadd, 1) := by decide +kernel
theorem dL_law_1477 : decode mL.2.1 1477 = .ok (.iaload, 1) := by decide +kernel
theorem dL_law_1478 : decode mL.2.1 1478 = .ok (.invokevirtual 207, 3) := by decide +kernel
theorem dL_law_1481 : decode mL.2.1 1481 = .ok (.aload_n 2, 1) := by decide +kernel
theorem dL_law_1482 : decode mL.2.1 1482 = .ok (.aload_n 0, 1) := by decide +kernel
theorem dL_law_1483 : decode mL.2.1 1483 = .ok (.iload_n 3, 1) := by decide +kernel
theorem dL_law_1484 : decode mL.2.1 1484 = .ok (.iconst 1, 1) := by decide +kernel
theorem dL_law_1485 : decode mL.2.1 1485 = .ok (.iadd, 1) := by decide +kernel
theorem dL_law_1486 : decode mL.2.1 1486 = .ok (.iaload, 1) := by decide +kernel
theorem dL_law_1487 : decode mL.2.1 1487 = .ok (.invokevirtual 210, 3) := by decide +kernel
theorem dL_law_1490 : decode mL.2.1 1490 = .ok (.if_icmp .eq 5, 3) := by decide +kernel
theorem dL_law_1495 : decode mL.2.1 1495 = .ok (.iinc 3 6, 3) := by decide +kernel
theorem dL_law_1498 : decode mL.2.1 1498 = .ok (.goto (-1480), 3) := by decide +kernel
theorem dL_law_1501 : decode mL.2.1 1501 = .ok (.iconst 1, 1) := by decide +kernel
theorem dL_law_1502 : decode mL.2.1 1502 = .ok (.ireturn, 1) := by decide +kernel
