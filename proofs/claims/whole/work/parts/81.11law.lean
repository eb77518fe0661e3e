/-! decode rows of the law -/
theorem dL_law_1373 : decode code 1373 = .ok (.aload_n 2, 1) := by decide +kernel
theorem dL_law_1374 : decode code 1374 = .ok (.aload_n 0, 1) := by decide +kernel
theorem dL_law_1375 : decode code 1375 = .ok (.iload_n 3, 1) := by decide +kernel
theorem dL_law_1376 : decode code 1376 = .ok (.iconst 1, 1) := by decide +kernel
theorem dL_law_1377 : decode code 1377 = .ok (.iadd, 1) := by decide +kernel
theorem dL_law_1378 : decode code 1378 = .ok (.iaload, 1) := by decide +kernel
theorem dL_law_1379 : decode code 1379 = .ok (.invokevirtual 186, 3) := by decide +kernel
theorem dL_law_1382 : decode code 1382 = .ok (.if_icmp .eq 113, 3) := by decide +kernel
theorem dL_law_1387 : decode code 1387 = .ok (.aload_n 1, 1) := by decide +kernel
theorem dL_law_1388 : decode code 1388 = .ok (.aload_n 0, 1) := by decide +kernel
theorem dL_law_1389 : decode code 1389 = .ok (.iload_n 3, 1) := by decide +kernel
theorem dL_law_1390 : decode code 1390 = .ok (.iconst 1, 1) := by decide +kernel
theorem dL_law_1391 : decode code 1391 = .ok (.iadd, 1) := by decide +kernel
theorem dL_law_1392 : decode code 1392 = .ok (.iaload, 1) := by decide +kernel
theorem dL_law_1393 : decode code 1393 = .ok (.invokevirtual 187, 3) := by decide +kernel
theorem dL_law_1396 : decode code 1396 = .ok (.aload_n 2, 1) := by decide +kernel
theorem dL_law_1397 : decode code 1397 = .ok (.aload_n 0, 1) := by decide +kernel
theorem dL_law_1398 : decode code 1398 = .ok (.iload_n 3, 1) := by decide +kernel
theorem dL_law_1399 : decode code 1399 = .ok (.iconst 1, 1) := by decide +kernel
theorem dL_law_1400 : decode code 1400 = .ok (.iadd, 1) := by decide +kernel
theorem dL_law_1401 : decode code 1401 = .ok (.iaload, 1) := by decide +kernel
theorem dL_law_1402 : decode code 1402 = .ok (.invokevirtual 190, 3) := by decide +kernel
theorem dL_law_1405 : decode code 1405 = .ok (.if_icmp .eq 90, 3) := by decide +kernel
theorem dL_law_1410 : decode code 1410 = .ok (.aload_n 1, 1) := by decide +kernel
theorem dL_law_1411 : decode code 1411 = .ok (.invokevirtual 191, 3) := by decide +kernel
theorem dL_law_1414 : decode code 1414 = .ok (.aload_n 2, 1) := by decide +kernel
theorem dL_law_1415 : decode code 1415 = .ok (.invokevirtual 194, 3) := by decide +kernel
theorem dL_law_1418 : decode code 1418 = .ok (.if_icmp .eq 77, 3) := by decide +kernel
theorem dL_law_1423 : decode code 1423 = .ok (.aload_n 1, 1) := by decide +kernel
theorem dL_law_1424 : decode code 1424 = .ok (.invokevirtual 195, 3) := by decide +kernel
theorem dL_law_1427 : decode code 1427 = .ok (.aload_n 2, 1) := by decide +kernel
theorem dL_law_1428 : decode code 1428 = .ok (.invokevirtual 198, 3) := by decide +kernel
theorem dL_law_1431 : decode code 1431 = .ok (.if_icmp .eq 64, 3) := by decide +kernel
theorem dL_law_1436 : decode code 1436 = .ok (.aload_n 1, 1) := by decide +kernel
theorem dL_law_1437 : decode code 1437 = .ok (.invokevirtual 199, 3) := by decide +kernel
theorem dL_law_1440 : decode code 1440 = .ok (.aload_n 2, 1) := by decide +kernel
theorem dL_law_1441 : decode code 1441 = .ok (.invokevirtual 202, 3) := by decide +kernel
theorem dL_law_1444 : decode code 1444 = .ok (.if_icmp .eq 51, 3) := by decide +kernel
theorem dL_law_1449 : decode code 1449 = .ok (.aload_n 1, 1) := by decide +kernel
theorem dL_law_1450 : decode code 1450 = .ok (.aload_n 0, 1) := by decide +kernel
theorem dL_law_1451 : decode code 1451 = .ok (.iload_n 3, 1) := by decide +kernel
theorem dL_law_1452 : decode code 1452 = .ok (.iconst 1, 1) := by decide +kernel
theorem dL_law_1453 : decode code 1453 = .ok (.iadd, 1) := by decide +kernel
theorem dL_law_1454 : decode code 1454 = .ok (.iaload, 1) := by decide +kernel
theorem dL_law_1455 : decode code 1455 = .ok (.invokevirtual 203, 3) := by decide +kernel
theorem dL_law_1458 : decode code 1458 = .ok (.aload_n 2, 1) := by decide +kernel
theorem dL_law_1459 : decode code 1459 = .ok (.aload_n 0, 1) := by decide +kernel
theorem dL_law_1460 : decode code 1460 = .ok (.iload_n 3, 1) := by decide +kernel
theorem dL_law_1461 : decode code 1461 = .ok (.iconst 1, 1) := by decide +kernel
theorem dL_law_1462 : decode code 1462 = .ok (.iadd, 1) := by decide +kernel
theorem dL_law_1463 : decode code 1463 = .ok (.iaload, 1) := by decide +kernel
theorem dL_law_1464 : decode code 1464 = .ok (.invokevirtual 206, 3) := by decide +kernel
theorem dL_law_1467 : decode code 1467 = .ok (.if_icmp .eq 28, 3) := by decide +kernel
theorem dL_law_1472 : decode code 1472 = .ok (.aload_n 1, 1) := by decide +kernel
theorem dL_law_1473 : decode code 1473 = .ok (.aload_n 0, 1) := by decide +kernel
theorem dL_law_1474 : decode code 1474 = .ok (.iload_n 3, 1) := by decide +kernel
theorem dL_law_1475 : decode code 1475 = .ok (.iconst 1, 1) := by decide +kernel
theorem dL_law_1476 : decode code 1476 = .ok (.iadd, 1) := by decide +kernel
theorem dL_law_1477 : decode code 1477 = .ok (.iaload, 1) := by decide +kernel
theorem dL_law_1478 : decode code 1478 = .ok (.invokevirtual 207, 3) := by decide +kernel
theorem dL_law_1481 : decode code 1481 = .ok (.aload_n 2, 1) := by decide +kernel
theorem dL_law_1482 : decode code 1482 = .ok (.aload_n 0, 1) := by decide +kernel
theorem dL_law_1483 : decode code 1483 = .ok (.iload_n 3, 1) := by decide +kernel
theorem dL_law_1484 : decode code 1484 = .ok (.iconst 1, 1) := by decide +kernel
theorem dL_law_1485 : decode code 1485 = .ok (.iadd, 1) := by decide +kernel
theorem dL_law_1486 : decode code 1486 = .ok (.iaload, 1) := by decide +kernel
theorem dL_law_1487 : decode code 1487 = .ok (.invokevirtual 210, 3) := by decide +kernel
theorem dL_law_1490 : decode code 1490 = .ok (.if_icmp .eq 5, 3) := by decide +kernel
theorem dL_law_1495 : decode code 1495 = .ok (.iinc 3 6, 3) := by decide +kernel
theorem dL_law_1498 : decode code 1498 = .ok (.goto (-1480), 3) := by decide +kernel
theorem dL_law_1501 : decode code 1501 = .ok (.iconst 1, 1) := by decide +kernel
theorem dL_law_1502 : decode code 1502 = .ok (.ireturn, 1) := by decide +kernel
