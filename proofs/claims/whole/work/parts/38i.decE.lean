/-! The law's decode rows, 9 of 10. -/
theorem d_Law_law_1344 : decode b_Law_law 1344 = .ok (.iadd, 1) := by decide +kernel
theorem d_Law_law_1345 : decode b_Law_law 1345 = .ok (.iaload, 1) := by decide +kernel
theorem d_Law_law_1346 : decode b_Law_law 1346 = .ok (.aload_n 0, 1) := by decide +kernel
theorem d_Law_law_1347 : decode b_Law_law 1347 = .ok (.iload 4, 2) := by decide +kernel
theorem d_Law_law_1349 : decode b_Law_law 1349 = .ok (.iconst 2, 1) := by decide +kernel
theorem d_Law_law_1350 : decode b_Law_law 1350 = .ok (.iadd, 1) := by decide +kernel
theorem d_Law_law_1351 : decode b_Law_law 1351 = .ok (.iaload, 1) := by decide +kernel
theorem d_Law_law_1352 : decode b_Law_law 1352 = .ok (.invokevirtual 154, 3) := by decide +kernel
theorem d_Law_law_1355 : decode b_Law_law 1355 = .ok (.istore 6, 2) := by decide +kernel
theorem d_Law_law_1357 : decode b_Law_law 1357 = .ok (.aload_n 2, 1) := by decide +kernel
theorem d_Law_law_1358 : decode b_Law_law 1358 = .ok (.invokevirtual 97, 3) := by decide +kernel
theorem d_Law_law_1361 : decode b_Law_law 1361 = .ok (.iload 5, 2) := by decide +kernel
theorem d_Law_law_1363 : decode b_Law_law 1363 = .ok (.if_icmp .eq 5, 3) := by decide +kernel
theorem d_Law_law_1368 : decode b_Law_law 1368 = .ok (.iload 5, 2) := by decide +kernel
theorem d_Law_law_1370 : decode b_Law_law 1370 = .ok (.ifCond .ne 15, 3) := by decide +kernel
theorem d_Law_law_1373 : decode b_Law_law 1373 = .ok (.aload_n 3, 1) := by decide +kernel
theorem d_Law_law_1374 : decode b_Law_law 1374 = .ok (.iconst 0, 1) := by decide +kernel
theorem d_Law_law_1375 : decode b_Law_law 1375 = .ok (.laload, 1) := by decide +kernel
theorem d_Law_law_1376 : decode b_Law_law 1376 = .ok (.iload 6, 2) := by decide +kernel
theorem d_Law_law_1378 : decode b_Law_law 1378 = .ok (.i2l, 1) := by decide +kernel
theorem d_Law_law_1379 : decode b_Law_law 1379 = .ok (.lcmp, 1) := by decide +kernel
theorem d_Law_law_1380 : decode b_Law_law 1380 = .ok (.ifCond .eq 5, 3) := by decide +kernel
theorem d_Law_law_1385 : decode b_Law_law 1385 = .ok (.goto 263, 3) := by decide +kernel
theorem d_Law_law_1388 : decode b_Law_law 1388 = .ok (.aload_n 1, 1) := by decide +kernel
theorem d_Law_law_1389 : decode b_Law_law 1389 = .ok (.aload_n 0, 1) := by decide +kernel
theorem d_Law_law_1390 : decode b_Law_law 1390 = .ok (.iload 4, 2) := by decide +kernel
theorem d_Law_law_1392 : decode b_Law_law 1392 = .ok (.iconst 1, 1) := by decide +kernel
theorem d_Law_law_1393 : decode b_Law_law 1393 = .ok (.iadd, 1) := by decide +kernel
theorem d_Law_law_1394 : decode b_Law_law 1394 = .ok (.iaload, 1) := by decide +kernel
theorem d_Law_law_1395 : decode b_Law_law 1395 = .ok (.aload_n 0, 1) := by decide +kernel
theorem d_Law_law_1396 : decode b_Law_law 1396 = .ok (.iload 4, 2) := by decide +kernel
theorem d_Law_law_1398 : decode b_Law_law 1398 = .ok (.iconst 2, 1) := by decide +kernel
theorem d_Law_law_1399 : decode b_Law_law 1399 = .ok (.iadd, 1) := by decide +kernel
theorem d_Law_law_1400 : decode b_Law_law 1400 = .ok (.iaload, 1) := by decide +kernel
theorem d_Law_law_1401 : decode b_Law_law 1401 = .ok (.aload_n 3, 1) := by decide +kernel
theorem d_Law_law_1402 : decode b_Law_law 1402 = .ok (.invokestatic 155, 3) := by decide +kernel
theorem d_Law_law_1405 : decode b_Law_law 1405 = .ok (.istore 5, 2) := by decide +kernel
theorem d_Law_law_1407 : decode b_Law_law 1407 = .ok (.aload_n 2, 1) := by decide +kernel
theorem d_Law_law_1408 : decode b_Law_law 1408 = .ok (.aload_n 0, 1) := by decide +kernel
theorem d_Law_law_1409 : decode b_Law_law 1409 = .ok (.iload 4, 2) := by decide +kernel
theorem d_Law_law_1411 : decode b_Law_law 1411 = .ok (.iconst 1, 1) := by decide +kernel
theorem d_Law_law_1412 : decode b_Law_law 1412 = .ok (.iadd, 1) := by decide +kernel
theorem d_Law_law_1413 : decode b_Law_law 1413 = .ok (.iaload, 1) := by decide +kernel
theorem d_Law_law_1414 : decode b_Law_law 1414 = .ok (.aload_n 0, 1) := by decide +kernel
theorem d_Law_law_1415 : decode b_Law_law 1415 = .ok (.iload 4, 2) := by decide +kernel
theorem d_Law_law_1417 : decode b_Law_law 1417 = .ok (.iconst 2, 1) := by decide +kernel
theorem d_Law_law_1418 : decode b_Law_law 1418 = .ok (.iadd, 1) := by decide +kernel
theorem d_Law_law_1419 : decode b_Law_law 1419 = .ok (.iaload, 1) := by decide +kernel
theorem d_Law_law_1420 : decode b_Law_law 1420 = .ok (.invokevirtual 157, 3) := by decide +kernel
theorem d_Law_law_1423 : decode b_Law_law 1423 = .ok (.istore 6, 2) := by decide +kernel
theorem d_Law_law_1425 : decode b_Law_law 1425 = .ok (.aload_n 2, 1) := by decide +kernel
theorem d_Law_law_1426 : decode b_Law_law 1426 = .ok (.invokevirtual 97, 3) := by decide +kernel
theorem d_Law_law_1429 : decode b_Law_law 1429 = .ok (.iload 5, 2) := by decide +kernel
theorem d_Law_law_1431 : decode b_Law_law 1431 = .ok (.if_icmp .eq 5, 3) := by decide +kernel
theorem d_Law_law_1436 : decode b_Law_law 1436 = .ok (.iload 5, 2) := by decide +kernel
theorem d_Law_law_1438 : decode b_Law_law 1438 = .ok (.ifCond .ne 15, 3) := by decide +kernel
theorem d_Law_law_1441 : decode b_Law_law 1441 = .ok (.aload_n 3, 1) := by decide +kernel
theorem d_Law_law_1442 : decode b_Law_law 1442 = .ok (.iconst 0, 1) := by decide +kernel
theorem d_Law_law_1443 : decode b_Law_law 1443 = .ok (.laload, 1) := by decide +kernel
theorem d_Law_law_1444 : decode b_Law_law 1444 = .ok (.iload 6, 2) := by decide +kernel
theorem d_Law_law_1446 : decode b_Law_law 1446 = .ok (.i2l, 1) := by decide +kernel
theorem d_Law_law_1447 : decode b_Law_law 1447 = .ok (.lcmp, 1) := by decide +kernel
theorem d_Law_law_1448 : decode b_Law_law 1448 = .ok (.ifCond .eq 5, 3) := by decide +kernel
theorem d_Law_law_1453 : decode b_Law_law 1453 = .ok (.goto 195, 3) := by decide +kernel
theorem d_Law_law_1456 : decode b_Law_law 1456 = .ok (.aload_n 1, 1) := by decide +kernel
theorem d_Law_law_1457 : decode b_Law_law 1457 = .ok (.aload_n 0, 1) := by decide +kernel
theorem d_Law_law_1458 : decode b_Law_law 1458 = .ok (.iload 4, 2) := by decide +kernel
theorem d_Law_law_1460 : decode b_Law_law 1460 = .ok (.iconst 1, 1) := by decide +kernel
theorem d_Law_law_1461 : decode b_Law_law 1461 = .ok (.iadd, 1) := by decide +kernel
theorem d_Law_law_1462 : decode b_Law_law 1462 = .ok (.iaload, 1) := by decide +kernel
theorem d_Law_law_1463 : decode b_Law_law 1463 = .ok (.aload_n 0, 1) := by decide +kernel
theorem d_Law_law_1464 : decode b_Law_law 1464 = .ok (.iload 4, 2) := by decide +kernel
theorem d_Law_law_1466 : decode b_Law_law 1466 = .ok (.iconst 2, 1) := by decide +kernel
theorem d_Law_law_1467 : decode b_Law_law 1467 = .ok (.iadd, 1) := by decide +kernel
theorem d_Law_law_1468 : decode b_Law_law 1468 = .ok (.iaload, 1) := by decide +kernel
theorem d_Law_law_1469 : decode b_Law_law 1469 = .ok (.aload_n 3, 1) := by decide +kernel
theorem d_Law_law_1470 : decode b_Law_law 1470 = .ok (.invokestatic 158, 3) := by decide +kernel
theorem d_Law_law_1473 : decode b_Law_law 1473 = .ok (.istore 5, 2) := by decide +kernel
theorem d_Law_law_1475 : decode b_Law_law 1475 = .ok (.aload_n 2, 1) := by decide +kernel
theorem d_Law_law_1476 : decode b_Law_law 1476 = .ok (.aload_n 0, 1) := by decide +kernel
theorem d_Law_law_1477 : decode b_Law_law 1477 = .ok (.iload 4, 2) := by decide +kernel
theorem d_Law_law_1479 : decode b_Law_law 1479 = .ok (.iconst 1, 1) := by decide +kernel
theorem d_Law_law_1480 : decode b_Law_law 1480 = .ok (.iadd, 1) := by decide +kernel
theorem d_Law_law_1481 : decode b_Law_law 1481 = .ok (.iaload, 1) := by decide +kernel
theorem d_Law_law_1482 : decode b_Law_law 1482 = .ok (.aload_n 0, 1) := by decide +kernel
theorem d_Law_law_1483 : decode b_Law_law 1483 = .ok (.iload 4, 2) := by decide +kernel
theorem d_Law_law_1485 : decode b_Law_law 1485 = .ok (.iconst 2, 1) := by decide +kernel
theorem d_Law_law_1486 : decode b_Law_law 1486 = .ok (.iadd, 1) := by decide +kernel
theorem d_Law_law_1487 : decode b_Law_law 1487 = .ok (.iaload, 1) := by decide +kernel
theorem d_Law_law_1488 : decode b_Law_law 1488 = .ok (.invokevirtual 160, 3) := by decide +kernel
theorem d_Law_law_1491 : decode b_Law_law 1491 = .ok (.istore 6, 2) := by decide +kernel
theorem d_Law_law_1493 : decode b_Law_law 1493 = .ok (.aload_n 2, 1) := by decide +kernel
theorem d_Law_law_1494 : decode b_Law_law 1494 = .ok (.invokevirtual 97, 3) := by decide +kernel
theorem d_Law_law_1497 : decode b_Law_law 1497 = .ok (.iload 5, 2) := by decide +kernel
theorem d_Law_law_1499 : decode b_Law_law 1499 = .ok (.if_icmp .eq 5, 3) := by decide +kernel
