/-! The law's decode rows, 4 of 4. -/
theorem d_Law_law_1260 : decode b_Law_law 1260 = .ok (.iload 4, 2) := by decide +kernel
theorem d_Law_law_1262 : decode b_Law_law 1262 = .ok (.iconst 2, 1) := by decide +kernel
theorem d_Law_law_1263 : decode b_Law_law 1263 = .ok (.iadd, 1) := by decide +kernel
theorem d_Law_law_1264 : decode b_Law_law 1264 = .ok (.iaload, 1) := by decide +kernel
theorem d_Law_law_1265 : decode b_Law_law 1265 = .ok (.aload_n 3, 1) := by decide +kernel
theorem d_Law_law_1266 : decode b_Law_law 1266 = .ok (.invokestatic 149, 3) := by decide +kernel
theorem d_Law_law_1269 : decode b_Law_law 1269 = .ok (.istore 5, 2) := by decide +kernel
theorem d_Law_law_1271 : decode b_Law_law 1271 = .ok (.aload_n 2, 1) := by decide +kernel
theorem d_Law_law_1272 : decode b_Law_law 1272 = .ok (.aload_n 0, 1) := by decide +kernel
theorem d_Law_law_1273 : decode b_Law_law 1273 = .ok (.iload 4, 2) := by decide +kernel
theorem d_Law_law_1275 : decode b_Law_law 1275 = .ok (.iconst 1, 1) := by decide +kernel
theorem d_Law_law_1276 : decode b_Law_law 1276 = .ok (.iadd, 1) := by decide +kernel
theorem d_Law_law_1277 : decode b_Law_law 1277 = .ok (.iaload, 1) := by decide +kernel
theorem d_Law_law_1278 : decode b_Law_law 1278 = .ok (.aload_n 0, 1) := by decide +kernel
theorem d_Law_law_1279 : decode b_Law_law 1279 = .ok (.iload 4, 2) := by decide +kernel
theorem d_Law_law_1281 : decode b_Law_law 1281 = .ok (.iconst 2, 1) := by decide +kernel
theorem d_Law_law_1282 : decode b_Law_law 1282 = .ok (.iadd, 1) := by decide +kernel
theorem d_Law_law_1283 : decode b_Law_law 1283 = .ok (.iaload, 1) := by decide +kernel
theorem d_Law_law_1284 : decode b_Law_law 1284 = .ok (.invokevirtual 151, 3) := by decide +kernel
theorem d_Law_law_1287 : decode b_Law_law 1287 = .ok (.istore 6, 2) := by decide +kernel
theorem d_Law_law_1289 : decode b_Law_law 1289 = .ok (.aload_n 2, 1) := by decide +kernel
theorem d_Law_law_1290 : decode b_Law_law 1290 = .ok (.invokevirtual 97, 3) := by decide +kernel
theorem d_Law_law_1293 : decode b_Law_law 1293 = .ok (.iload 5, 2) := by decide +kernel
theorem d_Law_law_1295 : decode b_Law_law 1295 = .ok (.if_icmp .eq 5, 3) := by decide +kernel
theorem d_Law_law_1300 : decode b_Law_law 1300 = .ok (.iload 5, 2) := by decide +kernel
theorem d_Law_law_1302 : decode b_Law_law 1302 = .ok (.ifCond .ne 15, 3) := by decide +kernel
theorem d_Law_law_1305 : decode b_Law_law 1305 = .ok (.aload_n 3, 1) := by decide +kernel
theorem d_Law_law_1306 : decode b_Law_law 1306 = .ok (.iconst 0, 1) := by decide +kernel
theorem d_Law_law_1307 : decode b_Law_law 1307 = .ok (.laload, 1) := by decide +kernel
theorem d_Law_law_1308 : decode b_Law_law 1308 = .ok (.iload 6, 2) := by decide +kernel
theorem d_Law_law_1310 : decode b_Law_law 1310 = .ok (.i2l, 1) := by decide +kernel
theorem d_Law_law_1311 : decode b_Law_law 1311 = .ok (.lcmp, 1) := by decide +kernel
theorem d_Law_law_1312 : decode b_Law_law 1312 = .ok (.ifCond .eq 5, 3) := by decide +kernel
theorem d_Law_law_1317 : decode b_Law_law 1317 = .ok (.goto 331, 3) := by decide +kernel
theorem d_Law_law_1320 : decode b_Law_law 1320 = .ok (.aload_n 1, 1) := by decide +kernel
theorem d_Law_law_1321 : decode b_Law_law 1321 = .ok (.aload_n 0, 1) := by decide +kernel
theorem d_Law_law_1322 : decode b_Law_law 1322 = .ok (.iload 4, 2) := by decide +kernel
theorem d_Law_law_1324 : decode b_Law_law 1324 = .ok (.iconst 1, 1) := by decide +kernel
theorem d_Law_law_1325 : decode b_Law_law 1325 = .ok (.iadd, 1) := by decide +kernel
theorem d_Law_law_1326 : decode b_Law_law 1326 = .ok (.iaload, 1) := by decide +kernel
theorem d_Law_law_1327 : decode b_Law_law 1327 = .ok (.aload_n 0, 1) := by decide +kernel
theorem d_Law_law_1328 : decode b_Law_law 1328 = .ok (.iload 4, 2) := by decide +kernel
theorem d_Law_law_1330 : decode b_Law_law 1330 = .ok (.iconst 2, 1) := by decide +kernel
theorem d_Law_law_1331 : decode b_Law_law 1331 = .ok (.iadd, 1) := by decide +kernel
theorem d_Law_law_1332 : decode b_Law_law 1332 = .ok (.iaload, 1) := by decide +kernel
theorem d_Law_law_1333 : decode b_Law_law 1333 = .ok (.aload_n 3, 1) := by decide +kernel
theorem d_Law_law_1334 : decode b_Law_law 1334 = .ok (.invokestatic 152, 3) := by decide +kernel
theorem d_Law_law_1337 : decode b_Law_law 1337 = .ok (.istore 5, 2) := by decide +kernel
theorem d_Law_law_1339 : decode b_Law_law 1339 = .ok (.aload_n 2, 1) := by decide +kernel
theorem d_Law_law_1340 : decode b_Law_law 1340 = .ok (.aload_n 0, 1) := by decide +kernel
theorem d_Law_law_1341 : decode b_Law_law 1341 = .ok (.iload 4, 2) := by decide +kernel
theorem d_Law_law_1343 : decode b_Law_law 1343 = .ok (.iconst 1, 1) := by decide +kernel
theorem d_Law_law_1344 : decode b_Law_law 1344 = .ok (.iadd, 1) := by decide +kernel
theorem d_Law_law_1345 : decode b_Law_law 1345 = .ok (.iaload, 1) := by decide +kernel
theorem d_Law_law_1346 : decode b_Law_law 1346 = .ok (.aload_n 0, 1) := by decide +kernel
theorem d_Law_law_1347 : decode b_Law_law 1347 = .ok (.iload 4, 2) := by decide +kernel
theorem d_Law_law_1349 : decode b_Law_law 1349 = .ok (.iconst 2, 1) := by decide +kernel
theorem d_Law_law_1350 : decode b_Law_law 1350 = .ok (.iadd, 1) := by decide +kernel
theorem d_Law_law_1351 : decode b_Law_law 1351 = .ok (.iaload, 1) := by decide +kernel
theorem d_Law_law_1352 : decode b_Law_law 1352 = .ok (.invokevirtual 154, 3) := by decide +kernel
theorem d_Law_law_1355 : decode b_Law_law 1355 = .ok (.istore 6, 2) := by decide +kernel
theorem d_Law_law_1357 : decode b_Law_law 1357 = .ok (.aload_n 2, 1) := by decide +kernel
theorem d_Law_law_1358 : decode b_Law_law 1358 = .ok (.invokevirtual 97, 3) := by decide +kernel
theorem d_Law_law_1361 : decode b_Law_law 1361 = .ok (.iload 5, 2) := by decide +kernel
theorem d_Law_law_1363 : decode b_Law_law 1363 = .ok (.if_icmp .eq 5, 3) := by decide +kernel
theorem d_Law_law_1368 : decode b_Law_law 1368 = .ok (.iload 5, 2) := by decide +kernel
theorem d_Law_law_1370 : decode b_Law_law 1370 = .ok (.ifCond .ne 15, 3) := by decide +kernel
theorem d_Law_law_1373 : decode b_Law_law 1373 = .ok (.aload_n 3, 1) := by decide +kernel
theorem d_Law_law_1374 : decode b_Law_law 1374 = .ok (.iconst 0, 1) := by decide +kernel
theorem d_Law_law_1375 : decode b_Law_law 1375 = .ok (.laload, 1) := by decide +kernel
theorem d_Law_law_1376 : decode b_Law_law 1376 = .ok (.iload 6, 2) := by decide +kernel
theorem d_Law_law_1378 : decode b_Law_law 1378 = .ok (.i2l, 1) := by decide +kernel
theorem d_Law_law_1379 : decode b_Law_law 1379 = .ok (.lcmp, 1) := by decide +kernel
theorem d_Law_law_1380 : decode b_Law_law 1380 = .ok (.ifCond .eq 5, 3) := by decide +kernel
theorem d_Law_law_1385 : decode b_Law_law 1385 = .ok (.goto 263, 3) := by decide +kernel
theorem d_Law_law_1388 : decode b_Law_law 1388 = .ok (.aload_n 1, 1) := by decide +kernel
theorem d_Law_law_1389 : decode b_Law_law 1389 = .ok (.aload_n 0, 1) := by decide +kernel
theorem d_Law_law_1390 : decode b_Law_law 1390 = .ok (.iload 4, 2) := by decide +kernel
theorem d_Law_law_1392 : decode b_Law_law 1392 = .ok (.iconst 1, 1) := by decide +kernel
theorem d_Law_law_1393 : decode b_Law_law 1393 = .ok (.iadd, 1) := by decide +kernel
theorem d_Law_law_1394 : decode b_Law_law 1394 = .ok (.iaload, 1) := by decide +kernel
theorem d_Law_law_1395 : decode b_Law_law 1395 = .ok (.aload_n 0, 1) := by decide +kernel
theorem d_Law_law_1396 : decode b_Law_law 1396 = .ok (.iload 4, 2) := by decide +kernel
theorem d_Law_law_1398 : decode b_Law_law 1398 = .ok (.iconst 2, 1) := by decide +kernel
theorem d_Law_law_1399 : decode b_Law_law 1399 = .ok (.iadd, 1) := by decide +kernel
theorem d_Law_law_1400 : decode b_Law_law 1400 = .ok (.iaload, 1) := by decide +kernel
theorem d_Law_law_1401 : decode b_Law_law 1401 = .ok (.aload_n 3, 1) := by decide +kernel
theorem d_Law_law_1402 : decode b_Law_law 1402 = .ok (.invokestatic 155, 3) := by decide +kernel
theorem d_Law_law_1405 : decode b_Law_law 1405 = .ok (.istore 5, 2) := by decide +kernel
theorem d_Law_law_1407 : decode b_Law_law 1407 = .ok (.aload_n 2, 1) := by decide +kernel
theorem d_Law_law_1408 : decode b_Law_law 1408 = .ok (.aload_n 0, 1) := by decide +kernel
theorem d_Law_law_1409 : decode b_Law_law 1409 = .ok (.iload 4, 2) := by decide +kernel
theorem d_Law_law_1411 : decode b_Law_law 1411 = .ok (.iconst 1, 1) := by decide +kernel
theorem d_Law_law_1412 : decode b_Law_law 1412 = .ok (.iadd, 1) := by decide +kernel
theorem d_Law_law_1413 : decode b_Law_law 1413 = .ok (.iaload, 1) := by decide +kernel
theorem d_Law_law_1414 : decode b_Law_law 1414 = .ok (.aload_n 0, 1) := by decide +kernel
theorem d_Law_law_1415 : decode b_Law_law 1415 = .ok (.iload 4, 2) := by decide +kernel
theorem d_Law_law_1417 : decode b_Law_law 1417 = .ok (.iconst 2, 1) := by decide +kernel
theorem d_Law_law_1418 : decode b_Law_law 1418 = .ok (.iadd, 1) := by decide +kernel
theorem d_Law_law_1419 : decode b_Law_law 1419 = .ok (.iaload, 1) := by decide +kernel
theorem d_Law_law_1420 : decode b_Law_law 1420 = .ok (.invokevirtual 157, 3) := by decide +kernel
theorem d_Law_law_1423 : decode b_Law_law 1423 = .ok (.istore 6, 2) := by decide +kernel
theorem d_Law_law_1425 : decode b_Law_law 1425 = .ok (.aload_n 2, 1) := by decide +kernel
theorem d_Law_law_1426 : decode b_Law_law 1426 = .ok (.invokevirtual 97, 3) := by decide +kernel
theorem d_Law_law_1429 : decode b_Law_law 1429 = .ok (.iload 5, 2) := by decide +kernel
theorem d_Law_law_1431 : decode b_Law_law 1431 = .ok (.if_icmp .eq 5, 3) := by decide +kernel
theorem d_Law_law_1436 : decode b_Law_law 1436 = .ok (.iload 5, 2) := by decide +kernel
theorem d_Law_law_1438 : decode b_Law_law 1438 = .ok (.ifCond .ne 15, 3) := by decide +kernel
theorem d_Law_law_1441 : decode b_Law_law 1441 = .ok (.aload_n 3, 1) := by decide +kernel
theorem d_Law_law_1442 : decode b_Law_law 1442 = .ok (.iconst 0, 1) := by decide +kernel
theorem d_Law_law_1443 : decode b_Law_law 1443 = .ok (.laload, 1) := by decide +kernel
theorem d_Law_law_1444 : decode b_Law_law 1444 = .ok (.iload 6, 2) := by decide +kernel
theorem d_Law_law_1446 : decode b_Law_law 1446 = .ok (.i2l, 1) := by decide +kernel
theorem d_Law_law_1447 : decode b_Law_law 1447 = .ok (.lcmp, 1) := by decide +kernel
theorem d_Law_law_1448 : decode b_Law_law 1448 = .ok (.ifCond .eq 5, 3) := by decide +kernel
theorem d_Law_law_1453 : decode b_Law_law 1453 = .ok (.goto 195, 3) := by decide +kernel
theorem d_Law_law_1456 : decode b_Law_law 1456 = .ok (.aload_n 1, 1) := by decide +kernel
theorem d_Law_law_1457 : decode b_Law_law 1457 = .ok (.aload_n 0, 1) := by decide +kernel
theorem d_Law_law_1458 : decode b_Law_law 1458 = .ok (.iload 4, 2) := by decide +kernel
theorem d_Law_law_1460 : decode b_Law_law 1460 = .ok (.iconst 1, 1) := by decide +kernel
theorem d_Law_law_1461 : decode b_Law_law 1461 = .ok (.iadd, 1) := by decide +kernel
theorem d_Law_law_1462 : decode b_Law_law 1462 = .ok (.iaload, 1) := by decide +kernel
theorem d_Law_law_1463 : decode b_Law_law 1463 = .ok (.aload_n 0, 1) := by decide +kernel
theorem d_Law_law_1464 : decode b_Law_law 1464 = .ok (.iload 4, 2) := by decide +kernel
theorem d_Law_law_1466 : decode b_Law_law 1466 = .ok (.iconst 2, 1) := by decide +kernel
theorem d_Law_law_1467 : decode b_Law_law 1467 = .ok (.iadd, 1) := by decide +kernel
theorem d_Law_law_1468 : decode b_Law_law 1468 = .ok (.iaload, 1) := by decide +kernel
theorem d_Law_law_1469 : decode b_Law_law 1469 = .ok (.aload_n 3, 1) := by decide +kernel
theorem d_Law_law_1470 : decode b_Law_law 1470 = .ok (.invokestatic 158, 3) := by decide +kernel
theorem d_Law_law_1473 : decode b_Law_law 1473 = .ok (.istore 5, 2) := by decide +kernel
theorem d_Law_law_1475 : decode b_Law_law 1475 = .ok (.aload_n 2, 1) := by decide +kernel
theorem d_Law_law_1476 : decode b_Law_law 1476 = .ok (.aload_n 0, 1) := by decide +kernel
theorem d_Law_law_1477 : decode b_Law_law 1477 = .ok (.iload 4, 2) := by decide +kernel
theorem d_Law_law_1479 : decode b_Law_law 1479 = .ok (.iconst 1, 1) := by decide +kernel
theorem d_Law_law_1480 : decode b_Law_law 1480 = .ok (.iadd, 1) := by decide +kernel
theorem d_Law_law_1481 : decode b_Law_law 1481 = .ok (.iaload, 1) := by decide +kernel
theorem d_Law_law_1482 : decode b_Law_law 1482 = .ok (.aload_n 0, 1) := by decide +kernel
theorem d_Law_law_1483 : decode b_Law_law 1483 = .ok (.iload 4, 2) := by decide +kernel
theorem d_Law_law_1485 : decode b_Law_law 1485 = .ok (.iconst 2, 1) := by decide +kernel
theorem d_Law_law_1486 : decode b_Law_law 1486 = .ok (.iadd, 1) := by decide +kernel
theorem d_Law_law_1487 : decode b_Law_law 1487 = .ok (.iaload, 1) := by decide +kernel
theorem d_Law_law_1488 : decode b_Law_law 1488 = .ok (.invokevirtual 160, 3) := by decide +kernel
theorem d_Law_law_1491 : decode b_Law_law 1491 = .ok (.istore 6, 2) := by decide +kernel
theorem d_Law_law_1493 : decode b_Law_law 1493 = .ok (.aload_n 2, 1) := by decide +kernel
theorem d_Law_law_1494 : decode b_Law_law 1494 = .ok (.invokevirtual 97, 3) := by decide +kernel
theorem d_Law_law_1497 : decode b_Law_law 1497 = .ok (.iload 5, 2) := by decide +kernel
theorem d_Law_law_1499 : decode b_Law_law 1499 = .ok (.if_icmp .eq 5, 3) := by decide +kernel
theorem d_Law_law_1504 : decode b_Law_law 1504 = .ok (.iload 5, 2) := by decide +kernel
theorem d_Law_law_1506 : decode b_Law_law 1506 = .ok (.ifCond .ne 15, 3) := by decide +kernel
theorem d_Law_law_1509 : decode b_Law_law 1509 = .ok (.aload_n 3, 1) := by decide +kernel
theorem d_Law_law_1510 : decode b_Law_law 1510 = .ok (.iconst 0, 1) := by decide +kernel
theorem d_Law_law_1511 : decode b_Law_law 1511 = .ok (.laload, 1) := by decide +kernel
theorem d_Law_law_1512 : decode b_Law_law 1512 = .ok (.iload 6, 2) := by decide +kernel
theorem d_Law_law_1514 : decode b_Law_law 1514 = .ok (.i2l, 1) := by decide +kernel
theorem d_Law_law_1515 : decode b_Law_law 1515 = .ok (.lcmp, 1) := by decide +kernel
theorem d_Law_law_1516 : decode b_Law_law 1516 = .ok (.ifCond .eq 5, 3) := by decide +kernel
theorem d_Law_law_1521 : decode b_Law_law 1521 = .ok (.goto 127, 3) := by decide +kernel
theorem d_Law_law_1524 : decode b_Law_law 1524 = .ok (.aload_n 1, 1) := by decide +kernel
theorem d_Law_law_1525 : decode b_Law_law 1525 = .ok (.aload_n 0, 1) := by decide +kernel
theorem d_Law_law_1526 : decode b_Law_law 1526 = .ok (.iload 4, 2) := by decide +kernel
theorem d_Law_law_1528 : decode b_Law_law 1528 = .ok (.iconst 1, 1) := by decide +kernel
theorem d_Law_law_1529 : decode b_Law_law 1529 = .ok (.iadd, 1) := by decide +kernel
theorem d_Law_law_1530 : decode b_Law_law 1530 = .ok (.iaload, 1) := by decide +kernel
theorem d_Law_law_1531 : decode b_Law_law 1531 = .ok (.aload_n 0, 1) := by decide +kernel
theorem d_Law_law_1532 : decode b_Law_law 1532 = .ok (.iload 4, 2) := by decide +kernel
theorem d_Law_law_1534 : decode b_Law_law 1534 = .ok (.iconst 2, 1) := by decide +kernel
theorem d_Law_law_1535 : decode b_Law_law 1535 = .ok (.iadd, 1) := by decide +kernel
theorem d_Law_law_1536 : decode b_Law_law 1536 = .ok (.iaload, 1) := by decide +kernel
theorem d_Law_law_1537 : decode b_Law_law 1537 = .ok (.aload_n 3, 1) := by decide +kernel
theorem d_Law_law_1538 : decode b_Law_law 1538 = .ok (.invokestatic 161, 3) := by decide +kernel
theorem d_Law_law_1541 : decode b_Law_law 1541 = .ok (.istore 5, 2) := by decide +kernel
theorem d_Law_law_1543 : decode b_Law_law 1543 = .ok (.aload_n 2, 1) := by decide +kernel
theorem d_Law_law_1544 : decode b_Law_law 1544 = .ok (.aload_n 0, 1) := by decide +kernel
theorem d_Law_law_1545 : decode b_Law_law 1545 = .ok (.iload 4, 2) := by decide +kernel
theorem d_Law_law_1547 : decode b_Law_law 1547 = .ok (.iconst 1, 1) := by decide +kernel
theorem d_Law_law_1548 : decode b_Law_law 1548 = .ok (.iadd, 1) := by decide +kernel
theorem d_Law_law_1549 : decode b_Law_law 1549 = .ok (.iaload, 1) := by decide +kernel
theorem d_Law_law_1550 : decode b_Law_law 1550 = .ok (.aload_n 0, 1) := by decide +kernel
theorem d_Law_law_1551 : decode b_Law_law 1551 = .ok (.iload 4, 2) := by decide +kernel
theorem d_Law_law_1553 : decode b_Law_law 1553 = .ok (.iconst 2, 1) := by decide +kernel
theorem d_Law_law_1554 : decode b_Law_law 1554 = .ok (.iadd, 1) := by decide +kernel
theorem d_Law_law_1555 : decode b_Law_law 1555 = .ok (.iaload, 1) := by decide +kernel
theorem d_Law_law_1556 : decode b_Law_law 1556 = .ok (.invokevirtual 163, 3) := by decide +kernel
theorem d_Law_law_1559 : decode b_Law_law 1559 = .ok (.istore 6, 2) := by decide +kernel
theorem d_Law_law_1561 : decode b_Law_law 1561 = .ok (.aload_n 2, 1) := by decide +kernel
theorem d_Law_law_1562 : decode b_Law_law 1562 = .ok (.invokevirtual 97, 3) := by decide +kernel
theorem d_Law_law_1565 : decode b_Law_law 1565 = .ok (.iload 5, 2) := by decide +kernel
theorem d_Law_law_1567 : decode b_Law_law 1567 = .ok (.if_icmp .eq 5, 3) := by decide +kernel
theorem d_Law_law_1572 : decode b_Law_law 1572 = .ok (.iload 5, 2) := by decide +kernel
theorem d_Law_law_1574 : decode b_Law_law 1574 = .ok (.ifCond .ne 15, 3) := by decide +kernel
theorem d_Law_law_1577 : decode b_Law_law 1577 = .ok (.aload_n 3, 1) := by decide +kernel
theorem d_Law_law_1578 : decode b_Law_law 1578 = .ok (.iconst 0, 1) := by decide +kernel
theorem d_Law_law_1579 : decode b_Law_law 1579 = .ok (.laload, 1) := by decide +kernel
theorem d_Law_law_1580 : decode b_Law_law 1580 = .ok (.iload 6, 2) := by decide +kernel
theorem d_Law_law_1582 : decode b_Law_law 1582 = .ok (.i2l, 1) := by decide +kernel
theorem d_Law_law_1583 : decode b_Law_law 1583 = .ok (.lcmp, 1) := by decide +kernel
theorem d_Law_law_1584 : decode b_Law_law 1584 = .ok (.ifCond .eq 5, 3) := by decide +kernel
theorem d_Law_law_1589 : decode b_Law_law 1589 = .ok (.goto 59, 3) := by decide +kernel
theorem d_Law_law_1592 : decode b_Law_law 1592 = .ok (.aload_n 1, 1) := by decide +kernel
theorem d_Law_law_1593 : decode b_Law_law 1593 = .ok (.aload_n 0, 1) := by decide +kernel
theorem d_Law_law_1594 : decode b_Law_law 1594 = .ok (.iload 4, 2) := by decide +kernel
theorem d_Law_law_1596 : decode b_Law_law 1596 = .ok (.iconst 1, 1) := by decide +kernel
theorem d_Law_law_1597 : decode b_Law_law 1597 = .ok (.iadd, 1) := by decide +kernel
theorem d_Law_law_1598 : decode b_Law_law 1598 = .ok (.iaload, 1) := by decide +kernel
theorem d_Law_law_1599 : decode b_Law_law 1599 = .ok (.aload_n 3, 1) := by decide +kernel
theorem d_Law_law_1600 : decode b_Law_law 1600 = .ok (.invokestatic 164, 3) := by decide +kernel
theorem d_Law_law_1603 : decode b_Law_law 1603 = .ok (.istore 5, 2) := by decide +kernel
theorem d_Law_law_1605 : decode b_Law_law 1605 = .ok (.aload_n 2, 1) := by decide +kernel
theorem d_Law_law_1606 : decode b_Law_law 1606 = .ok (.aload_n 0, 1) := by decide +kernel
theorem d_Law_law_1607 : decode b_Law_law 1607 = .ok (.iload 4, 2) := by decide +kernel
theorem d_Law_law_1609 : decode b_Law_law 1609 = .ok (.iconst 1, 1) := by decide +kernel
theorem d_Law_law_1610 : decode b_Law_law 1610 = .ok (.iadd, 1) := by decide +kernel
theorem d_Law_law_1611 : decode b_Law_law 1611 = .ok (.iaload, 1) := by decide +kernel
theorem d_Law_law_1612 : decode b_Law_law 1612 = .ok (.invokevirtual 166, 3) := by decide +kernel
theorem d_Law_law_1615 : decode b_Law_law 1615 = .ok (.istore 6, 2) := by decide +kernel
theorem d_Law_law_1617 : decode b_Law_law 1617 = .ok (.aload_n 2, 1) := by decide +kernel
theorem d_Law_law_1618 : decode b_Law_law 1618 = .ok (.invokevirtual 97, 3) := by decide +kernel
theorem d_Law_law_1621 : decode b_Law_law 1621 = .ok (.iload 5, 2) := by decide +kernel
theorem d_Law_law_1623 : decode b_Law_law 1623 = .ok (.if_icmp .eq 5, 3) := by decide +kernel
theorem d_Law_law_1628 : decode b_Law_law 1628 = .ok (.iload 5, 2) := by decide +kernel
theorem d_Law_law_1630 : decode b_Law_law 1630 = .ok (.ifCond .ne 15, 3) := by decide +kernel
theorem d_Law_law_1633 : decode b_Law_law 1633 = .ok (.aload_n 3, 1) := by decide +kernel
theorem d_Law_law_1634 : decode b_Law_law 1634 = .ok (.iconst 0, 1) := by decide +kernel
theorem d_Law_law_1635 : decode b_Law_law 1635 = .ok (.laload, 1) := by decide +kernel
theorem d_Law_law_1636 : decode b_Law_law 1636 = .ok (.iload 6, 2) := by decide +kernel
theorem d_Law_law_1638 : decode b_Law_law 1638 = .ok (.i2l, 1) := by decide +kernel
theorem d_Law_law_1639 : decode b_Law_law 1639 = .ok (.lcmp, 1) := by decide +kernel
theorem d_Law_law_1640 : decode b_Law_law 1640 = .ok (.ifCond .eq 5, 3) := by decide +kernel
theorem d_Law_law_1645 : decode b_Law_law 1645 = .ok (.goto 3, 3) := by decide +kernel
theorem d_Law_law_1648 : decode b_Law_law 1648 = .ok (.iinc 4 5, 3) := by decide +kernel
theorem d_Law_law_1651 : decode b_Law_law 1651 = .ok (.goto (-1628), 3) := by decide +kernel
theorem d_Law_law_1654 : decode b_Law_law 1654 = .ok (.iconst 1, 1) := by decide +kernel
theorem d_Law_law_1655 : decode b_Law_law 1655 = .ok (.ireturn, 1) := by decide +kernel
