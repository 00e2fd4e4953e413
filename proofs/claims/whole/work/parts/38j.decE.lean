/-! The law's decode rows, 10 of 10. -/
theorem d_Law_law_1504 : decode b_Law_law 1504 = .ok (.iload 5, 2) := by decide +kernel
theorem d_Law_law_1506 : decode b_Law_law 1506 = .ok (.ifCond .ne 15, 3) := by decide +kernel
theorem d_Law_law_1509 : decode b_Law_law 1509 = .ok (.aload_n 3, 1) := by decide +kernel
theorem d_Law_law_1510 : decode b_Law_law 1510 = .ok (.iconst 0, 1) := by decide +kernel
theorem d_Law_law_1511 : decode b_Law_law 1511 = .ok (.laload, 1) := by decide +kernel
theorem d_Law_law_1512 : decode b_Law_law 1512 = .ok (.iload 6, 2) := by decide +kernel
theorem d_Law_law_1514 : decode b_Law_law 1514 = .ok (.i2l, 1) := by decide +kernel
theorem d_Law_law_1515 : decode b_Law_law 1515 = .ok (.lcmp, 1) := by decide +kernel
theorem d_Law_law_1516 : decode b_Law_law 1516 = .ok (.ifCond .eq 5, 3) := by decide +kernel
theorem d_Law_law_1521 : decode b_Law_law 1521 = .ok (.goto 127, 3) := by decide +kernel
theorem d_Law_law_1524 : decode b_Law_law 1524 = .ok (.aload_n 1, 1) := by decide +kernel
theorem d_Law_law_1525 : decode b_Law_law 1525 = .ok (.aload_n 0, 1) := by decide +kernel
theorem d_Law_law_1526 : decode b_Law_law 1526 = .ok (.iload 4, 2) := by decide +kernel
theorem d_Law_law_1528 : decode b_Law_law 1528 = .ok (.iconst 1, 1) := by decide +kernel
theorem d_Law_law_1529 : decode b_Law_law 1529 = .ok (.iadd, 1) := by decide +kernel
theorem d_Law_law_1530 : decode b_Law_law 1530 = .ok (.iaload, 1) := by decide +kernel
theorem d_Law_law_1531 : decode b_Law_law 1531 = .ok (.aload_n 0, 1) := by decide +kernel
theorem d_Law_law_1532 : decode b_Law_law 1532 = .ok (.iload 4, 2) := by decide +kernel
theorem d_Law_law_1534 : decode b_Law_law 1534 = .ok (.iconst 2, 1) := by decide +kernel
theorem d_Law_law_1535 : decode b_Law_law 1535 = .ok (.iadd, 1) := by decide +kernel
theorem d_Law_law_1536 : decode b_Law_law 1536 = .ok (.iaload, 1) := by decide +kernel
theorem d_Law_law_1537 : decode b_Law_law 1537 = .ok (.aload_n 3, 1) := by decide +kernel
theorem d_Law_law_1538 : decode b_Law_law 1538 = .ok (.invokestatic 161, 3) := by decide +kernel
theorem d_Law_law_1541 : decode b_Law_law 1541 = .ok (.istore 5, 2) := by decide +kernel
theorem d_Law_law_1543 : decode b_Law_law 1543 = .ok (.aload_n 2, 1) := by decide +kernel
theorem d_Law_law_1544 : decode b_Law_law 1544 = .ok (.aload_n 0, 1) := by decide +kernel
theorem d_Law_law_1545 : decode b_Law_law 1545 = .ok (.iload 4, 2) := by decide +kernel
theorem d_Law_law_1547 : decode b_Law_law 1547 = .ok (.iconst 1, 1) := by decide +kernel
theorem d_Law_law_1548 : decode b_Law_law 1548 = .ok (.iadd, 1) := by decide +kernel
theorem d_Law_law_1549 : decode b_Law_law 1549 = .ok (.iaload, 1) := by decide +kernel
theorem d_Law_law_1550 : decode b_Law_law 1550 = .ok (.aload_n 0, 1) := by decide +kernel
theorem d_Law_law_1551 : decode b_Law_law 1551 = .ok (.iload 4, 2) := by decide +kernel
theorem d_Law_law_1553 : decode b_Law_law 1553 = .ok (.iconst 2, 1) := by decide +kernel
theorem d_Law_law_1554 : decode b_Law_law 1554 = .ok (.iadd, 1) := by decide +kernel
theorem d_Law_law_1555 : decode b_Law_law 1555 = .ok (.iaload, 1) := by decide +kernel
theorem d_Law_law_1556 : decode b_Law_law 1556 = .ok (.invokevirtual 163, 3) := by decide +kernel
theorem d_Law_law_1559 : decode b_Law_law 1559 = .ok (.istore 6, 2) := by decide +kernel
theorem d_Law_law_1561 : decode b_Law_law 1561 = .ok (.aload_n 2, 1) := by decide +kernel
theorem d_Law_law_1562 : decode b_Law_law 1562 = .ok (.invokevirtual 97, 3) := by decide +kernel
theorem d_Law_law_1565 : decode b_Law_law 1565 = .ok (.iload 5, 2) := by decide +kernel
theorem d_Law_law_1567 : decode b_Law_law 1567 = .ok (.if_icmp .eq 5, 3) := by decide +kernel
theorem d_Law_law_1572 : decode b_Law_law 1572 = .ok (.iload 5, 2) := by decide +kernel
theorem d_Law_law_1574 : decode b_Law_law 1574 = .ok (.ifCond .ne 15, 3) := by decide +kernel
theorem d_Law_law_1577 : decode b_Law_law 1577 = .ok (.aload_n 3, 1) := by decide +kernel
theorem d_Law_law_1578 : decode b_Law_law 1578 = .ok (.iconst 0, 1) := by decide +kernel
theorem d_Law_law_1579 : decode b_Law_law 1579 = .ok (.laload, 1) := by decide +kernel
theorem d_Law_law_1580 : decode b_Law_law 1580 = .ok (.iload 6, 2) := by decide +kernel
theorem d_Law_law_1582 : decode b_Law_law 1582 = .ok (.i2l, 1) := by decide +kernel
theorem d_Law_law_1583 : decode b_Law_law 1583 = .ok (.lcmp, 1) := by decide +kernel
theorem d_Law_law_1584 : decode b_Law_law 1584 = .ok (.ifCond .eq 5, 3) := by decide +kernel
theorem d_Law_law_1589 : decode b_Law_law 1589 = .ok (.goto 59, 3) := by decide +kernel
theorem d_Law_law_1592 : decode b_Law_law 1592 = .ok (.aload_n 1, 1) := by decide +kernel
theorem d_Law_law_1593 : decode b_Law_law 1593 = .ok (.aload_n 0, 1) := by decide +kernel
theorem d_Law_law_1594 : decode b_Law_law 1594 = .ok (.iload 4, 2) := by decide +kernel
theorem d_Law_law_1596 : decode b_Law_law 1596 = .ok (.iconst 1, 1) := by decide +kernel
theorem d_Law_law_1597 : decode b_Law_law 1597 = .ok (.iadd, 1) := by decide +kernel
theorem d_Law_law_1598 : decode b_Law_law 1598 = .ok (.iaload, 1) := by decide +kernel
theorem d_Law_law_1599 : decode b_Law_law 1599 = .ok (.aload_n 3, 1) := by decide +kernel
theorem d_Law_law_1600 : decode b_Law_law 1600 = .ok (.invokestatic 164, 3) := by decide +kernel
theorem d_Law_law_1603 : decode b_Law_law 1603 = .ok (.istore 5, 2) := by decide +kernel
theorem d_Law_law_1605 : decode b_Law_law 1605 = .ok (.aload_n 2, 1) := by decide +kernel
theorem d_Law_law_1606 : decode b_Law_law 1606 = .ok (.aload_n 0, 1) := by decide +kernel
theorem d_Law_law_1607 : decode b_Law_law 1607 = .ok (.iload 4, 2) := by decide +kernel
theorem d_Law_law_1609 : decode b_Law_law 1609 = .ok (.iconst 1, 1) := by decide +kernel
theorem d_Law_law_1610 : decode b_Law_law 1610 = .ok (.iadd, 1) := by decide +kernel
theorem d_Law_law_1611 : decode b_Law_law 1611 = .ok (.iaload, 1) := by decide +kernel
theorem d_Law_law_1612 : decode b_Law_law 1612 = .ok (.invokevirtual 166, 3) := by decide +kernel
theorem d_Law_law_1615 : decode b_Law_law 1615 = .ok (.istore 6, 2) := by decide +kernel
theorem d_Law_law_1617 : decode b_Law_law 1617 = .ok (.aload_n 2, 1) := by decide +kernel
theorem d_Law_law_1618 : decode b_Law_law 1618 = .ok (.invokevirtual 97, 3) := by decide +kernel
theorem d_Law_law_1621 : decode b_Law_law 1621 = .ok (.iload 5, 2) := by decide +kernel
theorem d_Law_law_1623 : decode b_Law_law 1623 = .ok (.if_icmp .eq 5, 3) := by decide +kernel
theorem d_Law_law_1628 : decode b_Law_law 1628 = .ok (.iload 5, 2) := by decide +kernel
theorem d_Law_law_1630 : decode b_Law_law 1630 = .ok (.ifCond .ne 15, 3) := by decide +kernel
theorem d_Law_law_1633 : decode b_Law_law 1633 = .ok (.aload_n 3, 1) := by decide +kernel
theorem d_Law_law_1634 : decode b_Law_law 1634 = .ok (.iconst 0, 1) := by decide +kernel
theorem d_Law_law_1635 : decode b_Law_law 1635 = .ok (.laload, 1) := by decide +kernel
theorem d_Law_law_1636 : decode b_Law_law 1636 = .ok (.iload 6, 2) := by decide +kernel
theorem d_Law_law_1638 : decode b_Law_law 1638 = .ok (.i2l, 1) := by decide +kernel
theorem d_Law_law_1639 : decode b_Law_law 1639 = .ok (.lcmp, 1) := by decide +kernel
theorem d_Law_law_1640 : decode b_Law_law 1640 = .ok (.ifCond .eq 5, 3) := by decide +kernel
theorem d_Law_law_1645 : decode b_Law_law 1645 = .ok (.goto 3, 3) := by decide +kernel
theorem d_Law_law_1648 : decode b_Law_law 1648 = .ok (.iinc 4 5, 3) := by decide +kernel
theorem d_Law_law_1651 : decode b_Law_law 1651 = .ok (.goto (-1628), 3) := by decide +kernel
theorem d_Law_law_1654 : decode b_Law_law 1654 = .ok (.iconst 1, 1) := by decide +kernel
theorem d_Law_law_1655 : decode b_Law_law 1655 = .ok (.ireturn, 1) := by decide +kernel
