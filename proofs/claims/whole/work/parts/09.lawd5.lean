theorem dL_law_1474 : decode cL_law 1474 = .ok (.iload 4, 2) := by decide +kernel
theorem dL_law_1476 : decode cL_law 1476 = .ok (.iconst 2, 1) := by decide +kernel
theorem dL_law_1477 : decode cL_law 1477 = .ok (.iadd, 1) := by decide +kernel
theorem dL_law_1478 : decode cL_law 1478 = .ok (.iaload, 1) := by decide +kernel
theorem dL_law_1479 : decode cL_law 1479 = .ok (.i2l, 1) := by decide +kernel
theorem dL_law_1480 : decode cL_law 1480 = .ok (.ldc2_w 176, 3) := by decide +kernel
theorem dL_law_1483 : decode cL_law 1483 = .ok (.land, 1) := by decide +kernel
theorem dL_law_1484 : decode cL_law 1484 = .ok (.lor, 1) := by decide +kernel
theorem dL_law_1485 : decode cL_law 1485 = .ok (.aload_n 0, 1) := by decide +kernel
theorem dL_law_1486 : decode cL_law 1486 = .ok (.iload 4, 2) := by decide +kernel
theorem dL_law_1488 : decode cL_law 1488 = .ok (.iconst 3, 1) := by decide +kernel
theorem dL_law_1489 : decode cL_law 1489 = .ok (.iadd, 1) := by decide +kernel
theorem dL_law_1490 : decode cL_law 1490 = .ok (.iaload, 1) := by decide +kernel
theorem dL_law_1491 : decode cL_law 1491 = .ok (.aload_n 3, 1) := by decide +kernel
theorem dL_law_1492 : decode cL_law 1492 = .ok (.invokestatic 178, 3) := by decide +kernel
theorem dL_law_1495 : decode cL_law 1495 = .ok (.istore 5, 2) := by decide +kernel
theorem dL_law_1497 : decode cL_law 1497 = .ok (.aload_n 2, 1) := by decide +kernel
theorem dL_law_1498 : decode cL_law 1498 = .ok (.aload_n 0, 1) := by decide +kernel
theorem dL_law_1499 : decode cL_law 1499 = .ok (.iload 4, 2) := by decide +kernel
theorem dL_law_1501 : decode cL_law 1501 = .ok (.iconst 1, 1) := by decide +kernel
theorem dL_law_1502 : decode cL_law 1502 = .ok (.iadd, 1) := by decide +kernel
theorem dL_law_1503 : decode cL_law 1503 = .ok (.iaload, 1) := by decide +kernel
theorem dL_law_1504 : decode cL_law 1504 = .ok (.i2l, 1) := by decide +kernel
theorem dL_law_1505 : decode cL_law 1505 = .ok (.bipush 32, 2) := by decide +kernel
theorem dL_law_1507 : decode cL_law 1507 = .ok (.lshl, 1) := by decide +kernel
theorem dL_law_1508 : decode cL_law 1508 = .ok (.aload_n 0, 1) := by decide +kernel
theorem dL_law_1509 : decode cL_law 1509 = .ok (.iload 4, 2) := by decide +kernel
theorem dL_law_1511 : decode cL_law 1511 = .ok (.iconst 2, 1) := by decide +kernel
theorem dL_law_1512 : decode cL_law 1512 = .ok (.iadd, 1) := by decide +kernel
theorem dL_law_1513 : decode cL_law 1513 = .ok (.iaload, 1) := by decide +kernel
theorem dL_law_1514 : decode cL_law 1514 = .ok (.i2l, 1) := by decide +kernel
theorem dL_law_1515 : decode cL_law 1515 = .ok (.ldc2_w 176, 3) := by decide +kernel
theorem dL_law_1518 : decode cL_law 1518 = .ok (.land, 1) := by decide +kernel
theorem dL_law_1519 : decode cL_law 1519 = .ok (.lor, 1) := by decide +kernel
theorem dL_law_1520 : decode cL_law 1520 = .ok (.aload_n 0, 1) := by decide +kernel
theorem dL_law_1521 : decode cL_law 1521 = .ok (.iload 4, 2) := by decide +kernel
theorem dL_law_1523 : decode cL_law 1523 = .ok (.iconst 3, 1) := by decide +kernel
theorem dL_law_1524 : decode cL_law 1524 = .ok (.iadd, 1) := by decide +kernel
theorem dL_law_1525 : decode cL_law 1525 = .ok (.iaload, 1) := by decide +kernel
theorem dL_law_1526 : decode cL_law 1526 = .ok (.invokevirtual 181, 3) := by decide +kernel
theorem dL_law_1529 : decode cL_law 1529 = .ok (.istore 6, 2) := by decide +kernel
theorem dL_law_1531 : decode cL_law 1531 = .ok (.aload_n 2, 1) := by decide +kernel
theorem dL_law_1532 : decode cL_law 1532 = .ok (.invokevirtual 102, 3) := by decide +kernel
theorem dL_law_1535 : decode cL_law 1535 = .ok (.iload 5, 2) := by decide +kernel
theorem dL_law_1537 : decode cL_law 1537 = .ok (.if_icmp .eq 5, 3) := by decide +kernel
theorem dL_law_1540 : decode cL_law 1540 = .ok (.iconst 0, 1) := by decide +kernel
theorem dL_law_1541 : decode cL_law 1541 = .ok (.ireturn, 1) := by decide +kernel
theorem dL_law_1542 : decode cL_law 1542 = .ok (.iload 5, 2) := by decide +kernel
theorem dL_law_1544 : decode cL_law 1544 = .ok (.ifCond .ne 15, 3) := by decide +kernel
theorem dL_law_1547 : decode cL_law 1547 = .ok (.aload_n 3, 1) := by decide +kernel
theorem dL_law_1548 : decode cL_law 1548 = .ok (.iconst 0, 1) := by decide +kernel
theorem dL_law_1549 : decode cL_law 1549 = .ok (.laload, 1) := by decide +kernel
theorem dL_law_1550 : decode cL_law 1550 = .ok (.iload 6, 2) := by decide +kernel
theorem dL_law_1552 : decode cL_law 1552 = .ok (.i2l, 1) := by decide +kernel
theorem dL_law_1553 : decode cL_law 1553 = .ok (.lcmp, 1) := by decide +kernel
theorem dL_law_1554 : decode cL_law 1554 = .ok (.ifCond .eq 5, 3) := by decide +kernel
theorem dL_law_1557 : decode cL_law 1557 = .ok (.iconst 0, 1) := by decide +kernel
theorem dL_law_1558 : decode cL_law 1558 = .ok (.ireturn, 1) := by decide +kernel
theorem dL_law_1559 : decode cL_law 1559 = .ok (.goto 155, 3) := by decide +kernel
theorem dL_law_1562 : decode cL_law 1562 = .ok (.aload_n 1, 1) := by decide +kernel
theorem dL_law_1563 : decode cL_law 1563 = .ok (.aload_n 0, 1) := by decide +kernel
theorem dL_law_1564 : decode cL_law 1564 = .ok (.iload 4, 2) := by decide +kernel
theorem dL_law_1566 : decode cL_law 1566 = .ok (.iconst 1, 1) := by decide +kernel
theorem dL_law_1567 : decode cL_law 1567 = .ok (.iadd, 1) := by decide +kernel
theorem dL_law_1568 : decode cL_law 1568 = .ok (.iaload, 1) := by decide +kernel
theorem dL_law_1569 : decode cL_law 1569 = .ok (.aload_n 3, 1) := by decide +kernel
theorem dL_law_1570 : decode cL_law 1570 = .ok (.invokestatic 182, 3) := by decide +kernel
theorem dL_law_1573 : decode cL_law 1573 = .ok (.istore 5, 2) := by decide +kernel
theorem dL_law_1575 : decode cL_law 1575 = .ok (.aload_n 2, 1) := by decide +kernel
theorem dL_law_1576 : decode cL_law 1576 = .ok (.aload_n 0, 1) := by decide +kernel
theorem dL_law_1577 : decode cL_law 1577 = .ok (.iload 4, 2) := by decide +kernel
theorem dL_law_1579 : decode cL_law 1579 = .ok (.iconst 1, 1) := by decide +kernel
theorem dL_law_1580 : decode cL_law 1580 = .ok (.iadd, 1) := by decide +kernel
theorem dL_law_1581 : decode cL_law 1581 = .ok (.iaload, 1) := by decide +kernel
theorem dL_law_1582 : decode cL_law 1582 = .ok (.invokevirtual 184, 3) := by decide +kernel
theorem dL_law_1585 : decode cL_law 1585 = .ok (.istore 6, 2) := by decide +kernel
theorem dL_law_1587 : decode cL_law 1587 = .ok (.aload_n 2, 1) := by decide +kernel
theorem dL_law_1588 : decode cL_law 1588 = .ok (.invokevirtual 102, 3) := by decide +kernel
theorem dL_law_1591 : decode cL_law 1591 = .ok (.iload 5, 2) := by decide +kernel
theorem dL_law_1593 : decode cL_law 1593 = .ok (.if_icmp .eq 5, 3) := by decide +kernel
theorem dL_law_1596 : decode cL_law 1596 = .ok (.iconst 0, 1) := by decide +kernel
theorem dL_law_1597 : decode cL_law 1597 = .ok (.ireturn, 1) := by decide +kernel
theorem dL_law_1598 : decode cL_law 1598 = .ok (.iload 5, 2) := by decide +kernel
theorem dL_law_1600 : decode cL_law 1600 = .ok (.ifCond .ne 15, 3) := by decide +kernel
theorem dL_law_1603 : decode cL_law 1603 = .ok (.aload_n 3, 1) := by decide +kernel
theorem dL_law_1604 : decode cL_law 1604 = .ok (.iconst 0, 1) := by decide +kernel
theorem dL_law_1605 : decode cL_law 1605 = .ok (.laload, 1) := by decide +kernel
theorem dL_law_1606 : decode cL_law 1606 = .ok (.iload 6, 2) := by decide +kernel
theorem dL_law_1608 : decode cL_law 1608 = .ok (.i2l, 1) := by decide +kernel
theorem dL_law_1609 : decode cL_law 1609 = .ok (.lcmp, 1) := by decide +kernel
theorem dL_law_1610 : decode cL_law 1610 = .ok (.ifCond .eq 5, 3) := by decide +kernel
theorem dL_law_1613 : decode cL_law 1613 = .ok (.iconst 0, 1) := by decide +kernel
theorem dL_law_1614 : decode cL_law 1614 = .ok (.ireturn, 1) := by decide +kernel
theorem dL_law_1615 : decode cL_law 1615 = .ok (.goto 99, 3) := by decide +kernel
theorem dL_law_1618 : decode cL_law 1618 = .ok (.aload_n 1, 1) := by decide +kernel
theorem dL_law_1619 : decode cL_law 1619 = .ok (.invokevirtual 185, 3) := by decide +kernel
theorem dL_law_1622 : decode cL_law 1622 = .ok (.aload_n 2, 1) := by decide +kernel
theorem dL_law_1623 : decode cL_law 1623 = .ok (.invokevirtual 188, 3) := by decide +kernel
theorem dL_law_1626 : decode cL_law 1626 = .ok (.if_icmp .eq 88, 3) := by decide +kernel
theorem dL_law_1629 : decode cL_law 1629 = .ok (.iconst 0, 1) := by decide +kernel
theorem dL_law_1630 : decode cL_law 1630 = .ok (.ireturn, 1) := by decide +kernel
theorem dL_law_1631 : decode cL_law 1631 = .ok (.aload_n 1, 1) := by decide +kernel
theorem dL_law_1632 : decode cL_law 1632 = .ok (.invokevirtual 189, 3) := by decide +kernel
theorem dL_law_1635 : decode cL_law 1635 = .ok (.aload_n 2, 1) := by decide +kernel
theorem dL_law_1636 : decode cL_law 1636 = .ok (.invokevirtual 192, 3) := by decide +kernel
theorem dL_law_1639 : decode cL_law 1639 = .ok (.if_icmp .eq 75, 3) := by decide +kernel
theorem dL_law_1642 : decode cL_law 1642 = .ok (.iconst 0, 1) := by decide +kernel
theorem dL_law_1643 : decode cL_law 1643 = .ok (.ireturn, 1) := by decide +kernel
theorem dL_law_1644 : decode cL_law 1644 = .ok (.aload_n 1, 1) := by decide +kernel
theorem dL_law_1645 : decode cL_law 1645 = .ok (.aload_n 0, 1) := by decide +kernel
theorem dL_law_1646 : decode cL_law 1646 = .ok (.iload 4, 2) := by decide +kernel
theorem dL_law_1648 : decode cL_law 1648 = .ok (.iconst 1, 1) := by decide +kernel
theorem dL_law_1649 : decode cL_law 1649 = .ok (.iadd, 1) := by decide +kernel
theorem dL_law_1650 : decode cL_law 1650 = .ok (.iaload, 1) := by decide +kernel
theorem dL_law_1651 : decode cL_law 1651 = .ok (.aload_n 3, 1) := by decide +kernel
theorem dL_law_1652 : decode cL_law 1652 = .ok (.invokestatic 193, 3) := by decide +kernel
theorem dL_law_1655 : decode cL_law 1655 = .ok (.istore 5, 2) := by decide +kernel
theorem dL_law_1657 : decode cL_law 1657 = .ok (.aload_n 2, 1) := by decide +kernel
theorem dL_law_1658 : decode cL_law 1658 = .ok (.aload_n 0, 1) := by decide +kernel
theorem dL_law_1659 : decode cL_law 1659 = .ok (.iload 4, 2) := by decide +kernel
theorem dL_law_1661 : decode cL_law 1661 = .ok (.iconst 1, 1) := by decide +kernel
theorem dL_law_1662 : decode cL_law 1662 = .ok (.iadd, 1) := by decide +kernel
theorem dL_law_1663 : decode cL_law 1663 = .ok (.iaload, 1) := by decide +kernel
theorem dL_law_1664 : decode cL_law 1664 = .ok (.invokevirtual 195, 3) := by decide +kernel
theorem dL_law_1667 : decode cL_law 1667 = .ok (.istore 6, 2) := by decide +kernel
theorem dL_law_1669 : decode cL_law 1669 = .ok (.aload_n 2, 1) := by decide +kernel
theorem dL_law_1670 : decode cL_law 1670 = .ok (.invokevirtual 102, 3) := by decide +kernel
theorem dL_law_1673 : decode cL_law 1673 = .ok (.iload 5, 2) := by decide +kernel
theorem dL_law_1675 : decode cL_law 1675 = .ok (.if_icmp .eq 5, 3) := by decide +kernel
theorem dL_law_1678 : decode cL_law 1678 = .ok (.iconst 0, 1) := by decide +kernel
theorem dL_law_1679 : decode cL_law 1679 = .ok (.ireturn, 1) := by decide +kernel
theorem dL_law_1680 : decode cL_law 1680 = .ok (.iload 5, 2) := by decide +kernel
theorem dL_law_1682 : decode cL_law 1682 = .ok (.ifCond .ne 15, 3) := by decide +kernel
theorem dL_law_1685 : decode cL_law 1685 = .ok (.aload_n 3, 1) := by decide +kernel
theorem dL_law_1686 : decode cL_law 1686 = .ok (.iconst 0, 1) := by decide +kernel
theorem dL_law_1687 : decode cL_law 1687 = .ok (.laload, 1) := by decide +kernel
theorem dL_law_1688 : decode cL_law 1688 = .ok (.iload 6, 2) := by decide +kernel
theorem dL_law_1690 : decode cL_law 1690 = .ok (.i2l, 1) := by decide +kernel
theorem dL_law_1691 : decode cL_law 1691 = .ok (.lcmp, 1) := by decide +kernel
theorem dL_law_1692 : decode cL_law 1692 = .ok (.ifCond .eq 5, 3) := by decide +kernel
theorem dL_law_1695 : decode cL_law 1695 = .ok (.iconst 0, 1) := by decide +kernel
theorem dL_law_1696 : decode cL_law 1696 = .ok (.ireturn, 1) := by decide +kernel
theorem dL_law_1697 : decode cL_law 1697 = .ok (.goto 17, 3) := by decide +kernel
theorem dL_law_1700 : decode cL_law 1700 = .ok (.aload_n 1, 1) := by decide +kernel
theorem dL_law_1701 : decode cL_law 1701 = .ok (.invokevirtual 196, 3) := by decide +kernel
theorem dL_law_1704 : decode cL_law 1704 = .ok (.aload_n 2, 1) := by decide +kernel
theorem dL_law_1705 : decode cL_law 1705 = .ok (.invokevirtual 200, 3) := by decide +kernel
theorem dL_law_1708 : decode cL_law 1708 = .ok (.lcmp, 1) := by decide +kernel
theorem dL_law_1709 : decode cL_law 1709 = .ok (.ifCond .eq 5, 3) := by decide +kernel
theorem dL_law_1712 : decode cL_law 1712 = .ok (.iconst 0, 1) := by decide +kernel
theorem dL_law_1713 : decode cL_law 1713 = .ok (.ireturn, 1) := by decide +kernel
theorem dL_law_1714 : decode cL_law 1714 = .ok (.iinc 4 4, 3) := by decide +kernel
theorem dL_law_1717 : decode cL_law 1717 = .ok (.goto (-1694), 3) := by decide +kernel
theorem dL_law_1720 : decode cL_law 1720 = .ok (.iconst 1, 1) := by decide +kernel
theorem dL_law_1721 : decode cL_law 1721 = .ok (.ireturn, 1) := by decide +kernel
