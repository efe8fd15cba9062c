theorem dL_law_1498 : decode cL_law 1498 = .ok (.istore 5, 2) := by decide +kernel
theorem dL_law_1500 : decode cL_law 1500 = .ok (.aload_n 2, 1) := by decide +kernel
theorem dL_law_1501 : decode cL_law 1501 = .ok (.aload_n 0, 1) := by decide +kernel
theorem dL_law_1502 : decode cL_law 1502 = .ok (.iload 4, 2) := by decide +kernel
theorem dL_law_1504 : decode cL_law 1504 = .ok (.iconst 1, 1) := by decide +kernel
theorem dL_law_1505 : decode cL_law 1505 = .ok (.iadd, 1) := by decide +kernel
theorem dL_law_1506 : decode cL_law 1506 = .ok (.iaload, 1) := by decide +kernel
theorem dL_law_1507 : decode cL_law 1507 = .ok (.aload_n 0, 1) := by decide +kernel
theorem dL_law_1508 : decode cL_law 1508 = .ok (.iload 4, 2) := by decide +kernel
theorem dL_law_1510 : decode cL_law 1510 = .ok (.iconst 2, 1) := by decide +kernel
theorem dL_law_1511 : decode cL_law 1511 = .ok (.iadd, 1) := by decide +kernel
theorem dL_law_1512 : decode cL_law 1512 = .ok (.iaload, 1) := by decide +kernel
theorem dL_law_1513 : decode cL_law 1513 = .ok (.aload_n 0, 1) := by decide +kernel
theorem dL_law_1514 : decode cL_law 1514 = .ok (.iload 4, 2) := by decide +kernel
theorem dL_law_1516 : decode cL_law 1516 = .ok (.iconst 3, 1) := by decide +kernel
theorem dL_law_1517 : decode cL_law 1517 = .ok (.iadd, 1) := by decide +kernel
theorem dL_law_1518 : decode cL_law 1518 = .ok (.iaload, 1) := by decide +kernel
theorem dL_law_1519 : decode cL_law 1519 = .ok (.aload_n 0, 1) := by decide +kernel
theorem dL_law_1520 : decode cL_law 1520 = .ok (.iload 4, 2) := by decide +kernel
theorem dL_law_1522 : decode cL_law 1522 = .ok (.iconst 4, 1) := by decide +kernel
theorem dL_law_1523 : decode cL_law 1523 = .ok (.iadd, 1) := by decide +kernel
theorem dL_law_1524 : decode cL_law 1524 = .ok (.iaload, 1) := by decide +kernel
theorem dL_law_1525 : decode cL_law 1525 = .ok (.invokevirtual 183, 3) := by decide +kernel
theorem dL_law_1528 : decode cL_law 1528 = .ok (.istore 6, 2) := by decide +kernel
theorem dL_law_1530 : decode cL_law 1530 = .ok (.aload_n 2, 1) := by decide +kernel
theorem dL_law_1531 : decode cL_law 1531 = .ok (.invokevirtual 122, 3) := by decide +kernel
theorem dL_law_1534 : decode cL_law 1534 = .ok (.iload 5, 2) := by decide +kernel
theorem dL_law_1536 : decode cL_law 1536 = .ok (.if_icmp .eq 5, 3) := by decide +kernel
theorem dL_law_1539 : decode cL_law 1539 = .ok (.iconst 0, 1) := by decide +kernel
theorem dL_law_1540 : decode cL_law 1540 = .ok (.ireturn, 1) := by decide +kernel
theorem dL_law_1541 : decode cL_law 1541 = .ok (.iload 5, 2) := by decide +kernel
theorem dL_law_1543 : decode cL_law 1543 = .ok (.ifCond .ne 15, 3) := by decide +kernel
theorem dL_law_1546 : decode cL_law 1546 = .ok (.aload_n 3, 1) := by decide +kernel
theorem dL_law_1547 : decode cL_law 1547 = .ok (.iconst 0, 1) := by decide +kernel
theorem dL_law_1548 : decode cL_law 1548 = .ok (.laload, 1) := by decide +kernel
theorem dL_law_1549 : decode cL_law 1549 = .ok (.iload 6, 2) := by decide +kernel
theorem dL_law_1551 : decode cL_law 1551 = .ok (.i2l, 1) := by decide +kernel
theorem dL_law_1552 : decode cL_law 1552 = .ok (.lcmp, 1) := by decide +kernel
theorem dL_law_1553 : decode cL_law 1553 = .ok (.ifCond .eq 5, 3) := by decide +kernel
theorem dL_law_1556 : decode cL_law 1556 = .ok (.iconst 0, 1) := by decide +kernel
theorem dL_law_1557 : decode cL_law 1557 = .ok (.ireturn, 1) := by decide +kernel
theorem dL_law_1558 : decode cL_law 1558 = .ok (.goto 899, 3) := by decide +kernel
theorem dL_law_1561 : decode cL_law 1561 = .ok (.aload_n 1, 1) := by decide +kernel
theorem dL_law_1562 : decode cL_law 1562 = .ok (.aload_n 0, 1) := by decide +kernel
theorem dL_law_1563 : decode cL_law 1563 = .ok (.iload 4, 2) := by decide +kernel
theorem dL_law_1565 : decode cL_law 1565 = .ok (.iconst 1, 1) := by decide +kernel
theorem dL_law_1566 : decode cL_law 1566 = .ok (.iadd, 1) := by decide +kernel
theorem dL_law_1567 : decode cL_law 1567 = .ok (.iaload, 1) := by decide +kernel
theorem dL_law_1568 : decode cL_law 1568 = .ok (.aload_n 0, 1) := by decide +kernel
theorem dL_law_1569 : decode cL_law 1569 = .ok (.iload 4, 2) := by decide +kernel
theorem dL_law_1571 : decode cL_law 1571 = .ok (.iconst 2, 1) := by decide +kernel
theorem dL_law_1572 : decode cL_law 1572 = .ok (.iadd, 1) := by decide +kernel
theorem dL_law_1573 : decode cL_law 1573 = .ok (.iaload, 1) := by decide +kernel
theorem dL_law_1574 : decode cL_law 1574 = .ok (.aload_n 0, 1) := by decide +kernel
theorem dL_law_1575 : decode cL_law 1575 = .ok (.iload 4, 2) := by decide +kernel
theorem dL_law_1577 : decode cL_law 1577 = .ok (.iconst 3, 1) := by decide +kernel
theorem dL_law_1578 : decode cL_law 1578 = .ok (.iadd, 1) := by decide +kernel
theorem dL_law_1579 : decode cL_law 1579 = .ok (.iaload, 1) := by decide +kernel
theorem dL_law_1580 : decode cL_law 1580 = .ok (.aload_n 3, 1) := by decide +kernel
theorem dL_law_1581 : decode cL_law 1581 = .ok (.invokestatic 184, 3) := by decide +kernel
theorem dL_law_1584 : decode cL_law 1584 = .ok (.istore 5, 2) := by decide +kernel
theorem dL_law_1586 : decode cL_law 1586 = .ok (.aload_n 2, 1) := by decide +kernel
theorem dL_law_1587 : decode cL_law 1587 = .ok (.aload_n 0, 1) := by decide +kernel
theorem dL_law_1588 : decode cL_law 1588 = .ok (.iload 4, 2) := by decide +kernel
theorem dL_law_1590 : decode cL_law 1590 = .ok (.iconst 1, 1) := by decide +kernel
theorem dL_law_1591 : decode cL_law 1591 = .ok (.iadd, 1) := by decide +kernel
theorem dL_law_1592 : decode cL_law 1592 = .ok (.iaload, 1) := by decide +kernel
theorem dL_law_1593 : decode cL_law 1593 = .ok (.aload_n 0, 1) := by decide +kernel
theorem dL_law_1594 : decode cL_law 1594 = .ok (.iload 4, 2) := by decide +kernel
theorem dL_law_1596 : decode cL_law 1596 = .ok (.iconst 2, 1) := by decide +kernel
theorem dL_law_1597 : decode cL_law 1597 = .ok (.iadd, 1) := by decide +kernel
theorem dL_law_1598 : decode cL_law 1598 = .ok (.iaload, 1) := by decide +kernel
theorem dL_law_1599 : decode cL_law 1599 = .ok (.aload_n 0, 1) := by decide +kernel
theorem dL_law_1600 : decode cL_law 1600 = .ok (.iload 4, 2) := by decide +kernel
theorem dL_law_1602 : decode cL_law 1602 = .ok (.iconst 3, 1) := by decide +kernel
theorem dL_law_1603 : decode cL_law 1603 = .ok (.iadd, 1) := by decide +kernel
theorem dL_law_1604 : decode cL_law 1604 = .ok (.iaload, 1) := by decide +kernel
theorem dL_law_1605 : decode cL_law 1605 = .ok (.invokevirtual 186, 3) := by decide +kernel
theorem dL_law_1608 : decode cL_law 1608 = .ok (.istore 6, 2) := by decide +kernel
theorem dL_law_1610 : decode cL_law 1610 = .ok (.aload_n 2, 1) := by decide +kernel
theorem dL_law_1611 : decode cL_law 1611 = .ok (.invokevirtual 122, 3) := by decide +kernel
theorem dL_law_1614 : decode cL_law 1614 = .ok (.iload 5, 2) := by decide +kernel
theorem dL_law_1616 : decode cL_law 1616 = .ok (.if_icmp .eq 5, 3) := by decide +kernel
theorem dL_law_1619 : decode cL_law 1619 = .ok (.iconst 0, 1) := by decide +kernel
theorem dL_law_1620 : decode cL_law 1620 = .ok (.ireturn, 1) := by decide +kernel
theorem dL_law_1621 : decode cL_law 1621 = .ok (.iload 5, 2) := by decide +kernel
theorem dL_law_1623 : decode cL_law 1623 = .ok (.ifCond .ne 15, 3) := by decide +kernel
theorem dL_law_1626 : decode cL_law 1626 = .ok (.aload_n 3, 1) := by decide +kernel
theorem dL_law_1627 : decode cL_law 1627 = .ok (.iconst 0, 1) := by decide +kernel
theorem dL_law_1628 : decode cL_law 1628 = .ok (.laload, 1) := by decide +kernel
theorem dL_law_1629 : decode cL_law 1629 = .ok (.iload 6, 2) := by decide +kernel
theorem dL_law_1631 : decode cL_law 1631 = .ok (.i2l, 1) := by decide +kernel
theorem dL_law_1632 : decode cL_law 1632 = .ok (.lcmp, 1) := by decide +kernel
theorem dL_law_1633 : decode cL_law 1633 = .ok (.ifCond .eq 5, 3) := by decide +kernel
theorem dL_law_1636 : decode cL_law 1636 = .ok (.iconst 0, 1) := by decide +kernel
theorem dL_law_1637 : decode cL_law 1637 = .ok (.ireturn, 1) := by decide +kernel
theorem dL_law_1638 : decode cL_law 1638 = .ok (.goto 819, 3) := by decide +kernel
theorem dL_law_1641 : decode cL_law 1641 = .ok (.aload_n 1, 1) := by decide +kernel
theorem dL_law_1642 : decode cL_law 1642 = .ok (.aload_n 0, 1) := by decide +kernel
theorem dL_law_1643 : decode cL_law 1643 = .ok (.iload 4, 2) := by decide +kernel
theorem dL_law_1645 : decode cL_law 1645 = .ok (.iconst 1, 1) := by decide +kernel
theorem dL_law_1646 : decode cL_law 1646 = .ok (.iadd, 1) := by decide +kernel
theorem dL_law_1647 : decode cL_law 1647 = .ok (.iaload, 1) := by decide +kernel
theorem dL_law_1648 : decode cL_law 1648 = .ok (.aload_n 0, 1) := by decide +kernel
theorem dL_law_1649 : decode cL_law 1649 = .ok (.iload 4, 2) := by decide +kernel
theorem dL_law_1651 : decode cL_law 1651 = .ok (.iconst 2, 1) := by decide +kernel
theorem dL_law_1652 : decode cL_law 1652 = .ok (.iadd, 1) := by decide +kernel
theorem dL_law_1653 : decode cL_law 1653 = .ok (.iaload, 1) := by decide +kernel
theorem dL_law_1654 : decode cL_law 1654 = .ok (.aload_n 3, 1) := by decide +kernel
theorem dL_law_1655 : decode cL_law 1655 = .ok (.invokestatic 187, 3) := by decide +kernel
theorem dL_law_1658 : decode cL_law 1658 = .ok (.istore 5, 2) := by decide +kernel
theorem dL_law_1660 : decode cL_law 1660 = .ok (.aload_n 2, 1) := by decide +kernel
theorem dL_law_1661 : decode cL_law 1661 = .ok (.aload_n 0, 1) := by decide +kernel
theorem dL_law_1662 : decode cL_law 1662 = .ok (.iload 4, 2) := by decide +kernel
theorem dL_law_1664 : decode cL_law 1664 = .ok (.iconst 1, 1) := by decide +kernel
theorem dL_law_1665 : decode cL_law 1665 = .ok (.iadd, 1) := by decide +kernel
theorem dL_law_1666 : decode cL_law 1666 = .ok (.iaload, 1) := by decide +kernel
theorem dL_law_1667 : decode cL_law 1667 = .ok (.aload_n 0, 1) := by decide +kernel
theorem dL_law_1668 : decode cL_law 1668 = .ok (.iload 4, 2) := by decide +kernel
theorem dL_law_1670 : decode cL_law 1670 = .ok (.iconst 2, 1) := by decide +kernel
theorem dL_law_1671 : decode cL_law 1671 = .ok (.iadd, 1) := by decide +kernel
theorem dL_law_1672 : decode cL_law 1672 = .ok (.iaload, 1) := by decide +kernel
theorem dL_law_1673 : decode cL_law 1673 = .ok (.invokevirtual 189, 3) := by decide +kernel
theorem dL_law_1676 : decode cL_law 1676 = .ok (.istore 6, 2) := by decide +kernel
theorem dL_law_1678 : decode cL_law 1678 = .ok (.aload_n 2, 1) := by decide +kernel
theorem dL_law_1679 : decode cL_law 1679 = .ok (.invokevirtual 122, 3) := by decide +kernel
theorem dL_law_1682 : decode cL_law 1682 = .ok (.iload 5, 2) := by decide +kernel
theorem dL_law_1684 : decode cL_law 1684 = .ok (.if_icmp .eq 5, 3) := by decide +kernel
theorem dL_law_1687 : decode cL_law 1687 = .ok (.iconst 0, 1) := by decide +kernel
theorem dL_law_1688 : decode cL_law 1688 = .ok (.ireturn, 1) := by decide +kernel
theorem dL_law_1689 : decode cL_law 1689 = .ok (.iload 5, 2) := by decide +kernel
theorem dL_law_1691 : decode cL_law 1691 = .ok (.ifCond .ne 15, 3) := by decide +kernel
theorem dL_law_1694 : decode cL_law 1694 = .ok (.aload_n 3, 1) := by decide +kernel
theorem dL_law_1695 : decode cL_law 1695 = .ok (.iconst 0, 1) := by decide +kernel
theorem dL_law_1696 : decode cL_law 1696 = .ok (.laload, 1) := by decide +kernel
theorem dL_law_1697 : decode cL_law 1697 = .ok (.iload 6, 2) := by decide +kernel
theorem dL_law_1699 : decode cL_law 1699 = .ok (.i2l, 1) := by decide +kernel
theorem dL_law_1700 : decode cL_law 1700 = .ok (.lcmp, 1) := by decide +kernel
theorem dL_law_1701 : decode cL_law 1701 = .ok (.ifCond .eq 5, 3) := by decide +kernel
theorem dL_law_1704 : decode cL_law 1704 = .ok (.iconst 0, 1) := by decide +kernel
theorem dL_law_1705 : decode cL_law 1705 = .ok (.ireturn, 1) := by decide +kernel
theorem dL_law_1706 : decode cL_law 1706 = .ok (.goto 751, 3) := by decide +kernel
theorem dL_law_1709 : decode cL_law 1709 = .ok (.aload_n 1, 1) := by decide +kernel
theorem dL_law_1710 : decode cL_law 1710 = .ok (.aload_n 0, 1) := by decide +kernel
theorem dL_law_1711 : decode cL_law 1711 = .ok (.iload 4, 2) := by decide +kernel
theorem dL_law_1713 : decode cL_law 1713 = .ok (.iconst 1, 1) := by decide +kernel
theorem dL_law_1714 : decode cL_law 1714 = .ok (.iadd, 1) := by decide +kernel
theorem dL_law_1715 : decode cL_law 1715 = .ok (.iaload, 1) := by decide +kernel
theorem dL_law_1716 : decode cL_law 1716 = .ok (.aload_n 0, 1) := by decide +kernel
theorem dL_law_1717 : decode cL_law 1717 = .ok (.iload 4, 2) := by decide +kernel
