/-! the law's instructions -/
theorem dL_law_1387 : decode cL_law 1387 = .ok (.laload, 1) := by decide +kernel
theorem dL_law_1388 : decode cL_law 1388 = .ok (.invokestatic 126, 3) := by decide +kernel
theorem dL_law_1391 : decode cL_law 1391 = .ok (.istore 20, 2) := by decide +kernel
theorem dL_law_1393 : decode cL_law 1393 = .ok (.iload 10, 2) := by decide +kernel
theorem dL_law_1395 : decode cL_law 1395 = .ok (.bipush 16, 2) := by decide +kernel
theorem dL_law_1397 : decode cL_law 1397 = .ok (.if_icmp .ne 14, 3) := by decide +kernel
theorem dL_law_1400 : decode cL_law 1400 = .ok (.aload_n 1, 1) := by decide +kernel
theorem dL_law_1401 : decode cL_law 1401 = .ok (.iload 11, 2) := by decide +kernel
theorem dL_law_1403 : decode cL_law 1403 = .ok (.iload 16, 2) := by decide +kernel
theorem dL_law_1405 : decode cL_law 1405 = .ok (.invokevirtual 150, 3) := by decide +kernel
theorem dL_law_1408 : decode cL_law 1408 = .ok (.goto 27, 3) := by decide +kernel
theorem dL_law_1411 : decode cL_law 1411 = .ok (.iload 10, 2) := by decide +kernel
theorem dL_law_1413 : decode cL_law 1413 = .ok (.bipush 17, 2) := by decide +kernel
theorem dL_law_1415 : decode cL_law 1415 = .ok (.if_icmp .ne 14, 3) := by decide +kernel
theorem dL_law_1418 : decode cL_law 1418 = .ok (.aload_n 1, 1) := by decide +kernel
theorem dL_law_1419 : decode cL_law 1419 = .ok (.iload 11, 2) := by decide +kernel
theorem dL_law_1421 : decode cL_law 1421 = .ok (.iload 17, 2) := by decide +kernel
theorem dL_law_1423 : decode cL_law 1423 = .ok (.invokevirtual 178, 3) := by decide +kernel
theorem dL_law_1426 : decode cL_law 1426 = .ok (.goto 9, 3) := by decide +kernel
theorem dL_law_1429 : decode cL_law 1429 = .ok (.aload_n 1, 1) := by decide +kernel
theorem dL_law_1430 : decode cL_law 1430 = .ok (.iload 11, 2) := by decide +kernel
theorem dL_law_1432 : decode cL_law 1432 = .ok (.invokevirtual 181, 3) := by decide +kernel
theorem dL_law_1435 : decode cL_law 1435 = .ok (.iload 20, 2) := by decide +kernel
theorem dL_law_1437 : decode cL_law 1437 = .ok (.if_icmp .ne 7, 3) := by decide +kernel
theorem dL_law_1440 : decode cL_law 1440 = .ok (.iconst 1, 1) := by decide +kernel
theorem dL_law_1441 : decode cL_law 1441 = .ok (.goto 4, 3) := by decide +kernel
theorem dL_law_1444 : decode cL_law 1444 = .ok (.iconst 0, 1) := by decide +kernel
theorem dL_law_1445 : decode cL_law 1445 = .ok (.istore 14, 2) := by decide +kernel
theorem dL_law_1447 : decode cL_law 1447 = .ok (.aload_n 2, 1) := by decide +kernel
theorem dL_law_1448 : decode cL_law 1448 = .ok (.iload 11, 2) := by decide +kernel
theorem dL_law_1450 : decode cL_law 1450 = .ok (.lload 18, 2) := by decide +kernel
theorem dL_law_1452 : decode cL_law 1452 = .ok (.lastore, 1) := by decide +kernel
theorem dL_law_1453 : decode cL_law 1453 = .ok (.goto 281, 3) := by decide +kernel
theorem dL_law_1456 : decode cL_law 1456 = .ok (.iload 10, 2) := by decide +kernel
theorem dL_law_1458 : decode cL_law 1458 = .ok (.bipush 19, 2) := by decide +kernel
theorem dL_law_1460 : decode cL_law 1460 = .ok (.if_icmp .ne 153, 3) := by decide +kernel
theorem dL_law_1463 : decode cL_law 1463 = .ok (.aload_n 2, 1) := by decide +kernel
theorem dL_law_1464 : decode cL_law 1464 = .ok (.iload 11, 2) := by decide +kernel
theorem dL_law_1466 : decode cL_law 1466 = .ok (.laload, 1) := by decide +kernel
theorem dL_law_1467 : decode cL_law 1467 = .ok (.iconst 1, 1) := by decide +kernel
theorem dL_law_1468 : decode cL_law 1468 = .ok (.invokestatic 61, 3) := by decide +kernel
theorem dL_law_1471 : decode cL_law 1471 = .ok (.lstore 16, 2) := by decide +kernel
theorem dL_law_1473 : decode cL_law 1473 = .ok (.iload 9, 2) := by decide +kernel
theorem dL_law_1475 : decode cL_law 1475 = .ok (.bipush 11, 2) := by decide +kernel
theorem dL_law_1477 : decode cL_law 1477 = .ok (.ishr, 1) := by decide +kernel
theorem dL_law_1478 : decode cL_law 1478 = .ok (.lload 16, 2) := by decide +kernel
theorem dL_law_1480 : decode cL_law 1480 = .ok (.invokestatic 12, 3) := by decide +kernel
theorem dL_law_1483 : decode cL_law 1483 = .ok (.invokestatic 74, 3) := by decide +kernel
theorem dL_law_1486 : decode cL_law 1486 = .ok (.istore 18, 2) := by decide +kernel
theorem dL_law_1488 : decode cL_law 1488 = .ok (.iconst 1, 1) := by decide +kernel
theorem dL_law_1489 : decode cL_law 1489 = .ok (.iload 9, 2) := by decide +kernel
theorem dL_law_1491 : decode cL_law 1491 = .ok (.bipush 15, 2) := by decide +kernel
theorem dL_law_1493 : decode cL_law 1493 = .ok (.ishr, 1) := by decide +kernel
theorem dL_law_1494 : decode cL_law 1494 = .ok (.bipush 6, 2) := by decide +kernel
theorem dL_law_1496 : decode cL_law 1496 = .ok (.invokestatic 74, 3) := by decide +kernel
theorem dL_law_1499 : decode cL_law 1499 = .ok (.iadd, 1) := by decide +kernel
theorem dL_law_1500 : decode cL_law 1500 = .ok (.istore 19, 2) := by decide +kernel
theorem dL_law_1502 : decode cL_law 1502 = .ok (.iload 19, 2) := by decide +kernel
theorem dL_law_1504 : decode cL_law 1504 = .ok (.lload 16, 2) := by decide +kernel
theorem dL_law_1506 : decode cL_law 1506 = .ok (.invokestatic 12, 3) := by decide +kernel
theorem dL_law_1509 : decode cL_law 1509 = .ok (.if_icmp .gt 7, 3) := by decide +kernel
theorem dL_law_1512 : decode cL_law 1512 = .ok (.iconst 1, 1) := by decide +kernel
theorem dL_law_1513 : decode cL_law 1513 = .ok (.goto 4, 3) := by decide +kernel
theorem dL_law_1516 : decode cL_law 1516 = .ok (.iconst 0, 1) := by decide +kernel
theorem dL_law_1517 : decode cL_law 1517 = .ok (.istore 20, 2) := by decide +kernel
theorem dL_law_1519 : decode cL_law 1519 = .ok (.iconst 0, 1) := by decide +kernel
theorem dL_law_1520 : decode cL_law 1520 = .ok (.istore 21, 2) := by decide +kernel
theorem dL_law_1522 : decode cL_law 1522 = .ok (.iload 21, 2) := by decide +kernel
theorem dL_law_1524 : decode cL_law 1524 = .ok (.iload 19, 2) := by decide +kernel
theorem dL_law_1526 : decode cL_law 1526 = .ok (.if_icmp .ge 42, 3) := by decide +kernel
theorem dL_law_1529 : decode cL_law 1529 = .ok (.iload 20, 2) := by decide +kernel
theorem dL_law_1531 : decode cL_law 1531 = .ok (.ifCond .eq 37, 3) := by decide +kernel
theorem dL_law_1534 : decode cL_law 1534 = .ok (.aload 4, 2) := by decide +kernel
theorem dL_law_1536 : decode cL_law 1536 = .ok (.iload 21, 2) := by decide +kernel
theorem dL_law_1538 : decode cL_law 1538 = .ok (.lload 16, 2) := by decide +kernel
theorem dL_law_1540 : decode cL_law 1540 = .ok (.iload 18, 2) := by decide +kernel
theorem dL_law_1542 : decode cL_law 1542 = .ok (.iload 21, 2) := by decide +kernel
theorem dL_law_1544 : decode cL_law 1544 = .ok (.iadd, 1) := by decide +kernel
theorem dL_law_1545 : decode cL_law 1545 = .ok (.lload 16, 2) := by decide +kernel
theorem dL_law_1547 : decode cL_law 1547 = .ok (.invokestatic 12, 3) := by decide +kernel
theorem dL_law_1550 : decode cL_law 1550 = .ok (.irem, 1) := by decide +kernel
theorem dL_law_1551 : decode cL_law 1551 = .ok (.invokestatic 24, 3) := by decide +kernel
theorem dL_law_1554 : decode cL_law 1554 = .ok (.iastore, 1) := by decide +kernel
theorem dL_law_1555 : decode cL_law 1555 = .ok (.aload 4, 2) := by decide +kernel
theorem dL_law_1557 : decode cL_law 1557 = .ok (.bipush 6, 2) := by decide +kernel
theorem dL_law_1559 : decode cL_law 1559 = .ok (.iload 19, 2) := by decide +kernel
theorem dL_law_1561 : decode cL_law 1561 = .ok (.iastore, 1) := by decide +kernel
theorem dL_law_1562 : decode cL_law 1562 = .ok (.iinc 21 1, 3) := by decide +kernel
theorem dL_law_1565 : decode cL_law 1565 = .ok (.goto (-43), 3) := by decide +kernel
theorem dL_law_1568 : decode cL_law 1568 = .ok (.aload_n 1, 1) := by decide +kernel
theorem dL_law_1569 : decode cL_law 1569 = .ok (.iload 11, 2) := by decide +kernel
theorem dL_law_1571 : decode cL_law 1571 = .ok (.iload 18, 2) := by decide +kernel
theorem dL_law_1573 : decode cL_law 1573 = .ok (.iload 19, 2) := by decide +kernel
theorem dL_law_1575 : decode cL_law 1575 = .ok (.invokevirtual 184, 3) := by decide +kernel
theorem dL_law_1578 : decode cL_law 1578 = .ok (.iload 20, 2) := by decide +kernel
theorem dL_law_1580 : decode cL_law 1580 = .ok (.ifCond .eq 18, 3) := by decide +kernel
theorem dL_law_1583 : decode cL_law 1583 = .ok (.aload 4, 2) := by decide +kernel
theorem dL_law_1585 : decode cL_law 1585 = .ok (.aload_n 2, 1) := by decide +kernel
theorem dL_law_1586 : decode cL_law 1586 = .ok (.iload 11, 2) := by decide +kernel
theorem dL_law_1588 : decode cL_law 1588 = .ok (.laload, 1) := by decide +kernel
theorem dL_law_1589 : decode cL_law 1589 = .ok (.invokestatic 77, 3) := by decide +kernel
theorem dL_law_1592 : decode cL_law 1592 = .ok (.invokestatic 114, 3) := by decide +kernel
theorem dL_law_1595 : decode cL_law 1595 = .ok (.goto 5, 3) := by decide +kernel
theorem dL_law_1598 : decode cL_law 1598 = .ok (.bipush (-2), 2) := by decide +kernel
theorem dL_law_1600 : decode cL_law 1600 = .ok (.if_icmp .ne 7, 3) := by decide +kernel
theorem dL_law_1603 : decode cL_law 1603 = .ok (.iconst 1, 1) := by decide +kernel
theorem dL_law_1604 : decode cL_law 1604 = .ok (.goto 4, 3) := by decide +kernel
theorem dL_law_1607 : decode cL_law 1607 = .ok (.iconst 0, 1) := by decide +kernel
theorem dL_law_1608 : decode cL_law 1608 = .ok (.istore 14, 2) := by decide +kernel
theorem dL_law_1610 : decode cL_law 1610 = .ok (.goto 124, 3) := by decide +kernel
theorem dL_law_1613 : decode cL_law 1613 = .ok (.aload_n 2, 1) := by decide +kernel
theorem dL_law_1614 : decode cL_law 1614 = .ok (.iload 11, 2) := by decide +kernel
theorem dL_law_1616 : decode cL_law 1616 = .ok (.laload, 1) := by decide +kernel
theorem dL_law_1617 : decode cL_law 1617 = .ok (.iconst 1, 1) := by decide +kernel
theorem dL_law_1618 : decode cL_law 1618 = .ok (.invokestatic 61, 3) := by decide +kernel
theorem dL_law_1621 : decode cL_law 1621 = .ok (.lstore 16, 2) := by decide +kernel
theorem dL_law_1623 : decode cL_law 1623 = .ok (.iconst 0, 1) := by decide +kernel
theorem dL_law_1624 : decode cL_law 1624 = .ok (.istore 18, 2) := by decide +kernel
theorem dL_law_1626 : decode cL_law 1626 = .ok (.iload 18, 2) := by decide +kernel
theorem dL_law_1628 : decode cL_law 1628 = .ok (.iload 7, 2) := by decide +kernel
theorem dL_law_1630 : decode cL_law 1630 = .ok (.if_icmp .ge 20, 3) := by decide +kernel
theorem dL_law_1633 : decode cL_law 1633 = .ok (.aload 5, 2) := by decide +kernel
theorem dL_law_1635 : decode cL_law 1635 = .ok (.iload 18, 2) := by decide +kernel
theorem dL_law_1637 : decode cL_law 1637 = .ok (.laload, 1) := by decide +kernel
theorem dL_law_1638 : decode cL_law 1638 = .ok (.lload 16, 2) := by decide +kernel
theorem dL_law_1640 : decode cL_law 1640 = .ok (.lcmp, 1) := by decide +kernel
theorem dL_law_1641 : decode cL_law 1641 = .ok (.ifCond .eq 9, 3) := by decide +kernel
theorem dL_law_1644 : decode cL_law 1644 = .ok (.iinc 18 1, 3) := by decide +kernel
theorem dL_law_1647 : decode cL_law 1647 = .ok (.goto (-21), 3) := by decide +kernel
theorem dL_law_1650 : decode cL_law 1650 = .ok (.aload_n 1, 1) := by decide +kernel
theorem dL_law_1651 : decode cL_law 1651 = .ok (.iload 11, 2) := by decide +kernel
theorem dL_law_1653 : decode cL_law 1653 = .ok (.invokevirtual 153, 3) := by decide +kernel
theorem dL_law_1656 : decode cL_law 1656 = .ok (.iload 18, 2) := by decide +kernel
theorem dL_law_1658 : decode cL_law 1658 = .ok (.bipush 10, 2) := by decide +kernel
theorem dL_law_1660 : decode cL_law 1660 = .ok (.if_icmp .ne 8, 3) := by decide +kernel
theorem dL_law_1663 : decode cL_law 1663 = .ok (.bipush (-4), 2) := by decide +kernel
theorem dL_law_1665 : decode cL_law 1665 = .ok (.goto 5, 3) := by decide +kernel
theorem dL_law_1668 : decode cL_law 1668 = .ok (.iload 18, 2) := by decide +kernel
theorem dL_law_1670 : decode cL_law 1670 = .ok (.if_icmp .ne 7, 3) := by decide +kernel
theorem dL_law_1673 : decode cL_law 1673 = .ok (.iconst 1, 1) := by decide +kernel
theorem dL_law_1674 : decode cL_law 1674 = .ok (.goto 4, 3) := by decide +kernel
theorem dL_law_1677 : decode cL_law 1677 = .ok (.iconst 0, 1) := by decide +kernel
theorem dL_law_1678 : decode cL_law 1678 = .ok (.istore 14, 2) := by decide +kernel
theorem dL_law_1680 : decode cL_law 1680 = .ok (.iload 18, 2) := by decide +kernel
theorem dL_law_1682 : decode cL_law 1682 = .ok (.bipush 10, 2) := by decide +kernel
theorem dL_law_1684 : decode cL_law 1684 = .ok (.if_icmp .ge 50, 3) := by decide +kernel
theorem dL_law_1687 : decode cL_law 1687 = .ok (.aload 5, 2) := by decide +kernel
theorem dL_law_1689 : decode cL_law 1689 = .ok (.iload 18, 2) := by decide +kernel
theorem dL_law_1691 : decode cL_law 1691 = .ok (.lload 16, 2) := by decide +kernel
theorem dL_law_1693 : decode cL_law 1693 = .ok (.lastore, 1) := by decide +kernel
theorem dL_law_1694 : decode cL_law 1694 = .ok (.aload 6, 2) := by decide +kernel
theorem dL_law_1696 : decode cL_law 1696 = .ok (.iload 18, 2) := by decide +kernel
theorem dL_law_1698 : decode cL_law 1698 = .ok (.iload 18, 2) := by decide +kernel
theorem dL_law_1700 : decode cL_law 1700 = .ok (.iload 7, 2) := by decide +kernel
theorem dL_law_1702 : decode cL_law 1702 = .ok (.if_icmp .ne 7, 3) := by decide +kernel
theorem dL_law_1705 : decode cL_law 1705 = .ok (.iconst 1, 1) := by decide +kernel
theorem dL_law_1706 : decode cL_law 1706 = .ok (.goto 10, 3) := by decide +kernel
theorem dL_law_1709 : decode cL_law 1709 = .ok (.aload 6, 2) := by decide +kernel
theorem dL_law_1711 : decode cL_law 1711 = .ok (.iload 18, 2) := by decide +kernel
theorem dL_law_1713 : decode cL_law 1713 = .ok (.iaload, 1) := by decide +kernel
theorem dL_law_1714 : decode cL_law 1714 = .ok (.iconst 1, 1) := by decide +kernel
theorem dL_law_1715 : decode cL_law 1715 = .ok (.iadd, 1) := by decide +kernel
theorem dL_law_1716 : decode cL_law 1716 = .ok (.iastore, 1) := by decide +kernel
theorem dL_law_1717 : decode cL_law 1717 = .ok (.iload 7, 2) := by decide +kernel
theorem dL_law_1719 : decode cL_law 1719 = .ok (.iload 18, 2) := by decide +kernel
theorem dL_law_1721 : decode cL_law 1721 = .ok (.iload 7, 2) := by decide +kernel
theorem dL_law_1723 : decode cL_law 1723 = .ok (.if_icmp .ne 7, 3) := by decide +kernel
theorem dL_law_1726 : decode cL_law 1726 = .ok (.iconst 1, 1) := by decide +kernel
theorem dL_law_1727 : decode cL_law 1727 = .ok (.goto 4, 3) := by decide +kernel
theorem dL_law_1730 : decode cL_law 1730 = .ok (.iconst 0, 1) := by decide +kernel
theorem dL_law_1731 : decode cL_law 1731 = .ok (.iadd, 1) := by decide +kernel
theorem dL_law_1732 : decode cL_law 1732 = .ok (.istore 7, 2) := by decide +kernel
theorem dL_law_1734 : decode cL_law 1734 = .ok (.aload_n 0, 1) := by decide +kernel
theorem dL_law_1735 : decode cL_law 1735 = .ok (.bipush 50, 2) := by decide +kernel
theorem dL_law_1737 : decode cL_law 1737 = .ok (.iload 8, 2) := by decide +kernel
theorem dL_law_1739 : decode cL_law 1739 = .ok (.iadd, 1) := by decide +kernel
theorem dL_law_1740 : decode cL_law 1740 = .ok (.invokestatic 131, 3) := by decide +kernel
theorem dL_law_1743 : decode cL_law 1743 = .ok (.istore 16, 2) := by decide +kernel
theorem dL_law_1745 : decode cL_law 1745 = .ok (.iload 16, 2) := by decide +kernel
theorem dL_law_1747 : decode cL_law 1747 = .ok (.bipush 12, 2) := by decide +kernel
theorem dL_law_1749 : decode cL_law 1749 = .ok (.ishr, 1) := by decide +kernel
theorem dL_law_1750 : decode cL_law 1750 = .ok (.iconst 3, 1) := by decide +kernel
theorem dL_law_1751 : decode cL_law 1751 = .ok (.invokestatic 74, 3) := by decide +kernel
theorem dL_law_1754 : decode cL_law 1754 = .ok (.istore 17, 2) := by decide +kernel
theorem dL_law_1756 : decode cL_law 1756 = .ok (.iload 14, 2) := by decide +kernel
theorem dL_law_1758 : decode cL_law 1758 = .ok (.ifCond .eq 98, 3) := by decide +kernel
theorem dL_law_1761 : decode cL_law 1761 = .ok (.aload_n 1, 1) := by decide +kernel
theorem dL_law_1762 : decode cL_law 1762 = .ok (.aload_n 2, 1) := by decide +kernel
theorem dL_law_1763 : decode cL_law 1763 = .ok (.aload_n 3, 1) := by decide +kernel
theorem dL_law_1764 : decode cL_law 1764 = .ok (.aload 4, 2) := by decide +kernel
theorem dL_law_1766 : decode cL_law 1766 = .ok (.aload 5, 2) := by decide +kernel
theorem dL_law_1768 : decode cL_law 1768 = .ok (.aload 6, 2) := by decide +kernel
theorem dL_law_1770 : decode cL_law 1770 = .ok (.iload 7, 2) := by decide +kernel
theorem dL_law_1772 : decode cL_law 1772 = .ok (.invokestatic 187, 3) := by decide +kernel
theorem dL_law_1775 : decode cL_law 1775 = .ok (.ifCond .eq 81, 3) := by decide +kernel
theorem dL_law_1778 : decode cL_law 1778 = .ok (.aload_n 2, 1) := by decide +kernel
theorem dL_law_1779 : decode cL_law 1779 = .ok (.iload 11, 2) := by decide +kernel
theorem dL_law_1781 : decode cL_law 1781 = .ok (.laload, 1) := by decide +kernel
theorem dL_law_1782 : decode cL_law 1782 = .ok (.lconst 0, 1) := by decide +kernel
theorem dL_law_1783 : decode cL_law 1783 = .ok (.lcmp, 1) := by decide +kernel
theorem dL_law_1784 : decode cL_law 1784 = .ok (.ifCond .le 21, 3) := by decide +kernel
theorem dL_law_1787 : decode cL_law 1787 = .ok (.aload_n 1, 1) := by decide +kernel
theorem dL_law_1788 : decode cL_law 1788 = .ok (.aload_n 3, 1) := by decide +kernel
theorem dL_law_1789 : decode cL_law 1789 = .ok (.aload 4, 2) := by decide +kernel
theorem dL_law_1791 : decode cL_law 1791 = .ok (.iload 11, 2) := by decide +kernel
theorem dL_law_1793 : decode cL_law 1793 = .ok (.aload_n 2, 1) := by decide +kernel
theorem dL_law_1794 : decode cL_law 1794 = .ok (.iload 11, 2) := by decide +kernel
theorem dL_law_1796 : decode cL_law 1796 = .ok (.laload, 1) := by decide +kernel
theorem dL_law_1797 : decode cL_law 1797 = .ok (.iload 16, 2) := by decide +kernel
theorem dL_law_1799 : decode cL_law 1799 = .ok (.invokestatic 191, 3) := by decide +kernel
theorem dL_law_1802 : decode cL_law 1802 = .ok (.ifCond .eq 54, 3) := by decide +kernel
theorem dL_law_1805 : decode cL_law 1805 = .ok (.aload_n 1, 1) := by decide +kernel
theorem dL_law_1806 : decode cL_law 1806 = .ok (.aload_n 2, 1) := by decide +kernel
theorem dL_law_1807 : decode cL_law 1807 = .ok (.iload 11, 2) := by decide +kernel
theorem dL_law_1809 : decode cL_law 1809 = .ok (.iload 17, 2) := by decide +kernel
theorem dL_law_1811 : decode cL_law 1811 = .ok (.iload 16, 2) := by decide +kernel
theorem dL_law_1813 : decode cL_law 1813 = .ok (.iconst 3, 1) := by decide +kernel
theorem dL_law_1814 : decode cL_law 1814 = .ok (.invokestatic 74, 3) := by decide +kernel
theorem dL_law_1817 : decode cL_law 1817 = .ok (.invokestatic 195, 3) := by decide +kernel
theorem dL_law_1820 : decode cL_law 1820 = .ok (.ifCond .eq 36, 3) := by decide +kernel
theorem dL_law_1823 : decode cL_law 1823 = .ok (.iload 8, 2) := by decide +kernel
theorem dL_law_1825 : decode cL_law 1825 = .ok (.bipush 7, 2) := by decide +kernel
theorem dL_law_1827 : decode cL_law 1827 = .ok (.irem, 1) := by decide +kernel
theorem dL_law_1828 : decode cL_law 1828 = .ok (.bipush 6, 2) := by decide +kernel
theorem dL_law_1830 : decode cL_law 1830 = .ok (.if_icmp .ne 28, 3) := by decide +kernel
theorem dL_law_1833 : decode cL_law 1833 = .ok (.aload_n 2, 1) := by decide +kernel
theorem dL_law_1834 : decode cL_law 1834 = .ok (.iload 11, 2) := by decide +kernel
theorem dL_law_1836 : decode cL_law 1836 = .ok (.laload, 1) := by decide +kernel
theorem dL_law_1837 : decode cL_law 1837 = .ok (.lconst 0, 1) := by decide +kernel
theorem dL_law_1838 : decode cL_law 1838 = .ok (.lcmp, 1) := by decide +kernel
theorem dL_law_1839 : decode cL_law 1839 = .ok (.ifCond .le 19, 3) := by decide +kernel
theorem dL_law_1842 : decode cL_law 1842 = .ok (.aload_n 1, 1) := by decide +kernel
theorem dL_law_1843 : decode cL_law 1843 = .ok (.aload_n 3, 1) := by decide +kernel
theorem dL_law_1844 : decode cL_law 1844 = .ok (.iload 11, 2) := by decide +kernel
theorem dL_law_1846 : decode cL_law 1846 = .ok (.aload_n 2, 1) := by decide +kernel
theorem dL_law_1847 : decode cL_law 1847 = .ok (.iload 11, 2) := by decide +kernel
theorem dL_law_1849 : decode cL_law 1849 = .ok (.laload, 1) := by decide +kernel
theorem dL_law_1850 : decode cL_law 1850 = .ok (.invokestatic 199, 3) := by decide +kernel
theorem dL_law_1853 : decode cL_law 1853 = .ok (.ifCond .ne 5, 3) := by decide +kernel
theorem dL_law_1856 : decode cL_law 1856 = .ok (.iconst 0, 1) := by decide +kernel
theorem dL_law_1857 : decode cL_law 1857 = .ok (.ireturn, 1) := by decide +kernel
theorem dL_law_1858 : decode cL_law 1858 = .ok (.iinc 8 1, 3) := by decide +kernel
theorem dL_law_1861 : decode cL_law 1861 = .ok (.goto (-1786), 3) := by decide +kernel
theorem dL_law_1864 : decode cL_law 1864 = .ok (.iconst 1, 1) := by decide +kernel
theorem dL_law_1865 : decode cL_law 1865 = .ok (.ireturn, 1) := by decide +kernel
