theorem dL_law__1472 : decode cL_law_ 1472 = .ok (.aload_n 0, 1) := by decide +kernel
theorem dL_law__1473 : decode cL_law_ 1473 = .ok (.iload 4, 2) := by decide +kernel
theorem dL_law__1475 : decode cL_law_ 1475 = .ok (.iconst 2, 1) := by decide +kernel
theorem dL_law__1476 : decode cL_law_ 1476 = .ok (.iadd, 1) := by decide +kernel
theorem dL_law__1477 : decode cL_law_ 1477 = .ok (.iaload, 1) := by decide +kernel
theorem dL_law__1478 : decode cL_law_ 1478 = .ok (.aload_n 0, 1) := by decide +kernel
theorem dL_law__1479 : decode cL_law_ 1479 = .ok (.iload 4, 2) := by decide +kernel
theorem dL_law__1481 : decode cL_law_ 1481 = .ok (.iconst 3, 1) := by decide +kernel
theorem dL_law__1482 : decode cL_law_ 1482 = .ok (.iadd, 1) := by decide +kernel
theorem dL_law__1483 : decode cL_law_ 1483 = .ok (.iaload, 1) := by decide +kernel
theorem dL_law__1484 : decode cL_law_ 1484 = .ok (.aload_n 0, 1) := by decide +kernel
theorem dL_law__1485 : decode cL_law_ 1485 = .ok (.iload 4, 2) := by decide +kernel
theorem dL_law__1487 : decode cL_law_ 1487 = .ok (.iconst 4, 1) := by decide +kernel
theorem dL_law__1488 : decode cL_law_ 1488 = .ok (.iadd, 1) := by decide +kernel
theorem dL_law__1489 : decode cL_law_ 1489 = .ok (.iaload, 1) := by decide +kernel
theorem dL_law__1490 : decode cL_law_ 1490 = .ok (.aload_n 3, 1) := by decide +kernel
theorem dL_law__1491 : decode cL_law_ 1491 = .ok (.invokestatic 177, 3) := by decide +kernel
theorem dL_law__1494 : decode cL_law_ 1494 = .ok (.istore 5, 2) := by decide +kernel
theorem dL_law__1496 : decode cL_law_ 1496 = .ok (.aload_n 2, 1) := by decide +kernel
theorem dL_law__1497 : decode cL_law_ 1497 = .ok (.aload_n 0, 1) := by decide +kernel
theorem dL_law__1498 : decode cL_law_ 1498 = .ok (.iload 4, 2) := by decide +kernel
theorem dL_law__1500 : decode cL_law_ 1500 = .ok (.iconst 1, 1) := by decide +kernel
theorem dL_law__1501 : decode cL_law_ 1501 = .ok (.iadd, 1) := by decide +kernel
theorem dL_law__1502 : decode cL_law_ 1502 = .ok (.iaload, 1) := by decide +kernel
theorem dL_law__1503 : decode cL_law_ 1503 = .ok (.aload_n 0, 1) := by decide +kernel
theorem dL_law__1504 : decode cL_law_ 1504 = .ok (.iload 4, 2) := by decide +kernel
theorem dL_law__1506 : decode cL_law_ 1506 = .ok (.iconst 2, 1) := by decide +kernel
theorem dL_law__1507 : decode cL_law_ 1507 = .ok (.iadd, 1) := by decide +kernel
theorem dL_law__1508 : decode cL_law_ 1508 = .ok (.iaload, 1) := by decide +kernel
theorem dL_law__1509 : decode cL_law_ 1509 = .ok (.aload_n 0, 1) := by decide +kernel
theorem dL_law__1510 : decode cL_law_ 1510 = .ok (.iload 4, 2) := by decide +kernel
theorem dL_law__1512 : decode cL_law_ 1512 = .ok (.iconst 3, 1) := by decide +kernel
theorem dL_law__1513 : decode cL_law_ 1513 = .ok (.iadd, 1) := by decide +kernel
theorem dL_law__1514 : decode cL_law_ 1514 = .ok (.iaload, 1) := by decide +kernel
theorem dL_law__1515 : decode cL_law_ 1515 = .ok (.aload_n 0, 1) := by decide +kernel
theorem dL_law__1516 : decode cL_law_ 1516 = .ok (.iload 4, 2) := by decide +kernel
theorem dL_law__1518 : decode cL_law_ 1518 = .ok (.iconst 4, 1) := by decide +kernel
theorem dL_law__1519 : decode cL_law_ 1519 = .ok (.iadd, 1) := by decide +kernel
theorem dL_law__1520 : decode cL_law_ 1520 = .ok (.iaload, 1) := by decide +kernel
theorem dL_law__1521 : decode cL_law_ 1521 = .ok (.invokevirtual 179, 3) := by decide +kernel
theorem dL_law__1524 : decode cL_law_ 1524 = .ok (.istore 6, 2) := by decide +kernel
theorem dL_law__1526 : decode cL_law_ 1526 = .ok (.aload_n 2, 1) := by decide +kernel
theorem dL_law__1527 : decode cL_law_ 1527 = .ok (.invokevirtual 124, 3) := by decide +kernel
theorem dL_law__1530 : decode cL_law_ 1530 = .ok (.iload 5, 2) := by decide +kernel
theorem dL_law__1532 : decode cL_law_ 1532 = .ok (.if_icmp .eq 5, 3) := by decide +kernel
theorem dL_law__1535 : decode cL_law_ 1535 = .ok (.iconst 0, 1) := by decide +kernel
theorem dL_law__1536 : decode cL_law_ 1536 = .ok (.ireturn, 1) := by decide +kernel
theorem dL_law__1537 : decode cL_law_ 1537 = .ok (.iload 5, 2) := by decide +kernel
theorem dL_law__1539 : decode cL_law_ 1539 = .ok (.ifCond .ne 15, 3) := by decide +kernel
theorem dL_law__1542 : decode cL_law_ 1542 = .ok (.aload_n 3, 1) := by decide +kernel
theorem dL_law__1543 : decode cL_law_ 1543 = .ok (.iconst 0, 1) := by decide +kernel
theorem dL_law__1544 : decode cL_law_ 1544 = .ok (.laload, 1) := by decide +kernel
theorem dL_law__1545 : decode cL_law_ 1545 = .ok (.iload 6, 2) := by decide +kernel
theorem dL_law__1547 : decode cL_law_ 1547 = .ok (.i2l, 1) := by decide +kernel
theorem dL_law__1548 : decode cL_law_ 1548 = .ok (.lcmp, 1) := by decide +kernel
theorem dL_law__1549 : decode cL_law_ 1549 = .ok (.ifCond .eq 5, 3) := by decide +kernel
theorem dL_law__1552 : decode cL_law_ 1552 = .ok (.iconst 0, 1) := by decide +kernel
theorem dL_law__1553 : decode cL_law_ 1553 = .ok (.ireturn, 1) := by decide +kernel
theorem dL_law__1554 : decode cL_law_ 1554 = .ok (.goto 1085, 3) := by decide +kernel
theorem dL_law__1557 : decode cL_law_ 1557 = .ok (.aload_n 1, 1) := by decide +kernel
theorem dL_law__1558 : decode cL_law_ 1558 = .ok (.aload_n 0, 1) := by decide +kernel
theorem dL_law__1559 : decode cL_law_ 1559 = .ok (.iload 4, 2) := by decide +kernel
theorem dL_law__1561 : decode cL_law_ 1561 = .ok (.iconst 1, 1) := by decide +kernel
theorem dL_law__1562 : decode cL_law_ 1562 = .ok (.iadd, 1) := by decide +kernel
theorem dL_law__1563 : decode cL_law_ 1563 = .ok (.iaload, 1) := by decide +kernel
theorem dL_law__1564 : decode cL_law_ 1564 = .ok (.aload_n 0, 1) := by decide +kernel
theorem dL_law__1565 : decode cL_law_ 1565 = .ok (.iload 4, 2) := by decide +kernel
theorem dL_law__1567 : decode cL_law_ 1567 = .ok (.iconst 2, 1) := by decide +kernel
theorem dL_law__1568 : decode cL_law_ 1568 = .ok (.iadd, 1) := by decide +kernel
theorem dL_law__1569 : decode cL_law_ 1569 = .ok (.iaload, 1) := by decide +kernel
theorem dL_law__1570 : decode cL_law_ 1570 = .ok (.aload_n 0, 1) := by decide +kernel
theorem dL_law__1571 : decode cL_law_ 1571 = .ok (.iload 4, 2) := by decide +kernel
theorem dL_law__1573 : decode cL_law_ 1573 = .ok (.iconst 3, 1) := by decide +kernel
theorem dL_law__1574 : decode cL_law_ 1574 = .ok (.iadd, 1) := by decide +kernel
theorem dL_law__1575 : decode cL_law_ 1575 = .ok (.iaload, 1) := by decide +kernel
theorem dL_law__1576 : decode cL_law_ 1576 = .ok (.aload_n 0, 1) := by decide +kernel
theorem dL_law__1577 : decode cL_law_ 1577 = .ok (.iload 4, 2) := by decide +kernel
theorem dL_law__1579 : decode cL_law_ 1579 = .ok (.iconst 4, 1) := by decide +kernel
theorem dL_law__1580 : decode cL_law_ 1580 = .ok (.iadd, 1) := by decide +kernel
theorem dL_law__1581 : decode cL_law_ 1581 = .ok (.iaload, 1) := by decide +kernel
theorem dL_law__1582 : decode cL_law_ 1582 = .ok (.aload_n 0, 1) := by decide +kernel
theorem dL_law__1583 : decode cL_law_ 1583 = .ok (.iload 4, 2) := by decide +kernel
theorem dL_law__1585 : decode cL_law_ 1585 = .ok (.iconst 5, 1) := by decide +kernel
theorem dL_law__1586 : decode cL_law_ 1586 = .ok (.iadd, 1) := by decide +kernel
theorem dL_law__1587 : decode cL_law_ 1587 = .ok (.iaload, 1) := by decide +kernel
theorem dL_law__1588 : decode cL_law_ 1588 = .ok (.aload_n 0, 1) := by decide +kernel
theorem dL_law__1589 : decode cL_law_ 1589 = .ok (.iload 4, 2) := by decide +kernel
theorem dL_law__1591 : decode cL_law_ 1591 = .ok (.bipush 6, 2) := by decide +kernel
theorem dL_law__1593 : decode cL_law_ 1593 = .ok (.iadd, 1) := by decide +kernel
theorem dL_law__1594 : decode cL_law_ 1594 = .ok (.iaload, 1) := by decide +kernel
theorem dL_law__1595 : decode cL_law_ 1595 = .ok (.aload_n 3, 1) := by decide +kernel
theorem dL_law__1596 : decode cL_law_ 1596 = .ok (.invokestatic 180, 3) := by decide +kernel
theorem dL_law__1599 : decode cL_law_ 1599 = .ok (.istore 5, 2) := by decide +kernel
theorem dL_law__1601 : decode cL_law_ 1601 = .ok (.aload_n 2, 1) := by decide +kernel
theorem dL_law__1602 : decode cL_law_ 1602 = .ok (.aload_n 0, 1) := by decide +kernel
theorem dL_law__1603 : decode cL_law_ 1603 = .ok (.iload 4, 2) := by decide +kernel
theorem dL_law__1605 : decode cL_law_ 1605 = .ok (.iconst 1, 1) := by decide +kernel
theorem dL_law__1606 : decode cL_law_ 1606 = .ok (.iadd, 1) := by decide +kernel
theorem dL_law__1607 : decode cL_law_ 1607 = .ok (.iaload, 1) := by decide +kernel
theorem dL_law__1608 : decode cL_law_ 1608 = .ok (.aload_n 0, 1) := by decide +kernel
theorem dL_law__1609 : decode cL_law_ 1609 = .ok (.iload 4, 2) := by decide +kernel
theorem dL_law__1611 : decode cL_law_ 1611 = .ok (.iconst 2, 1) := by decide +kernel
theorem dL_law__1612 : decode cL_law_ 1612 = .ok (.iadd, 1) := by decide +kernel
theorem dL_law__1613 : decode cL_law_ 1613 = .ok (.iaload, 1) := by decide +kernel
theorem dL_law__1614 : decode cL_law_ 1614 = .ok (.aload_n 0, 1) := by decide +kernel
theorem dL_law__1615 : decode cL_law_ 1615 = .ok (.iload 4, 2) := by decide +kernel
theorem dL_law__1617 : decode cL_law_ 1617 = .ok (.iconst 3, 1) := by decide +kernel
theorem dL_law__1618 : decode cL_law_ 1618 = .ok (.iadd, 1) := by decide +kernel
theorem dL_law__1619 : decode cL_law_ 1619 = .ok (.iaload, 1) := by decide +kernel
theorem dL_law__1620 : decode cL_law_ 1620 = .ok (.aload_n 0, 1) := by decide +kernel
theorem dL_law__1621 : decode cL_law_ 1621 = .ok (.iload 4, 2) := by decide +kernel
theorem dL_law__1623 : decode cL_law_ 1623 = .ok (.iconst 4, 1) := by decide +kernel
theorem dL_law__1624 : decode cL_law_ 1624 = .ok (.iadd, 1) := by decide +kernel
theorem dL_law__1625 : decode cL_law_ 1625 = .ok (.iaload, 1) := by decide +kernel
theorem dL_law__1626 : decode cL_law_ 1626 = .ok (.aload_n 0, 1) := by decide +kernel
theorem dL_law__1627 : decode cL_law_ 1627 = .ok (.iload 4, 2) := by decide +kernel
theorem dL_law__1629 : decode cL_law_ 1629 = .ok (.iconst 5, 1) := by decide +kernel
theorem dL_law__1630 : decode cL_law_ 1630 = .ok (.iadd, 1) := by decide +kernel
theorem dL_law__1631 : decode cL_law_ 1631 = .ok (.iaload, 1) := by decide +kernel
theorem dL_law__1632 : decode cL_law_ 1632 = .ok (.aload_n 0, 1) := by decide +kernel
theorem dL_law__1633 : decode cL_law_ 1633 = .ok (.iload 4, 2) := by decide +kernel
theorem dL_law__1635 : decode cL_law_ 1635 = .ok (.bipush 6, 2) := by decide +kernel
theorem dL_law__1637 : decode cL_law_ 1637 = .ok (.iadd, 1) := by decide +kernel
theorem dL_law__1638 : decode cL_law_ 1638 = .ok (.iaload, 1) := by decide +kernel
theorem dL_law__1639 : decode cL_law_ 1639 = .ok (.invokevirtual 183, 3) := by decide +kernel
theorem dL_law__1642 : decode cL_law_ 1642 = .ok (.istore 6, 2) := by decide +kernel
theorem dL_law__1644 : decode cL_law_ 1644 = .ok (.aload_n 2, 1) := by decide +kernel
theorem dL_law__1645 : decode cL_law_ 1645 = .ok (.invokevirtual 124, 3) := by decide +kernel
theorem dL_law__1648 : decode cL_law_ 1648 = .ok (.iload 5, 2) := by decide +kernel
theorem dL_law__1650 : decode cL_law_ 1650 = .ok (.if_icmp .eq 5, 3) := by decide +kernel
theorem dL_law__1653 : decode cL_law_ 1653 = .ok (.iconst 0, 1) := by decide +kernel
theorem dL_law__1654 : decode cL_law_ 1654 = .ok (.ireturn, 1) := by decide +kernel
theorem dL_law__1655 : decode cL_law_ 1655 = .ok (.iload 5, 2) := by decide +kernel
theorem dL_law__1657 : decode cL_law_ 1657 = .ok (.ifCond .ne 15, 3) := by decide +kernel
theorem dL_law__1660 : decode cL_law_ 1660 = .ok (.aload_n 3, 1) := by decide +kernel
theorem dL_law__1661 : decode cL_law_ 1661 = .ok (.iconst 0, 1) := by decide +kernel
theorem dL_law__1662 : decode cL_law_ 1662 = .ok (.laload, 1) := by decide +kernel
theorem dL_law__1663 : decode cL_law_ 1663 = .ok (.iload 6, 2) := by decide +kernel
theorem dL_law__1665 : decode cL_law_ 1665 = .ok (.i2l, 1) := by decide +kernel
theorem dL_law__1666 : decode cL_law_ 1666 = .ok (.lcmp, 1) := by decide +kernel
theorem dL_law__1667 : decode cL_law_ 1667 = .ok (.ifCond .eq 5, 3) := by decide +kernel
theorem dL_law__1670 : decode cL_law_ 1670 = .ok (.iconst 0, 1) := by decide +kernel
theorem dL_law__1671 : decode cL_law_ 1671 = .ok (.ireturn, 1) := by decide +kernel
theorem dL_law__1672 : decode cL_law_ 1672 = .ok (.goto 967, 3) := by decide +kernel
theorem dL_law__1675 : decode cL_law_ 1675 = .ok (.aload_n 1, 1) := by decide +kernel
theorem dL_law__1676 : decode cL_law_ 1676 = .ok (.aload_n 0, 1) := by decide +kernel
theorem dL_law__1677 : decode cL_law_ 1677 = .ok (.iload 4, 2) := by decide +kernel
theorem dL_law__1679 : decode cL_law_ 1679 = .ok (.iconst 1, 1) := by decide +kernel
theorem dL_law__1680 : decode cL_law_ 1680 = .ok (.iadd, 1) := by decide +kernel
theorem dL_law__1681 : decode cL_law_ 1681 = .ok (.iaload, 1) := by decide +kernel
theorem dL_law__1682 : decode cL_law_ 1682 = .ok (.aload_n 0, 1) := by decide +kernel
theorem dL_law__1683 : decode cL_law_ 1683 = .ok (.iload 4, 2) := by decide +kernel
theorem dL_law__1685 : decode cL_law_ 1685 = .ok (.iconst 2, 1) := by decide +kernel
theorem dL_law__1686 : decode cL_law_ 1686 = .ok (.iadd, 1) := by decide +kernel
theorem dL_law__1687 : decode cL_law_ 1687 = .ok (.iaload, 1) := by decide +kernel
theorem dL_law__1688 : decode cL_law_ 1688 = .ok (.aload_n 0, 1) := by decide +kernel
theorem dL_law__1689 : decode cL_law_ 1689 = .ok (.iload 4, 2) := by decide +kernel
theorem dL_law__1691 : decode cL_law_ 1691 = .ok (.iconst 3, 1) := by decide +kernel
theorem dL_law__1692 : decode cL_law_ 1692 = .ok (.iadd, 1) := by decide +kernel
theorem dL_law__1693 : decode cL_law_ 1693 = .ok (.iaload, 1) := by decide +kernel
theorem dL_law__1694 : decode cL_law_ 1694 = .ok (.aload_n 3, 1) := by decide +kernel
theorem dL_law__1695 : decode cL_law_ 1695 = .ok (.invokestatic 184, 3) := by decide +kernel
theorem dL_law__1698 : decode cL_law_ 1698 = .ok (.istore 5, 2) := by decide +kernel
theorem dL_law__1700 : decode cL_law_ 1700 = .ok (.aload_n 2, 1) := by decide +kernel
theorem dL_law__1701 : decode cL_law_ 1701 = .ok (.aload_n 0, 1) := by decide +kernel
theorem dL_law__1702 : decode cL_law_ 1702 = .ok (.iload 4, 2) := by decide +kernel
theorem dL_law__1704 : decode cL_law_ 1704 = .ok (.iconst 1, 1) := by decide +kernel
theorem dL_law__1705 : decode cL_law_ 1705 = .ok (.iadd, 1) := by decide +kernel
theorem dL_law__1706 : decode cL_law_ 1706 = .ok (.iaload, 1) := by decide +kernel
theorem dL_law__1707 : decode cL_law_ 1707 = .ok (.aload_n 0, 1) := by decide +kernel
theorem dL_law__1708 : decode cL_law_ 1708 = .ok (.iload 4, 2) := by decide +kernel
theorem dL_law__1710 : decode cL_law_ 1710 = .ok (.iconst 2, 1) := by decide +kernel
theorem dL_law__1711 : decode cL_law_ 1711 = .ok (.iadd, 1) := by decide +kernel
theorem dL_law__1712 : decode cL_law_ 1712 = .ok (.iaload, 1) := by decide +kernel
theorem dL_law__1713 : decode cL_law_ 1713 = .ok (.aload_n 0, 1) := by decide +kernel
theorem dL_law__1714 : decode cL_law_ 1714 = .ok (.iload 4, 2) := by decide +kernel
theorem dL_law__1716 : decode cL_law_ 1716 = .ok (.iconst 3, 1) := by decide +kernel
theorem dL_law__1717 : decode cL_law_ 1717 = .ok (.iadd, 1) := by decide +kernel
theorem dL_law__1718 : decode cL_law_ 1718 = .ok (.iaload, 1) := by decide +kernel
theorem dL_law__1719 : decode cL_law_ 1719 = .ok (.invokevirtual 186, 3) := by decide +kernel
theorem dL_law__1722 : decode cL_law_ 1722 = .ok (.istore 6, 2) := by decide +kernel
theorem dL_law__1724 : decode cL_law_ 1724 = .ok (.aload_n 2, 1) := by decide +kernel
theorem dL_law__1725 : decode cL_law_ 1725 = .ok (.invokevirtual 124, 3) := by decide +kernel
theorem dL_law__1728 : decode cL_law_ 1728 = .ok (.iload 5, 2) := by decide +kernel
theorem dL_law__1730 : decode cL_law_ 1730 = .ok (.if_icmp .eq 5, 3) := by decide +kernel
theorem dL_law__1733 : decode cL_law_ 1733 = .ok (.iconst 0, 1) := by decide +kernel
theorem dL_law__1734 : decode cL_law_ 1734 = .ok (.ireturn, 1) := by decide +kernel
theorem dL_law__1735 : decode cL_law_ 1735 = .ok (.iload 5, 2) := by decide +kernel
theorem dL_law__1737 : decode cL_law_ 1737 = .ok (.ifCond .ne 15, 3) := by decide +kernel
theorem dL_law__1740 : decode cL_law_ 1740 = .ok (.aload_n 3, 1) := by decide +kernel
theorem dL_law__1741 : decode cL_law_ 1741 = .ok (.iconst 0, 1) := by decide +kernel
theorem dL_law__1742 : decode cL_law_ 1742 = .ok (.laload, 1) := by decide +kernel
theorem dL_law__1743 : decode cL_law_ 1743 = .ok (.iload 6, 2) := by decide +kernel
theorem dL_law__1745 : decode cL_law_ 1745 = .ok (.i2l, 1) := by decide +kernel
theorem dL_law__1746 : decode cL_law_ 1746 = .ok (.lcmp, 1) := by decide +kernel
theorem dL_law__1747 : decode cL_law_ 1747 = .ok (.ifCond .eq 5, 3) := by decide +kernel
theorem dL_law__1750 : decode cL_law_ 1750 = .ok (.iconst 0, 1) := by decide +kernel
theorem dL_law__1751 : decode cL_law_ 1751 = .ok (.ireturn, 1) := by decide +kernel
theorem dL_law__1752 : decode cL_law_ 1752 = .ok (.goto 887, 3) := by decide +kernel
theorem dL_law__1755 : decode cL_law_ 1755 = .ok (.aload_n 1, 1) := by decide +kernel
theorem dL_law__1756 : decode cL_law_ 1756 = .ok (.aload_n 0, 1) := by decide +kernel
theorem dL_law__1757 : decode cL_law_ 1757 = .ok (.iload 4, 2) := by decide +kernel
theorem dL_law__1759 : decode cL_law_ 1759 = .ok (.iconst 1, 1) := by decide +kernel
theorem dL_law__1760 : decode cL_law_ 1760 = .ok (.iadd, 1) := by decide +kernel
theorem dL_law__1761 : decode cL_law_ 1761 = .ok (.iaload, 1) := by decide +kernel
theorem dL_law__1762 : decode cL_law_ 1762 = .ok (.aload_n 0, 1) := by decide +kernel
theorem dL_law__1763 : decode cL_law_ 1763 = .ok (.iload 4, 2) := by decide +kernel
theorem dL_law__1765 : decode cL_law_ 1765 = .ok (.iconst 2, 1) := by decide +kernel
theorem dL_law__1766 : decode cL_law_ 1766 = .ok (.iadd, 1) := by decide +kernel
theorem dL_law__1767 : decode cL_law_ 1767 = .ok (.iaload, 1) := by decide +kernel
theorem dL_law__1768 : decode cL_law_ 1768 = .ok (.aload_n 3, 1) := by decide +kernel
theorem dL_law__1769 : decode cL_law_ 1769 = .ok (.invokestatic 187, 3) := by decide +kernel
theorem dL_law__1772 : decode cL_law_ 1772 = .ok (.istore 5, 2) := by decide +kernel
theorem dL_law__1774 : decode cL_law_ 1774 = .ok (.aload_n 2, 1) := by decide +kernel
theorem dL_law__1775 : decode cL_law_ 1775 = .ok (.aload_n 0, 1) := by decide +kernel
theorem dL_law__1776 : decode cL_law_ 1776 = .ok (.iload 4, 2) := by decide +kernel
theorem dL_law__1778 : decode cL_law_ 1778 = .ok (.iconst 1, 1) := by decide +kernel
theorem dL_law__1779 : decode cL_law_ 1779 = .ok (.iadd, 1) := by decide +kernel
theorem dL_law__1780 : decode cL_law_ 1780 = .ok (.iaload, 1) := by decide +kernel
theorem dL_law__1781 : decode cL_law_ 1781 = .ok (.aload_n 0, 1) := by decide +kernel
theorem dL_law__1782 : decode cL_law_ 1782 = .ok (.iload 4, 2) := by decide +kernel
theorem dL_law__1784 : decode cL_law_ 1784 = .ok (.iconst 2, 1) := by decide +kernel
theorem dL_law__1785 : decode cL_law_ 1785 = .ok (.iadd, 1) := by decide +kernel
theorem dL_law__1786 : decode cL_law_ 1786 = .ok (.iaload, 1) := by decide +kernel
theorem dL_law__1787 : decode cL_law_ 1787 = .ok (.invokevirtual 189, 3) := by decide +kernel
theorem dL_law__1790 : decode cL_law_ 1790 = .ok (.istore 6, 2) := by decide +kernel
theorem dL_law__1792 : decode cL_law_ 1792 = .ok (.aload_n 2, 1) := by decide +kernel
theorem dL_law__1793 : decode cL_law_ 1793 = .ok (.invokevirtual 124, 3) := by decide +kernel
theorem dL_law__1796 : decode cL_law_ 1796 = .ok (.iload 5, 2) := by decide +kernel
theorem dL_law__1798 : decode cL_law_ 1798 = .ok (.if_icmp .eq 5, 3) := by decide +kernel
theorem dL_law__1801 : decode cL_law_ 1801 = .ok (.iconst 0, 1) := by decide +kernel
theorem dL_law__1802 : decode cL_law_ 1802 = .ok (.ireturn, 1) := by decide +kernel
theorem dL_law__1803 : decode cL_law_ 1803 = .ok (.iload 5, 2) := by decide +kernel
theorem dL_law__1805 : decode cL_law_ 1805 = .ok (.ifCond .ne 22, 3) := by decide +kernel
theorem dL_law__1808 : decode cL_law_ 1808 = .ok (.aload_n 3, 1) := by decide +kernel
theorem dL_law__1809 : decode cL_law_ 1809 = .ok (.iconst 0, 1) := by decide +kernel
theorem dL_law__1810 : decode cL_law_ 1810 = .ok (.laload, 1) := by decide +kernel
theorem dL_law__1811 : decode cL_law_ 1811 = .ok (.iload 6, 2) := by decide +kernel
theorem dL_law__1813 : decode cL_law_ 1813 = .ok (.ifCond .eq 7, 3) := by decide +kernel
theorem dL_law__1816 : decode cL_law_ 1816 = .ok (.lconst 1, 1) := by decide +kernel
theorem dL_law__1817 : decode cL_law_ 1817 = .ok (.goto 4, 3) := by decide +kernel
theorem dL_law__1820 : decode cL_law_ 1820 = .ok (.lconst 0, 1) := by decide +kernel
theorem dL_law__1821 : decode cL_law_ 1821 = .ok (.lcmp, 1) := by decide +kernel
theorem dL_law__1822 : decode cL_law_ 1822 = .ok (.ifCond .eq 5, 3) := by decide +kernel
theorem dL_law__1825 : decode cL_law_ 1825 = .ok (.iconst 0, 1) := by decide +kernel
theorem dL_law__1826 : decode cL_law_ 1826 = .ok (.ireturn, 1) := by decide +kernel
theorem dL_law__1827 : decode cL_law_ 1827 = .ok (.goto 812, 3) := by decide +kernel
theorem dL_law__1830 : decode cL_law_ 1830 = .ok (.aload_n 1, 1) := by decide +kernel
theorem dL_law__1831 : decode cL_law_ 1831 = .ok (.aload_n 0, 1) := by decide +kernel
theorem dL_law__1832 : decode cL_law_ 1832 = .ok (.iload 4, 2) := by decide +kernel
theorem dL_law__1834 : decode cL_law_ 1834 = .ok (.iconst 1, 1) := by decide +kernel
theorem dL_law__1835 : decode cL_law_ 1835 = .ok (.iadd, 1) := by decide +kernel
theorem dL_law__1836 : decode cL_law_ 1836 = .ok (.iaload, 1) := by decide +kernel
theorem dL_law__1837 : decode cL_law_ 1837 = .ok (.aload_n 0, 1) := by decide +kernel
theorem dL_law__1838 : decode cL_law_ 1838 = .ok (.iload 4, 2) := by decide +kernel
theorem dL_law__1840 : decode cL_law_ 1840 = .ok (.iconst 2, 1) := by decide +kernel
theorem dL_law__1841 : decode cL_law_ 1841 = .ok (.iadd, 1) := by decide +kernel
theorem dL_law__1842 : decode cL_law_ 1842 = .ok (.iaload, 1) := by decide +kernel
theorem dL_law__1843 : decode cL_law_ 1843 = .ok (.aload_n 3, 1) := by decide +kernel
theorem dL_law__1844 : decode cL_law_ 1844 = .ok (.invokestatic 190, 3) := by decide +kernel
theorem dL_law__1847 : decode cL_law_ 1847 = .ok (.istore 5, 2) := by decide +kernel
theorem dL_law__1849 : decode cL_law_ 1849 = .ok (.aload_n 2, 1) := by decide +kernel
theorem dL_law__1850 : decode cL_law_ 1850 = .ok (.aload_n 0, 1) := by decide +kernel
theorem dL_law__1851 : decode cL_law_ 1851 = .ok (.iload 4, 2) := by decide +kernel
theorem dL_law__1853 : decode cL_law_ 1853 = .ok (.iconst 1, 1) := by decide +kernel
theorem dL_law__1854 : decode cL_law_ 1854 = .ok (.iadd, 1) := by decide +kernel
theorem dL_law__1855 : decode cL_law_ 1855 = .ok (.iaload, 1) := by decide +kernel
theorem dL_law__1856 : decode cL_law_ 1856 = .ok (.aload_n 0, 1) := by decide +kernel
theorem dL_law__1857 : decode cL_law_ 1857 = .ok (.iload 4, 2) := by decide +kernel
theorem dL_law__1859 : decode cL_law_ 1859 = .ok (.iconst 2, 1) := by decide +kernel
theorem dL_law__1860 : decode cL_law_ 1860 = .ok (.iadd, 1) := by decide +kernel
theorem dL_law__1861 : decode cL_law_ 1861 = .ok (.iaload, 1) := by decide +kernel
theorem dL_law__1862 : decode cL_law_ 1862 = .ok (.invokevirtual 192, 3) := by decide +kernel
theorem dL_law__1865 : decode cL_law_ 1865 = .ok (.istore 6, 2) := by decide +kernel
theorem dL_law__1867 : decode cL_law_ 1867 = .ok (.aload_n 2, 1) := by decide +kernel
theorem dL_law__1868 : decode cL_law_ 1868 = .ok (.invokevirtual 124, 3) := by decide +kernel
theorem dL_law__1871 : decode cL_law_ 1871 = .ok (.iload 5, 2) := by decide +kernel
theorem dL_law__1873 : decode cL_law_ 1873 = .ok (.if_icmp .eq 5, 3) := by decide +kernel
theorem dL_law__1876 : decode cL_law_ 1876 = .ok (.iconst 0, 1) := by decide +kernel
theorem dL_law__1877 : decode cL_law_ 1877 = .ok (.ireturn, 1) := by decide +kernel
theorem dL_law__1878 : decode cL_law_ 1878 = .ok (.iload 5, 2) := by decide +kernel
theorem dL_law__1880 : decode cL_law_ 1880 = .ok (.ifCond .ne 15, 3) := by decide +kernel
theorem dL_law__1883 : decode cL_law_ 1883 = .ok (.aload_n 3, 1) := by decide +kernel
theorem dL_law__1884 : decode cL_law_ 1884 = .ok (.iconst 0, 1) := by decide +kernel
theorem dL_law__1885 : decode cL_law_ 1885 = .ok (.laload, 1) := by decide +kernel
theorem dL_law__1886 : decode cL_law_ 1886 = .ok (.iload 6, 2) := by decide +kernel
theorem dL_law__1888 : decode cL_law_ 1888 = .ok (.i2l, 1) := by decide +kernel
theorem dL_law__1889 : decode cL_law_ 1889 = .ok (.lcmp, 1) := by decide +kernel
theorem dL_law__1890 : decode cL_law_ 1890 = .ok (.ifCond .eq 5, 3) := by decide +kernel
theorem dL_law__1893 : decode cL_law_ 1893 = .ok (.iconst 0, 1) := by decide +kernel
theorem dL_law__1894 : decode cL_law_ 1894 = .ok (.ireturn, 1) := by decide +kernel
theorem dL_law__1895 : decode cL_law_ 1895 = .ok (.goto 744, 3) := by decide +kernel
theorem dL_law__1898 : decode cL_law_ 1898 = .ok (.aload_n 1, 1) := by decide +kernel
theorem dL_law__1899 : decode cL_law_ 1899 = .ok (.aload_n 0, 1) := by decide +kernel
theorem dL_law__1900 : decode cL_law_ 1900 = .ok (.iload 4, 2) := by decide +kernel
theorem dL_law__1902 : decode cL_law_ 1902 = .ok (.iconst 1, 1) := by decide +kernel
theorem dL_law__1903 : decode cL_law_ 1903 = .ok (.iadd, 1) := by decide +kernel
theorem dL_law__1904 : decode cL_law_ 1904 = .ok (.iaload, 1) := by decide +kernel
theorem dL_law__1905 : decode cL_law_ 1905 = .ok (.aload_n 0, 1) := by decide +kernel
theorem dL_law__1906 : decode cL_law_ 1906 = .ok (.iload 4, 2) := by decide +kernel
