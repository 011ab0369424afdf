theorem dL_law_1535 : decode cL_law 1535 = .ok (.aload_n 1, 1) := by decide +kernel
theorem dL_law_1536 : decode cL_law 1536 = .ok (.aload_n 0, 1) := by decide +kernel
theorem dL_law_1537 : decode cL_law 1537 = .ok (.iload_n 3, 1) := by decide +kernel
theorem dL_law_1538 : decode cL_law 1538 = .ok (.iconst 1, 1) := by decide +kernel
theorem dL_law_1539 : decode cL_law 1539 = .ok (.iadd, 1) := by decide +kernel
theorem dL_law_1540 : decode cL_law 1540 = .ok (.iaload, 1) := by decide +kernel
theorem dL_law_1541 : decode cL_law 1541 = .ok (.aload_n 0, 1) := by decide +kernel
theorem dL_law_1542 : decode cL_law 1542 = .ok (.iload_n 3, 1) := by decide +kernel
theorem dL_law_1543 : decode cL_law 1543 = .ok (.iconst 2, 1) := by decide +kernel
theorem dL_law_1544 : decode cL_law 1544 = .ok (.iadd, 1) := by decide +kernel
theorem dL_law_1545 : decode cL_law 1545 = .ok (.iaload, 1) := by decide +kernel
theorem dL_law_1546 : decode cL_law 1546 = .ok (.invokevirtual 168, 3) := by decide +kernel
theorem dL_law_1549 : decode cL_law 1549 = .ok (.pop, 1) := by decide +kernel
theorem dL_law_1550 : decode cL_law 1550 = .ok (.aload_n 2, 1) := by decide +kernel
theorem dL_law_1551 : decode cL_law 1551 = .ok (.aload_n 0, 1) := by decide +kernel
theorem dL_law_1552 : decode cL_law 1552 = .ok (.iload_n 3, 1) := by decide +kernel
theorem dL_law_1553 : decode cL_law 1553 = .ok (.iconst 1, 1) := by decide +kernel
theorem dL_law_1554 : decode cL_law 1554 = .ok (.iadd, 1) := by decide +kernel
theorem dL_law_1555 : decode cL_law 1555 = .ok (.iaload, 1) := by decide +kernel
theorem dL_law_1556 : decode cL_law 1556 = .ok (.aload_n 0, 1) := by decide +kernel
theorem dL_law_1557 : decode cL_law 1557 = .ok (.iload_n 3, 1) := by decide +kernel
theorem dL_law_1558 : decode cL_law 1558 = .ok (.iconst 2, 1) := by decide +kernel
theorem dL_law_1559 : decode cL_law 1559 = .ok (.iadd, 1) := by decide +kernel
theorem dL_law_1560 : decode cL_law 1560 = .ok (.iaload, 1) := by decide +kernel
theorem dL_law_1561 : decode cL_law 1561 = .ok (.invokevirtual 171, 3) := by decide +kernel
theorem dL_law_1564 : decode cL_law 1564 = .ok (.pop, 1) := by decide +kernel
theorem dL_law_1565 : decode cL_law 1565 = .ok (.goto 382, 3) := by decide +kernel
theorem dL_law_1568 : decode cL_law 1568 = .ok (.aload_n 1, 1) := by decide +kernel
theorem dL_law_1569 : decode cL_law 1569 = .ok (.aload_n 0, 1) := by decide +kernel
theorem dL_law_1570 : decode cL_law 1570 = .ok (.iload_n 3, 1) := by decide +kernel
theorem dL_law_1571 : decode cL_law 1571 = .ok (.iconst 1, 1) := by decide +kernel
theorem dL_law_1572 : decode cL_law 1572 = .ok (.iadd, 1) := by decide +kernel
theorem dL_law_1573 : decode cL_law 1573 = .ok (.iaload, 1) := by decide +kernel
theorem dL_law_1574 : decode cL_law 1574 = .ok (.aload_n 0, 1) := by decide +kernel
theorem dL_law_1575 : decode cL_law 1575 = .ok (.iload_n 3, 1) := by decide +kernel
theorem dL_law_1576 : decode cL_law 1576 = .ok (.iconst 2, 1) := by decide +kernel
theorem dL_law_1577 : decode cL_law 1577 = .ok (.iadd, 1) := by decide +kernel
theorem dL_law_1578 : decode cL_law 1578 = .ok (.iaload, 1) := by decide +kernel
theorem dL_law_1579 : decode cL_law 1579 = .ok (.aload_n 0, 1) := by decide +kernel
theorem dL_law_1580 : decode cL_law 1580 = .ok (.iload_n 3, 1) := by decide +kernel
theorem dL_law_1581 : decode cL_law 1581 = .ok (.iconst 3, 1) := by decide +kernel
theorem dL_law_1582 : decode cL_law 1582 = .ok (.iadd, 1) := by decide +kernel
theorem dL_law_1583 : decode cL_law 1583 = .ok (.iaload, 1) := by decide +kernel
theorem dL_law_1584 : decode cL_law 1584 = .ok (.invokevirtual 172, 3) := by decide +kernel
theorem dL_law_1587 : decode cL_law 1587 = .ok (.pop, 1) := by decide +kernel
theorem dL_law_1588 : decode cL_law 1588 = .ok (.aload_n 2, 1) := by decide +kernel
theorem dL_law_1589 : decode cL_law 1589 = .ok (.aload_n 0, 1) := by decide +kernel
theorem dL_law_1590 : decode cL_law 1590 = .ok (.iload_n 3, 1) := by decide +kernel
theorem dL_law_1591 : decode cL_law 1591 = .ok (.iconst 1, 1) := by decide +kernel
theorem dL_law_1592 : decode cL_law 1592 = .ok (.iadd, 1) := by decide +kernel
theorem dL_law_1593 : decode cL_law 1593 = .ok (.iaload, 1) := by decide +kernel
theorem dL_law_1594 : decode cL_law 1594 = .ok (.aload_n 0, 1) := by decide +kernel
theorem dL_law_1595 : decode cL_law 1595 = .ok (.iload_n 3, 1) := by decide +kernel
theorem dL_law_1596 : decode cL_law 1596 = .ok (.iconst 2, 1) := by decide +kernel
theorem dL_law_1597 : decode cL_law 1597 = .ok (.iadd, 1) := by decide +kernel
theorem dL_law_1598 : decode cL_law 1598 = .ok (.iaload, 1) := by decide +kernel
theorem dL_law_1599 : decode cL_law 1599 = .ok (.aload_n 0, 1) := by decide +kernel
theorem dL_law_1600 : decode cL_law 1600 = .ok (.iload_n 3, 1) := by decide +kernel
theorem dL_law_1601 : decode cL_law 1601 = .ok (.iconst 3, 1) := by decide +kernel
theorem dL_law_1602 : decode cL_law 1602 = .ok (.iadd, 1) := by decide +kernel
theorem dL_law_1603 : decode cL_law 1603 = .ok (.iaload, 1) := by decide +kernel
theorem dL_law_1604 : decode cL_law 1604 = .ok (.invokevirtual 175, 3) := by decide +kernel
theorem dL_law_1607 : decode cL_law 1607 = .ok (.pop, 1) := by decide +kernel
theorem dL_law_1608 : decode cL_law 1608 = .ok (.goto 339, 3) := by decide +kernel
theorem dL_law_1611 : decode cL_law 1611 = .ok (.aload_n 1, 1) := by decide +kernel
theorem dL_law_1612 : decode cL_law 1612 = .ok (.aload_n 0, 1) := by decide +kernel
theorem dL_law_1613 : decode cL_law 1613 = .ok (.iload_n 3, 1) := by decide +kernel
theorem dL_law_1614 : decode cL_law 1614 = .ok (.iconst 1, 1) := by decide +kernel
theorem dL_law_1615 : decode cL_law 1615 = .ok (.iadd, 1) := by decide +kernel
theorem dL_law_1616 : decode cL_law 1616 = .ok (.iaload, 1) := by decide +kernel
theorem dL_law_1617 : decode cL_law 1617 = .ok (.aload_n 0, 1) := by decide +kernel
theorem dL_law_1618 : decode cL_law 1618 = .ok (.iload_n 3, 1) := by decide +kernel
theorem dL_law_1619 : decode cL_law 1619 = .ok (.iconst 2, 1) := by decide +kernel
theorem dL_law_1620 : decode cL_law 1620 = .ok (.iadd, 1) := by decide +kernel
theorem dL_law_1621 : decode cL_law 1621 = .ok (.iaload, 1) := by decide +kernel
theorem dL_law_1622 : decode cL_law 1622 = .ok (.invokevirtual 176, 3) := by decide +kernel
theorem dL_law_1625 : decode cL_law 1625 = .ok (.pop, 1) := by decide +kernel
theorem dL_law_1626 : decode cL_law 1626 = .ok (.aload_n 2, 1) := by decide +kernel
theorem dL_law_1627 : decode cL_law 1627 = .ok (.aload_n 0, 1) := by decide +kernel
theorem dL_law_1628 : decode cL_law 1628 = .ok (.iload_n 3, 1) := by decide +kernel
theorem dL_law_1629 : decode cL_law 1629 = .ok (.iconst 1, 1) := by decide +kernel
theorem dL_law_1630 : decode cL_law 1630 = .ok (.iadd, 1) := by decide +kernel
theorem dL_law_1631 : decode cL_law 1631 = .ok (.iaload, 1) := by decide +kernel
theorem dL_law_1632 : decode cL_law 1632 = .ok (.aload_n 0, 1) := by decide +kernel
theorem dL_law_1633 : decode cL_law 1633 = .ok (.iload_n 3, 1) := by decide +kernel
theorem dL_law_1634 : decode cL_law 1634 = .ok (.iconst 2, 1) := by decide +kernel
theorem dL_law_1635 : decode cL_law 1635 = .ok (.iadd, 1) := by decide +kernel
theorem dL_law_1636 : decode cL_law 1636 = .ok (.iaload, 1) := by decide +kernel
theorem dL_law_1637 : decode cL_law 1637 = .ok (.invokevirtual 179, 3) := by decide +kernel
theorem dL_law_1640 : decode cL_law 1640 = .ok (.pop, 1) := by decide +kernel
theorem dL_law_1641 : decode cL_law 1641 = .ok (.goto 306, 3) := by decide +kernel
theorem dL_law_1644 : decode cL_law 1644 = .ok (.aload_n 1, 1) := by decide +kernel
theorem dL_law_1645 : decode cL_law 1645 = .ok (.aload_n 0, 1) := by decide +kernel
theorem dL_law_1646 : decode cL_law 1646 = .ok (.iload_n 3, 1) := by decide +kernel
theorem dL_law_1647 : decode cL_law 1647 = .ok (.iconst 1, 1) := by decide +kernel
theorem dL_law_1648 : decode cL_law 1648 = .ok (.iadd, 1) := by decide +kernel
theorem dL_law_1649 : decode cL_law 1649 = .ok (.iaload, 1) := by decide +kernel
theorem dL_law_1650 : decode cL_law 1650 = .ok (.invokevirtual 180, 3) := by decide +kernel
theorem dL_law_1653 : decode cL_law 1653 = .ok (.pop, 1) := by decide +kernel
theorem dL_law_1654 : decode cL_law 1654 = .ok (.aload_n 2, 1) := by decide +kernel
theorem dL_law_1655 : decode cL_law 1655 = .ok (.aload_n 0, 1) := by decide +kernel
theorem dL_law_1656 : decode cL_law 1656 = .ok (.iload_n 3, 1) := by decide +kernel
theorem dL_law_1657 : decode cL_law 1657 = .ok (.iconst 1, 1) := by decide +kernel
theorem dL_law_1658 : decode cL_law 1658 = .ok (.iadd, 1) := by decide +kernel
theorem dL_law_1659 : decode cL_law 1659 = .ok (.iaload, 1) := by decide +kernel
theorem dL_law_1660 : decode cL_law 1660 = .ok (.invokevirtual 183, 3) := by decide +kernel
theorem dL_law_1663 : decode cL_law 1663 = .ok (.pop, 1) := by decide +kernel
theorem dL_law_1664 : decode cL_law 1664 = .ok (.goto 283, 3) := by decide +kernel
theorem dL_law_1667 : decode cL_law 1667 = .ok (.aload_n 1, 1) := by decide +kernel
theorem dL_law_1668 : decode cL_law 1668 = .ok (.aload_n 0, 1) := by decide +kernel
theorem dL_law_1669 : decode cL_law 1669 = .ok (.iload_n 3, 1) := by decide +kernel
theorem dL_law_1670 : decode cL_law 1670 = .ok (.iconst 1, 1) := by decide +kernel
theorem dL_law_1671 : decode cL_law 1671 = .ok (.iadd, 1) := by decide +kernel
theorem dL_law_1672 : decode cL_law 1672 = .ok (.iaload, 1) := by decide +kernel
theorem dL_law_1673 : decode cL_law 1673 = .ok (.aload_n 0, 1) := by decide +kernel
theorem dL_law_1674 : decode cL_law 1674 = .ok (.iload_n 3, 1) := by decide +kernel
theorem dL_law_1675 : decode cL_law 1675 = .ok (.iconst 2, 1) := by decide +kernel
theorem dL_law_1676 : decode cL_law 1676 = .ok (.iadd, 1) := by decide +kernel
theorem dL_law_1677 : decode cL_law 1677 = .ok (.iaload, 1) := by decide +kernel
theorem dL_law_1678 : decode cL_law 1678 = .ok (.invokevirtual 184, 3) := by decide +kernel
theorem dL_law_1681 : decode cL_law 1681 = .ok (.pop, 1) := by decide +kernel
theorem dL_law_1682 : decode cL_law 1682 = .ok (.aload_n 2, 1) := by decide +kernel
theorem dL_law_1683 : decode cL_law 1683 = .ok (.aload_n 0, 1) := by decide +kernel
theorem dL_law_1684 : decode cL_law 1684 = .ok (.iload_n 3, 1) := by decide +kernel
theorem dL_law_1685 : decode cL_law 1685 = .ok (.iconst 1, 1) := by decide +kernel
theorem dL_law_1686 : decode cL_law 1686 = .ok (.iadd, 1) := by decide +kernel
theorem dL_law_1687 : decode cL_law 1687 = .ok (.iaload, 1) := by decide +kernel
theorem dL_law_1688 : decode cL_law 1688 = .ok (.aload_n 0, 1) := by decide +kernel
theorem dL_law_1689 : decode cL_law 1689 = .ok (.iload_n 3, 1) := by decide +kernel
theorem dL_law_1690 : decode cL_law 1690 = .ok (.iconst 2, 1) := by decide +kernel
theorem dL_law_1691 : decode cL_law 1691 = .ok (.iadd, 1) := by decide +kernel
theorem dL_law_1692 : decode cL_law 1692 = .ok (.iaload, 1) := by decide +kernel
theorem dL_law_1693 : decode cL_law 1693 = .ok (.invokevirtual 187, 3) := by decide +kernel
theorem dL_law_1696 : decode cL_law 1696 = .ok (.pop, 1) := by decide +kernel
theorem dL_law_1697 : decode cL_law 1697 = .ok (.goto 250, 3) := by decide +kernel
theorem dL_law_1700 : decode cL_law 1700 = .ok (.aload_n 1, 1) := by decide +kernel
theorem dL_law_1701 : decode cL_law 1701 = .ok (.aload_n 0, 1) := by decide +kernel
theorem dL_law_1702 : decode cL_law 1702 = .ok (.iload_n 3, 1) := by decide +kernel
theorem dL_law_1703 : decode cL_law 1703 = .ok (.iconst 1, 1) := by decide +kernel
theorem dL_law_1704 : decode cL_law 1704 = .ok (.iadd, 1) := by decide +kernel
theorem dL_law_1705 : decode cL_law 1705 = .ok (.iaload, 1) := by decide +kernel
theorem dL_law_1706 : decode cL_law 1706 = .ok (.aload_n 0, 1) := by decide +kernel
theorem dL_law_1707 : decode cL_law 1707 = .ok (.iload_n 3, 1) := by decide +kernel
theorem dL_law_1708 : decode cL_law 1708 = .ok (.iconst 2, 1) := by decide +kernel
theorem dL_law_1709 : decode cL_law 1709 = .ok (.iadd, 1) := by decide +kernel
theorem dL_law_1710 : decode cL_law 1710 = .ok (.iaload, 1) := by decide +kernel
theorem dL_law_1711 : decode cL_law 1711 = .ok (.aload_n 0, 1) := by decide +kernel
theorem dL_law_1712 : decode cL_law 1712 = .ok (.iload_n 3, 1) := by decide +kernel
theorem dL_law_1713 : decode cL_law 1713 = .ok (.iconst 3, 1) := by decide +kernel
theorem dL_law_1714 : decode cL_law 1714 = .ok (.iadd, 1) := by decide +kernel
theorem dL_law_1715 : decode cL_law 1715 = .ok (.iaload, 1) := by decide +kernel
theorem dL_law_1716 : decode cL_law 1716 = .ok (.aload_n 0, 1) := by decide +kernel
theorem dL_law_1717 : decode cL_law 1717 = .ok (.iload_n 3, 1) := by decide +kernel
theorem dL_law_1718 : decode cL_law 1718 = .ok (.iconst 4, 1) := by decide +kernel
theorem dL_law_1719 : decode cL_law 1719 = .ok (.iadd, 1) := by decide +kernel
theorem dL_law_1720 : decode cL_law 1720 = .ok (.iaload, 1) := by decide +kernel
theorem dL_law_1721 : decode cL_law 1721 = .ok (.invokevirtual 188, 3) := by decide +kernel
theorem dL_law_1724 : decode cL_law 1724 = .ok (.pop, 1) := by decide +kernel
theorem dL_law_1725 : decode cL_law 1725 = .ok (.aload_n 2, 1) := by decide +kernel
theorem dL_law_1726 : decode cL_law 1726 = .ok (.aload_n 0, 1) := by decide +kernel
theorem dL_law_1727 : decode cL_law 1727 = .ok (.iload_n 3, 1) := by decide +kernel
theorem dL_law_1728 : decode cL_law 1728 = .ok (.iconst 1, 1) := by decide +kernel
theorem dL_law_1729 : decode cL_law 1729 = .ok (.iadd, 1) := by decide +kernel
theorem dL_law_1730 : decode cL_law 1730 = .ok (.iaload, 1) := by decide +kernel
theorem dL_law_1731 : decode cL_law 1731 = .ok (.aload_n 0, 1) := by decide +kernel
theorem dL_law_1732 : decode cL_law 1732 = .ok (.iload_n 3, 1) := by decide +kernel
theorem dL_law_1733 : decode cL_law 1733 = .ok (.iconst 2, 1) := by decide +kernel
theorem dL_law_1734 : decode cL_law 1734 = .ok (.iadd, 1) := by decide +kernel
theorem dL_law_1735 : decode cL_law 1735 = .ok (.iaload, 1) := by decide +kernel
theorem dL_law_1736 : decode cL_law 1736 = .ok (.aload_n 0, 1) := by decide +kernel
theorem dL_law_1737 : decode cL_law 1737 = .ok (.iload_n 3, 1) := by decide +kernel
theorem dL_law_1738 : decode cL_law 1738 = .ok (.iconst 3, 1) := by decide +kernel
theorem dL_law_1739 : decode cL_law 1739 = .ok (.iadd, 1) := by decide +kernel
theorem dL_law_1740 : decode cL_law 1740 = .ok (.iaload, 1) := by decide +kernel
theorem dL_law_1741 : decode cL_law 1741 = .ok (.aload_n 0, 1) := by decide +kernel
theorem dL_law_1742 : decode cL_law 1742 = .ok (.iload_n 3, 1) := by decide +kernel
theorem dL_law_1743 : decode cL_law 1743 = .ok (.iconst 4, 1) := by decide +kernel
theorem dL_law_1744 : decode cL_law 1744 = .ok (.iadd, 1) := by decide +kernel
theorem dL_law_1745 : decode cL_law 1745 = .ok (.iaload, 1) := by decide +kernel
theorem dL_law_1746 : decode cL_law 1746 = .ok (.invokevirtual 191, 3) := by decide +kernel
theorem dL_law_1749 : decode cL_law 1749 = .ok (.pop, 1) := by decide +kernel
theorem dL_law_1750 : decode cL_law 1750 = .ok (.goto 197, 3) := by decide +kernel
theorem dL_law_1753 : decode cL_law 1753 = .ok (.aload_n 1, 1) := by decide +kernel
theorem dL_law_1754 : decode cL_law 1754 = .ok (.aload_n 0, 1) := by decide +kernel
theorem dL_law_1755 : decode cL_law 1755 = .ok (.iload_n 3, 1) := by decide +kernel
theorem dL_law_1756 : decode cL_law 1756 = .ok (.iconst 1, 1) := by decide +kernel
theorem dL_law_1757 : decode cL_law 1757 = .ok (.iadd, 1) := by decide +kernel
theorem dL_law_1758 : decode cL_law 1758 = .ok (.iaload, 1) := by decide +kernel
theorem dL_law_1759 : decode cL_law 1759 = .ok (.aload_n 0, 1) := by decide +kernel
theorem dL_law_1760 : decode cL_law 1760 = .ok (.iload_n 3, 1) := by decide +kernel
theorem dL_law_1761 : decode cL_law 1761 = .ok (.iconst 2, 1) := by decide +kernel
theorem dL_law_1762 : decode cL_law 1762 = .ok (.iadd, 1) := by decide +kernel
theorem dL_law_1763 : decode cL_law 1763 = .ok (.iaload, 1) := by decide +kernel
theorem dL_law_1764 : decode cL_law 1764 = .ok (.ifCond .eq 7, 3) := by decide +kernel
theorem dL_law_1767 : decode cL_law 1767 = .ok (.iconst 1, 1) := by decide +kernel
theorem dL_law_1768 : decode cL_law 1768 = .ok (.goto 4, 3) := by decide +kernel
theorem dL_law_1771 : decode cL_law 1771 = .ok (.iconst 0, 1) := by decide +kernel
theorem dL_law_1772 : decode cL_law 1772 = .ok (.aload_n 0, 1) := by decide +kernel
theorem dL_law_1773 : decode cL_law 1773 = .ok (.iload_n 3, 1) := by decide +kernel
theorem dL_law_1774 : decode cL_law 1774 = .ok (.iconst 3, 1) := by decide +kernel
theorem dL_law_1775 : decode cL_law 1775 = .ok (.iadd, 1) := by decide +kernel
theorem dL_law_1776 : decode cL_law 1776 = .ok (.iaload, 1) := by decide +kernel
theorem dL_law_1777 : decode cL_law 1777 = .ok (.invokevirtual 192, 3) := by decide +kernel
theorem dL_law_1780 : decode cL_law 1780 = .ok (.pop, 1) := by decide +kernel
theorem dL_law_1781 : decode cL_law 1781 = .ok (.aload_n 2, 1) := by decide +kernel
theorem dL_law_1782 : decode cL_law 1782 = .ok (.aload_n 0, 1) := by decide +kernel
theorem dL_law_1783 : decode cL_law 1783 = .ok (.iload_n 3, 1) := by decide +kernel
theorem dL_law_1784 : decode cL_law 1784 = .ok (.iconst 1, 1) := by decide +kernel
theorem dL_law_1785 : decode cL_law 1785 = .ok (.iadd, 1) := by decide +kernel
theorem dL_law_1786 : decode cL_law 1786 = .ok (.iaload, 1) := by decide +kernel
theorem dL_law_1787 : decode cL_law 1787 = .ok (.aload_n 0, 1) := by decide +kernel
theorem dL_law_1788 : decode cL_law 1788 = .ok (.iload_n 3, 1) := by decide +kernel
theorem dL_law_1789 : decode cL_law 1789 = .ok (.iconst 2, 1) := by decide +kernel
theorem dL_law_1790 : decode cL_law 1790 = .ok (.iadd, 1) := by decide +kernel
theorem dL_law_1791 : decode cL_law 1791 = .ok (.iaload, 1) := by decide +kernel
theorem dL_law_1792 : decode cL_law 1792 = .ok (.ifCond .eq 7, 3) := by decide +kernel
theorem dL_law_1795 : decode cL_law 1795 = .ok (.iconst 1, 1) := by decide +kernel
theorem dL_law_1796 : decode cL_law 1796 = .ok (.goto 4, 3) := by decide +kernel
theorem dL_law_1799 : decode cL_law 1799 = .ok (.iconst 0, 1) := by decide +kernel
theorem dL_law_1800 : decode cL_law 1800 = .ok (.aload_n 0, 1) := by decide +kernel
theorem dL_law_1801 : decode cL_law 1801 = .ok (.iload_n 3, 1) := by decide +kernel
theorem dL_law_1802 : decode cL_law 1802 = .ok (.iconst 3, 1) := by decide +kernel
theorem dL_law_1803 : decode cL_law 1803 = .ok (.iadd, 1) := by decide +kernel
theorem dL_law_1804 : decode cL_law 1804 = .ok (.iaload, 1) := by decide +kernel
theorem dL_law_1805 : decode cL_law 1805 = .ok (.invokevirtual 196, 3) := by decide +kernel
theorem dL_law_1808 : decode cL_law 1808 = .ok (.pop, 1) := by decide +kernel
theorem dL_law_1809 : decode cL_law 1809 = .ok (.goto 138, 3) := by decide +kernel
theorem dL_law_1812 : decode cL_law 1812 = .ok (.aload_n 1, 1) := by decide +kernel
theorem dL_law_1813 : decode cL_law 1813 = .ok (.aload_n 0, 1) := by decide +kernel
theorem dL_law_1814 : decode cL_law 1814 = .ok (.iload_n 3, 1) := by decide +kernel
theorem dL_law_1815 : decode cL_law 1815 = .ok (.iconst 1, 1) := by decide +kernel
theorem dL_law_1816 : decode cL_law 1816 = .ok (.iadd, 1) := by decide +kernel
theorem dL_law_1817 : decode cL_law 1817 = .ok (.iaload, 1) := by decide +kernel
theorem dL_law_1818 : decode cL_law 1818 = .ok (.aload_n 0, 1) := by decide +kernel
theorem dL_law_1819 : decode cL_law 1819 = .ok (.iload_n 3, 1) := by decide +kernel
theorem dL_law_1820 : decode cL_law 1820 = .ok (.iconst 2, 1) := by decide +kernel
theorem dL_law_1821 : decode cL_law 1821 = .ok (.iadd, 1) := by decide +kernel
theorem dL_law_1822 : decode cL_law 1822 = .ok (.iaload, 1) := by decide +kernel
theorem dL_law_1823 : decode cL_law 1823 = .ok (.invokevirtual 197, 3) := by decide +kernel
theorem dL_law_1826 : decode cL_law 1826 = .ok (.pop, 1) := by decide +kernel
theorem dL_law_1827 : decode cL_law 1827 = .ok (.aload_n 2, 1) := by decide +kernel
theorem dL_law_1828 : decode cL_law 1828 = .ok (.aload_n 0, 1) := by decide +kernel
theorem dL_law_1829 : decode cL_law 1829 = .ok (.iload_n 3, 1) := by decide +kernel
theorem dL_law_1830 : decode cL_law 1830 = .ok (.iconst 1, 1) := by decide +kernel
theorem dL_law_1831 : decode cL_law 1831 = .ok (.iadd, 1) := by decide +kernel
theorem dL_law_1832 : decode cL_law 1832 = .ok (.iaload, 1) := by decide +kernel
theorem dL_law_1833 : decode cL_law 1833 = .ok (.aload_n 0, 1) := by decide +kernel
theorem dL_law_1834 : decode cL_law 1834 = .ok (.iload_n 3, 1) := by decide +kernel
theorem dL_law_1835 : decode cL_law 1835 = .ok (.iconst 2, 1) := by decide +kernel
theorem dL_law_1836 : decode cL_law 1836 = .ok (.iadd, 1) := by decide +kernel
theorem dL_law_1837 : decode cL_law 1837 = .ok (.iaload, 1) := by decide +kernel
theorem dL_law_1838 : decode cL_law 1838 = .ok (.invokevirtual 200, 3) := by decide +kernel
theorem dL_law_1841 : decode cL_law 1841 = .ok (.pop, 1) := by decide +kernel
theorem dL_law_1842 : decode cL_law 1842 = .ok (.goto 105, 3) := by decide +kernel
theorem dL_law_1845 : decode cL_law 1845 = .ok (.aload_n 1, 1) := by decide +kernel
theorem dL_law_1846 : decode cL_law 1846 = .ok (.aload_n 0, 1) := by decide +kernel
theorem dL_law_1847 : decode cL_law 1847 = .ok (.iload_n 3, 1) := by decide +kernel
theorem dL_law_1848 : decode cL_law 1848 = .ok (.iconst 1, 1) := by decide +kernel
theorem dL_law_1849 : decode cL_law 1849 = .ok (.iadd, 1) := by decide +kernel
theorem dL_law_1850 : decode cL_law 1850 = .ok (.iaload, 1) := by decide +kernel
theorem dL_law_1851 : decode cL_law 1851 = .ok (.invokevirtual 201, 3) := by decide +kernel
theorem dL_law_1854 : decode cL_law 1854 = .ok (.pop2, 1) := by decide +kernel
theorem dL_law_1855 : decode cL_law 1855 = .ok (.aload_n 2, 1) := by decide +kernel
theorem dL_law_1856 : decode cL_law 1856 = .ok (.aload_n 0, 1) := by decide +kernel
theorem dL_law_1857 : decode cL_law 1857 = .ok (.iload_n 3, 1) := by decide +kernel
theorem dL_law_1858 : decode cL_law 1858 = .ok (.iconst 1, 1) := by decide +kernel
theorem dL_law_1859 : decode cL_law 1859 = .ok (.iadd, 1) := by decide +kernel
theorem dL_law_1860 : decode cL_law 1860 = .ok (.iaload, 1) := by decide +kernel
theorem dL_law_1861 : decode cL_law 1861 = .ok (.invokevirtual 205, 3) := by decide +kernel
theorem dL_law_1864 : decode cL_law 1864 = .ok (.pop2, 1) := by decide +kernel
theorem dL_law_1865 : decode cL_law 1865 = .ok (.goto 82, 3) := by decide +kernel
theorem dL_law_1868 : decode cL_law 1868 = .ok (.aload_n 1, 1) := by decide +kernel
theorem dL_law_1869 : decode cL_law 1869 = .ok (.invokevirtual 206, 3) := by decide +kernel
theorem dL_law_1872 : decode cL_law 1872 = .ok (.pop2, 1) := by decide +kernel
theorem dL_law_1873 : decode cL_law 1873 = .ok (.aload_n 2, 1) := by decide +kernel
theorem dL_law_1874 : decode cL_law 1874 = .ok (.invokevirtual 210, 3) := by decide +kernel
theorem dL_law_1877 : decode cL_law 1877 = .ok (.pop2, 1) := by decide +kernel
theorem dL_law_1878 : decode cL_law 1878 = .ok (.goto 69, 3) := by decide +kernel
theorem dL_law_1881 : decode cL_law 1881 = .ok (.aload_n 1, 1) := by decide +kernel
theorem dL_law_1882 : decode cL_law 1882 = .ok (.aload_n 0, 1) := by decide +kernel
theorem dL_law_1883 : decode cL_law 1883 = .ok (.iload_n 3, 1) := by decide +kernel
theorem dL_law_1884 : decode cL_law 1884 = .ok (.iconst 1, 1) := by decide +kernel
theorem dL_law_1885 : decode cL_law 1885 = .ok (.iadd, 1) := by decide +kernel
theorem dL_law_1886 : decode cL_law 1886 = .ok (.iaload, 1) := by decide +kernel
theorem dL_law_1887 : decode cL_law 1887 = .ok (.aload_n 0, 1) := by decide +kernel
theorem dL_law_1888 : decode cL_law 1888 = .ok (.iload_n 3, 1) := by decide +kernel
theorem dL_law_1889 : decode cL_law 1889 = .ok (.iconst 2, 1) := by decide +kernel
theorem dL_law_1890 : decode cL_law 1890 = .ok (.iadd, 1) := by decide +kernel
theorem dL_law_1891 : decode cL_law 1891 = .ok (.iaload, 1) := by decide +kernel
theorem dL_law_1892 : decode cL_law 1892 = .ok (.aload_n 0, 1) := by decide +kernel
theorem dL_law_1893 : decode cL_law 1893 = .ok (.iload_n 3, 1) := by decide +kernel
theorem dL_law_1894 : decode cL_law 1894 = .ok (.iconst 3, 1) := by decide +kernel
theorem dL_law_1895 : decode cL_law 1895 = .ok (.iadd, 1) := by decide +kernel
theorem dL_law_1896 : decode cL_law 1896 = .ok (.iaload, 1) := by decide +kernel
theorem dL_law_1897 : decode cL_law 1897 = .ok (.invokevirtual 211, 3) := by decide +kernel
theorem dL_law_1900 : decode cL_law 1900 = .ok (.pop, 1) := by decide +kernel
theorem dL_law_1901 : decode cL_law 1901 = .ok (.aload_n 2, 1) := by decide +kernel
theorem dL_law_1902 : decode cL_law 1902 = .ok (.aload_n 0, 1) := by decide +kernel
theorem dL_law_1903 : decode cL_law 1903 = .ok (.iload_n 3, 1) := by decide +kernel
theorem dL_law_1904 : decode cL_law 1904 = .ok (.iconst 1, 1) := by decide +kernel
theorem dL_law_1905 : decode cL_law 1905 = .ok (.iadd, 1) := by decide +kernel
theorem dL_law_1906 : decode cL_law 1906 = .ok (.iaload, 1) := by decide +kernel
theorem dL_law_1907 : decode cL_law 1907 = .ok (.aload_n 0, 1) := by decide +kernel
theorem dL_law_1908 : decode cL_law 1908 = .ok (.iload_n 3, 1) := by decide +kernel
theorem dL_law_1909 : decode cL_law 1909 = .ok (.iconst 2, 1) := by decide +kernel
theorem dL_law_1910 : decode cL_law 1910 = .ok (.iadd, 1) := by decide +kernel
theorem dL_law_1911 : decode cL_law 1911 = .ok (.iaload, 1) := by decide +kernel
theorem dL_law_1912 : decode cL_law 1912 = .ok (.aload_n 0, 1) := by decide +kernel
theorem dL_law_1913 : decode cL_law 1913 = .ok (.iload_n 3, 1) := by decide +kernel
theorem dL_law_1914 : decode cL_law 1914 = .ok (.iconst 3, 1) := by decide +kernel
theorem dL_law_1915 : decode cL_law 1915 = .ok (.iadd, 1) := by decide +kernel
theorem dL_law_1916 : decode cL_law 1916 = .ok (.iaload, 1) := by decide +kernel
theorem dL_law_1917 : decode cL_law 1917 = .ok (.invokevirtual 214, 3) := by decide +kernel
theorem dL_law_1920 : decode cL_law 1920 = .ok (.pop, 1) := by decide +kernel
theorem dL_law_1921 : decode cL_law 1921 = .ok (.goto 26, 3) := by decide +kernel
theorem dL_law_1924 : decode cL_law 1924 = .ok (.aload_n 1, 1) := by decide +kernel
theorem dL_law_1925 : decode cL_law 1925 = .ok (.aload_n 0, 1) := by decide +kernel
theorem dL_law_1926 : decode cL_law 1926 = .ok (.iload_n 3, 1) := by decide +kernel
theorem dL_law_1927 : decode cL_law 1927 = .ok (.iconst 1, 1) := by decide +kernel
theorem dL_law_1928 : decode cL_law 1928 = .ok (.iadd, 1) := by decide +kernel
theorem dL_law_1929 : decode cL_law 1929 = .ok (.iaload, 1) := by decide +kernel
theorem dL_law_1930 : decode cL_law 1930 = .ok (.invokevirtual 215, 3) := by decide +kernel
theorem dL_law_1933 : decode cL_law 1933 = .ok (.aload_n 2, 1) := by decide +kernel
theorem dL_law_1934 : decode cL_law 1934 = .ok (.aload_n 0, 1) := by decide +kernel
theorem dL_law_1935 : decode cL_law 1935 = .ok (.iload_n 3, 1) := by decide +kernel
theorem dL_law_1936 : decode cL_law 1936 = .ok (.iconst 1, 1) := by decide +kernel
theorem dL_law_1937 : decode cL_law 1937 = .ok (.iadd, 1) := by decide +kernel
theorem dL_law_1938 : decode cL_law 1938 = .ok (.iaload, 1) := by decide +kernel
theorem dL_law_1939 : decode cL_law 1939 = .ok (.invokevirtual 218, 3) := by decide +kernel
theorem dL_law_1942 : decode cL_law 1942 = .ok (.if_icmp .eq 5, 3) := by decide +kernel
set_option maxRecDepth 100000 in
theorem pq886 : Cond.methodLink RL 172 yX6_island ∈ pw := pw_mem (i := 886) (by decide +kernel) rfl
set_option maxRecDepth 100000 in
theorem pq887 : Cond.instanceMethod yX6_island ∈ pw := pw_mem (i := 887) (by decide +kernel) rfl
set_option maxRecDepth 100000 in
theorem pq888 : Cond.selects RX6 yX6_island yX6_island ∈ pw := pw_mem (i := 888) (by decide +kernel) rfl
set_option maxRecDepth 100000 in
theorem pq889 : Cond.code yX6_island cX6_island 5 (some .int) ∈ pw := pw_mem (i := 889) (by rfl) rfl
set_option maxRecDepth 100000 in
theorem pq894 : Cond.methodLink RL 176 yX6_shifts ∈ pw := pw_mem (i := 894) (by decide +kernel) rfl
set_option maxRecDepth 100000 in
theorem pq895 : Cond.instanceMethod yX6_shifts ∈ pw := pw_mem (i := 895) (by decide +kernel) rfl
set_option maxRecDepth 100000 in
theorem pq896 : Cond.selects RX6 yX6_shifts yX6_shifts ∈ pw := pw_mem (i := 896) (by decide +kernel) rfl
set_option maxRecDepth 100000 in
theorem pq897 : Cond.code yX6_shifts cX6_shifts 8 (some .int) ∈ pw := pw_mem (i := 897) (by rfl) rfl
set_option maxRecDepth 100000 in
theorem pq899 : Cond.methodLink RL 180 yX6_like ∈ pw := pw_mem (i := 899) (by decide +kernel) rfl
set_option maxRecDepth 100000 in
theorem pq900 : Cond.instanceMethod yX6_like ∈ pw := pw_mem (i := 900) (by decide +kernel) rfl
set_option maxRecDepth 100000 in
theorem pq901 : Cond.selects RX6 yX6_like yX6_like ∈ pw := pw_mem (i := 901) (by decide +kernel) rfl
set_option maxRecDepth 100000 in
theorem pq902 : Cond.code yX6_like cX6_like 4 (some .int) ∈ pw := pw_mem (i := 902) (by rfl) rfl
set_option maxRecDepth 100000 in
theorem pq908 : Cond.methodLink RL 184 yX6_letter ∈ pw := pw_mem (i := 908) (by decide +kernel) rfl
set_option maxRecDepth 100000 in
theorem pq909 : Cond.instanceMethod yX6_letter ∈ pw := pw_mem (i := 909) (by decide +kernel) rfl
set_option maxRecDepth 100000 in
theorem pq910 : Cond.selects RX6 yX6_letter yX6_letter ∈ pw := pw_mem (i := 910) (by decide +kernel) rfl
set_option maxRecDepth 100000 in
theorem pq911 : Cond.code yX6_letter cX6_letter 7 (some .int) ∈ pw := pw_mem (i := 911) (by rfl) rfl
set_option maxRecDepth 100000 in
theorem pq912 : Cond.methodLink RL 188 yX6_dense ∈ pw := pw_mem (i := 912) (by decide +kernel) rfl
set_option maxRecDepth 100000 in
theorem pq913 : Cond.instanceMethod yX6_dense ∈ pw := pw_mem (i := 913) (by decide +kernel) rfl
set_option maxRecDepth 100000 in
theorem pq914 : Cond.selects RX6 yX6_dense yX6_dense ∈ pw := pw_mem (i := 914) (by decide +kernel) rfl
set_option maxRecDepth 100000 in
theorem pq915 : Cond.code yX6_dense cX6_dense 12 (some .int) ∈ pw := pw_mem (i := 915) (by rfl) rfl
set_option maxRecDepth 100000 in
theorem pq920 : Cond.methodLink RL 192 yX6_dots ∈ pw := pw_mem (i := 920) (by decide +kernel) rfl
set_option maxRecDepth 100000 in
theorem pq921 : Cond.instanceMethod yX6_dots ∈ pw := pw_mem (i := 921) (by decide +kernel) rfl
set_option maxRecDepth 100000 in
theorem pq922 : Cond.selects RX6 yX6_dots yX6_dots ∈ pw := pw_mem (i := 922) (by decide +kernel) rfl
set_option maxRecDepth 100000 in
theorem pq923 : Cond.code yX6_dots cX6_dots 5 (some .int) ∈ pw := pw_mem (i := 923) (by rfl) rfl
set_option maxRecDepth 100000 in
theorem pq924 : Cond.methodLink RL 197 yX6_spread ∈ pw := pw_mem (i := 924) (by decide +kernel) rfl
set_option maxRecDepth 100000 in
theorem pq925 : Cond.instanceMethod yX6_spread ∈ pw := pw_mem (i := 925) (by decide +kernel) rfl
set_option maxRecDepth 100000 in
theorem pq926 : Cond.selects RX6 yX6_spread yX6_spread ∈ pw := pw_mem (i := 926) (by decide +kernel) rfl
set_option maxRecDepth 100000 in
theorem pq927 : Cond.code yX6_spread cX6_spread 3 (some .int) ∈ pw := pw_mem (i := 927) (by rfl) rfl
set_option maxRecDepth 100000 in
theorem pq945 : Cond.methodLink RL 201 yX6_share ∈ pw := pw_mem (i := 945) (by decide +kernel) rfl
set_option maxRecDepth 100000 in
theorem pq946 : Cond.instanceMethod yX6_share ∈ pw := pw_mem (i := 946) (by decide +kernel) rfl
set_option maxRecDepth 100000 in
theorem pq947 : Cond.selects RX6 yX6_share yX6_share ∈ pw := pw_mem (i := 947) (by decide +kernel) rfl
set_option maxRecDepth 100000 in
theorem pq948 : Cond.code yX6_share cX6_share 3 (some .long) ∈ pw := pw_mem (i := 948) (by rfl) rfl
set_option maxRecDepth 100000 in
theorem pq954 : Cond.methodLink RL 211 yX6_alike ∈ pw := pw_mem (i := 954) (by decide +kernel) rfl
set_option maxRecDepth 100000 in
theorem pq955 : Cond.instanceMethod yX6_alike ∈ pw := pw_mem (i := 955) (by decide +kernel) rfl
set_option maxRecDepth 100000 in
theorem pq956 : Cond.selects RX6 yX6_alike yX6_alike ∈ pw := pw_mem (i := 956) (by decide +kernel) rfl
set_option maxRecDepth 100000 in
theorem pq957 : Cond.code yX6_alike cX6_alike 4 (some .int) ∈ pw := pw_mem (i := 957) (by rfl) rfl
set_option maxRecDepth 100000 in
theorem pq1073 : Cond.methodLink RL 168 yX6_seen ∈ pw := pw_mem (i := 1073) (by decide +kernel) rfl
set_option maxRecDepth 100000 in
theorem pq1074 : Cond.instanceMethod yX6_seen ∈ pw := pw_mem (i := 1074) (by decide +kernel) rfl
set_option maxRecDepth 100000 in
theorem pq1075 : Cond.selects RX6 yX6_seen yX6_seen ∈ pw := pw_mem (i := 1075) (by decide +kernel) rfl
set_option maxRecDepth 100000 in
theorem pq1076 : Cond.code yX6_seen cX6_seen 10 (some .int) ∈ pw := pw_mem (i := 1076) (by rfl) rfl
set_option maxRecDepth 100000 in
theorem pq1095 : Cond.methodLink RL 206 yX6_digest ∈ pw := pw_mem (i := 1095) (by decide +kernel) rfl
set_option maxRecDepth 100000 in
theorem pq1096 : Cond.instanceMethod yX6_digest ∈ pw := pw_mem (i := 1096) (by decide +kernel) rfl
set_option maxRecDepth 100000 in
theorem pq1097 : Cond.selects RX6 yX6_digest yX6_digest ∈ pw := pw_mem (i := 1097) (by decide +kernel) rfl
set_option maxRecDepth 100000 in
theorem pq1098 : Cond.code yX6_digest cX6_digest 6 (some .long) ∈ pw := pw_mem (i := 1098) (by rfl) rfl
set_option maxRecDepth 100000 in
theorem pq1101 : Cond.methodLink RL 215 yX6_count ∈ pw := pw_mem (i := 1101) (by decide +kernel) rfl
set_option maxRecDepth 100000 in
theorem pq1102 : Cond.instanceMethod yX6_count ∈ pw := pw_mem (i := 1102) (by decide +kernel) rfl
set_option maxRecDepth 100000 in
theorem pq1103 : Cond.selects RX6 yX6_count yX6_count ∈ pw := pw_mem (i := 1103) (by decide +kernel) rfl
set_option maxRecDepth 100000 in
theorem pq1104 : Cond.code yX6_count cX6_count 2 (some .int) ∈ pw := pw_mem (i := 1104) (by rfl) rfl
set_option maxRecDepth 100000 in
theorem pq1649 : Cond.methodLink RL 171 yX7_seen ∈ pw := pw_mem (i := 1649) (by decide +kernel) rfl
set_option maxRecDepth 100000 in
theorem pq1650 : Cond.instanceMethod yX7_seen ∈ pw := pw_mem (i := 1650) (by decide +kernel) rfl
set_option maxRecDepth 100000 in
theorem pq1651 : Cond.selects RX7 yX7_seen yX7_seen ∈ pw := pw_mem (i := 1651) (by decide +kernel) rfl
set_option maxRecDepth 100000 in
theorem pq1652 : Cond.code yX7_seen cX7_seen 11 (some .int) ∈ pw := pw_mem (i := 1652) (by rfl) rfl
set_option maxRecDepth 100000 in
theorem pq1653 : Cond.methodLink RL 175 yX7_island ∈ pw := pw_mem (i := 1653) (by decide +kernel) rfl
set_option maxRecDepth 100000 in
theorem pq1654 : Cond.instanceMethod yX7_island ∈ pw := pw_mem (i := 1654) (by decide +kernel) rfl
set_option maxRecDepth 100000 in
theorem pq1655 : Cond.selects RX7 yX7_island yX7_island ∈ pw := pw_mem (i := 1655) (by decide +kernel) rfl
set_option maxRecDepth 100000 in
theorem pq1656 : Cond.code yX7_island cX7_island 11 (some .int) ∈ pw := pw_mem (i := 1656) (by rfl) rfl
set_option maxRecDepth 100000 in
theorem pq1658 : Cond.methodLink RL 179 yX7_shifts ∈ pw := pw_mem (i := 1658) (by decide +kernel) rfl
set_option maxRecDepth 100000 in
theorem pq1659 : Cond.instanceMethod yX7_shifts ∈ pw := pw_mem (i := 1659) (by decide +kernel) rfl
set_option maxRecDepth 100000 in
theorem pq1660 : Cond.selects RX7 yX7_shifts yX7_shifts ∈ pw := pw_mem (i := 1660) (by decide +kernel) rfl
set_option maxRecDepth 100000 in
theorem pq1661 : Cond.code yX7_shifts cX7_shifts 6 (some .int) ∈ pw := pw_mem (i := 1661) (by rfl) rfl
set_option maxRecDepth 100000 in
theorem pq1666 : Cond.methodLink RL 183 yX7_like ∈ pw := pw_mem (i := 1666) (by decide +kernel) rfl
set_option maxRecDepth 100000 in
theorem pq1667 : Cond.instanceMethod yX7_like ∈ pw := pw_mem (i := 1667) (by decide +kernel) rfl
set_option maxRecDepth 100000 in
theorem pq1668 : Cond.selects RX7 yX7_like yX7_like ∈ pw := pw_mem (i := 1668) (by decide +kernel) rfl
set_option maxRecDepth 100000 in
theorem pq1669 : Cond.code yX7_like cX7_like 4 (some .int) ∈ pw := pw_mem (i := 1669) (by rfl) rfl
set_option maxRecDepth 100000 in
theorem pq1674 : Cond.methodLink RL 187 yX7_letter ∈ pw := pw_mem (i := 1674) (by decide +kernel) rfl
set_option maxRecDepth 100000 in
theorem pq1675 : Cond.instanceMethod yX7_letter ∈ pw := pw_mem (i := 1675) (by decide +kernel) rfl
set_option maxRecDepth 100000 in
theorem pq1676 : Cond.selects RX7 yX7_letter yX7_letter ∈ pw := pw_mem (i := 1676) (by decide +kernel) rfl
set_option maxRecDepth 100000 in
theorem pq1677 : Cond.code yX7_letter cX7_letter 5 (some .int) ∈ pw := pw_mem (i := 1677) (by rfl) rfl
set_option maxRecDepth 100000 in
theorem pq1678 : Cond.methodLink RL 191 yX7_dense ∈ pw := pw_mem (i := 1678) (by decide +kernel) rfl
set_option maxRecDepth 100000 in
theorem pq1679 : Cond.instanceMethod yX7_dense ∈ pw := pw_mem (i := 1679) (by decide +kernel) rfl
set_option maxRecDepth 100000 in
theorem pq1680 : Cond.selects RX7 yX7_dense yX7_dense ∈ pw := pw_mem (i := 1680) (by decide +kernel) rfl
set_option maxRecDepth 100000 in
theorem pq1681 : Cond.code yX7_dense cX7_dense 11 (some .int) ∈ pw := pw_mem (i := 1681) (by rfl) rfl
set_option maxRecDepth 100000 in
theorem pq1686 : Cond.methodLink RL 196 yX7_dots ∈ pw := pw_mem (i := 1686) (by decide +kernel) rfl
set_option maxRecDepth 100000 in
theorem pq1687 : Cond.instanceMethod yX7_dots ∈ pw := pw_mem (i := 1687) (by decide +kernel) rfl
set_option maxRecDepth 100000 in
theorem pq1688 : Cond.selects RX7 yX7_dots yX7_dots ∈ pw := pw_mem (i := 1688) (by decide +kernel) rfl
set_option maxRecDepth 100000 in
theorem pq1689 : Cond.code yX7_dots cX7_dots 4 (some .int) ∈ pw := pw_mem (i := 1689) (by rfl) rfl
set_option maxRecDepth 100000 in
theorem pq1690 : Cond.methodLink RL 200 yX7_spread ∈ pw := pw_mem (i := 1690) (by decide +kernel) rfl
set_option maxRecDepth 100000 in
theorem pq1691 : Cond.instanceMethod yX7_spread ∈ pw := pw_mem (i := 1691) (by decide +kernel) rfl
set_option maxRecDepth 100000 in
theorem pq1692 : Cond.selects RX7 yX7_spread yX7_spread ∈ pw := pw_mem (i := 1692) (by decide +kernel) rfl
set_option maxRecDepth 100000 in
theorem pq1693 : Cond.code yX7_spread cX7_spread 6 (some .int) ∈ pw := pw_mem (i := 1693) (by rfl) rfl
set_option maxRecDepth 100000 in
theorem pq1698 : Cond.methodLink RL 205 yX7_share ∈ pw := pw_mem (i := 1698) (by decide +kernel) rfl
set_option maxRecDepth 100000 in
theorem pq1699 : Cond.instanceMethod yX7_share ∈ pw := pw_mem (i := 1699) (by decide +kernel) rfl
set_option maxRecDepth 100000 in
theorem pq1700 : Cond.selects RX7 yX7_share yX7_share ∈ pw := pw_mem (i := 1700) (by decide +kernel) rfl
set_option maxRecDepth 100000 in
theorem pq1701 : Cond.code yX7_share cX7_share 2 (some .long) ∈ pw := pw_mem (i := 1701) (by rfl) rfl
set_option maxRecDepth 100000 in
theorem pq1713 : Cond.methodLink RL 210 yX7_digest ∈ pw := pw_mem (i := 1713) (by decide +kernel) rfl
set_option maxRecDepth 100000 in
theorem pq1714 : Cond.instanceMethod yX7_digest ∈ pw := pw_mem (i := 1714) (by decide +kernel) rfl
set_option maxRecDepth 100000 in
theorem pq1715 : Cond.selects RX7 yX7_digest yX7_digest ∈ pw := pw_mem (i := 1715) (by decide +kernel) rfl
set_option maxRecDepth 100000 in
theorem pq1716 : Cond.code yX7_digest cX7_digest 5 (some .long) ∈ pw := pw_mem (i := 1716) (by rfl) rfl
set_option maxRecDepth 100000 in
theorem pq1720 : Cond.methodLink RL 214 yX7_alike ∈ pw := pw_mem (i := 1720) (by decide +kernel) rfl
set_option maxRecDepth 100000 in
theorem pq1721 : Cond.instanceMethod yX7_alike ∈ pw := pw_mem (i := 1721) (by decide +kernel) rfl
set_option maxRecDepth 100000 in
theorem pq1722 : Cond.selects RX7 yX7_alike yX7_alike ∈ pw := pw_mem (i := 1722) (by decide +kernel) rfl
set_option maxRecDepth 100000 in
theorem pq1723 : Cond.code yX7_alike cX7_alike 4 (some .int) ∈ pw := pw_mem (i := 1723) (by rfl) rfl
set_option maxRecDepth 100000 in
theorem pq1724 : Cond.methodLink RL 218 yX7_count ∈ pw := pw_mem (i := 1724) (by decide +kernel) rfl
set_option maxRecDepth 100000 in
theorem pq1725 : Cond.instanceMethod yX7_count ∈ pw := pw_mem (i := 1725) (by decide +kernel) rfl
set_option maxRecDepth 100000 in
theorem pq1726 : Cond.selects RX7 yX7_count yX7_count ∈ pw := pw_mem (i := 1726) (by decide +kernel) rfl
set_option maxRecDepth 100000 in
theorem pq1727 : Cond.code yX7_count cX7_count 2 (some .int) ∈ pw := pw_mem (i := 1727) (by rfl) rfl
set_option maxHeartbeats 4000000 in
set_option maxRecDepth 100000 in
theorem s_lwcase37 {p : Program} {e : Env} {s : State} {m : MethodId} {below : List Frame} {meth : Method} {c : Code} (l : Launch) {b Ln : Nat} {xs : Nat → Int32} {dC : Nat → ClassId} {dI : Nat → Nat → Nat} {cs : Nat → ClassId} {x0 m0 : Nat} (C0 : lw_At p s m meth c b Ln xs) (hLn : Ln ≤ 3072) (hK : va_K (dC, dI) vwCl (tysA cs) s) (hXs : xS (fun q : Nat => s.heap.size ≤ q) s s.heap) (i : Int32) (n : Nat) (hn : n < 512) (hi : i.toInt = 6 * (n : Int)) (hiL : i.toInt + 5 < (Ln : Int)) {d0 : Drawn} {H : Heap} {lo : List Loc} {ls : Array Slot} {nc ns : Nat} (h : lwI dC dI cs x0 m0 b s i n d0 H lo ls nc ns) (kk : ∀ (d0 : Drawn) (H : Heap) (lo : List Loc) (ls : Array Slot) (nc ns : Nat), lwI dC dI cs x0 m0 b s i (n + 1) d0 H lo ls nc ns → W p l e room_1 (s.setDrawn d0) m #[Value.ref b] below meth c H lo nc ns (lw_Z below #[Value.ref b] s) (F0 m 1947 ls [])) : W p l e room_1 (s.setDrawn d0) m #[Value.ref b] below meth c H lo nc ns (lw_Z below #[Value.ref b] s) (F0 m 1535 ls []) := by
  obtain ⟨hx, hb, hr, hml, hown, htl, hX, hbl, hlocks, hgv⟩ := id C0
  have hb : c.code = cL_law := hb
  have hown : s.vm.findClass RL = some m.cls := hown
  have hts0 : ∀ w ∈ pw, w.before #[Value.ref b] s = true := fun w h => htl w (pw_tbl h)
  have hts := dr_words hts0 d0
  have hN : xN s := xN_of htl
  have hA : ∀ q : Nat, s.heap.size ≤ q → (fun q : Nat => s.heap.size ≤ q) q := fun _ h => h
  have hbA : ¬ (fun q : Nat => s.heap.size ≤ q) b := Nat.not_le.mpr hbl
  obtain ⟨L, K, G, Q, I, J, tx, tm, B, σ, hQ, hI, hx0, hm0, hB, hT, hC, hM, hD, hAL, hP, hS, hl, hd0, hnc, hns⟩ := h
  have hi0 : 0 ≤ i.toInt := by omega
  have hok : okF σ.1 := hC.1.1.1
  refine lv_aload_n hx hb dL_law_1535 rfl (lv_at hl 2 rfl) ?_
  refine lv_aload_n hx hb dL_law_1536 rfl (lv_at hl 3 rfl) ?_
  refine lv_iload_n hx hb dL_law_1537 rfl (lv_at hl 0 rfl) ?_
  refine lv_iconst (v := 1) hx hb dL_law_1538 (by decide +kernel) ?_
  refine lv_iadd hx hb dL_law_1539 ?_
  refine va_sld (s := s.setDrawn d0) hx hb hX hbl hbA hS (lw_in (j := (1 : Int32)) (J := 1) (by decide +kernel) (by decide) (by decide) hi0 hiL hLn) dL_law_1540 ?_
  refine lv_aload_n hx hb dL_law_1541 rfl (lv_at hl 3 rfl) ?_
  refine lv_iload_n hx hb dL_law_1542 rfl (lv_at hl 0 rfl) ?_
  refine lv_iconst (v := 2) hx hb dL_law_1543 (by decide +kernel) ?_
  refine lv_iadd hx hb dL_law_1544 ?_
  refine va_sld (s := s.setDrawn d0) hx hb hX hbl hbA hS (lw_in (j := (2 : Int32)) (J := 2) (by decide +kernel) (by decide) (by decide) hi0 hiL hLn) dL_law_1545 ?_
  refine ro_i (va_runV (As := [.int (xs (i + 1).toNatClampNeg), .int (xs (i + 2).toNatClampNeg)]) (rest := []) ⟨hx, hb, hml, hown, hts⟩ (s_X6_seen l dC dI cs L K G Q hQ x0 m0 tx (tm, B) H.size I J hI x0 hx0 hI.2.1.1 (xs (i + 1).toNatClampNeg) (xs (i + 2).toNatClampNeg)) (cwV 2 hts (gV pq1073 pq1074 pq1075 pq74 pq1076) rfl rfl rfl (by decide +kernel) ⟨(Nat.le_of_ble_eq_true rfl), (Nat.le_of_ble_eq_true rfl)⟩) (sP_V hP hD hK hN hx0 hI.2.1.1 rfl rfl) rfl rfl hl.1 rfl (lv_room (Nat.le_of_ble_eq_true rfl)) dL_law_1546 ⟨(show nc + 0 ≤ room_1.cells from (show nc + 0 ≤ 600000 from by omega)), (show ns + 0 ≤ room_1.slots from (show ns + 0 ≤ 7302249 from by omega))⟩) hS hP (fun r1 H lo hr1 hP hS => ?_)
  have hk1 := hr1 σ hC
  refine lv_pop hx hb dL_law_1549 rfl ?_
  refine lv_aload_n hx hb dL_law_1550 rfl (lv_at hl 1 rfl) ?_
  refine lv_aload_n hx hb dL_law_1551 rfl (lv_at hl 3 rfl) ?_
  refine lv_iload_n hx hb dL_law_1552 rfl (lv_at hl 0 rfl) ?_
  refine lv_iconst (v := 1) hx hb dL_law_1553 (by decide +kernel) ?_
  refine lv_iadd hx hb dL_law_1554 ?_
  refine va_sld (s := s.setDrawn d0) hx hb hX hbl hbA hS (lw_in (j := (1 : Int32)) (J := 1) (by decide +kernel) (by decide) (by decide) hi0 hiL hLn) dL_law_1555 ?_
  refine lv_aload_n hx hb dL_law_1556 rfl (lv_at hl 3 rfl) ?_
  refine lv_iload_n hx hb dL_law_1557 rfl (lv_at hl 0 rfl) ?_
  refine lv_iconst (v := 2) hx hb dL_law_1558 (by decide +kernel) ?_
  refine lv_iadd hx hb dL_law_1559 ?_
  refine va_sld (s := s.setDrawn d0) hx hb hX hbl hbA hS (lw_in (j := (2 : Int32)) (J := 2) (by decide +kernel) (by decide) (by decide) hi0 hiL hLn) dL_law_1560 ?_
  refine sw_i (va_runV (As := [.int (xs (i + 1).toNatClampNeg), .int (xs (i + 2).toNatClampNeg)]) (rest := []) ⟨hx, hb, hml, hown, hts⟩ (s_X7_seen l dC dI cs L K G Q hQ x0 m0 tx (tm, B) H.size I J hI m0 hm0 hI.2.1.2 (xs (i + 1).toNatClampNeg) (xs (i + 2).toNatClampNeg)) (cwV 2 hts (gV pq1649 pq1650 pq1651 pq81 pq1652) rfl rfl rfl (by decide +kernel) ⟨(Nat.le_of_ble_eq_true rfl), (Nat.le_of_ble_eq_true rfl)⟩) (sP_V hP hD hK hN hm0 hI.2.1.2 rfl rfl) rfl rfl hl.1 rfl (lv_room (Nat.le_of_ble_eq_true rfl)) dL_law_1561 ⟨(show nc + 0 ≤ room_1.cells from (show nc + 0 ≤ 600000 from by omega)), (show ns + 0 ≤ room_1.slots from (show ns + 0 ≤ 7302249 from by omega))⟩) hS hAL hA (fun r2 I2 J2 H lo hr2 hI2 hP hS => ?_)
  obtain ⟨hIn2, fr2, kq2_0_11, dnc2, jz2, dj2⟩ := hI2
  have hk2 := hr2 σ hok hM
  have hM := jz2 σ hM
  have hC := cxA_w hQ hx0 hI.2.1.1 hC dnc2 (fun b _ => congrFun dj2 b)
  have hIold := hI
  have hI := hIn2
  have heq : r1 = r2 := sn_uni hk1 hk2
  refine lv_pop hx hb dL_law_1564 rfl ?_
  refine lv_goto (tgt := 1947) hx hb dL_law_1565 (by decide) ?_
  exact kk _ _ _ _ _ _ ⟨L, K, G, Q, I2, J2, tx, tm, B, _, hQ, hI, hx0, hm0, by omega, hT, hC, hM, hD, hAL, hP, hS, hl, hd0, by omega, by omega⟩

set_option maxHeartbeats 4000000 in
set_option maxRecDepth 100000 in
theorem s_lwcase38 {p : Program} {e : Env} {s : State} {m : MethodId} {below : List Frame} {meth : Method} {c : Code} (l : Launch) {b Ln : Nat} {xs : Nat → Int32} {dC : Nat → ClassId} {dI : Nat → Nat → Nat} {cs : Nat → ClassId} {x0 m0 : Nat} (C0 : lw_At p s m meth c b Ln xs) (hLn : Ln ≤ 3072) (hK : va_K (dC, dI) vwCl (tysA cs) s) (hXs : xS (fun q : Nat => s.heap.size ≤ q) s s.heap) (i : Int32) (n : Nat) (hn : n < 512) (hi : i.toInt = 6 * (n : Int)) (hiL : i.toInt + 5 < (Ln : Int)) {d0 : Drawn} {H : Heap} {lo : List Loc} {ls : Array Slot} {nc ns : Nat} (h : lwI dC dI cs x0 m0 b s i n d0 H lo ls nc ns) (kk : ∀ (d0 : Drawn) (H : Heap) (lo : List Loc) (ls : Array Slot) (nc ns : Nat), lwI dC dI cs x0 m0 b s i (n + 1) d0 H lo ls nc ns → W p l e room_1 (s.setDrawn d0) m #[Value.ref b] below meth c H lo nc ns (lw_Z below #[Value.ref b] s) (F0 m 1947 ls [])) : W p l e room_1 (s.setDrawn d0) m #[Value.ref b] below meth c H lo nc ns (lw_Z below #[Value.ref b] s) (F0 m 1568 ls []) := by
  obtain ⟨hx, hb, hr, hml, hown, htl, hX, hbl, hlocks, hgv⟩ := id C0
  have hb : c.code = cL_law := hb
  have hown : s.vm.findClass RL = some m.cls := hown
  have hts0 : ∀ w ∈ pw, w.before #[Value.ref b] s = true := fun w h => htl w (pw_tbl h)
  have hts := dr_words hts0 d0
  have hN : xN s := xN_of htl
  have hA : ∀ q : Nat, s.heap.size ≤ q → (fun q : Nat => s.heap.size ≤ q) q := fun _ h => h
  have hbA : ¬ (fun q : Nat => s.heap.size ≤ q) b := Nat.not_le.mpr hbl
  obtain ⟨L, K, G, Q, I, J, tx, tm, B, σ, hQ, hI, hx0, hm0, hB, hT, hC, hM, hD, hAL, hP, hS, hl, hd0, hnc, hns⟩ := h
  have hi0 : 0 ≤ i.toInt := by omega
  have hok : okF σ.1 := hC.1.1.1
  refine lv_aload_n hx hb dL_law_1568 rfl (lv_at hl 2 rfl) ?_
  refine lv_aload_n hx hb dL_law_1569 rfl (lv_at hl 3 rfl) ?_
  refine lv_iload_n hx hb dL_law_1570 rfl (lv_at hl 0 rfl) ?_
  refine lv_iconst (v := 1) hx hb dL_law_1571 (by decide +kernel) ?_
  refine lv_iadd hx hb dL_law_1572 ?_
  refine va_sld (s := s.setDrawn d0) hx hb hX hbl hbA hS (lw_in (j := (1 : Int32)) (J := 1) (by decide +kernel) (by decide) (by decide) hi0 hiL hLn) dL_law_1573 ?_
  refine lv_aload_n hx hb dL_law_1574 rfl (lv_at hl 3 rfl) ?_
  refine lv_iload_n hx hb dL_law_1575 rfl (lv_at hl 0 rfl) ?_
  refine lv_iconst (v := 2) hx hb dL_law_1576 (by decide +kernel) ?_
  refine lv_iadd hx hb dL_law_1577 ?_
  refine va_sld (s := s.setDrawn d0) hx hb hX hbl hbA hS (lw_in (j := (2 : Int32)) (J := 2) (by decide +kernel) (by decide) (by decide) hi0 hiL hLn) dL_law_1578 ?_
  refine lv_aload_n hx hb dL_law_1579 rfl (lv_at hl 3 rfl) ?_
  refine lv_iload_n hx hb dL_law_1580 rfl (lv_at hl 0 rfl) ?_
  refine lv_iconst (v := 3) hx hb dL_law_1581 (by decide +kernel) ?_
  refine lv_iadd hx hb dL_law_1582 ?_
  refine va_sld (s := s.setDrawn d0) hx hb hX hbl hbA hS (lw_in (j := (3 : Int32)) (J := 3) (by decide +kernel) (by decide) (by decide) hi0 hiL hLn) dL_law_1583 ?_
  refine sw_i (va_runV (As := [.int (xs (i + 1).toNatClampNeg), .int (xs (i + 2).toNatClampNeg), .int (xs (i + 3).toNatClampNeg)]) (rest := []) ⟨hx, hb, hml, hown, hts⟩ (s_X6_island l dC dI cs L K G Q hQ x0 m0 tx (tm, B) H.size I J hI x0 hx0 hI.2.1.1 (xs (i + 1).toNatClampNeg) (xs (i + 2).toNatClampNeg) (xs (i + 3).toNatClampNeg)) (cwV 3 hts (gV pq886 pq887 pq888 pq74 pq889) rfl rfl rfl (by decide +kernel) ⟨(Nat.le_of_ble_eq_true rfl), (Nat.le_of_ble_eq_true rfl)⟩) (sP_V hP hD hK hN hx0 hI.2.1.1 rfl rfl) rfl rfl hl.1 rfl (lv_room (Nat.le_of_ble_eq_true rfl)) dL_law_1584 ⟨(show nc + 0 ≤ room_1.cells from (show nc + 0 ≤ 600000 from by omega)), (show ns + 0 ≤ room_1.slots from (show ns + 0 ≤ 7302249 from by omega))⟩) hS hAL hA (fun r1 I1 J1 H lo hr1 hI1 hP hS => ?_)
  obtain ⟨hIn1, fr1, dnc1, jz1, dj1⟩ := hI1
  have hk1 := hr1 σ hC
  have hC := jz1 σ hC
  have hM := cmA_w hQ hm0 hI.2.1.2 hM dnc1 (fun b hb => dj1 b (by omega))
  have hIold := hI
  have hI := hIn1
  refine lv_pop hx hb dL_law_1587 rfl ?_
  refine lv_aload_n hx hb dL_law_1588 rfl (lv_at hl 1 rfl) ?_
  refine lv_aload_n hx hb dL_law_1589 rfl (lv_at hl 3 rfl) ?_
  refine lv_iload_n hx hb dL_law_1590 rfl (lv_at hl 0 rfl) ?_
  refine lv_iconst (v := 1) hx hb dL_law_1591 (by decide +kernel) ?_
  refine lv_iadd hx hb dL_law_1592 ?_
  refine va_sld (s := s.setDrawn d0) hx hb hX hbl hbA hS (lw_in (j := (1 : Int32)) (J := 1) (by decide +kernel) (by decide) (by decide) hi0 hiL hLn) dL_law_1593 ?_
  refine lv_aload_n hx hb dL_law_1594 rfl (lv_at hl 3 rfl) ?_
  refine lv_iload_n hx hb dL_law_1595 rfl (lv_at hl 0 rfl) ?_
  refine lv_iconst (v := 2) hx hb dL_law_1596 (by decide +kernel) ?_
  refine lv_iadd hx hb dL_law_1597 ?_
  refine va_sld (s := s.setDrawn d0) hx hb hX hbl hbA hS (lw_in (j := (2 : Int32)) (J := 2) (by decide +kernel) (by decide) (by decide) hi0 hiL hLn) dL_law_1598 ?_
  refine lv_aload_n hx hb dL_law_1599 rfl (lv_at hl 3 rfl) ?_
  refine lv_iload_n hx hb dL_law_1600 rfl (lv_at hl 0 rfl) ?_
  refine lv_iconst (v := 3) hx hb dL_law_1601 (by decide +kernel) ?_
  refine lv_iadd hx hb dL_law_1602 ?_
  refine va_sld (s := s.setDrawn d0) hx hb hX hbl hbA hS (lw_in (j := (3 : Int32)) (J := 3) (by decide +kernel) (by decide) (by decide) hi0 hiL hLn) dL_law_1603 ?_
  refine sw_i (va_runV (As := [.int (xs (i + 1).toNatClampNeg), .int (xs (i + 2).toNatClampNeg), .int (xs (i + 3).toNatClampNeg)]) (rest := []) ⟨hx, hb, hml, hown, hts⟩ (s_X7_island l dC dI cs L K G Q hQ x0 m0 tx (tm, B) H.size I1 J1 hI m0 hm0 hI.2.1.2 (xs (i + 1).toNatClampNeg) (xs (i + 2).toNatClampNeg) (xs (i + 3).toNatClampNeg)) (cwV 3 hts (gV pq1653 pq1654 pq1655 pq81 pq1656) rfl rfl rfl (by decide +kernel) ⟨(Nat.le_of_ble_eq_true rfl), (Nat.le_of_ble_eq_true rfl)⟩) (sP_V hP hD hK hN hm0 hI.2.1.2 rfl rfl) rfl rfl hl.1 rfl (lv_room (Nat.le_of_ble_eq_true rfl)) dL_law_1604 ⟨(show nc + 0 ≤ room_1.cells from (show nc + 0 ≤ 600000 from by omega)), (show ns + 0 ≤ room_1.slots from (show ns + 0 ≤ 7302249 from by omega))⟩) hS hAL hA (fun r2 I2 J2 H lo hr2 hI2 hP hS => ?_)
  obtain ⟨hIn2, fr2, kq2_0_11, dnc2, jz2, dj2⟩ := hI2
  have hk2 := hr2 σ hok hM
  have hM := jz2 σ hM
  have hC := cxA_w hQ hx0 hI.2.1.1 hC dnc2 (fun b _ => congrFun dj2 b)
  have hIold := hI
  have hI := hIn2
  have heq : r1 = r2 := ilr_uni hk1 hk2
  refine lv_pop hx hb dL_law_1607 rfl ?_
  refine lv_goto (tgt := 1947) hx hb dL_law_1608 (by decide) ?_
  exact kk _ _ _ _ _ _ ⟨L, K, G, Q, I2, J2, tx, tm, B, _, hQ, hI, hx0, hm0, by omega, hT, hC, hM, hD, hAL, hP, hS, hl, hd0, by omega, by omega⟩

set_option maxHeartbeats 4000000 in
set_option maxRecDepth 100000 in
theorem s_lwcase39 {p : Program} {e : Env} {s : State} {m : MethodId} {below : List Frame} {meth : Method} {c : Code} (l : Launch) {b Ln : Nat} {xs : Nat → Int32} {dC : Nat → ClassId} {dI : Nat → Nat → Nat} {cs : Nat → ClassId} {x0 m0 : Nat} (C0 : lw_At p s m meth c b Ln xs) (hLn : Ln ≤ 3072) (hK : va_K (dC, dI) vwCl (tysA cs) s) (hXs : xS (fun q : Nat => s.heap.size ≤ q) s s.heap) (i : Int32) (n : Nat) (hn : n < 512) (hi : i.toInt = 6 * (n : Int)) (hiL : i.toInt + 5 < (Ln : Int)) {d0 : Drawn} {H : Heap} {lo : List Loc} {ls : Array Slot} {nc ns : Nat} (h : lwI dC dI cs x0 m0 b s i n d0 H lo ls nc ns) (kk : ∀ (d0 : Drawn) (H : Heap) (lo : List Loc) (ls : Array Slot) (nc ns : Nat), lwI dC dI cs x0 m0 b s i (n + 1) d0 H lo ls nc ns → W p l e room_1 (s.setDrawn d0) m #[Value.ref b] below meth c H lo nc ns (lw_Z below #[Value.ref b] s) (F0 m 1947 ls [])) : W p l e room_1 (s.setDrawn d0) m #[Value.ref b] below meth c H lo nc ns (lw_Z below #[Value.ref b] s) (F0 m 1611 ls []) := by
  obtain ⟨hx, hb, hr, hml, hown, htl, hX, hbl, hlocks, hgv⟩ := id C0
  have hb : c.code = cL_law := hb
  have hown : s.vm.findClass RL = some m.cls := hown
  have hts0 : ∀ w ∈ pw, w.before #[Value.ref b] s = true := fun w h => htl w (pw_tbl h)
  have hts := dr_words hts0 d0
  have hN : xN s := xN_of htl
  have hA : ∀ q : Nat, s.heap.size ≤ q → (fun q : Nat => s.heap.size ≤ q) q := fun _ h => h
  have hbA : ¬ (fun q : Nat => s.heap.size ≤ q) b := Nat.not_le.mpr hbl
  obtain ⟨L, K, G, Q, I, J, tx, tm, B, σ, hQ, hI, hx0, hm0, hB, hT, hC, hM, hD, hAL, hP, hS, hl, hd0, hnc, hns⟩ := h
  have hi0 : 0 ≤ i.toInt := by omega
  have hok : okF σ.1 := hC.1.1.1
  refine lv_aload_n hx hb dL_law_1611 rfl (lv_at hl 2 rfl) ?_
  refine lv_aload_n hx hb dL_law_1612 rfl (lv_at hl 3 rfl) ?_
  refine lv_iload_n hx hb dL_law_1613 rfl (lv_at hl 0 rfl) ?_
  refine lv_iconst (v := 1) hx hb dL_law_1614 (by decide +kernel) ?_
  refine lv_iadd hx hb dL_law_1615 ?_
  refine va_sld (s := s.setDrawn d0) hx hb hX hbl hbA hS (lw_in (j := (1 : Int32)) (J := 1) (by decide +kernel) (by decide) (by decide) hi0 hiL hLn) dL_law_1616 ?_
  refine lv_aload_n hx hb dL_law_1617 rfl (lv_at hl 3 rfl) ?_
  refine lv_iload_n hx hb dL_law_1618 rfl (lv_at hl 0 rfl) ?_
  refine lv_iconst (v := 2) hx hb dL_law_1619 (by decide +kernel) ?_
  refine lv_iadd hx hb dL_law_1620 ?_
  refine va_sld (s := s.setDrawn d0) hx hb hX hbl hbA hS (lw_in (j := (2 : Int32)) (J := 2) (by decide +kernel) (by decide) (by decide) hi0 hiL hLn) dL_law_1621 ?_
  refine ro_i (va_runV (As := [.int (xs (i + 1).toNatClampNeg), .int (xs (i + 2).toNatClampNeg)]) (rest := []) ⟨hx, hb, hml, hown, hts⟩ (s_X6_shifts l dC dI cs L K G Q hQ x0 m0 tx (tm, B) H.size I J hI x0 hx0 hI.2.1.1 (xs (i + 1).toNatClampNeg) (xs (i + 2).toNatClampNeg)) (cwV 2 hts (gV pq894 pq895 pq896 pq74 pq897) rfl rfl rfl (by decide +kernel) ⟨(Nat.le_of_ble_eq_true rfl), (Nat.le_of_ble_eq_true rfl)⟩) (sP_V hP hD hK hN hx0 hI.2.1.1 rfl rfl) rfl rfl hl.1 rfl (lv_room (Nat.le_of_ble_eq_true rfl)) dL_law_1622 ⟨(show nc + 0 ≤ room_1.cells from (show nc + 0 ≤ 600000 from by omega)), (show ns + 0 ≤ room_1.slots from (show ns + 0 ≤ 7302249 from by omega))⟩) hS hP (fun r1 H lo hr1 hP hS => ?_)
  have hk1 := hr1 σ hC
  refine lv_pop hx hb dL_law_1625 rfl ?_
  refine lv_aload_n hx hb dL_law_1626 rfl (lv_at hl 1 rfl) ?_
  refine lv_aload_n hx hb dL_law_1627 rfl (lv_at hl 3 rfl) ?_
  refine lv_iload_n hx hb dL_law_1628 rfl (lv_at hl 0 rfl) ?_
  refine lv_iconst (v := 1) hx hb dL_law_1629 (by decide +kernel) ?_
  refine lv_iadd hx hb dL_law_1630 ?_
  refine va_sld (s := s.setDrawn d0) hx hb hX hbl hbA hS (lw_in (j := (1 : Int32)) (J := 1) (by decide +kernel) (by decide) (by decide) hi0 hiL hLn) dL_law_1631 ?_
  refine lv_aload_n hx hb dL_law_1632 rfl (lv_at hl 3 rfl) ?_
  refine lv_iload_n hx hb dL_law_1633 rfl (lv_at hl 0 rfl) ?_
  refine lv_iconst (v := 2) hx hb dL_law_1634 (by decide +kernel) ?_
  refine lv_iadd hx hb dL_law_1635 ?_
  refine va_sld (s := s.setDrawn d0) hx hb hX hbl hbA hS (lw_in (j := (2 : Int32)) (J := 2) (by decide +kernel) (by decide) (by decide) hi0 hiL hLn) dL_law_1636 ?_
  refine ro_i (va_runV (As := [.int (xs (i + 1).toNatClampNeg), .int (xs (i + 2).toNatClampNeg)]) (rest := []) ⟨hx, hb, hml, hown, hts⟩ (s_X7_shifts l dC dI cs L K G Q hQ x0 m0 tx (tm, B) H.size I J hI m0 hm0 hI.2.1.2 (xs (i + 1).toNatClampNeg) (xs (i + 2).toNatClampNeg)) (cwV 2 hts (gV pq1658 pq1659 pq1660 pq81 pq1661) rfl rfl rfl (by decide +kernel) ⟨(Nat.le_of_ble_eq_true rfl), (Nat.le_of_ble_eq_true rfl)⟩) (sP_V hP hD hK hN hm0 hI.2.1.2 rfl rfl) rfl rfl hl.1 rfl (lv_room (Nat.le_of_ble_eq_true rfl)) dL_law_1637 ⟨(show nc + 0 ≤ room_1.cells from (show nc + 0 ≤ 600000 from by omega)), (show ns + 0 ≤ room_1.slots from (show ns + 0 ≤ 7302249 from by omega))⟩) hS hP (fun r2 H lo hr2 hP hS => ?_)
  have hk2 := hr2 σ hok hM
  have heq : r1 = r2 := Int32.toInt_inj.mp (hk1.trans hk2.symm)
  refine lv_pop hx hb dL_law_1640 rfl ?_
  refine lv_goto (tgt := 1947) hx hb dL_law_1641 (by decide) ?_
  exact kk _ _ _ _ _ _ ⟨L, K, G, Q, I, J, tx, tm, B, _, hQ, hI, hx0, hm0, by omega, hT, hC, hM, hD, hAL, hP, hS, hl, hd0, by omega, by omega⟩

set_option maxHeartbeats 4000000 in
set_option maxRecDepth 100000 in
theorem s_lwcase40 {p : Program} {e : Env} {s : State} {m : MethodId} {below : List Frame} {meth : Method} {c : Code} (l : Launch) {b Ln : Nat} {xs : Nat → Int32} {dC : Nat → ClassId} {dI : Nat → Nat → Nat} {cs : Nat → ClassId} {x0 m0 : Nat} (C0 : lw_At p s m meth c b Ln xs) (hLn : Ln ≤ 3072) (hK : va_K (dC, dI) vwCl (tysA cs) s) (hXs : xS (fun q : Nat => s.heap.size ≤ q) s s.heap) (i : Int32) (n : Nat) (hn : n < 512) (hi : i.toInt = 6 * (n : Int)) (hiL : i.toInt + 5 < (Ln : Int)) {d0 : Drawn} {H : Heap} {lo : List Loc} {ls : Array Slot} {nc ns : Nat} (h : lwI dC dI cs x0 m0 b s i n d0 H lo ls nc ns) (kk : ∀ (d0 : Drawn) (H : Heap) (lo : List Loc) (ls : Array Slot) (nc ns : Nat), lwI dC dI cs x0 m0 b s i (n + 1) d0 H lo ls nc ns → W p l e room_1 (s.setDrawn d0) m #[Value.ref b] below meth c H lo nc ns (lw_Z below #[Value.ref b] s) (F0 m 1947 ls [])) : W p l e room_1 (s.setDrawn d0) m #[Value.ref b] below meth c H lo nc ns (lw_Z below #[Value.ref b] s) (F0 m 1644 ls []) := by
  obtain ⟨hx, hb, hr, hml, hown, htl, hX, hbl, hlocks, hgv⟩ := id C0
  have hb : c.code = cL_law := hb
  have hown : s.vm.findClass RL = some m.cls := hown
  have hts0 : ∀ w ∈ pw, w.before #[Value.ref b] s = true := fun w h => htl w (pw_tbl h)
  have hts := dr_words hts0 d0
  have hN : xN s := xN_of htl
  have hA : ∀ q : Nat, s.heap.size ≤ q → (fun q : Nat => s.heap.size ≤ q) q := fun _ h => h
  have hbA : ¬ (fun q : Nat => s.heap.size ≤ q) b := Nat.not_le.mpr hbl
  obtain ⟨L, K, G, Q, I, J, tx, tm, B, σ, hQ, hI, hx0, hm0, hB, hT, hC, hM, hD, hAL, hP, hS, hl, hd0, hnc, hns⟩ := h
  have hi0 : 0 ≤ i.toInt := by omega
  have hok : okF σ.1 := hC.1.1.1
  refine lv_aload_n hx hb dL_law_1644 rfl (lv_at hl 2 rfl) ?_
  refine lv_aload_n hx hb dL_law_1645 rfl (lv_at hl 3 rfl) ?_
  refine lv_iload_n hx hb dL_law_1646 rfl (lv_at hl 0 rfl) ?_
  refine lv_iconst (v := 1) hx hb dL_law_1647 (by decide +kernel) ?_
  refine lv_iadd hx hb dL_law_1648 ?_
  refine va_sld (s := s.setDrawn d0) hx hb hX hbl hbA hS (lw_in (j := (1 : Int32)) (J := 1) (by decide +kernel) (by decide) (by decide) hi0 hiL hLn) dL_law_1649 ?_
  refine sw_i (va_runV (As := [.int (xs (i + 1).toNatClampNeg)]) (rest := []) ⟨hx, hb, hml, hown, hts⟩ (s_X6_like l dC dI cs L K G Q hQ x0 m0 tx (tm, B) H.size I J hI x0 hx0 hI.2.1.1 (xs (i + 1).toNatClampNeg)) (cwV 1 hts (gV pq899 pq900 pq901 pq74 pq902) rfl rfl rfl (by decide +kernel) ⟨(Nat.le_of_ble_eq_true rfl), (Nat.le_of_ble_eq_true rfl)⟩) (sP_V hP hD hK hN hx0 hI.2.1.1 rfl rfl) rfl rfl hl.1 rfl (lv_room (Nat.le_of_ble_eq_true rfl)) dL_law_1650 ⟨(show nc + 0 ≤ room_1.cells from (show nc + 0 ≤ 600000 from by omega)), (show ns + 0 ≤ room_1.slots from (show ns + 0 ≤ 7302249 from by omega))⟩) hS hAL hA (fun r1 I1 J1 H lo hr1 hI1 hP hS => ?_)
  obtain ⟨hIn1, fr1, dnc1, jz1, dj1⟩ := hI1
  have hk1 := hr1 σ hC
  have hC := jz1 σ hC
  have hM := cmA_w hQ hm0 hI.2.1.2 hM dnc1 (fun b hb => dj1 b (by omega))
  have hIold := hI
  have hI := hIn1
  refine lv_pop hx hb dL_law_1653 rfl ?_
  refine lv_aload_n hx hb dL_law_1654 rfl (lv_at hl 1 rfl) ?_
  refine lv_aload_n hx hb dL_law_1655 rfl (lv_at hl 3 rfl) ?_
  refine lv_iload_n hx hb dL_law_1656 rfl (lv_at hl 0 rfl) ?_
  refine lv_iconst (v := 1) hx hb dL_law_1657 (by decide +kernel) ?_
  refine lv_iadd hx hb dL_law_1658 ?_
  refine va_sld (s := s.setDrawn d0) hx hb hX hbl hbA hS (lw_in (j := (1 : Int32)) (J := 1) (by decide +kernel) (by decide) (by decide) hi0 hiL hLn) dL_law_1659 ?_
  refine ro_i (va_runV (As := [.int (xs (i + 1).toNatClampNeg)]) (rest := []) ⟨hx, hb, hml, hown, hts⟩ (s_X7_like l dC dI cs L K G Q hQ x0 m0 tx (tm, B) H.size I1 J1 hI m0 hm0 hI.2.1.2 (xs (i + 1).toNatClampNeg)) (cwV 1 hts (gV pq1666 pq1667 pq1668 pq81 pq1669) rfl rfl rfl (by decide +kernel) ⟨(Nat.le_of_ble_eq_true rfl), (Nat.le_of_ble_eq_true rfl)⟩) (sP_V hP hD hK hN hm0 hI.2.1.2 rfl rfl) rfl rfl hl.1 rfl (lv_room (Nat.le_of_ble_eq_true rfl)) dL_law_1660 ⟨(show nc + 0 ≤ room_1.cells from (show nc + 0 ≤ 600000 from by omega)), (show ns + 0 ≤ room_1.slots from (show ns + 0 ≤ 7302249 from by omega))⟩) hS hP (fun r2 H lo hr2 hP hS => ?_)
  have hk2 := hr2 σ hok hM
  have heq : r1 = r2 := lk_uni hk1 hk2
  refine lv_pop hx hb dL_law_1663 rfl ?_
  refine lv_goto (tgt := 1947) hx hb dL_law_1664 (by decide) ?_
  exact kk _ _ _ _ _ _ ⟨L, K, G, Q, I1, J1, tx, tm, B, _, hQ, hI, hx0, hm0, by omega, hT, hC, hM, hD, hAL, hP, hS, hl, hd0, by omega, by omega⟩

set_option maxHeartbeats 4000000 in
set_option maxRecDepth 100000 in
theorem s_lwcase41 {p : Program} {e : Env} {s : State} {m : MethodId} {below : List Frame} {meth : Method} {c : Code} (l : Launch) {b Ln : Nat} {xs : Nat → Int32} {dC : Nat → ClassId} {dI : Nat → Nat → Nat} {cs : Nat → ClassId} {x0 m0 : Nat} (C0 : lw_At p s m meth c b Ln xs) (hLn : Ln ≤ 3072) (hK : va_K (dC, dI) vwCl (tysA cs) s) (hXs : xS (fun q : Nat => s.heap.size ≤ q) s s.heap) (i : Int32) (n : Nat) (hn : n < 512) (hi : i.toInt = 6 * (n : Int)) (hiL : i.toInt + 5 < (Ln : Int)) {d0 : Drawn} {H : Heap} {lo : List Loc} {ls : Array Slot} {nc ns : Nat} (h : lwI dC dI cs x0 m0 b s i n d0 H lo ls nc ns) (kk : ∀ (d0 : Drawn) (H : Heap) (lo : List Loc) (ls : Array Slot) (nc ns : Nat), lwI dC dI cs x0 m0 b s i (n + 1) d0 H lo ls nc ns → W p l e room_1 (s.setDrawn d0) m #[Value.ref b] below meth c H lo nc ns (lw_Z below #[Value.ref b] s) (F0 m 1947 ls [])) : W p l e room_1 (s.setDrawn d0) m #[Value.ref b] below meth c H lo nc ns (lw_Z below #[Value.ref b] s) (F0 m 1667 ls []) := by
  obtain ⟨hx, hb, hr, hml, hown, htl, hX, hbl, hlocks, hgv⟩ := id C0
  have hb : c.code = cL_law := hb
  have hown : s.vm.findClass RL = some m.cls := hown
  have hts0 : ∀ w ∈ pw, w.before #[Value.ref b] s = true := fun w h => htl w (pw_tbl h)
  have hts := dr_words hts0 d0
  have hN : xN s := xN_of htl
  have hA : ∀ q : Nat, s.heap.size ≤ q → (fun q : Nat => s.heap.size ≤ q) q := fun _ h => h
  have hbA : ¬ (fun q : Nat => s.heap.size ≤ q) b := Nat.not_le.mpr hbl
  obtain ⟨L, K, G, Q, I, J, tx, tm, B, σ, hQ, hI, hx0, hm0, hB, hT, hC, hM, hD, hAL, hP, hS, hl, hd0, hnc, hns⟩ := h
  have hi0 : 0 ≤ i.toInt := by omega
  have hok : okF σ.1 := hC.1.1.1
  refine lv_aload_n hx hb dL_law_1667 rfl (lv_at hl 2 rfl) ?_
  refine lv_aload_n hx hb dL_law_1668 rfl (lv_at hl 3 rfl) ?_
  refine lv_iload_n hx hb dL_law_1669 rfl (lv_at hl 0 rfl) ?_
  refine lv_iconst (v := 1) hx hb dL_law_1670 (by decide +kernel) ?_
  refine lv_iadd hx hb dL_law_1671 ?_
  refine va_sld (s := s.setDrawn d0) hx hb hX hbl hbA hS (lw_in (j := (1 : Int32)) (J := 1) (by decide +kernel) (by decide) (by decide) hi0 hiL hLn) dL_law_1672 ?_
  refine lv_aload_n hx hb dL_law_1673 rfl (lv_at hl 3 rfl) ?_
  refine lv_iload_n hx hb dL_law_1674 rfl (lv_at hl 0 rfl) ?_
  refine lv_iconst (v := 2) hx hb dL_law_1675 (by decide +kernel) ?_
  refine lv_iadd hx hb dL_law_1676 ?_
  refine va_sld (s := s.setDrawn d0) hx hb hX hbl hbA hS (lw_in (j := (2 : Int32)) (J := 2) (by decide +kernel) (by decide) (by decide) hi0 hiL hLn) dL_law_1677 ?_
  refine ro_i (va_runV (As := [.int (xs (i + 1).toNatClampNeg), .int (xs (i + 2).toNatClampNeg)]) (rest := []) ⟨hx, hb, hml, hown, hts⟩ (s_X6_letter l dC dI cs L K G Q hQ x0 m0 tx (tm, B) H.size I J hI x0 hx0 hI.2.1.1 (xs (i + 1).toNatClampNeg) (xs (i + 2).toNatClampNeg)) (cwV 2 hts (gV pq908 pq909 pq910 pq74 pq911) rfl rfl rfl (by decide +kernel) ⟨(Nat.le_of_ble_eq_true rfl), (Nat.le_of_ble_eq_true rfl)⟩) (sP_V hP hD hK hN hx0 hI.2.1.1 rfl rfl) rfl rfl hl.1 rfl (lv_room (Nat.le_of_ble_eq_true rfl)) dL_law_1678 ⟨(show nc + 0 ≤ room_1.cells from (show nc + 0 ≤ 600000 from by omega)), (show ns + 0 ≤ room_1.slots from (show ns + 0 ≤ 7302249 from by omega))⟩) hS hP (fun r1 H lo hr1 hP hS => ?_)
  have hk1 := hr1 σ hC
  refine lv_pop hx hb dL_law_1681 rfl ?_
  refine lv_aload_n hx hb dL_law_1682 rfl (lv_at hl 1 rfl) ?_
  refine lv_aload_n hx hb dL_law_1683 rfl (lv_at hl 3 rfl) ?_
  refine lv_iload_n hx hb dL_law_1684 rfl (lv_at hl 0 rfl) ?_
  refine lv_iconst (v := 1) hx hb dL_law_1685 (by decide +kernel) ?_
  refine lv_iadd hx hb dL_law_1686 ?_
  refine va_sld (s := s.setDrawn d0) hx hb hX hbl hbA hS (lw_in (j := (1 : Int32)) (J := 1) (by decide +kernel) (by decide) (by decide) hi0 hiL hLn) dL_law_1687 ?_
  refine lv_aload_n hx hb dL_law_1688 rfl (lv_at hl 3 rfl) ?_
  refine lv_iload_n hx hb dL_law_1689 rfl (lv_at hl 0 rfl) ?_
  refine lv_iconst (v := 2) hx hb dL_law_1690 (by decide +kernel) ?_
  refine lv_iadd hx hb dL_law_1691 ?_
  refine va_sld (s := s.setDrawn d0) hx hb hX hbl hbA hS (lw_in (j := (2 : Int32)) (J := 2) (by decide +kernel) (by decide) (by decide) hi0 hiL hLn) dL_law_1692 ?_
  refine ro_i (va_runV (As := [.int (xs (i + 1).toNatClampNeg), .int (xs (i + 2).toNatClampNeg)]) (rest := []) ⟨hx, hb, hml, hown, hts⟩ (s_X7_letter l dC dI cs L K G Q hQ x0 m0 tx (tm, B) H.size I J hI m0 hm0 hI.2.1.2 (xs (i + 1).toNatClampNeg) (xs (i + 2).toNatClampNeg)) (cwV 2 hts (gV pq1674 pq1675 pq1676 pq81 pq1677) rfl rfl rfl (by decide +kernel) ⟨(Nat.le_of_ble_eq_true rfl), (Nat.le_of_ble_eq_true rfl)⟩) (sP_V hP hD hK hN hm0 hI.2.1.2 rfl rfl) rfl rfl hl.1 rfl (lv_room (Nat.le_of_ble_eq_true rfl)) dL_law_1693 ⟨(show nc + 0 ≤ room_1.cells from (show nc + 0 ≤ 600000 from by omega)), (show ns + 0 ≤ room_1.slots from (show ns + 0 ≤ 7302249 from by omega))⟩) hS hP (fun r2 H lo hr2 hP hS => ?_)
  have hk2 := hr2 σ hM
  have heq : r1 = r2 := Int32.toInt_inj.mp (hk1.trans hk2.symm)
  refine lv_pop hx hb dL_law_1696 rfl ?_
  refine lv_goto (tgt := 1947) hx hb dL_law_1697 (by decide) ?_
  exact kk _ _ _ _ _ _ ⟨L, K, G, Q, I, J, tx, tm, B, _, hQ, hI, hx0, hm0, by omega, hT, hC, hM, hD, hAL, hP, hS, hl, hd0, by omega, by omega⟩

set_option maxHeartbeats 4000000 in
set_option maxRecDepth 100000 in
theorem s_lwcase42 {p : Program} {e : Env} {s : State} {m : MethodId} {below : List Frame} {meth : Method} {c : Code} (l : Launch) {b Ln : Nat} {xs : Nat → Int32} {dC : Nat → ClassId} {dI : Nat → Nat → Nat} {cs : Nat → ClassId} {x0 m0 : Nat} (C0 : lw_At p s m meth c b Ln xs) (hLn : Ln ≤ 3072) (hK : va_K (dC, dI) vwCl (tysA cs) s) (hXs : xS (fun q : Nat => s.heap.size ≤ q) s s.heap) (i : Int32) (n : Nat) (hn : n < 512) (hi : i.toInt = 6 * (n : Int)) (hiL : i.toInt + 5 < (Ln : Int)) {d0 : Drawn} {H : Heap} {lo : List Loc} {ls : Array Slot} {nc ns : Nat} (h : lwI dC dI cs x0 m0 b s i n d0 H lo ls nc ns) (kk : ∀ (d0 : Drawn) (H : Heap) (lo : List Loc) (ls : Array Slot) (nc ns : Nat), lwI dC dI cs x0 m0 b s i (n + 1) d0 H lo ls nc ns → W p l e room_1 (s.setDrawn d0) m #[Value.ref b] below meth c H lo nc ns (lw_Z below #[Value.ref b] s) (F0 m 1947 ls [])) : W p l e room_1 (s.setDrawn d0) m #[Value.ref b] below meth c H lo nc ns (lw_Z below #[Value.ref b] s) (F0 m 1700 ls []) := by
  obtain ⟨hx, hb, hr, hml, hown, htl, hX, hbl, hlocks, hgv⟩ := id C0
  have hb : c.code = cL_law := hb
  have hown : s.vm.findClass RL = some m.cls := hown
  have hts0 : ∀ w ∈ pw, w.before #[Value.ref b] s = true := fun w h => htl w (pw_tbl h)
  have hts := dr_words hts0 d0
  have hN : xN s := xN_of htl
  have hA : ∀ q : Nat, s.heap.size ≤ q → (fun q : Nat => s.heap.size ≤ q) q := fun _ h => h
  have hbA : ¬ (fun q : Nat => s.heap.size ≤ q) b := Nat.not_le.mpr hbl
  obtain ⟨L, K, G, Q, I, J, tx, tm, B, σ, hQ, hI, hx0, hm0, hB, hT, hC, hM, hD, hAL, hP, hS, hl, hd0, hnc, hns⟩ := h
  have hi0 : 0 ≤ i.toInt := by omega
  have hok : okF σ.1 := hC.1.1.1
  refine lv_aload_n hx hb dL_law_1700 rfl (lv_at hl 2 rfl) ?_
  refine lv_aload_n hx hb dL_law_1701 rfl (lv_at hl 3 rfl) ?_
  refine lv_iload_n hx hb dL_law_1702 rfl (lv_at hl 0 rfl) ?_
  refine lv_iconst (v := 1) hx hb dL_law_1703 (by decide +kernel) ?_
  refine lv_iadd hx hb dL_law_1704 ?_
  refine va_sld (s := s.setDrawn d0) hx hb hX hbl hbA hS (lw_in (j := (1 : Int32)) (J := 1) (by decide +kernel) (by decide) (by decide) hi0 hiL hLn) dL_law_1705 ?_
  refine lv_aload_n hx hb dL_law_1706 rfl (lv_at hl 3 rfl) ?_
  refine lv_iload_n hx hb dL_law_1707 rfl (lv_at hl 0 rfl) ?_
  refine lv_iconst (v := 2) hx hb dL_law_1708 (by decide +kernel) ?_
  refine lv_iadd hx hb dL_law_1709 ?_
  refine va_sld (s := s.setDrawn d0) hx hb hX hbl hbA hS (lw_in (j := (2 : Int32)) (J := 2) (by decide +kernel) (by decide) (by decide) hi0 hiL hLn) dL_law_1710 ?_
  refine lv_aload_n hx hb dL_law_1711 rfl (lv_at hl 3 rfl) ?_
  refine lv_iload_n hx hb dL_law_1712 rfl (lv_at hl 0 rfl) ?_
  refine lv_iconst (v := 3) hx hb dL_law_1713 (by decide +kernel) ?_
  refine lv_iadd hx hb dL_law_1714 ?_
  refine va_sld (s := s.setDrawn d0) hx hb hX hbl hbA hS (lw_in (j := (3 : Int32)) (J := 3) (by decide +kernel) (by decide) (by decide) hi0 hiL hLn) dL_law_1715 ?_
  refine lv_aload_n hx hb dL_law_1716 rfl (lv_at hl 3 rfl) ?_
  refine lv_iload_n hx hb dL_law_1717 rfl (lv_at hl 0 rfl) ?_
  refine lv_iconst (v := 4) hx hb dL_law_1718 (by decide +kernel) ?_
  refine lv_iadd hx hb dL_law_1719 ?_
  refine va_sld (s := s.setDrawn d0) hx hb hX hbl hbA hS (lw_in (j := (4 : Int32)) (J := 4) (by decide +kernel) (by decide) (by decide) hi0 hiL hLn) dL_law_1720 ?_
  refine ro_i (va_runV (As := [.int (xs (i + 1).toNatClampNeg), .int (xs (i + 2).toNatClampNeg), .int (xs (i + 3).toNatClampNeg), .int (xs (i + 4).toNatClampNeg)]) (rest := []) ⟨hx, hb, hml, hown, hts⟩ (s_X6_dense l dC dI cs L K G Q hQ x0 m0 tx (tm, B) H.size I J hI x0 hx0 hI.2.1.1 (xs (i + 1).toNatClampNeg) (xs (i + 2).toNatClampNeg) (xs (i + 3).toNatClampNeg) (xs (i + 4).toNatClampNeg)) (cwV 4 hts (gV pq912 pq913 pq914 pq74 pq915) rfl rfl rfl (by decide +kernel) ⟨(Nat.le_of_ble_eq_true rfl), (Nat.le_of_ble_eq_true rfl)⟩) (sP_V hP hD hK hN hx0 hI.2.1.1 rfl rfl) rfl rfl hl.1 rfl (lv_room (Nat.le_of_ble_eq_true rfl)) dL_law_1721 ⟨(show nc + 0 ≤ room_1.cells from (show nc + 0 ≤ 600000 from by omega)), (show ns + 0 ≤ room_1.slots from (show ns + 0 ≤ 7302249 from by omega))⟩) hS hP (fun r1 H lo hr1 hP hS => ?_)
  have hk1 := hr1 σ hC
  refine lv_pop hx hb dL_law_1724 rfl ?_
  refine lv_aload_n hx hb dL_law_1725 rfl (lv_at hl 1 rfl) ?_
  refine lv_aload_n hx hb dL_law_1726 rfl (lv_at hl 3 rfl) ?_
  refine lv_iload_n hx hb dL_law_1727 rfl (lv_at hl 0 rfl) ?_
  refine lv_iconst (v := 1) hx hb dL_law_1728 (by decide +kernel) ?_
  refine lv_iadd hx hb dL_law_1729 ?_
  refine va_sld (s := s.setDrawn d0) hx hb hX hbl hbA hS (lw_in (j := (1 : Int32)) (J := 1) (by decide +kernel) (by decide) (by decide) hi0 hiL hLn) dL_law_1730 ?_
  refine lv_aload_n hx hb dL_law_1731 rfl (lv_at hl 3 rfl) ?_
  refine lv_iload_n hx hb dL_law_1732 rfl (lv_at hl 0 rfl) ?_
  refine lv_iconst (v := 2) hx hb dL_law_1733 (by decide +kernel) ?_
  refine lv_iadd hx hb dL_law_1734 ?_
  refine va_sld (s := s.setDrawn d0) hx hb hX hbl hbA hS (lw_in (j := (2 : Int32)) (J := 2) (by decide +kernel) (by decide) (by decide) hi0 hiL hLn) dL_law_1735 ?_
  refine lv_aload_n hx hb dL_law_1736 rfl (lv_at hl 3 rfl) ?_
  refine lv_iload_n hx hb dL_law_1737 rfl (lv_at hl 0 rfl) ?_
  refine lv_iconst (v := 3) hx hb dL_law_1738 (by decide +kernel) ?_
  refine lv_iadd hx hb dL_law_1739 ?_
  refine va_sld (s := s.setDrawn d0) hx hb hX hbl hbA hS (lw_in (j := (3 : Int32)) (J := 3) (by decide +kernel) (by decide) (by decide) hi0 hiL hLn) dL_law_1740 ?_
  refine lv_aload_n hx hb dL_law_1741 rfl (lv_at hl 3 rfl) ?_
  refine lv_iload_n hx hb dL_law_1742 rfl (lv_at hl 0 rfl) ?_
  refine lv_iconst (v := 4) hx hb dL_law_1743 (by decide +kernel) ?_
  refine lv_iadd hx hb dL_law_1744 ?_
  refine va_sld (s := s.setDrawn d0) hx hb hX hbl hbA hS (lw_in (j := (4 : Int32)) (J := 4) (by decide +kernel) (by decide) (by decide) hi0 hiL hLn) dL_law_1745 ?_
  refine ro_i (va_runV (As := [.int (xs (i + 1).toNatClampNeg), .int (xs (i + 2).toNatClampNeg), .int (xs (i + 3).toNatClampNeg), .int (xs (i + 4).toNatClampNeg)]) (rest := []) ⟨hx, hb, hml, hown, hts⟩ (s_X7_dense l dC dI cs L K G Q hQ x0 m0 tx (tm, B) H.size I J hI m0 hm0 hI.2.1.2 (xs (i + 1).toNatClampNeg) (xs (i + 2).toNatClampNeg) (xs (i + 3).toNatClampNeg) (xs (i + 4).toNatClampNeg)) (cwV 4 hts (gV pq1678 pq1679 pq1680 pq81 pq1681) rfl rfl rfl (by decide +kernel) ⟨(Nat.le_of_ble_eq_true rfl), (Nat.le_of_ble_eq_true rfl)⟩) (sP_V hP hD hK hN hm0 hI.2.1.2 rfl rfl) rfl rfl hl.1 rfl (lv_room (Nat.le_of_ble_eq_true rfl)) dL_law_1746 ⟨(show nc + 0 ≤ room_1.cells from (show nc + 0 ≤ 600000 from by omega)), (show ns + 0 ≤ room_1.slots from (show ns + 0 ≤ 7302249 from by omega))⟩) hS hP (fun r2 H lo hr2 hP hS => ?_)
  have hk2 := hr2 σ hok hM
  have heq : r1 = r2 := dnr_uni hk1 hk2
  refine lv_pop hx hb dL_law_1749 rfl ?_
  refine lv_goto (tgt := 1947) hx hb dL_law_1750 (by decide) ?_
  exact kk _ _ _ _ _ _ ⟨L, K, G, Q, I, J, tx, tm, B, _, hQ, hI, hx0, hm0, by omega, hT, hC, hM, hD, hAL, hP, hS, hl, hd0, by omega, by omega⟩

set_option maxHeartbeats 4000000 in
set_option maxRecDepth 100000 in
theorem s_lwcase43 {p : Program} {e : Env} {s : State} {m : MethodId} {below : List Frame} {meth : Method} {c : Code} (l : Launch) {b Ln : Nat} {xs : Nat → Int32} {dC : Nat → ClassId} {dI : Nat → Nat → Nat} {cs : Nat → ClassId} {x0 m0 : Nat} (C0 : lw_At p s m meth c b Ln xs) (hLn : Ln ≤ 3072) (hK : va_K (dC, dI) vwCl (tysA cs) s) (hXs : xS (fun q : Nat => s.heap.size ≤ q) s s.heap) (i : Int32) (n : Nat) (hn : n < 512) (hi : i.toInt = 6 * (n : Int)) (hiL : i.toInt + 5 < (Ln : Int)) {d0 : Drawn} {H : Heap} {lo : List Loc} {ls : Array Slot} {nc ns : Nat} (h : lwI dC dI cs x0 m0 b s i n d0 H lo ls nc ns) (kk : ∀ (d0 : Drawn) (H : Heap) (lo : List Loc) (ls : Array Slot) (nc ns : Nat), lwI dC dI cs x0 m0 b s i (n + 1) d0 H lo ls nc ns → W p l e room_1 (s.setDrawn d0) m #[Value.ref b] below meth c H lo nc ns (lw_Z below #[Value.ref b] s) (F0 m 1947 ls [])) : W p l e room_1 (s.setDrawn d0) m #[Value.ref b] below meth c H lo nc ns (lw_Z below #[Value.ref b] s) (F0 m 1753 ls []) := by
  obtain ⟨hx, hb, hr, hml, hown, htl, hX, hbl, hlocks, hgv⟩ := id C0
  have hb : c.code = cL_law := hb
  have hown : s.vm.findClass RL = some m.cls := hown
  have hts0 : ∀ w ∈ pw, w.before #[Value.ref b] s = true := fun w h => htl w (pw_tbl h)
  have hts := dr_words hts0 d0
  have hN : xN s := xN_of htl
  have hA : ∀ q : Nat, s.heap.size ≤ q → (fun q : Nat => s.heap.size ≤ q) q := fun _ h => h
  have hbA : ¬ (fun q : Nat => s.heap.size ≤ q) b := Nat.not_le.mpr hbl
  obtain ⟨L, K, G, Q, I, J, tx, tm, B, σ, hQ, hI, hx0, hm0, hB, hT, hC, hM, hD, hAL, hP, hS, hl, hd0, hnc, hns⟩ := h
  have hi0 : 0 ≤ i.toInt := by omega
  have hok : okF σ.1 := hC.1.1.1
  refine lv_aload_n hx hb dL_law_1753 rfl (lv_at hl 2 rfl) ?_
  refine lv_aload_n hx hb dL_law_1754 rfl (lv_at hl 3 rfl) ?_
  refine lv_iload_n hx hb dL_law_1755 rfl (lv_at hl 0 rfl) ?_
  refine lv_iconst (v := 1) hx hb dL_law_1756 (by decide +kernel) ?_
  refine lv_iadd hx hb dL_law_1757 ?_
  refine va_sld (s := s.setDrawn d0) hx hb hX hbl hbA hS (lw_in (j := (1 : Int32)) (J := 1) (by decide +kernel) (by decide) (by decide) hi0 hiL hLn) dL_law_1758 ?_
  refine lv_aload_n hx hb dL_law_1759 rfl (lv_at hl 3 rfl) ?_
  refine lv_iload_n hx hb dL_law_1760 rfl (lv_at hl 0 rfl) ?_
  refine lv_iconst (v := 2) hx hb dL_law_1761 (by decide +kernel) ?_
  refine lv_iadd hx hb dL_law_1762 ?_
  refine va_sld (s := s.setDrawn d0) hx hb hX hbl hbA hS (lw_in (j := (2 : Int32)) (J := 2) (by decide +kernel) (by decide) (by decide) hi0 hiL hLn) dL_law_1763 ?_
  refine lv_if_eq (tgt := 1771) hx hb dL_law_1764 (by decide) (fun cq1764 => ?_) (fun cq1764 => ?_)
  · refine lv_iconst (v := 0) hx hb dL_law_1771 (by decide +kernel) ?_
    refine lv_aload_n hx hb dL_law_1772 rfl (lv_at hl 3 rfl) ?_
    refine lv_iload_n hx hb dL_law_1773 rfl (lv_at hl 0 rfl) ?_
    refine lv_iconst (v := 3) hx hb dL_law_1774 (by decide +kernel) ?_
    refine lv_iadd hx hb dL_law_1775 ?_
    refine va_sld (s := s.setDrawn d0) hx hb hX hbl hbA hS (lw_in (j := (3 : Int32)) (J := 3) (by decide +kernel) (by decide) (by decide) hi0 hiL hLn) dL_law_1776 ?_
    refine ro_i (va_runV (As := [.int (xs (i + 1).toNatClampNeg), .int (0), .int (xs (i + 3).toNatClampNeg)]) (rest := []) ⟨hx, hb, hml, hown, hts⟩ (s_X6_dots l dC dI cs L K G Q hQ x0 m0 tx (tm, B) H.size I J hI x0 hx0 hI.2.1.1 (xs (i + 1).toNatClampNeg) 0 (xs (i + 3).toNatClampNeg)) (cwV 3 hts (gV pq920 pq921 pq922 pq74 pq923) rfl rfl rfl (by decide +kernel) ⟨(Nat.le_of_ble_eq_true rfl), (Nat.le_of_ble_eq_true rfl)⟩) (sP_V hP hD hK hN hx0 hI.2.1.1 rfl rfl) rfl rfl hl.1 rfl (lv_room (Nat.le_of_ble_eq_true rfl)) dL_law_1777 ⟨(show nc + 0 ≤ room_1.cells from (show nc + 0 ≤ 600000 from by omega)), (show ns + 0 ≤ room_1.slots from (show ns + 0 ≤ 7302249 from by omega))⟩) hS hP (fun r1 H lo hr1 hP hS => ?_)
    have hk1 := hr1 σ hC
    refine lv_pop hx hb dL_law_1780 rfl ?_
    refine lv_aload_n hx hb dL_law_1781 rfl (lv_at hl 1 rfl) ?_
    refine lv_aload_n hx hb dL_law_1782 rfl (lv_at hl 3 rfl) ?_
    refine lv_iload_n hx hb dL_law_1783 rfl (lv_at hl 0 rfl) ?_
    refine lv_iconst (v := 1) hx hb dL_law_1784 (by decide +kernel) ?_
    refine lv_iadd hx hb dL_law_1785 ?_
    refine va_sld (s := s.setDrawn d0) hx hb hX hbl hbA hS (lw_in (j := (1 : Int32)) (J := 1) (by decide +kernel) (by decide) (by decide) hi0 hiL hLn) dL_law_1786 ?_
    refine lv_aload_n hx hb dL_law_1787 rfl (lv_at hl 3 rfl) ?_
    refine lv_iload_n hx hb dL_law_1788 rfl (lv_at hl 0 rfl) ?_
    refine lv_iconst (v := 2) hx hb dL_law_1789 (by decide +kernel) ?_
    refine lv_iadd hx hb dL_law_1790 ?_
    refine va_sld (s := s.setDrawn d0) hx hb hX hbl hbA hS (lw_in (j := (2 : Int32)) (J := 2) (by decide +kernel) (by decide) (by decide) hi0 hiL hLn) dL_law_1791 ?_
    refine lv_if_eq (tgt := 1799) hx hb dL_law_1792 (by decide) (fun cq1792 => ?_) (fun cq1792 => ?_)
    · refine lv_iconst (v := 0) hx hb dL_law_1799 (by decide +kernel) ?_
      refine lv_aload_n hx hb dL_law_1800 rfl (lv_at hl 3 rfl) ?_
      refine lv_iload_n hx hb dL_law_1801 rfl (lv_at hl 0 rfl) ?_
      refine lv_iconst (v := 3) hx hb dL_law_1802 (by decide +kernel) ?_
      refine lv_iadd hx hb dL_law_1803 ?_
      refine va_sld (s := s.setDrawn d0) hx hb hX hbl hbA hS (lw_in (j := (3 : Int32)) (J := 3) (by decide +kernel) (by decide) (by decide) hi0 hiL hLn) dL_law_1804 ?_
      refine ro_i (va_runV (As := [.int (xs (i + 1).toNatClampNeg), .int (0), .int (xs (i + 3).toNatClampNeg)]) (rest := []) ⟨hx, hb, hml, hown, hts⟩ (s_X7_dots l dC dI cs L K G Q hQ x0 m0 tx (tm, B) H.size I J hI m0 hm0 hI.2.1.2 (xs (i + 1).toNatClampNeg) 0 ⟨by decide +kernel, by decide +kernel⟩ (xs (i + 3).toNatClampNeg)) (cwV 3 hts (gV pq1686 pq1687 pq1688 pq81 pq1689) rfl rfl rfl (by decide +kernel) ⟨(Nat.le_of_ble_eq_true rfl), (Nat.le_of_ble_eq_true rfl)⟩) (sP_V hP hD hK hN hm0 hI.2.1.2 rfl rfl) rfl rfl hl.1 rfl (lv_room (Nat.le_of_ble_eq_true rfl)) dL_law_1805 ⟨(show nc + 0 ≤ room_1.cells from (show nc + 0 ≤ 600000 from by omega)), (show ns + 0 ≤ room_1.slots from (show ns + 0 ≤ 7302249 from by omega))⟩) hS hP (fun r2 H lo hr2 hP hS => ?_)
      have hk2 := hr2 σ hok hM
      have heq : r1 = r2 := (by first | exact Int32.toInt_inj.mp (hk1.trans hk2.symm) | contradiction)
      refine lv_pop hx hb dL_law_1808 rfl ?_
      refine lv_goto (tgt := 1947) hx hb dL_law_1809 (by decide) ?_
      exact kk _ _ _ _ _ _ ⟨L, K, G, Q, I, J, tx, tm, B, _, hQ, hI, hx0, hm0, by omega, hT, hC, hM, hD, hAL, hP, hS, hl, hd0, by omega, by omega⟩
    · refine lv_iconst (v := 1) hx hb dL_law_1795 (by decide +kernel) ?_
      refine lv_goto (tgt := 1800) hx hb dL_law_1796 (by decide) ?_
      refine lv_aload_n hx hb dL_law_1800 rfl (lv_at hl 3 rfl) ?_
      refine lv_iload_n hx hb dL_law_1801 rfl (lv_at hl 0 rfl) ?_
      refine lv_iconst (v := 3) hx hb dL_law_1802 (by decide +kernel) ?_
      refine lv_iadd hx hb dL_law_1803 ?_
      refine va_sld (s := s.setDrawn d0) hx hb hX hbl hbA hS (lw_in (j := (3 : Int32)) (J := 3) (by decide +kernel) (by decide) (by decide) hi0 hiL hLn) dL_law_1804 ?_
      refine ro_i (va_runV (As := [.int (xs (i + 1).toNatClampNeg), .int (1), .int (xs (i + 3).toNatClampNeg)]) (rest := []) ⟨hx, hb, hml, hown, hts⟩ (s_X7_dots l dC dI cs L K G Q hQ x0 m0 tx (tm, B) H.size I J hI m0 hm0 hI.2.1.2 (xs (i + 1).toNatClampNeg) 1 ⟨by decide +kernel, by decide +kernel⟩ (xs (i + 3).toNatClampNeg)) (cwV 3 hts (gV pq1686 pq1687 pq1688 pq81 pq1689) rfl rfl rfl (by decide +kernel) ⟨(Nat.le_of_ble_eq_true rfl), (Nat.le_of_ble_eq_true rfl)⟩) (sP_V hP hD hK hN hm0 hI.2.1.2 rfl rfl) rfl rfl hl.1 rfl (lv_room (Nat.le_of_ble_eq_true rfl)) dL_law_1805 ⟨(show nc + 0 ≤ room_1.cells from (show nc + 0 ≤ 600000 from by omega)), (show ns + 0 ≤ room_1.slots from (show ns + 0 ≤ 7302249 from by omega))⟩) hS hP (fun r2 H lo hr2 hP hS => ?_)
      have hk2 := hr2 σ hok hM
      have heq : r1 = r2 := (by first | exact Int32.toInt_inj.mp (hk1.trans hk2.symm) | contradiction)
      refine lv_pop hx hb dL_law_1808 rfl ?_
      refine lv_goto (tgt := 1947) hx hb dL_law_1809 (by decide) ?_
      exact kk _ _ _ _ _ _ ⟨L, K, G, Q, I, J, tx, tm, B, _, hQ, hI, hx0, hm0, by omega, hT, hC, hM, hD, hAL, hP, hS, hl, hd0, by omega, by omega⟩
  · refine lv_iconst (v := 1) hx hb dL_law_1767 (by decide +kernel) ?_
    refine lv_goto (tgt := 1772) hx hb dL_law_1768 (by decide) ?_
    refine lv_aload_n hx hb dL_law_1772 rfl (lv_at hl 3 rfl) ?_
    refine lv_iload_n hx hb dL_law_1773 rfl (lv_at hl 0 rfl) ?_
    refine lv_iconst (v := 3) hx hb dL_law_1774 (by decide +kernel) ?_
    refine lv_iadd hx hb dL_law_1775 ?_
    refine va_sld (s := s.setDrawn d0) hx hb hX hbl hbA hS (lw_in (j := (3 : Int32)) (J := 3) (by decide +kernel) (by decide) (by decide) hi0 hiL hLn) dL_law_1776 ?_
    refine ro_i (va_runV (As := [.int (xs (i + 1).toNatClampNeg), .int (1), .int (xs (i + 3).toNatClampNeg)]) (rest := []) ⟨hx, hb, hml, hown, hts⟩ (s_X6_dots l dC dI cs L K G Q hQ x0 m0 tx (tm, B) H.size I J hI x0 hx0 hI.2.1.1 (xs (i + 1).toNatClampNeg) 1 (xs (i + 3).toNatClampNeg)) (cwV 3 hts (gV pq920 pq921 pq922 pq74 pq923) rfl rfl rfl (by decide +kernel) ⟨(Nat.le_of_ble_eq_true rfl), (Nat.le_of_ble_eq_true rfl)⟩) (sP_V hP hD hK hN hx0 hI.2.1.1 rfl rfl) rfl rfl hl.1 rfl (lv_room (Nat.le_of_ble_eq_true rfl)) dL_law_1777 ⟨(show nc + 0 ≤ room_1.cells from (show nc + 0 ≤ 600000 from by omega)), (show ns + 0 ≤ room_1.slots from (show ns + 0 ≤ 7302249 from by omega))⟩) hS hP (fun r1 H lo hr1 hP hS => ?_)
    have hk1 := hr1 σ hC
    refine lv_pop hx hb dL_law_1780 rfl ?_
    refine lv_aload_n hx hb dL_law_1781 rfl (lv_at hl 1 rfl) ?_
    refine lv_aload_n hx hb dL_law_1782 rfl (lv_at hl 3 rfl) ?_
    refine lv_iload_n hx hb dL_law_1783 rfl (lv_at hl 0 rfl) ?_
    refine lv_iconst (v := 1) hx hb dL_law_1784 (by decide +kernel) ?_
    refine lv_iadd hx hb dL_law_1785 ?_
    refine va_sld (s := s.setDrawn d0) hx hb hX hbl hbA hS (lw_in (j := (1 : Int32)) (J := 1) (by decide +kernel) (by decide) (by decide) hi0 hiL hLn) dL_law_1786 ?_
    refine lv_aload_n hx hb dL_law_1787 rfl (lv_at hl 3 rfl) ?_
    refine lv_iload_n hx hb dL_law_1788 rfl (lv_at hl 0 rfl) ?_
    refine lv_iconst (v := 2) hx hb dL_law_1789 (by decide +kernel) ?_
    refine lv_iadd hx hb dL_law_1790 ?_
    refine va_sld (s := s.setDrawn d0) hx hb hX hbl hbA hS (lw_in (j := (2 : Int32)) (J := 2) (by decide +kernel) (by decide) (by decide) hi0 hiL hLn) dL_law_1791 ?_
    refine lv_if_eq (tgt := 1799) hx hb dL_law_1792 (by decide) (fun cq1792 => ?_) (fun cq1792 => ?_)
    · refine lv_iconst (v := 0) hx hb dL_law_1799 (by decide +kernel) ?_
      refine lv_aload_n hx hb dL_law_1800 rfl (lv_at hl 3 rfl) ?_
      refine lv_iload_n hx hb dL_law_1801 rfl (lv_at hl 0 rfl) ?_
      refine lv_iconst (v := 3) hx hb dL_law_1802 (by decide +kernel) ?_
      refine lv_iadd hx hb dL_law_1803 ?_
      refine va_sld (s := s.setDrawn d0) hx hb hX hbl hbA hS (lw_in (j := (3 : Int32)) (J := 3) (by decide +kernel) (by decide) (by decide) hi0 hiL hLn) dL_law_1804 ?_
      refine ro_i (va_runV (As := [.int (xs (i + 1).toNatClampNeg), .int (0), .int (xs (i + 3).toNatClampNeg)]) (rest := []) ⟨hx, hb, hml, hown, hts⟩ (s_X7_dots l dC dI cs L K G Q hQ x0 m0 tx (tm, B) H.size I J hI m0 hm0 hI.2.1.2 (xs (i + 1).toNatClampNeg) 0 ⟨by decide +kernel, by decide +kernel⟩ (xs (i + 3).toNatClampNeg)) (cwV 3 hts (gV pq1686 pq1687 pq1688 pq81 pq1689) rfl rfl rfl (by decide +kernel) ⟨(Nat.le_of_ble_eq_true rfl), (Nat.le_of_ble_eq_true rfl)⟩) (sP_V hP hD hK hN hm0 hI.2.1.2 rfl rfl) rfl rfl hl.1 rfl (lv_room (Nat.le_of_ble_eq_true rfl)) dL_law_1805 ⟨(show nc + 0 ≤ room_1.cells from (show nc + 0 ≤ 600000 from by omega)), (show ns + 0 ≤ room_1.slots from (show ns + 0 ≤ 7302249 from by omega))⟩) hS hP (fun r2 H lo hr2 hP hS => ?_)
      have hk2 := hr2 σ hok hM
      have heq : r1 = r2 := (by first | exact Int32.toInt_inj.mp (hk1.trans hk2.symm) | contradiction)
      refine lv_pop hx hb dL_law_1808 rfl ?_
      refine lv_goto (tgt := 1947) hx hb dL_law_1809 (by decide) ?_
      exact kk _ _ _ _ _ _ ⟨L, K, G, Q, I, J, tx, tm, B, _, hQ, hI, hx0, hm0, by omega, hT, hC, hM, hD, hAL, hP, hS, hl, hd0, by omega, by omega⟩
    · refine lv_iconst (v := 1) hx hb dL_law_1795 (by decide +kernel) ?_
      refine lv_goto (tgt := 1800) hx hb dL_law_1796 (by decide) ?_
      refine lv_aload_n hx hb dL_law_1800 rfl (lv_at hl 3 rfl) ?_
      refine lv_iload_n hx hb dL_law_1801 rfl (lv_at hl 0 rfl) ?_
      refine lv_iconst (v := 3) hx hb dL_law_1802 (by decide +kernel) ?_
      refine lv_iadd hx hb dL_law_1803 ?_
      refine va_sld (s := s.setDrawn d0) hx hb hX hbl hbA hS (lw_in (j := (3 : Int32)) (J := 3) (by decide +kernel) (by decide) (by decide) hi0 hiL hLn) dL_law_1804 ?_
      refine ro_i (va_runV (As := [.int (xs (i + 1).toNatClampNeg), .int (1), .int (xs (i + 3).toNatClampNeg)]) (rest := []) ⟨hx, hb, hml, hown, hts⟩ (s_X7_dots l dC dI cs L K G Q hQ x0 m0 tx (tm, B) H.size I J hI m0 hm0 hI.2.1.2 (xs (i + 1).toNatClampNeg) 1 ⟨by decide +kernel, by decide +kernel⟩ (xs (i + 3).toNatClampNeg)) (cwV 3 hts (gV pq1686 pq1687 pq1688 pq81 pq1689) rfl rfl rfl (by decide +kernel) ⟨(Nat.le_of_ble_eq_true rfl), (Nat.le_of_ble_eq_true rfl)⟩) (sP_V hP hD hK hN hm0 hI.2.1.2 rfl rfl) rfl rfl hl.1 rfl (lv_room (Nat.le_of_ble_eq_true rfl)) dL_law_1805 ⟨(show nc + 0 ≤ room_1.cells from (show nc + 0 ≤ 600000 from by omega)), (show ns + 0 ≤ room_1.slots from (show ns + 0 ≤ 7302249 from by omega))⟩) hS hP (fun r2 H lo hr2 hP hS => ?_)
      have hk2 := hr2 σ hok hM
      have heq : r1 = r2 := (by first | exact Int32.toInt_inj.mp (hk1.trans hk2.symm) | contradiction)
      refine lv_pop hx hb dL_law_1808 rfl ?_
      refine lv_goto (tgt := 1947) hx hb dL_law_1809 (by decide) ?_
      exact kk _ _ _ _ _ _ ⟨L, K, G, Q, I, J, tx, tm, B, _, hQ, hI, hx0, hm0, by omega, hT, hC, hM, hD, hAL, hP, hS, hl, hd0, by omega, by omega⟩

set_option maxHeartbeats 4000000 in
set_option maxRecDepth 100000 in
theorem s_lwcase44 {p : Program} {e : Env} {s : State} {m : MethodId} {below : List Frame} {meth : Method} {c : Code} (l : Launch) {b Ln : Nat} {xs : Nat → Int32} {dC : Nat → ClassId} {dI : Nat → Nat → Nat} {cs : Nat → ClassId} {x0 m0 : Nat} (C0 : lw_At p s m meth c b Ln xs) (hLn : Ln ≤ 3072) (hK : va_K (dC, dI) vwCl (tysA cs) s) (hXs : xS (fun q : Nat => s.heap.size ≤ q) s s.heap) (i : Int32) (n : Nat) (hn : n < 512) (hi : i.toInt = 6 * (n : Int)) (hiL : i.toInt + 5 < (Ln : Int)) {d0 : Drawn} {H : Heap} {lo : List Loc} {ls : Array Slot} {nc ns : Nat} (h : lwI dC dI cs x0 m0 b s i n d0 H lo ls nc ns) (kk : ∀ (d0 : Drawn) (H : Heap) (lo : List Loc) (ls : Array Slot) (nc ns : Nat), lwI dC dI cs x0 m0 b s i (n + 1) d0 H lo ls nc ns → W p l e room_1 (s.setDrawn d0) m #[Value.ref b] below meth c H lo nc ns (lw_Z below #[Value.ref b] s) (F0 m 1947 ls [])) : W p l e room_1 (s.setDrawn d0) m #[Value.ref b] below meth c H lo nc ns (lw_Z below #[Value.ref b] s) (F0 m 1812 ls []) := by
  obtain ⟨hx, hb, hr, hml, hown, htl, hX, hbl, hlocks, hgv⟩ := id C0
  have hb : c.code = cL_law := hb
  have hown : s.vm.findClass RL = some m.cls := hown
  have hts0 : ∀ w ∈ pw, w.before #[Value.ref b] s = true := fun w h => htl w (pw_tbl h)
  have hts := dr_words hts0 d0
  have hN : xN s := xN_of htl
  have hA : ∀ q : Nat, s.heap.size ≤ q → (fun q : Nat => s.heap.size ≤ q) q := fun _ h => h
  have hbA : ¬ (fun q : Nat => s.heap.size ≤ q) b := Nat.not_le.mpr hbl
  obtain ⟨L, K, G, Q, I, J, tx, tm, B, σ, hQ, hI, hx0, hm0, hB, hT, hC, hM, hD, hAL, hP, hS, hl, hd0, hnc, hns⟩ := h
  have hi0 : 0 ≤ i.toInt := by omega
  have hok : okF σ.1 := hC.1.1.1
  refine lv_aload_n hx hb dL_law_1812 rfl (lv_at hl 2 rfl) ?_
  refine lv_aload_n hx hb dL_law_1813 rfl (lv_at hl 3 rfl) ?_
  refine lv_iload_n hx hb dL_law_1814 rfl (lv_at hl 0 rfl) ?_
  refine lv_iconst (v := 1) hx hb dL_law_1815 (by decide +kernel) ?_
  refine lv_iadd hx hb dL_law_1816 ?_
  refine va_sld (s := s.setDrawn d0) hx hb hX hbl hbA hS (lw_in (j := (1 : Int32)) (J := 1) (by decide +kernel) (by decide) (by decide) hi0 hiL hLn) dL_law_1817 ?_
  refine lv_aload_n hx hb dL_law_1818 rfl (lv_at hl 3 rfl) ?_
  refine lv_iload_n hx hb dL_law_1819 rfl (lv_at hl 0 rfl) ?_
  refine lv_iconst (v := 2) hx hb dL_law_1820 (by decide +kernel) ?_
  refine lv_iadd hx hb dL_law_1821 ?_
  refine va_sld (s := s.setDrawn d0) hx hb hX hbl hbA hS (lw_in (j := (2 : Int32)) (J := 2) (by decide +kernel) (by decide) (by decide) hi0 hiL hLn) dL_law_1822 ?_
  refine ro_i (va_runV (As := [.int (xs (i + 1).toNatClampNeg), .int (xs (i + 2).toNatClampNeg)]) (rest := []) ⟨hx, hb, hml, hown, hts⟩ (s_X6_spread l dC dI cs L K G Q hQ x0 m0 tx (tm, B) H.size I J hI x0 hx0 hI.2.1.1 (xs (i + 1).toNatClampNeg) (xs (i + 2).toNatClampNeg)) (cwV 2 hts (gV pq924 pq925 pq926 pq74 pq927) rfl rfl rfl (by decide +kernel) ⟨(Nat.le_of_ble_eq_true rfl), (Nat.le_of_ble_eq_true rfl)⟩) (sP_V hP hD hK hN hx0 hI.2.1.1 rfl rfl) rfl rfl hl.1 rfl (lv_room (Nat.le_of_ble_eq_true rfl)) dL_law_1823 ⟨(show nc + 0 ≤ room_1.cells from (show nc + 0 ≤ 600000 from by omega)), (show ns + 0 ≤ room_1.slots from (show ns + 0 ≤ 7302249 from by omega))⟩) hS hP (fun r1 H lo hr1 hP hS => ?_)
  have hk1 := hr1 σ hC
  refine lv_pop hx hb dL_law_1826 rfl ?_
  refine lv_aload_n hx hb dL_law_1827 rfl (lv_at hl 1 rfl) ?_
  refine lv_aload_n hx hb dL_law_1828 rfl (lv_at hl 3 rfl) ?_
  refine lv_iload_n hx hb dL_law_1829 rfl (lv_at hl 0 rfl) ?_
  refine lv_iconst (v := 1) hx hb dL_law_1830 (by decide +kernel) ?_
  refine lv_iadd hx hb dL_law_1831 ?_
  refine va_sld (s := s.setDrawn d0) hx hb hX hbl hbA hS (lw_in (j := (1 : Int32)) (J := 1) (by decide +kernel) (by decide) (by decide) hi0 hiL hLn) dL_law_1832 ?_
  refine lv_aload_n hx hb dL_law_1833 rfl (lv_at hl 3 rfl) ?_
  refine lv_iload_n hx hb dL_law_1834 rfl (lv_at hl 0 rfl) ?_
  refine lv_iconst (v := 2) hx hb dL_law_1835 (by decide +kernel) ?_
  refine lv_iadd hx hb dL_law_1836 ?_
  refine va_sld (s := s.setDrawn d0) hx hb hX hbl hbA hS (lw_in (j := (2 : Int32)) (J := 2) (by decide +kernel) (by decide) (by decide) hi0 hiL hLn) dL_law_1837 ?_
  refine ro_i (va_runV (As := [.int (xs (i + 1).toNatClampNeg), .int (xs (i + 2).toNatClampNeg)]) (rest := []) ⟨hx, hb, hml, hown, hts⟩ (s_X7_spread l dC dI cs L K G Q hQ x0 m0 tx (tm, B) H.size I J hI m0 hm0 hI.2.1.2 (xs (i + 1).toNatClampNeg) (xs (i + 2).toNatClampNeg)) (cwV 2 hts (gV pq1690 pq1691 pq1692 pq81 pq1693) rfl rfl rfl (by decide +kernel) ⟨(Nat.le_of_ble_eq_true rfl), (Nat.le_of_ble_eq_true rfl)⟩) (sP_V hP hD hK hN hm0 hI.2.1.2 rfl rfl) rfl rfl hl.1 rfl (lv_room (Nat.le_of_ble_eq_true rfl)) dL_law_1838 ⟨(show nc + 0 ≤ room_1.cells from (show nc + 0 ≤ 600000 from by omega)), (show ns + 0 ≤ room_1.slots from (show ns + 0 ≤ 7302249 from by omega))⟩) hS hP (fun r2 H lo hr2 hP hS => ?_)
  have hk2 := hr2 σ hok hM
  have heq : r1 = r2 := sp_uni hk1 hk2
  refine lv_pop hx hb dL_law_1841 rfl ?_
  refine lv_goto (tgt := 1947) hx hb dL_law_1842 (by decide) ?_
  exact kk _ _ _ _ _ _ ⟨L, K, G, Q, I, J, tx, tm, B, _, hQ, hI, hx0, hm0, by omega, hT, hC, hM, hD, hAL, hP, hS, hl, hd0, by omega, by omega⟩

set_option maxHeartbeats 4000000 in
set_option maxRecDepth 100000 in
theorem s_lwcase45 {p : Program} {e : Env} {s : State} {m : MethodId} {below : List Frame} {meth : Method} {c : Code} (l : Launch) {b Ln : Nat} {xs : Nat → Int32} {dC : Nat → ClassId} {dI : Nat → Nat → Nat} {cs : Nat → ClassId} {x0 m0 : Nat} (C0 : lw_At p s m meth c b Ln xs) (hLn : Ln ≤ 3072) (hK : va_K (dC, dI) vwCl (tysA cs) s) (hXs : xS (fun q : Nat => s.heap.size ≤ q) s s.heap) (i : Int32) (n : Nat) (hn : n < 512) (hi : i.toInt = 6 * (n : Int)) (hiL : i.toInt + 5 < (Ln : Int)) {d0 : Drawn} {H : Heap} {lo : List Loc} {ls : Array Slot} {nc ns : Nat} (h : lwI dC dI cs x0 m0 b s i n d0 H lo ls nc ns) (kk : ∀ (d0 : Drawn) (H : Heap) (lo : List Loc) (ls : Array Slot) (nc ns : Nat), lwI dC dI cs x0 m0 b s i (n + 1) d0 H lo ls nc ns → W p l e room_1 (s.setDrawn d0) m #[Value.ref b] below meth c H lo nc ns (lw_Z below #[Value.ref b] s) (F0 m 1947 ls [])) : W p l e room_1 (s.setDrawn d0) m #[Value.ref b] below meth c H lo nc ns (lw_Z below #[Value.ref b] s) (F0 m 1845 ls []) := by
  obtain ⟨hx, hb, hr, hml, hown, htl, hX, hbl, hlocks, hgv⟩ := id C0
  have hb : c.code = cL_law := hb
  have hown : s.vm.findClass RL = some m.cls := hown
  have hts0 : ∀ w ∈ pw, w.before #[Value.ref b] s = true := fun w h => htl w (pw_tbl h)
  have hts := dr_words hts0 d0
  have hN : xN s := xN_of htl
  have hA : ∀ q : Nat, s.heap.size ≤ q → (fun q : Nat => s.heap.size ≤ q) q := fun _ h => h
  have hbA : ¬ (fun q : Nat => s.heap.size ≤ q) b := Nat.not_le.mpr hbl
  obtain ⟨L, K, G, Q, I, J, tx, tm, B, σ, hQ, hI, hx0, hm0, hB, hT, hC, hM, hD, hAL, hP, hS, hl, hd0, hnc, hns⟩ := h
  have hi0 : 0 ≤ i.toInt := by omega
  have hok : okF σ.1 := hC.1.1.1
  refine lv_aload_n hx hb dL_law_1845 rfl (lv_at hl 2 rfl) ?_
  refine lv_aload_n hx hb dL_law_1846 rfl (lv_at hl 3 rfl) ?_
  refine lv_iload_n hx hb dL_law_1847 rfl (lv_at hl 0 rfl) ?_
  refine lv_iconst (v := 1) hx hb dL_law_1848 (by decide +kernel) ?_
  refine lv_iadd hx hb dL_law_1849 ?_
  refine va_sld (s := s.setDrawn d0) hx hb hX hbl hbA hS (lw_in (j := (1 : Int32)) (J := 1) (by decide +kernel) (by decide) (by decide) hi0 hiL hLn) dL_law_1850 ?_
  refine ro_l (va_runV (As := [.int (xs (i + 1).toNatClampNeg)]) (rest := []) ⟨hx, hb, hml, hown, hts⟩ (s_X6_share l dC dI cs L K G Q hQ x0 m0 tx (tm, B) H.size I J hI x0 hx0 hI.2.1.1 (xs (i + 1).toNatClampNeg)) (cwV 1 hts (gV pq945 pq946 pq947 pq74 pq948) rfl rfl rfl (by decide +kernel) ⟨(Nat.le_of_ble_eq_true rfl), (Nat.le_of_ble_eq_true rfl)⟩) (sP_V hP hD hK hN hx0 hI.2.1.1 rfl rfl) rfl rfl hl.1 rfl (lv_room (Nat.le_of_ble_eq_true rfl)) dL_law_1851 ⟨(show nc + 0 ≤ room_1.cells from (show nc + 0 ≤ 600000 from by omega)), (show ns + 0 ≤ room_1.slots from (show ns + 0 ≤ 7302249 from by omega))⟩) hS hP (fun r1 H lo hr1 hP hS => ?_)
  have hk1 := hr1 σ hC
  refine lv_pop2_2 hx hb dL_law_1854 rfl ?_
  refine lv_aload_n hx hb dL_law_1855 rfl (lv_at hl 1 rfl) ?_
  refine lv_aload_n hx hb dL_law_1856 rfl (lv_at hl 3 rfl) ?_
  refine lv_iload_n hx hb dL_law_1857 rfl (lv_at hl 0 rfl) ?_
  refine lv_iconst (v := 1) hx hb dL_law_1858 (by decide +kernel) ?_
  refine lv_iadd hx hb dL_law_1859 ?_
  refine va_sld (s := s.setDrawn d0) hx hb hX hbl hbA hS (lw_in (j := (1 : Int32)) (J := 1) (by decide +kernel) (by decide) (by decide) hi0 hiL hLn) dL_law_1860 ?_
  refine va_calllD hd0 (va_runV_D (As := [.int (xs (i + 1).toNatClampNeg)]) (rest := []) ⟨hx, hb, hml, hown, hts⟩ (s_X7_share l dC dI cs L K G Q hQ x0 m0 tx (tm, B) H.size I J hI m0 hm0 hI.2.1.2 (xs (i + 1).toNatClampNeg)) (cwV 1 hts (gV pq1698 pq1699 pq1700 pq81 pq1701) rfl rfl rfl (by decide +kernel) ⟨(Nat.le_of_ble_eq_true rfl), (Nat.le_of_ble_eq_true rfl)⟩) (sP_V hP hD hK hN hm0 hI.2.1.2 rfl rfl) rfl rfl hl.1 rfl (lv_room (Nat.le_of_ble_eq_true rfl)) dL_law_1861 ⟨(show nc + 0 ≤ room_1.cells from (show nc + 0 ≤ 600000 from by omega)), (show ns + 0 ≤ room_1.slots from (show ns + 0 ≤ 7302249 from by omega))⟩) hS (fun q _ h => False.elim h) (fun q h => False.elim h) (fun r2 u t H1 lo ht hvm hw hB2 hz1 hkk hS d0 hd0 => ?_)
  have hP := va_P.kept hP (fun k x hx => hkk x.1 (hP k x hx).lt (fun z => z))
  have hts := dr_words hts0 d0
  have hk2 := by first | exact ht σ hok hM | exact hB2 σ hok hM | exact hvm σ hok hM | exact hw σ hok hM
  have heq : r1 = r2 := shr_uni hk1 hk2
  refine lv_pop2_2 hx hb dL_law_1864 rfl ?_
  refine lv_goto (tgt := 1947) hx hb dL_law_1865 (by decide) ?_
  exact kk _ _ _ _ _ _ ⟨L, K, G, Q, I, J, tx, tm, B, _, hQ, hI, hx0, hm0, by omega, hT, hC, hM, hD, hAL, hP, hS, hl, hd0, by omega, by omega⟩

set_option maxHeartbeats 4000000 in
set_option maxRecDepth 100000 in
theorem s_lwcase46 {p : Program} {e : Env} {s : State} {m : MethodId} {below : List Frame} {meth : Method} {c : Code} (l : Launch) {b Ln : Nat} {xs : Nat → Int32} {dC : Nat → ClassId} {dI : Nat → Nat → Nat} {cs : Nat → ClassId} {x0 m0 : Nat} (C0 : lw_At p s m meth c b Ln xs) (hLn : Ln ≤ 3072) (hK : va_K (dC, dI) vwCl (tysA cs) s) (hXs : xS (fun q : Nat => s.heap.size ≤ q) s s.heap) (i : Int32) (n : Nat) (hn : n < 512) (hi : i.toInt = 6 * (n : Int)) (hiL : i.toInt + 5 < (Ln : Int)) {d0 : Drawn} {H : Heap} {lo : List Loc} {ls : Array Slot} {nc ns : Nat} (h : lwI dC dI cs x0 m0 b s i n d0 H lo ls nc ns) (kk : ∀ (d0 : Drawn) (H : Heap) (lo : List Loc) (ls : Array Slot) (nc ns : Nat), lwI dC dI cs x0 m0 b s i (n + 1) d0 H lo ls nc ns → W p l e room_1 (s.setDrawn d0) m #[Value.ref b] below meth c H lo nc ns (lw_Z below #[Value.ref b] s) (F0 m 1947 ls [])) : W p l e room_1 (s.setDrawn d0) m #[Value.ref b] below meth c H lo nc ns (lw_Z below #[Value.ref b] s) (F0 m 1868 ls []) := by
  obtain ⟨hx, hb, hr, hml, hown, htl, hX, hbl, hlocks, hgv⟩ := id C0
  have hb : c.code = cL_law := hb
  have hown : s.vm.findClass RL = some m.cls := hown
  have hts0 : ∀ w ∈ pw, w.before #[Value.ref b] s = true := fun w h => htl w (pw_tbl h)
  have hts := dr_words hts0 d0
  have hN : xN s := xN_of htl
  have hA : ∀ q : Nat, s.heap.size ≤ q → (fun q : Nat => s.heap.size ≤ q) q := fun _ h => h
  have hbA : ¬ (fun q : Nat => s.heap.size ≤ q) b := Nat.not_le.mpr hbl
  obtain ⟨L, K, G, Q, I, J, tx, tm, B, σ, hQ, hI, hx0, hm0, hB, hT, hC, hM, hD, hAL, hP, hS, hl, hd0, hnc, hns⟩ := h
  have hi0 : 0 ≤ i.toInt := by omega
  have hok : okF σ.1 := hC.1.1.1
  refine lv_aload_n hx hb dL_law_1868 rfl (lv_at hl 2 rfl) ?_
  refine ro_l (va_runV (As := []) (rest := []) ⟨hx, hb, hml, hown, hts⟩ (s_X6_digest l dC dI cs L K G Q hQ x0 m0 tx (tm, B) H.size I J hI x0 hx0 hI.2.1.1) (cwV 0 hts (gV pq1095 pq1096 pq1097 pq74 pq1098) rfl rfl rfl (by decide +kernel) ⟨(Nat.le_of_ble_eq_true rfl), (Nat.le_of_ble_eq_true rfl)⟩) (sP_V hP hD hK hN hx0 hI.2.1.1 rfl rfl) rfl rfl hl.1 rfl (lv_room (Nat.le_of_ble_eq_true rfl)) dL_law_1869 ⟨(show nc + 0 ≤ room_1.cells from (show nc + 0 ≤ 600000 from by omega)), (show ns + 0 ≤ room_1.slots from (show ns + 0 ≤ 7302249 from by omega))⟩) hS hP (fun r1 H lo hr1 hP hS => ?_)
  have hk1 := hr1 σ hC
  refine lv_pop2_2 hx hb dL_law_1872 rfl ?_
  refine lv_aload_n hx hb dL_law_1873 rfl (lv_at hl 1 rfl) ?_
  refine ro_l (va_runV (As := []) (rest := []) ⟨hx, hb, hml, hown, hts⟩ (s_X7_digest l dC dI cs L K G Q hQ x0 m0 tx (tm, B) H.size I J hI m0 hm0 hI.2.1.2) (cwV 0 hts (gV pq1713 pq1714 pq1715 pq81 pq1716) rfl rfl rfl (by decide +kernel) ⟨(Nat.le_of_ble_eq_true rfl), (Nat.le_of_ble_eq_true rfl)⟩) (sP_V hP hD hK hN hm0 hI.2.1.2 rfl rfl) rfl rfl hl.1 rfl (lv_room (Nat.le_of_ble_eq_true rfl)) dL_law_1874 ⟨(show nc + 0 ≤ room_1.cells from (show nc + 0 ≤ 600000 from by omega)), (show ns + 0 ≤ room_1.slots from (show ns + 0 ≤ 7302249 from by omega))⟩) hS hP (fun r2 H lo hr2 hP hS => ?_)
  have hk2 := hr2 σ hM
  have heq : r1 = r2 := hk1.trans hk2.symm
  refine lv_pop2_2 hx hb dL_law_1877 rfl ?_
  refine lv_goto (tgt := 1947) hx hb dL_law_1878 (by decide) ?_
  exact kk _ _ _ _ _ _ ⟨L, K, G, Q, I, J, tx, tm, B, _, hQ, hI, hx0, hm0, by omega, hT, hC, hM, hD, hAL, hP, hS, hl, hd0, by omega, by omega⟩

set_option maxHeartbeats 4000000 in
set_option maxRecDepth 100000 in
theorem s_lwcase47 {p : Program} {e : Env} {s : State} {m : MethodId} {below : List Frame} {meth : Method} {c : Code} (l : Launch) {b Ln : Nat} {xs : Nat → Int32} {dC : Nat → ClassId} {dI : Nat → Nat → Nat} {cs : Nat → ClassId} {x0 m0 : Nat} (C0 : lw_At p s m meth c b Ln xs) (hLn : Ln ≤ 3072) (hK : va_K (dC, dI) vwCl (tysA cs) s) (hXs : xS (fun q : Nat => s.heap.size ≤ q) s s.heap) (i : Int32) (n : Nat) (hn : n < 512) (hi : i.toInt = 6 * (n : Int)) (hiL : i.toInt + 5 < (Ln : Int)) {d0 : Drawn} {H : Heap} {lo : List Loc} {ls : Array Slot} {nc ns : Nat} (h : lwI dC dI cs x0 m0 b s i n d0 H lo ls nc ns) (kk : ∀ (d0 : Drawn) (H : Heap) (lo : List Loc) (ls : Array Slot) (nc ns : Nat), lwI dC dI cs x0 m0 b s i (n + 1) d0 H lo ls nc ns → W p l e room_1 (s.setDrawn d0) m #[Value.ref b] below meth c H lo nc ns (lw_Z below #[Value.ref b] s) (F0 m 1947 ls [])) : W p l e room_1 (s.setDrawn d0) m #[Value.ref b] below meth c H lo nc ns (lw_Z below #[Value.ref b] s) (F0 m 1881 ls []) := by
  obtain ⟨hx, hb, hr, hml, hown, htl, hX, hbl, hlocks, hgv⟩ := id C0
  have hb : c.code = cL_law := hb
  have hown : s.vm.findClass RL = some m.cls := hown
  have hts0 : ∀ w ∈ pw, w.before #[Value.ref b] s = true := fun w h => htl w (pw_tbl h)
  have hts := dr_words hts0 d0
  have hN : xN s := xN_of htl
  have hA : ∀ q : Nat, s.heap.size ≤ q → (fun q : Nat => s.heap.size ≤ q) q := fun _ h => h
  have hbA : ¬ (fun q : Nat => s.heap.size ≤ q) b := Nat.not_le.mpr hbl
  obtain ⟨L, K, G, Q, I, J, tx, tm, B, σ, hQ, hI, hx0, hm0, hB, hT, hC, hM, hD, hAL, hP, hS, hl, hd0, hnc, hns⟩ := h
  have hi0 : 0 ≤ i.toInt := by omega
  have hok : okF σ.1 := hC.1.1.1
  refine lv_aload_n hx hb dL_law_1881 rfl (lv_at hl 2 rfl) ?_
  refine lv_aload_n hx hb dL_law_1882 rfl (lv_at hl 3 rfl) ?_
  refine lv_iload_n hx hb dL_law_1883 rfl (lv_at hl 0 rfl) ?_
  refine lv_iconst (v := 1) hx hb dL_law_1884 (by decide +kernel) ?_
  refine lv_iadd hx hb dL_law_1885 ?_
  refine va_sld (s := s.setDrawn d0) hx hb hX hbl hbA hS (lw_in (j := (1 : Int32)) (J := 1) (by decide +kernel) (by decide) (by decide) hi0 hiL hLn) dL_law_1886 ?_
  refine lv_aload_n hx hb dL_law_1887 rfl (lv_at hl 3 rfl) ?_
  refine lv_iload_n hx hb dL_law_1888 rfl (lv_at hl 0 rfl) ?_
  refine lv_iconst (v := 2) hx hb dL_law_1889 (by decide +kernel) ?_
  refine lv_iadd hx hb dL_law_1890 ?_
  refine va_sld (s := s.setDrawn d0) hx hb hX hbl hbA hS (lw_in (j := (2 : Int32)) (J := 2) (by decide +kernel) (by decide) (by decide) hi0 hiL hLn) dL_law_1891 ?_
  refine lv_aload_n hx hb dL_law_1892 rfl (lv_at hl 3 rfl) ?_
  refine lv_iload_n hx hb dL_law_1893 rfl (lv_at hl 0 rfl) ?_
  refine lv_iconst (v := 3) hx hb dL_law_1894 (by decide +kernel) ?_
  refine lv_iadd hx hb dL_law_1895 ?_
  refine va_sld (s := s.setDrawn d0) hx hb hX hbl hbA hS (lw_in (j := (3 : Int32)) (J := 3) (by decide +kernel) (by decide) (by decide) hi0 hiL hLn) dL_law_1896 ?_
  refine sw_i (va_runV (As := [.int (xs (i + 1).toNatClampNeg), .int (xs (i + 2).toNatClampNeg), .int (xs (i + 3).toNatClampNeg)]) (rest := []) ⟨hx, hb, hml, hown, hts⟩ (s_X6_alike l dC dI cs L K G Q hQ x0 m0 tx (tm, B) H.size I J hI x0 hx0 hI.2.1.1 (xs (i + 1).toNatClampNeg) (xs (i + 2).toNatClampNeg) (xs (i + 3).toNatClampNeg)) (cwV 3 hts (gV pq954 pq955 pq956 pq74 pq957) rfl rfl rfl (by decide +kernel) ⟨(Nat.le_of_ble_eq_true rfl), (Nat.le_of_ble_eq_true rfl)⟩) (sP_V hP hD hK hN hx0 hI.2.1.1 rfl rfl) rfl rfl hl.1 rfl (lv_room (Nat.le_of_ble_eq_true rfl)) dL_law_1897 ⟨(show nc + 0 ≤ room_1.cells from (show nc + 0 ≤ 600000 from by omega)), (show ns + 0 ≤ room_1.slots from (show ns + 0 ≤ 7302249 from by omega))⟩) hS hAL hA (fun r1 I1 J1 H lo hr1 hI1 hP hS => ?_)
  obtain ⟨hIn1, fr1, dnc1, jz1, dj1⟩ := hI1
  have hk1 := hr1 σ hC
  have hC := jz1 σ hC
  have hM := cmA_w hQ hm0 hI.2.1.2 hM dnc1 (fun b hb => dj1 b (by omega))
  have hIold := hI
  have hI := hIn1
  refine lv_pop hx hb dL_law_1900 rfl ?_
  refine lv_aload_n hx hb dL_law_1901 rfl (lv_at hl 1 rfl) ?_
  refine lv_aload_n hx hb dL_law_1902 rfl (lv_at hl 3 rfl) ?_
  refine lv_iload_n hx hb dL_law_1903 rfl (lv_at hl 0 rfl) ?_
  refine lv_iconst (v := 1) hx hb dL_law_1904 (by decide +kernel) ?_
  refine lv_iadd hx hb dL_law_1905 ?_
  refine va_sld (s := s.setDrawn d0) hx hb hX hbl hbA hS (lw_in (j := (1 : Int32)) (J := 1) (by decide +kernel) (by decide) (by decide) hi0 hiL hLn) dL_law_1906 ?_
  refine lv_aload_n hx hb dL_law_1907 rfl (lv_at hl 3 rfl) ?_
  refine lv_iload_n hx hb dL_law_1908 rfl (lv_at hl 0 rfl) ?_
  refine lv_iconst (v := 2) hx hb dL_law_1909 (by decide +kernel) ?_
  refine lv_iadd hx hb dL_law_1910 ?_
  refine va_sld (s := s.setDrawn d0) hx hb hX hbl hbA hS (lw_in (j := (2 : Int32)) (J := 2) (by decide +kernel) (by decide) (by decide) hi0 hiL hLn) dL_law_1911 ?_
  refine lv_aload_n hx hb dL_law_1912 rfl (lv_at hl 3 rfl) ?_
  refine lv_iload_n hx hb dL_law_1913 rfl (lv_at hl 0 rfl) ?_
  refine lv_iconst (v := 3) hx hb dL_law_1914 (by decide +kernel) ?_
  refine lv_iadd hx hb dL_law_1915 ?_
  refine va_sld (s := s.setDrawn d0) hx hb hX hbl hbA hS (lw_in (j := (3 : Int32)) (J := 3) (by decide +kernel) (by decide) (by decide) hi0 hiL hLn) dL_law_1916 ?_
  refine ro_i (va_runV (As := [.int (xs (i + 1).toNatClampNeg), .int (xs (i + 2).toNatClampNeg), .int (xs (i + 3).toNatClampNeg)]) (rest := []) ⟨hx, hb, hml, hown, hts⟩ (s_X7_alike l dC dI cs L K G Q hQ x0 m0 tx (tm, B) H.size I1 J1 hI m0 hm0 hI.2.1.2 (xs (i + 1).toNatClampNeg) (xs (i + 2).toNatClampNeg) (xs (i + 3).toNatClampNeg)) (cwV 3 hts (gV pq1720 pq1721 pq1722 pq81 pq1723) rfl rfl rfl (by decide +kernel) ⟨(Nat.le_of_ble_eq_true rfl), (Nat.le_of_ble_eq_true rfl)⟩) (sP_V hP hD hK hN hm0 hI.2.1.2 rfl rfl) rfl rfl hl.1 rfl (lv_room (Nat.le_of_ble_eq_true rfl)) dL_law_1917 ⟨(show nc + 0 ≤ room_1.cells from (show nc + 0 ≤ 600000 from by omega)), (show ns + 0 ≤ room_1.slots from (show ns + 0 ≤ 7302249 from by omega))⟩) hS hP (fun r2 H lo hr2 hP hS => ?_)
  have hk2 := hr2 σ hok hM
  have heq : r1 = r2 := Int32.toInt_inj.mp (hk1.trans hk2.symm)
  refine lv_pop hx hb dL_law_1920 rfl ?_
  refine lv_goto (tgt := 1947) hx hb dL_law_1921 (by decide) ?_
  exact kk _ _ _ _ _ _ ⟨L, K, G, Q, I1, J1, tx, tm, B, _, hQ, hI, hx0, hm0, by omega, hT, hC, hM, hD, hAL, hP, hS, hl, hd0, by omega, by omega⟩

set_option maxHeartbeats 4000000 in
set_option maxRecDepth 100000 in
theorem s_lwcase48 {p : Program} {e : Env} {s : State} {m : MethodId} {below : List Frame} {meth : Method} {c : Code} (l : Launch) {b Ln : Nat} {xs : Nat → Int32} {dC : Nat → ClassId} {dI : Nat → Nat → Nat} {cs : Nat → ClassId} {x0 m0 : Nat} (C0 : lw_At p s m meth c b Ln xs) (hLn : Ln ≤ 3072) (hK : va_K (dC, dI) vwCl (tysA cs) s) (hXs : xS (fun q : Nat => s.heap.size ≤ q) s s.heap) (i : Int32) (n : Nat) (hn : n < 512) (hi : i.toInt = 6 * (n : Int)) (hiL : i.toInt + 5 < (Ln : Int)) {d0 : Drawn} {H : Heap} {lo : List Loc} {ls : Array Slot} {nc ns : Nat} (h : lwI dC dI cs x0 m0 b s i n d0 H lo ls nc ns) (kk : ∀ (d0 : Drawn) (H : Heap) (lo : List Loc) (ls : Array Slot) (nc ns : Nat), lwI dC dI cs x0 m0 b s i (n + 1) d0 H lo ls nc ns → W p l e room_1 (s.setDrawn d0) m #[Value.ref b] below meth c H lo nc ns (lw_Z below #[Value.ref b] s) (F0 m 1947 ls [])) : W p l e room_1 (s.setDrawn d0) m #[Value.ref b] below meth c H lo nc ns (lw_Z below #[Value.ref b] s) (F0 m 1924 ls []) := by
  obtain ⟨hx, hb, hr, hml, hown, htl, hX, hbl, hlocks, hgv⟩ := id C0
  have hb : c.code = cL_law := hb
  have hown : s.vm.findClass RL = some m.cls := hown
  have hts0 : ∀ w ∈ pw, w.before #[Value.ref b] s = true := fun w h => htl w (pw_tbl h)
  have hts := dr_words hts0 d0
  have hN : xN s := xN_of htl
  have hA : ∀ q : Nat, s.heap.size ≤ q → (fun q : Nat => s.heap.size ≤ q) q := fun _ h => h
  have hbA : ¬ (fun q : Nat => s.heap.size ≤ q) b := Nat.not_le.mpr hbl
  obtain ⟨L, K, G, Q, I, J, tx, tm, B, σ, hQ, hI, hx0, hm0, hB, hT, hC, hM, hD, hAL, hP, hS, hl, hd0, hnc, hns⟩ := h
  have hi0 : 0 ≤ i.toInt := by omega
  have hok : okF σ.1 := hC.1.1.1
  refine lv_aload_n hx hb dL_law_1924 rfl (lv_at hl 2 rfl) ?_
  refine lv_aload_n hx hb dL_law_1925 rfl (lv_at hl 3 rfl) ?_
  refine lv_iload_n hx hb dL_law_1926 rfl (lv_at hl 0 rfl) ?_
  refine lv_iconst (v := 1) hx hb dL_law_1927 (by decide +kernel) ?_
  refine lv_iadd hx hb dL_law_1928 ?_
  refine va_sld (s := s.setDrawn d0) hx hb hX hbl hbA hS (lw_in (j := (1 : Int32)) (J := 1) (by decide +kernel) (by decide) (by decide) hi0 hiL hLn) dL_law_1929 ?_
  refine ro_i (va_runV (As := [.int (xs (i + 1).toNatClampNeg)]) (rest := []) ⟨hx, hb, hml, hown, hts⟩ (s_X6_count l dC dI cs L K G Q hQ x0 m0 tx (tm, B) H.size I J hI x0 hx0 hI.2.1.1 (xs (i + 1).toNatClampNeg)) (cwV 1 hts (gV pq1101 pq1102 pq1103 pq74 pq1104) rfl rfl rfl (by decide +kernel) ⟨(Nat.le_of_ble_eq_true rfl), (Nat.le_of_ble_eq_true rfl)⟩) (sP_V hP hD hK hN hx0 hI.2.1.1 rfl rfl) rfl rfl hl.1 rfl (lv_room (Nat.le_of_ble_eq_true rfl)) dL_law_1930 ⟨(show nc + 0 ≤ room_1.cells from (show nc + 0 ≤ 600000 from by omega)), (show ns + 0 ≤ room_1.slots from (show ns + 0 ≤ 7302249 from by omega))⟩) hS hP (fun r1 H lo hr1 hP hS => ?_)
  have hk1 := hr1 σ hC
  rw [show I x0 1 = tx.1 from hI.2.2.1, hT.1] at hk1
  refine lv_aload_n hx hb dL_law_1933 rfl (lv_at hl 1 rfl) ?_
  refine lv_aload_n hx hb dL_law_1934 rfl (lv_at hl 3 rfl) ?_
  refine lv_iload_n hx hb dL_law_1935 rfl (lv_at hl 0 rfl) ?_
  refine lv_iconst (v := 1) hx hb dL_law_1936 (by decide +kernel) ?_
  refine lv_iadd hx hb dL_law_1937 ?_
  refine va_sld (s := s.setDrawn d0) hx hb hX hbl hbA hS (lw_in (j := (1 : Int32)) (J := 1) (by decide +kernel) (by decide) (by decide) hi0 hiL hLn) dL_law_1938 ?_
  refine ro_i (va_runV (As := [.int (xs (i + 1).toNatClampNeg)]) (rest := [.int r1]) ⟨hx, hb, hml, hown, hts⟩ (s_X7_count l dC dI cs L K G Q hQ x0 m0 tx (tm, B) H.size I J hI m0 hm0 hI.2.1.2 (xs (i + 1).toNatClampNeg)) (cwV 1 hts (gV pq1724 pq1725 pq1726 pq81 pq1727) rfl rfl rfl (by decide +kernel) ⟨(Nat.le_of_ble_eq_true rfl), (Nat.le_of_ble_eq_true rfl)⟩) (sP_V hP hD hK hN hm0 hI.2.1.2 rfl rfl) rfl rfl hl.1 rfl (lv_room (Nat.le_of_ble_eq_true rfl)) dL_law_1939 ⟨(show nc + 0 ≤ room_1.cells from (show nc + 0 ≤ 600000 from by omega)), (show ns + 0 ≤ room_1.slots from (show ns + 0 ≤ 7302249 from by omega))⟩) hS hP (fun r2 H lo hr2 hP hS => ?_)
  have hk2 := hr2 σ hM
  rw [show I m0 13 = tm.1 from hI.2.2.2.1] at hk2
  have heq : r1 = r2 := Int32.toInt_inj.mp (hk1.trans hk2.symm)
  refine lv_icmp_eq (tgt := 1947) hx hb dL_law_1942 (by decide) (fun _ => ?_) (fun c => absurd (show r1 = r2 from heq) c)
  exact kk _ _ _ _ _ _ ⟨L, K, G, Q, I, J, tx, tm, B, _, hQ, hI, hx0, hm0, by omega, hT, hC, hM, hD, hAL, hP, hS, hl, hd0, by omega, by omega⟩
