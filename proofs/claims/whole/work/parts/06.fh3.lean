theorem pf_201_1535 : pd_fetch 201 1535 = some (.iconst 0, 1536) := by decide +kernel
theorem pf_201_1536 : pd_fetch 201 1536 = some (.ireturn, 1537) := by decide +kernel
theorem pf_201_1537 : pd_fetch 201 1537 = some (.goto (Int.ofNat 1951), 1540) := by decide +kernel
theorem pf_201_1540 : pd_fetch 201 1540 = some (.aload 1, 1541) := by decide +kernel
theorem pf_201_1541 : pd_fetch 201 1541 = some (.aload 0, 1542) := by decide +kernel
theorem pf_201_1542 : pd_fetch 201 1542 = some (.iload 4, 1544) := by decide +kernel
theorem pf_201_1544 : pd_fetch 201 1544 = some (.iconst 1, 1545) := by decide +kernel
theorem pf_201_1545 : pd_fetch 201 1545 = some (.iadd, 1546) := by decide +kernel
theorem pf_201_1546 : pd_fetch 201 1546 = some (.iaload, 1547) := by decide +kernel
theorem pf_201_1547 : pd_fetch 201 1547 = some (.aload 0, 1548) := by decide +kernel
theorem pf_201_1548 : pd_fetch 201 1548 = some (.iload 4, 1550) := by decide +kernel
theorem pf_201_1550 : pd_fetch 201 1550 = some (.iconst 2, 1551) := by decide +kernel
theorem pf_201_1551 : pd_fetch 201 1551 = some (.iadd, 1552) := by decide +kernel
theorem pf_201_1552 : pd_fetch 201 1552 = some (.iaload, 1553) := by decide +kernel
theorem pf_201_1553 : pd_fetch 201 1553 = some (.i2l, 1554) := by decide +kernel
theorem pf_201_1554 : pd_fetch 201 1554 = some (.iconst 32, 1556) := by decide +kernel
theorem pf_201_1556 : pd_fetch 201 1556 = some (.lshl, 1557) := by decide +kernel
theorem pf_201_1557 : pd_fetch 201 1557 = some (.aload 0, 1558) := by decide +kernel
theorem pf_201_1558 : pd_fetch 201 1558 = some (.iload 4, 1560) := by decide +kernel
theorem pf_201_1560 : pd_fetch 201 1560 = some (.iconst 3, 1561) := by decide +kernel
theorem pf_201_1561 : pd_fetch 201 1561 = some (.iadd, 1562) := by decide +kernel
theorem pf_201_1562 : pd_fetch 201 1562 = some (.iaload, 1563) := by decide +kernel
theorem pf_201_1563 : pd_fetch 201 1563 = some (.i2l, 1564) := by decide +kernel
theorem pf_201_1564 : pd_fetch 201 1564 = some (.jsr (4294967295), 1567) := by decide +kernel
theorem pf_201_1567 : pd_fetch 201 1567 = some (.land, 1568) := by decide +kernel
theorem pf_201_1568 : pd_fetch 201 1568 = some (.lor, 1569) := by decide +kernel
theorem pf_201_1569 : pd_fetch 201 1569 = some (.aload 3, 1570) := by decide +kernel
theorem pf_201_1570 : pd_fetch 201 1570 = some (.invokestatic 196, 1573) := by decide +kernel
theorem pf_201_1573 : pd_fetch 201 1573 = some (.istore 5, 1575) := by decide +kernel
theorem pf_201_1575 : pd_fetch 201 1575 = some (.aload 2, 1576) := by decide +kernel
theorem pf_201_1576 : pd_fetch 201 1576 = some (.aload 0, 1577) := by decide +kernel
theorem pf_201_1577 : pd_fetch 201 1577 = some (.iload 4, 1579) := by decide +kernel
theorem pf_201_1579 : pd_fetch 201 1579 = some (.iconst 1, 1580) := by decide +kernel
theorem pf_201_1580 : pd_fetch 201 1580 = some (.iadd, 1581) := by decide +kernel
theorem pf_201_1581 : pd_fetch 201 1581 = some (.iaload, 1582) := by decide +kernel
theorem pf_201_1582 : pd_fetch 201 1582 = some (.aload 0, 1583) := by decide +kernel
theorem pf_201_1583 : pd_fetch 201 1583 = some (.iload 4, 1585) := by decide +kernel
theorem pf_201_1585 : pd_fetch 201 1585 = some (.iconst 2, 1586) := by decide +kernel
theorem pf_201_1586 : pd_fetch 201 1586 = some (.iadd, 1587) := by decide +kernel
theorem pf_201_1587 : pd_fetch 201 1587 = some (.iaload, 1588) := by decide +kernel
theorem pf_201_1588 : pd_fetch 201 1588 = some (.i2l, 1589) := by decide +kernel
theorem pf_201_1589 : pd_fetch 201 1589 = some (.iconst 32, 1591) := by decide +kernel
theorem pf_201_1591 : pd_fetch 201 1591 = some (.lshl, 1592) := by decide +kernel
theorem pf_201_1592 : pd_fetch 201 1592 = some (.aload 0, 1593) := by decide +kernel
theorem pf_201_1593 : pd_fetch 201 1593 = some (.iload 4, 1595) := by decide +kernel
theorem pf_201_1595 : pd_fetch 201 1595 = some (.iconst 3, 1596) := by decide +kernel
theorem pf_201_1596 : pd_fetch 201 1596 = some (.iadd, 1597) := by decide +kernel
theorem pf_201_1597 : pd_fetch 201 1597 = some (.iaload, 1598) := by decide +kernel
theorem pf_201_1598 : pd_fetch 201 1598 = some (.i2l, 1599) := by decide +kernel
theorem pf_201_1599 : pd_fetch 201 1599 = some (.jsr (4294967295), 1602) := by decide +kernel
theorem pf_201_1602 : pd_fetch 201 1602 = some (.land, 1603) := by decide +kernel
theorem pf_201_1603 : pd_fetch 201 1603 = some (.lor, 1604) := by decide +kernel
theorem pf_201_1604 : pd_fetch 201 1604 = some (.invokevirtual 170, 1607) := by decide +kernel
theorem pf_201_1607 : pd_fetch 201 1607 = some (.istore 6, 1609) := by decide +kernel
theorem pf_201_1609 : pd_fetch 201 1609 = some (.aload 2, 1610) := by decide +kernel
theorem pf_201_1610 : pd_fetch 201 1610 = some (.invokevirtual 107, 1613) := by decide +kernel
theorem pf_201_1613 : pd_fetch 201 1613 = some (.iload 5, 1615) := by decide +kernel
theorem pf_201_1615 : pd_fetch 201 1615 = some (.if_icmp .eq (Int.ofNat 1620), 1618) := by decide +kernel
theorem pf_201_1618 : pd_fetch 201 1618 = some (.iconst 0, 1619) := by decide +kernel
theorem pf_201_1619 : pd_fetch 201 1619 = some (.ireturn, 1620) := by decide +kernel
theorem pf_201_1620 : pd_fetch 201 1620 = some (.iload 5, 1622) := by decide +kernel
theorem pf_201_1622 : pd_fetch 201 1622 = some (.ifCond .ne (Int.ofNat 1637), 1625) := by decide +kernel
theorem pf_201_1625 : pd_fetch 201 1625 = some (.aload 3, 1626) := by decide +kernel
theorem pf_201_1626 : pd_fetch 201 1626 = some (.iconst 0, 1627) := by decide +kernel
theorem pf_201_1627 : pd_fetch 201 1627 = some (.laload, 1628) := by decide +kernel
theorem pf_201_1628 : pd_fetch 201 1628 = some (.iload 6, 1630) := by decide +kernel
theorem pf_201_1630 : pd_fetch 201 1630 = some (.i2l, 1631) := by decide +kernel
theorem pf_201_1631 : pd_fetch 201 1631 = some (.lcmp, 1632) := by decide +kernel
theorem pf_201_1632 : pd_fetch 201 1632 = some (.ifCond .eq (Int.ofNat 1637), 1635) := by decide +kernel
theorem pf_201_1635 : pd_fetch 201 1635 = some (.iconst 0, 1636) := by decide +kernel
theorem pf_201_1636 : pd_fetch 201 1636 = some (.ireturn, 1637) := by decide +kernel
theorem pf_201_1637 : pd_fetch 201 1637 = some (.goto (Int.ofNat 1951), 1640) := by decide +kernel
theorem pf_201_1640 : pd_fetch 201 1640 = some (.aload 1, 1641) := by decide +kernel
theorem pf_201_1641 : pd_fetch 201 1641 = some (.aload 0, 1642) := by decide +kernel
theorem pf_201_1642 : pd_fetch 201 1642 = some (.iload 4, 1644) := by decide +kernel
theorem pf_201_1644 : pd_fetch 201 1644 = some (.iconst 1, 1645) := by decide +kernel
theorem pf_201_1645 : pd_fetch 201 1645 = some (.iadd, 1646) := by decide +kernel
theorem pf_201_1646 : pd_fetch 201 1646 = some (.iaload, 1647) := by decide +kernel
theorem pf_201_1647 : pd_fetch 201 1647 = some (.aload 0, 1648) := by decide +kernel
theorem pf_201_1648 : pd_fetch 201 1648 = some (.iload 4, 1650) := by decide +kernel
theorem pf_201_1650 : pd_fetch 201 1650 = some (.iconst 2, 1651) := by decide +kernel
theorem pf_201_1651 : pd_fetch 201 1651 = some (.iadd, 1652) := by decide +kernel
theorem pf_201_1652 : pd_fetch 201 1652 = some (.iaload, 1653) := by decide +kernel
theorem pf_201_1653 : pd_fetch 201 1653 = some (.i2l, 1654) := by decide +kernel
theorem pf_201_1654 : pd_fetch 201 1654 = some (.iconst 32, 1656) := by decide +kernel
theorem pf_201_1656 : pd_fetch 201 1656 = some (.lshl, 1657) := by decide +kernel
theorem pf_201_1657 : pd_fetch 201 1657 = some (.aload 0, 1658) := by decide +kernel
theorem pf_201_1658 : pd_fetch 201 1658 = some (.iload 4, 1660) := by decide +kernel
theorem pf_201_1660 : pd_fetch 201 1660 = some (.iconst 3, 1661) := by decide +kernel
theorem pf_201_1661 : pd_fetch 201 1661 = some (.iadd, 1662) := by decide +kernel
theorem pf_201_1662 : pd_fetch 201 1662 = some (.iaload, 1663) := by decide +kernel
theorem pf_201_1663 : pd_fetch 201 1663 = some (.i2l, 1664) := by decide +kernel
theorem pf_201_1664 : pd_fetch 201 1664 = some (.jsr (4294967295), 1667) := by decide +kernel
theorem pf_201_1667 : pd_fetch 201 1667 = some (.land, 1668) := by decide +kernel
theorem pf_201_1668 : pd_fetch 201 1668 = some (.lor, 1669) := by decide +kernel
theorem pf_201_1669 : pd_fetch 201 1669 = some (.aload 3, 1670) := by decide +kernel
theorem pf_201_1670 : pd_fetch 201 1670 = some (.invokestatic 197, 1673) := by decide +kernel
theorem pf_201_1673 : pd_fetch 201 1673 = some (.istore 5, 1675) := by decide +kernel
theorem pf_201_1675 : pd_fetch 201 1675 = some (.aload 2, 1676) := by decide +kernel
theorem pf_201_1676 : pd_fetch 201 1676 = some (.aload 0, 1677) := by decide +kernel
theorem pf_201_1677 : pd_fetch 201 1677 = some (.iload 4, 1679) := by decide +kernel
theorem pf_201_1679 : pd_fetch 201 1679 = some (.iconst 1, 1680) := by decide +kernel
theorem pf_201_1680 : pd_fetch 201 1680 = some (.iadd, 1681) := by decide +kernel
theorem pf_201_1681 : pd_fetch 201 1681 = some (.iaload, 1682) := by decide +kernel
theorem pf_201_1682 : pd_fetch 201 1682 = some (.aload 0, 1683) := by decide +kernel
theorem pf_201_1683 : pd_fetch 201 1683 = some (.iload 4, 1685) := by decide +kernel
theorem pf_201_1685 : pd_fetch 201 1685 = some (.iconst 2, 1686) := by decide +kernel
theorem pf_201_1686 : pd_fetch 201 1686 = some (.iadd, 1687) := by decide +kernel
theorem pf_201_1687 : pd_fetch 201 1687 = some (.iaload, 1688) := by decide +kernel
theorem pf_201_1688 : pd_fetch 201 1688 = some (.i2l, 1689) := by decide +kernel
theorem pf_201_1689 : pd_fetch 201 1689 = some (.iconst 32, 1691) := by decide +kernel
theorem pf_201_1691 : pd_fetch 201 1691 = some (.lshl, 1692) := by decide +kernel
theorem pf_201_1692 : pd_fetch 201 1692 = some (.aload 0, 1693) := by decide +kernel
theorem pf_201_1693 : pd_fetch 201 1693 = some (.iload 4, 1695) := by decide +kernel
theorem pf_201_1695 : pd_fetch 201 1695 = some (.iconst 3, 1696) := by decide +kernel
theorem pf_201_1696 : pd_fetch 201 1696 = some (.iadd, 1697) := by decide +kernel
theorem pf_201_1697 : pd_fetch 201 1697 = some (.iaload, 1698) := by decide +kernel
theorem pf_201_1698 : pd_fetch 201 1698 = some (.i2l, 1699) := by decide +kernel
theorem pf_201_1699 : pd_fetch 201 1699 = some (.jsr (4294967295), 1702) := by decide +kernel
theorem pf_201_1702 : pd_fetch 201 1702 = some (.land, 1703) := by decide +kernel
theorem pf_201_1703 : pd_fetch 201 1703 = some (.lor, 1704) := by decide +kernel
theorem pf_201_1704 : pd_fetch 201 1704 = some (.invokevirtual 174, 1707) := by decide +kernel
theorem pf_201_1707 : pd_fetch 201 1707 = some (.istore 6, 1709) := by decide +kernel
theorem pf_201_1709 : pd_fetch 201 1709 = some (.aload 2, 1710) := by decide +kernel
theorem pf_201_1710 : pd_fetch 201 1710 = some (.invokevirtual 107, 1713) := by decide +kernel
theorem pf_201_1713 : pd_fetch 201 1713 = some (.iload 5, 1715) := by decide +kernel
theorem pf_201_1715 : pd_fetch 201 1715 = some (.if_icmp .eq (Int.ofNat 1720), 1718) := by decide +kernel
theorem pf_201_1718 : pd_fetch 201 1718 = some (.iconst 0, 1719) := by decide +kernel
theorem pf_201_1719 : pd_fetch 201 1719 = some (.ireturn, 1720) := by decide +kernel
theorem pf_201_1720 : pd_fetch 201 1720 = some (.iload 5, 1722) := by decide +kernel
theorem pf_201_1722 : pd_fetch 201 1722 = some (.ifCond .ne (Int.ofNat 1737), 1725) := by decide +kernel
theorem pf_201_1725 : pd_fetch 201 1725 = some (.aload 3, 1726) := by decide +kernel
theorem pf_201_1726 : pd_fetch 201 1726 = some (.iconst 0, 1727) := by decide +kernel
theorem pf_201_1727 : pd_fetch 201 1727 = some (.laload, 1728) := by decide +kernel
theorem pf_201_1728 : pd_fetch 201 1728 = some (.iload 6, 1730) := by decide +kernel
theorem pf_201_1730 : pd_fetch 201 1730 = some (.i2l, 1731) := by decide +kernel
theorem pf_201_1731 : pd_fetch 201 1731 = some (.lcmp, 1732) := by decide +kernel
theorem pf_201_1732 : pd_fetch 201 1732 = some (.ifCond .eq (Int.ofNat 1737), 1735) := by decide +kernel
theorem pf_201_1735 : pd_fetch 201 1735 = some (.iconst 0, 1736) := by decide +kernel
theorem pf_201_1736 : pd_fetch 201 1736 = some (.ireturn, 1737) := by decide +kernel
theorem pf_201_1737 : pd_fetch 201 1737 = some (.goto (Int.ofNat 1951), 1740) := by decide +kernel
theorem pf_201_1740 : pd_fetch 201 1740 = some (.aload 1, 1741) := by decide +kernel
theorem pf_201_1741 : pd_fetch 201 1741 = some (.aload 0, 1742) := by decide +kernel
theorem pf_201_1742 : pd_fetch 201 1742 = some (.iload 4, 1744) := by decide +kernel
theorem pf_201_1744 : pd_fetch 201 1744 = some (.iconst 1, 1745) := by decide +kernel
theorem pf_201_1745 : pd_fetch 201 1745 = some (.iadd, 1746) := by decide +kernel
theorem pf_201_1746 : pd_fetch 201 1746 = some (.iaload, 1747) := by decide +kernel
theorem pf_201_1747 : pd_fetch 201 1747 = some (.i2l, 1748) := by decide +kernel
theorem pf_201_1748 : pd_fetch 201 1748 = some (.iconst 32, 1750) := by decide +kernel
theorem pf_201_1750 : pd_fetch 201 1750 = some (.lshl, 1751) := by decide +kernel
theorem pf_201_1751 : pd_fetch 201 1751 = some (.aload 0, 1752) := by decide +kernel
theorem pf_201_1752 : pd_fetch 201 1752 = some (.iload 4, 1754) := by decide +kernel
theorem pf_201_1754 : pd_fetch 201 1754 = some (.iconst 2, 1755) := by decide +kernel
theorem pf_201_1755 : pd_fetch 201 1755 = some (.iadd, 1756) := by decide +kernel
theorem pf_201_1756 : pd_fetch 201 1756 = some (.iaload, 1757) := by decide +kernel
theorem pf_201_1757 : pd_fetch 201 1757 = some (.i2l, 1758) := by decide +kernel
theorem pf_201_1758 : pd_fetch 201 1758 = some (.jsr (4294967295), 1761) := by decide +kernel
theorem pf_201_1761 : pd_fetch 201 1761 = some (.land, 1762) := by decide +kernel
theorem pf_201_1762 : pd_fetch 201 1762 = some (.lor, 1763) := by decide +kernel
theorem pf_201_1763 : pd_fetch 201 1763 = some (.aload 0, 1764) := by decide +kernel
theorem pf_201_1764 : pd_fetch 201 1764 = some (.iload 4, 1766) := by decide +kernel
theorem pf_201_1766 : pd_fetch 201 1766 = some (.iconst 3, 1767) := by decide +kernel
theorem pf_201_1767 : pd_fetch 201 1767 = some (.iadd, 1768) := by decide +kernel
theorem pf_201_1768 : pd_fetch 201 1768 = some (.iaload, 1769) := by decide +kernel
theorem pf_201_1769 : pd_fetch 201 1769 = some (.aload 3, 1770) := by decide +kernel
theorem pf_201_1770 : pd_fetch 201 1770 = some (.invokestatic 198, 1773) := by decide +kernel
theorem pf_201_1773 : pd_fetch 201 1773 = some (.istore 5, 1775) := by decide +kernel
theorem pf_201_1775 : pd_fetch 201 1775 = some (.aload 2, 1776) := by decide +kernel
theorem pf_201_1776 : pd_fetch 201 1776 = some (.aload 0, 1777) := by decide +kernel
theorem pf_201_1777 : pd_fetch 201 1777 = some (.iload 4, 1779) := by decide +kernel
theorem pf_201_1779 : pd_fetch 201 1779 = some (.iconst 1, 1780) := by decide +kernel
theorem pf_201_1780 : pd_fetch 201 1780 = some (.iadd, 1781) := by decide +kernel
theorem pf_201_1781 : pd_fetch 201 1781 = some (.iaload, 1782) := by decide +kernel
theorem pf_201_1782 : pd_fetch 201 1782 = some (.i2l, 1783) := by decide +kernel
theorem pf_201_1783 : pd_fetch 201 1783 = some (.iconst 32, 1785) := by decide +kernel
theorem pf_201_1785 : pd_fetch 201 1785 = some (.lshl, 1786) := by decide +kernel
theorem pf_201_1786 : pd_fetch 201 1786 = some (.aload 0, 1787) := by decide +kernel
theorem pf_201_1787 : pd_fetch 201 1787 = some (.iload 4, 1789) := by decide +kernel
theorem pf_201_1789 : pd_fetch 201 1789 = some (.iconst 2, 1790) := by decide +kernel
theorem pf_201_1790 : pd_fetch 201 1790 = some (.iadd, 1791) := by decide +kernel
theorem pf_201_1791 : pd_fetch 201 1791 = some (.iaload, 1792) := by decide +kernel
theorem pf_201_1792 : pd_fetch 201 1792 = some (.i2l, 1793) := by decide +kernel
theorem pf_201_1793 : pd_fetch 201 1793 = some (.jsr (4294967295), 1796) := by decide +kernel
theorem pf_201_1796 : pd_fetch 201 1796 = some (.land, 1797) := by decide +kernel
theorem pf_201_1797 : pd_fetch 201 1797 = some (.lor, 1798) := by decide +kernel
theorem pf_201_1798 : pd_fetch 201 1798 = some (.aload 0, 1799) := by decide +kernel
theorem pf_201_1799 : pd_fetch 201 1799 = some (.iload 4, 1801) := by decide +kernel
theorem pf_201_1801 : pd_fetch 201 1801 = some (.iconst 3, 1802) := by decide +kernel
theorem pf_201_1802 : pd_fetch 201 1802 = some (.iadd, 1803) := by decide +kernel
theorem pf_201_1803 : pd_fetch 201 1803 = some (.iaload, 1804) := by decide +kernel
theorem pf_201_1804 : pd_fetch 201 1804 = some (.invokevirtual 175, 1807) := by decide +kernel
theorem pf_201_1807 : pd_fetch 201 1807 = some (.lstore 6, 1809) := by decide +kernel
theorem pf_201_1809 : pd_fetch 201 1809 = some (.aload 2, 1810) := by decide +kernel
theorem pf_201_1810 : pd_fetch 201 1810 = some (.invokevirtual 107, 1813) := by decide +kernel
theorem pf_201_1813 : pd_fetch 201 1813 = some (.iload 5, 1815) := by decide +kernel
theorem pf_201_1815 : pd_fetch 201 1815 = some (.if_icmp .eq (Int.ofNat 1820), 1818) := by decide +kernel
theorem pf_201_1818 : pd_fetch 201 1818 = some (.iconst 0, 1819) := by decide +kernel
theorem pf_201_1819 : pd_fetch 201 1819 = some (.ireturn, 1820) := by decide +kernel
theorem pf_201_1820 : pd_fetch 201 1820 = some (.iload 5, 1822) := by decide +kernel
theorem pf_201_1822 : pd_fetch 201 1822 = some (.ifCond .ne (Int.ofNat 1836), 1825) := by decide +kernel
theorem pf_201_1825 : pd_fetch 201 1825 = some (.aload 3, 1826) := by decide +kernel
theorem pf_201_1826 : pd_fetch 201 1826 = some (.iconst 0, 1827) := by decide +kernel
theorem pf_201_1827 : pd_fetch 201 1827 = some (.laload, 1828) := by decide +kernel
theorem pf_201_1828 : pd_fetch 201 1828 = some (.lload 6, 1830) := by decide +kernel
theorem pf_201_1830 : pd_fetch 201 1830 = some (.lcmp, 1831) := by decide +kernel
theorem pf_201_1831 : pd_fetch 201 1831 = some (.ifCond .eq (Int.ofNat 1836), 1834) := by decide +kernel
theorem pf_201_1834 : pd_fetch 201 1834 = some (.iconst 0, 1835) := by decide +kernel
theorem pf_201_1835 : pd_fetch 201 1835 = some (.ireturn, 1836) := by decide +kernel
theorem pf_201_1836 : pd_fetch 201 1836 = some (.goto (Int.ofNat 1951), 1839) := by decide +kernel
theorem pf_201_1839 : pd_fetch 201 1839 = some (.aload 1, 1840) := by decide +kernel
theorem pf_201_1840 : pd_fetch 201 1840 = some (.aload 0, 1841) := by decide +kernel
theorem pf_201_1841 : pd_fetch 201 1841 = some (.iload 4, 1843) := by decide +kernel
theorem pf_201_1843 : pd_fetch 201 1843 = some (.iconst 1, 1844) := by decide +kernel
theorem pf_201_1844 : pd_fetch 201 1844 = some (.iadd, 1845) := by decide +kernel
theorem pf_201_1845 : pd_fetch 201 1845 = some (.iaload, 1846) := by decide +kernel
theorem pf_201_1846 : pd_fetch 201 1846 = some (.aload 3, 1847) := by decide +kernel
theorem pf_201_1847 : pd_fetch 201 1847 = some (.invokestatic 199, 1850) := by decide +kernel
theorem pf_201_1850 : pd_fetch 201 1850 = some (.istore 5, 1852) := by decide +kernel
theorem pf_201_1852 : pd_fetch 201 1852 = some (.aload 2, 1853) := by decide +kernel
theorem pf_201_1853 : pd_fetch 201 1853 = some (.aload 0, 1854) := by decide +kernel
theorem pf_201_1854 : pd_fetch 201 1854 = some (.iload 4, 1856) := by decide +kernel
theorem pf_201_1856 : pd_fetch 201 1856 = some (.iconst 1, 1857) := by decide +kernel
theorem pf_201_1857 : pd_fetch 201 1857 = some (.iadd, 1858) := by decide +kernel
theorem pf_201_1858 : pd_fetch 201 1858 = some (.iaload, 1859) := by decide +kernel
theorem pf_201_1859 : pd_fetch 201 1859 = some (.invokevirtual 176, 1862) := by decide +kernel
theorem pf_201_1862 : pd_fetch 201 1862 = some (.istore 6, 1864) := by decide +kernel
theorem pf_201_1864 : pd_fetch 201 1864 = some (.aload 2, 1865) := by decide +kernel
theorem pf_201_1865 : pd_fetch 201 1865 = some (.invokevirtual 107, 1868) := by decide +kernel
theorem pf_201_1868 : pd_fetch 201 1868 = some (.iload 5, 1870) := by decide +kernel
theorem pf_201_1870 : pd_fetch 201 1870 = some (.if_icmp .eq (Int.ofNat 1875), 1873) := by decide +kernel
theorem pf_201_1873 : pd_fetch 201 1873 = some (.iconst 0, 1874) := by decide +kernel
theorem pf_201_1874 : pd_fetch 201 1874 = some (.ireturn, 1875) := by decide +kernel
theorem pf_201_1875 : pd_fetch 201 1875 = some (.iload 5, 1877) := by decide +kernel
theorem pf_201_1877 : pd_fetch 201 1877 = some (.ifCond .ne (Int.ofNat 1892), 1880) := by decide +kernel
theorem pf_201_1880 : pd_fetch 201 1880 = some (.aload 3, 1881) := by decide +kernel
theorem pf_201_1881 : pd_fetch 201 1881 = some (.iconst 0, 1882) := by decide +kernel
theorem pf_201_1882 : pd_fetch 201 1882 = some (.laload, 1883) := by decide +kernel
theorem pf_201_1883 : pd_fetch 201 1883 = some (.iload 6, 1885) := by decide +kernel
theorem pf_201_1885 : pd_fetch 201 1885 = some (.i2l, 1886) := by decide +kernel
theorem pf_201_1886 : pd_fetch 201 1886 = some (.lcmp, 1887) := by decide +kernel
theorem pf_201_1887 : pd_fetch 201 1887 = some (.ifCond .eq (Int.ofNat 1892), 1890) := by decide +kernel
theorem pf_201_1890 : pd_fetch 201 1890 = some (.iconst 0, 1891) := by decide +kernel
theorem pf_201_1891 : pd_fetch 201 1891 = some (.ireturn, 1892) := by decide +kernel
theorem pf_201_1892 : pd_fetch 201 1892 = some (.goto (Int.ofNat 1951), 1895) := by decide +kernel
theorem pf_201_1895 : pd_fetch 201 1895 = some (.aload 1, 1896) := by decide +kernel
theorem pf_201_1896 : pd_fetch 201 1896 = some (.aload 0, 1897) := by decide +kernel
theorem pf_201_1897 : pd_fetch 201 1897 = some (.iload 4, 1899) := by decide +kernel
theorem pf_201_1899 : pd_fetch 201 1899 = some (.iconst 1, 1900) := by decide +kernel
theorem pf_201_1900 : pd_fetch 201 1900 = some (.iadd, 1901) := by decide +kernel
theorem pf_201_1901 : pd_fetch 201 1901 = some (.iaload, 1902) := by decide +kernel
theorem pf_201_1902 : pd_fetch 201 1902 = some (.aload 3, 1903) := by decide +kernel
theorem pf_201_1903 : pd_fetch 201 1903 = some (.invokestatic 200, 1906) := by decide +kernel
theorem pf_201_1906 : pd_fetch 201 1906 = some (.istore 5, 1908) := by decide +kernel
theorem pf_201_1908 : pd_fetch 201 1908 = some (.aload 2, 1909) := by decide +kernel
theorem pf_201_1909 : pd_fetch 201 1909 = some (.aload 0, 1910) := by decide +kernel
theorem pf_201_1910 : pd_fetch 201 1910 = some (.iload 4, 1912) := by decide +kernel
theorem pf_201_1912 : pd_fetch 201 1912 = some (.iconst 1, 1913) := by decide +kernel
theorem pf_201_1913 : pd_fetch 201 1913 = some (.iadd, 1914) := by decide +kernel
theorem pf_201_1914 : pd_fetch 201 1914 = some (.iaload, 1915) := by decide +kernel
theorem pf_201_1915 : pd_fetch 201 1915 = some (.invokevirtual 177, 1918) := by decide +kernel
theorem pf_201_1918 : pd_fetch 201 1918 = some (.istore 6, 1920) := by decide +kernel
theorem pf_201_1920 : pd_fetch 201 1920 = some (.aload 2, 1921) := by decide +kernel
theorem pf_201_1921 : pd_fetch 201 1921 = some (.invokevirtual 107, 1924) := by decide +kernel
theorem pf_201_1924 : pd_fetch 201 1924 = some (.iload 5, 1926) := by decide +kernel
theorem pf_201_1926 : pd_fetch 201 1926 = some (.if_icmp .eq (Int.ofNat 1931), 1929) := by decide +kernel
theorem pf_201_1929 : pd_fetch 201 1929 = some (.iconst 0, 1930) := by decide +kernel
theorem pf_201_1930 : pd_fetch 201 1930 = some (.ireturn, 1931) := by decide +kernel
theorem pf_201_1931 : pd_fetch 201 1931 = some (.iload 5, 1933) := by decide +kernel
theorem pf_201_1933 : pd_fetch 201 1933 = some (.ifCond .ne (Int.ofNat 1948), 1936) := by decide +kernel
theorem pf_201_1936 : pd_fetch 201 1936 = some (.aload 3, 1937) := by decide +kernel
theorem pf_201_1937 : pd_fetch 201 1937 = some (.iconst 0, 1938) := by decide +kernel
theorem pf_201_1938 : pd_fetch 201 1938 = some (.laload, 1939) := by decide +kernel
theorem pf_201_1939 : pd_fetch 201 1939 = some (.iload 6, 1941) := by decide +kernel
theorem pf_201_1941 : pd_fetch 201 1941 = some (.i2l, 1942) := by decide +kernel
theorem pf_201_1942 : pd_fetch 201 1942 = some (.lcmp, 1943) := by decide +kernel
theorem pf_201_1943 : pd_fetch 201 1943 = some (.ifCond .eq (Int.ofNat 1948), 1946) := by decide +kernel
theorem pf_201_1946 : pd_fetch 201 1946 = some (.iconst 0, 1947) := by decide +kernel
theorem pf_201_1947 : pd_fetch 201 1947 = some (.ireturn, 1948) := by decide +kernel
theorem pf_201_1948 : pd_fetch 201 1948 = some (.goto (Int.ofNat 1951), 1951) := by decide +kernel
theorem pf_201_1951 : pd_fetch 201 1951 = some (.iinc 4 5, 1954) := by decide +kernel
theorem pf_201_1954 : pd_fetch 201 1954 = some (.goto (Int.ofNat 23), 1957) := by decide +kernel
theorem pf_201_1957 : pd_fetch 201 1957 = some (.iconst 1, 1958) := by decide +kernel
theorem pf_201_1958 : pd_fetch 201 1958 = some (.ireturn, 1959) := by decide +kernel
