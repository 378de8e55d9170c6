/-! The law: its rows 5 (written by wip/whole/genlaw.py) -/
section
theorem d417_1589 : decode code 1589 = .ok (.ifCond .eq 5, 3) := by decide +kernel
theorem d417_1592 : decode code 1592 = .ok (.iconst 0, 1) := by decide +kernel
theorem d417_1593 : decode code 1593 = .ok (.ireturn, 1) := by decide +kernel
theorem d417_1594 : decode code 1594 = .ok (.goto 1189, 3) := by decide +kernel
theorem d417_1597 : decode code 1597 = .ok (.aload_n 1, 1) := by decide +kernel
theorem d417_1598 : decode code 1598 = .ok (.aload_n 0, 1) := by decide +kernel
theorem d417_1599 : decode code 1599 = .ok (.iload 4, 2) := by decide +kernel
theorem d417_1601 : decode code 1601 = .ok (.iconst 1, 1) := by decide +kernel
theorem d417_1602 : decode code 1602 = .ok (.iadd, 1) := by decide +kernel
theorem d417_1603 : decode code 1603 = .ok (.iaload, 1) := by decide +kernel
theorem d417_1604 : decode code 1604 = .ok (.aload_n 3, 1) := by decide +kernel
theorem d417_1605 : decode code 1605 = .ok (.invokestatic 232, 3) := by decide +kernel
theorem d417_1608 : decode code 1608 = .ok (.istore 5, 2) := by decide +kernel
theorem d417_1610 : decode code 1610 = .ok (.aload_n 2, 1) := by decide +kernel
theorem d417_1611 : decode code 1611 = .ok (.aload_n 0, 1) := by decide +kernel
theorem d417_1612 : decode code 1612 = .ok (.iload 4, 2) := by decide +kernel
theorem d417_1614 : decode code 1614 = .ok (.iconst 1, 1) := by decide +kernel
theorem d417_1615 : decode code 1615 = .ok (.iadd, 1) := by decide +kernel
theorem d417_1616 : decode code 1616 = .ok (.iaload, 1) := by decide +kernel
theorem d417_1617 : decode code 1617 = .ok (.invokevirtual 234, 3) := by decide +kernel
theorem d417_1620 : decode code 1620 = .ok (.istore 6, 2) := by decide +kernel
theorem d417_1622 : decode code 1622 = .ok (.aload_n 2, 1) := by decide +kernel
theorem d417_1623 : decode code 1623 = .ok (.invokevirtual 147, 3) := by decide +kernel
theorem d417_1626 : decode code 1626 = .ok (.iload 5, 2) := by decide +kernel
theorem d417_1628 : decode code 1628 = .ok (.if_icmp .eq 5, 3) := by decide +kernel
theorem d417_1631 : decode code 1631 = .ok (.iconst 0, 1) := by decide +kernel
theorem d417_1632 : decode code 1632 = .ok (.ireturn, 1) := by decide +kernel
theorem d417_1633 : decode code 1633 = .ok (.iload 5, 2) := by decide +kernel
theorem d417_1635 : decode code 1635 = .ok (.ifCond .ne 22, 3) := by decide +kernel
theorem d417_1638 : decode code 1638 = .ok (.aload_n 3, 1) := by decide +kernel
theorem d417_1639 : decode code 1639 = .ok (.iconst 0, 1) := by decide +kernel
theorem d417_1640 : decode code 1640 = .ok (.laload, 1) := by decide +kernel
theorem d417_1641 : decode code 1641 = .ok (.iload 6, 2) := by decide +kernel
theorem d417_1643 : decode code 1643 = .ok (.ifCond .eq 7, 3) := by decide +kernel
theorem d417_1646 : decode code 1646 = .ok (.lconst 1, 1) := by decide +kernel
theorem d417_1647 : decode code 1647 = .ok (.goto 4, 3) := by decide +kernel
theorem d417_1650 : decode code 1650 = .ok (.lconst 0, 1) := by decide +kernel
theorem d417_1651 : decode code 1651 = .ok (.lcmp, 1) := by decide +kernel
theorem d417_1652 : decode code 1652 = .ok (.ifCond .eq 5, 3) := by decide +kernel
theorem d417_1655 : decode code 1655 = .ok (.iconst 0, 1) := by decide +kernel
theorem d417_1656 : decode code 1656 = .ok (.ireturn, 1) := by decide +kernel
theorem d417_1657 : decode code 1657 = .ok (.goto 1126, 3) := by decide +kernel
theorem d417_1660 : decode code 1660 = .ok (.aload_n 1, 1) := by decide +kernel
theorem d417_1661 : decode code 1661 = .ok (.aload_n 0, 1) := by decide +kernel
theorem d417_1662 : decode code 1662 = .ok (.iload 4, 2) := by decide +kernel
theorem d417_1664 : decode code 1664 = .ok (.iconst 1, 1) := by decide +kernel
theorem d417_1665 : decode code 1665 = .ok (.iadd, 1) := by decide +kernel
theorem d417_1666 : decode code 1666 = .ok (.iaload, 1) := by decide +kernel
theorem d417_1667 : decode code 1667 = .ok (.aload_n 3, 1) := by decide +kernel
theorem d417_1668 : decode code 1668 = .ok (.invokestatic 235, 3) := by decide +kernel
theorem d417_1671 : decode code 1671 = .ok (.istore 5, 2) := by decide +kernel
theorem d417_1673 : decode code 1673 = .ok (.aload_n 2, 1) := by decide +kernel
theorem d417_1674 : decode code 1674 = .ok (.aload_n 0, 1) := by decide +kernel
theorem d417_1675 : decode code 1675 = .ok (.iload 4, 2) := by decide +kernel
theorem d417_1677 : decode code 1677 = .ok (.iconst 1, 1) := by decide +kernel
theorem d417_1678 : decode code 1678 = .ok (.iadd, 1) := by decide +kernel
theorem d417_1679 : decode code 1679 = .ok (.iaload, 1) := by decide +kernel
theorem d417_1680 : decode code 1680 = .ok (.invokevirtual 237, 3) := by decide +kernel
theorem d417_1683 : decode code 1683 = .ok (.istore 6, 2) := by decide +kernel
theorem d417_1685 : decode code 1685 = .ok (.aload_n 2, 1) := by decide +kernel
theorem d417_1686 : decode code 1686 = .ok (.invokevirtual 147, 3) := by decide +kernel
theorem d417_1689 : decode code 1689 = .ok (.iload 5, 2) := by decide +kernel
theorem d417_1691 : decode code 1691 = .ok (.if_icmp .eq 5, 3) := by decide +kernel
theorem d417_1694 : decode code 1694 = .ok (.iconst 0, 1) := by decide +kernel
theorem d417_1695 : decode code 1695 = .ok (.ireturn, 1) := by decide +kernel
theorem d417_1696 : decode code 1696 = .ok (.iload 5, 2) := by decide +kernel
theorem d417_1698 : decode code 1698 = .ok (.ifCond .ne 15, 3) := by decide +kernel
theorem d417_1701 : decode code 1701 = .ok (.aload_n 3, 1) := by decide +kernel
theorem d417_1702 : decode code 1702 = .ok (.iconst 0, 1) := by decide +kernel
theorem d417_1703 : decode code 1703 = .ok (.laload, 1) := by decide +kernel
theorem d417_1704 : decode code 1704 = .ok (.iload 6, 2) := by decide +kernel
theorem d417_1706 : decode code 1706 = .ok (.i2l, 1) := by decide +kernel
theorem d417_1707 : decode code 1707 = .ok (.lcmp, 1) := by decide +kernel
theorem d417_1708 : decode code 1708 = .ok (.ifCond .eq 5, 3) := by decide +kernel
theorem d417_1711 : decode code 1711 = .ok (.iconst 0, 1) := by decide +kernel
theorem d417_1712 : decode code 1712 = .ok (.ireturn, 1) := by decide +kernel
theorem d417_1713 : decode code 1713 = .ok (.goto 1070, 3) := by decide +kernel
theorem d417_1716 : decode code 1716 = .ok (.aload_n 1, 1) := by decide +kernel
theorem d417_1717 : decode code 1717 = .ok (.aload_n 0, 1) := by decide +kernel
theorem d417_1718 : decode code 1718 = .ok (.iload 4, 2) := by decide +kernel
theorem d417_1720 : decode code 1720 = .ok (.iconst 1, 1) := by decide +kernel
theorem d417_1721 : decode code 1721 = .ok (.iadd, 1) := by decide +kernel
theorem d417_1722 : decode code 1722 = .ok (.iaload, 1) := by decide +kernel
theorem d417_1723 : decode code 1723 = .ok (.aload_n 0, 1) := by decide +kernel
theorem d417_1724 : decode code 1724 = .ok (.iload 4, 2) := by decide +kernel
theorem d417_1726 : decode code 1726 = .ok (.iconst 2, 1) := by decide +kernel
theorem d417_1727 : decode code 1727 = .ok (.iadd, 1) := by decide +kernel
theorem d417_1728 : decode code 1728 = .ok (.iaload, 1) := by decide +kernel
theorem d417_1729 : decode code 1729 = .ok (.aload_n 3, 1) := by decide +kernel
theorem d417_1730 : decode code 1730 = .ok (.invokestatic 238, 3) := by decide +kernel
theorem d417_1733 : decode code 1733 = .ok (.istore 5, 2) := by decide +kernel
theorem d417_1735 : decode code 1735 = .ok (.aload_n 2, 1) := by decide +kernel
theorem d417_1736 : decode code 1736 = .ok (.aload_n 0, 1) := by decide +kernel
theorem d417_1737 : decode code 1737 = .ok (.iload 4, 2) := by decide +kernel
theorem d417_1739 : decode code 1739 = .ok (.iconst 1, 1) := by decide +kernel
theorem d417_1740 : decode code 1740 = .ok (.iadd, 1) := by decide +kernel
theorem d417_1741 : decode code 1741 = .ok (.iaload, 1) := by decide +kernel
theorem d417_1742 : decode code 1742 = .ok (.aload_n 0, 1) := by decide +kernel
theorem d417_1743 : decode code 1743 = .ok (.iload 4, 2) := by decide +kernel
theorem d417_1745 : decode code 1745 = .ok (.iconst 2, 1) := by decide +kernel
theorem d417_1746 : decode code 1746 = .ok (.iadd, 1) := by decide +kernel
theorem d417_1747 : decode code 1747 = .ok (.iaload, 1) := by decide +kernel
theorem d417_1748 : decode code 1748 = .ok (.invokevirtual 240, 3) := by decide +kernel
theorem d417_1751 : decode code 1751 = .ok (.istore 6, 2) := by decide +kernel
theorem d417_1753 : decode code 1753 = .ok (.aload_n 2, 1) := by decide +kernel
theorem d417_1754 : decode code 1754 = .ok (.invokevirtual 147, 3) := by decide +kernel
theorem d417_1757 : decode code 1757 = .ok (.iload 5, 2) := by decide +kernel
theorem d417_1759 : decode code 1759 = .ok (.if_icmp .eq 5, 3) := by decide +kernel
theorem d417_1762 : decode code 1762 = .ok (.iconst 0, 1) := by decide +kernel
theorem d417_1763 : decode code 1763 = .ok (.ireturn, 1) := by decide +kernel
theorem d417_1764 : decode code 1764 = .ok (.iload 5, 2) := by decide +kernel
theorem d417_1766 : decode code 1766 = .ok (.ifCond .ne 15, 3) := by decide +kernel
theorem d417_1769 : decode code 1769 = .ok (.aload_n 3, 1) := by decide +kernel
theorem d417_1770 : decode code 1770 = .ok (.iconst 0, 1) := by decide +kernel
theorem d417_1771 : decode code 1771 = .ok (.laload, 1) := by decide +kernel
theorem d417_1772 : decode code 1772 = .ok (.iload 6, 2) := by decide +kernel
theorem d417_1774 : decode code 1774 = .ok (.i2l, 1) := by decide +kernel
theorem d417_1775 : decode code 1775 = .ok (.lcmp, 1) := by decide +kernel
theorem d417_1776 : decode code 1776 = .ok (.ifCond .eq 5, 3) := by decide +kernel
theorem d417_1779 : decode code 1779 = .ok (.iconst 0, 1) := by decide +kernel
theorem d417_1780 : decode code 1780 = .ok (.ireturn, 1) := by decide +kernel
theorem d417_1781 : decode code 1781 = .ok (.goto 1002, 3) := by decide +kernel
theorem d417_1784 : decode code 1784 = .ok (.aload_n 1, 1) := by decide +kernel
theorem d417_1785 : decode code 1785 = .ok (.aload_n 0, 1) := by decide +kernel
theorem d417_1786 : decode code 1786 = .ok (.iload 4, 2) := by decide +kernel
theorem d417_1788 : decode code 1788 = .ok (.iconst 1, 1) := by decide +kernel
theorem d417_1789 : decode code 1789 = .ok (.iadd, 1) := by decide +kernel
theorem d417_1790 : decode code 1790 = .ok (.iaload, 1) := by decide +kernel
theorem d417_1791 : decode code 1791 = .ok (.aload_n 3, 1) := by decide +kernel
theorem d417_1792 : decode code 1792 = .ok (.invokestatic 241, 3) := by decide +kernel
theorem d417_1795 : decode code 1795 = .ok (.istore 5, 2) := by decide +kernel
theorem d417_1797 : decode code 1797 = .ok (.aload_n 2, 1) := by decide +kernel
theorem d417_1798 : decode code 1798 = .ok (.aload_n 0, 1) := by decide +kernel
theorem d417_1799 : decode code 1799 = .ok (.iload 4, 2) := by decide +kernel
theorem d417_1801 : decode code 1801 = .ok (.iconst 1, 1) := by decide +kernel
theorem d417_1802 : decode code 1802 = .ok (.iadd, 1) := by decide +kernel
theorem d417_1803 : decode code 1803 = .ok (.iaload, 1) := by decide +kernel
theorem d417_1804 : decode code 1804 = .ok (.invokevirtual 243, 3) := by decide +kernel
theorem d417_1807 : decode code 1807 = .ok (.istore 6, 2) := by decide +kernel
theorem d417_1809 : decode code 1809 = .ok (.aload_n 2, 1) := by decide +kernel
theorem d417_1810 : decode code 1810 = .ok (.invokevirtual 147, 3) := by decide +kernel
theorem d417_1813 : decode code 1813 = .ok (.iload 5, 2) := by decide +kernel
theorem d417_1815 : decode code 1815 = .ok (.if_icmp .eq 5, 3) := by decide +kernel
theorem d417_1818 : decode code 1818 = .ok (.iconst 0, 1) := by decide +kernel
theorem d417_1819 : decode code 1819 = .ok (.ireturn, 1) := by decide +kernel
theorem d417_1820 : decode code 1820 = .ok (.iload 5, 2) := by decide +kernel
theorem d417_1822 : decode code 1822 = .ok (.ifCond .ne 15, 3) := by decide +kernel
theorem d417_1825 : decode code 1825 = .ok (.aload_n 3, 1) := by decide +kernel
theorem d417_1826 : decode code 1826 = .ok (.iconst 0, 1) := by decide +kernel
theorem d417_1827 : decode code 1827 = .ok (.laload, 1) := by decide +kernel
theorem d417_1828 : decode code 1828 = .ok (.iload 6, 2) := by decide +kernel
theorem d417_1830 : decode code 1830 = .ok (.i2l, 1) := by decide +kernel
theorem d417_1831 : decode code 1831 = .ok (.lcmp, 1) := by decide +kernel
theorem d417_1832 : decode code 1832 = .ok (.ifCond .eq 5, 3) := by decide +kernel
theorem d417_1835 : decode code 1835 = .ok (.iconst 0, 1) := by decide +kernel
theorem d417_1836 : decode code 1836 = .ok (.ireturn, 1) := by decide +kernel
theorem d417_1837 : decode code 1837 = .ok (.goto 946, 3) := by decide +kernel
theorem d417_1840 : decode code 1840 = .ok (.aload_n 1, 1) := by decide +kernel
theorem d417_1841 : decode code 1841 = .ok (.aload_n 0, 1) := by decide +kernel
theorem d417_1842 : decode code 1842 = .ok (.iload 4, 2) := by decide +kernel
theorem d417_1844 : decode code 1844 = .ok (.iconst 1, 1) := by decide +kernel
theorem d417_1845 : decode code 1845 = .ok (.iadd, 1) := by decide +kernel
theorem d417_1846 : decode code 1846 = .ok (.iaload, 1) := by decide +kernel
theorem d417_1847 : decode code 1847 = .ok (.aload_n 0, 1) := by decide +kernel
theorem d417_1848 : decode code 1848 = .ok (.iload 4, 2) := by decide +kernel
theorem d417_1850 : decode code 1850 = .ok (.iconst 2, 1) := by decide +kernel
theorem d417_1851 : decode code 1851 = .ok (.iadd, 1) := by decide +kernel
theorem d417_1852 : decode code 1852 = .ok (.iaload, 1) := by decide +kernel
theorem d417_1853 : decode code 1853 = .ok (.aload_n 3, 1) := by decide +kernel
theorem d417_1854 : decode code 1854 = .ok (.invokestatic 244, 3) := by decide +kernel
end
