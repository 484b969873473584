set_option maxRecDepth 20000 in
theorem dLb_100 : decode cL_law 1655 = .ok (.aload_n 0, 1) ∧ decode cL_law 1656 = .ok (.iload 5, 2) ∧ decode cL_law 1658 = .ok (.iconst 3, 1) ∧ decode cL_law 1659 = .ok (.iadd, 1) ∧ decode cL_law 1660 = .ok (.iaload, 1) ∧ decode cL_law 1661 = .ok (.aload_n 0, 1) ∧ decode cL_law 1662 = .ok (.iload 5, 2) ∧ decode cL_law 1664 = .ok (.iconst 4, 1) := by decide +kernel
theorem dL_law_1655 : decode cL_law 1655 = .ok (.aload_n 0, 1) := dLb_100.1
theorem dL_law_1656 : decode cL_law 1656 = .ok (.iload 5, 2) := dLb_100.2.1
theorem dL_law_1658 : decode cL_law 1658 = .ok (.iconst 3, 1) := dLb_100.2.2.1
theorem dL_law_1659 : decode cL_law 1659 = .ok (.iadd, 1) := dLb_100.2.2.2.1
theorem dL_law_1660 : decode cL_law 1660 = .ok (.iaload, 1) := dLb_100.2.2.2.2.1
theorem dL_law_1661 : decode cL_law 1661 = .ok (.aload_n 0, 1) := dLb_100.2.2.2.2.2.1
theorem dL_law_1662 : decode cL_law 1662 = .ok (.iload 5, 2) := dLb_100.2.2.2.2.2.2.1
theorem dL_law_1664 : decode cL_law 1664 = .ok (.iconst 4, 1) := dLb_100.2.2.2.2.2.2.2
set_option maxRecDepth 20000 in
theorem dLb_101 : decode cL_law 1665 = .ok (.iadd, 1) ∧ decode cL_law 1666 = .ok (.iaload, 1) ∧ decode cL_law 1667 = .ok (.aload_n 0, 1) ∧ decode cL_law 1668 = .ok (.iload 5, 2) ∧ decode cL_law 1670 = .ok (.iconst 5, 1) ∧ decode cL_law 1671 = .ok (.iadd, 1) ∧ decode cL_law 1672 = .ok (.iaload, 1) ∧ decode cL_law 1673 = .ok (.aload_n 3, 1) := by decide +kernel
theorem dL_law_1665 : decode cL_law 1665 = .ok (.iadd, 1) := dLb_101.1
theorem dL_law_1666 : decode cL_law 1666 = .ok (.iaload, 1) := dLb_101.2.1
theorem dL_law_1667 : decode cL_law 1667 = .ok (.aload_n 0, 1) := dLb_101.2.2.1
theorem dL_law_1668 : decode cL_law 1668 = .ok (.iload 5, 2) := dLb_101.2.2.2.1
theorem dL_law_1670 : decode cL_law 1670 = .ok (.iconst 5, 1) := dLb_101.2.2.2.2.1
theorem dL_law_1671 : decode cL_law 1671 = .ok (.iadd, 1) := dLb_101.2.2.2.2.2.1
theorem dL_law_1672 : decode cL_law 1672 = .ok (.iaload, 1) := dLb_101.2.2.2.2.2.2.1
theorem dL_law_1673 : decode cL_law 1673 = .ok (.aload_n 3, 1) := dLb_101.2.2.2.2.2.2.2
set_option maxRecDepth 20000 in
theorem dLb_102 : decode cL_law 1674 = .ok (.invokestatic 210, 3) ∧ decode cL_law 1677 = .ok (.istore 6, 2) ∧ decode cL_law 1679 = .ok (.aload_n 2, 1) ∧ decode cL_law 1680 = .ok (.aload_n 0, 1) ∧ decode cL_law 1681 = .ok (.iload 5, 2) ∧ decode cL_law 1683 = .ok (.iconst 1, 1) ∧ decode cL_law 1684 = .ok (.iadd, 1) ∧ decode cL_law 1685 = .ok (.iaload, 1) := by decide +kernel
theorem dL_law_1674 : decode cL_law 1674 = .ok (.invokestatic 210, 3) := dLb_102.1
theorem dL_law_1677 : decode cL_law 1677 = .ok (.istore 6, 2) := dLb_102.2.1
theorem dL_law_1679 : decode cL_law 1679 = .ok (.aload_n 2, 1) := dLb_102.2.2.1
theorem dL_law_1680 : decode cL_law 1680 = .ok (.aload_n 0, 1) := dLb_102.2.2.2.1
theorem dL_law_1681 : decode cL_law 1681 = .ok (.iload 5, 2) := dLb_102.2.2.2.2.1
theorem dL_law_1683 : decode cL_law 1683 = .ok (.iconst 1, 1) := dLb_102.2.2.2.2.2.1
theorem dL_law_1684 : decode cL_law 1684 = .ok (.iadd, 1) := dLb_102.2.2.2.2.2.2.1
theorem dL_law_1685 : decode cL_law 1685 = .ok (.iaload, 1) := dLb_102.2.2.2.2.2.2.2
set_option maxRecDepth 20000 in
theorem dLb_103 : decode cL_law 1686 = .ok (.aload_n 0, 1) ∧ decode cL_law 1687 = .ok (.iload 5, 2) ∧ decode cL_law 1689 = .ok (.iconst 2, 1) ∧ decode cL_law 1690 = .ok (.iadd, 1) ∧ decode cL_law 1691 = .ok (.iaload, 1) ∧ decode cL_law 1692 = .ok (.aload_n 0, 1) ∧ decode cL_law 1693 = .ok (.iload 5, 2) ∧ decode cL_law 1695 = .ok (.iconst 3, 1) := by decide +kernel
theorem dL_law_1686 : decode cL_law 1686 = .ok (.aload_n 0, 1) := dLb_103.1
theorem dL_law_1687 : decode cL_law 1687 = .ok (.iload 5, 2) := dLb_103.2.1
theorem dL_law_1689 : decode cL_law 1689 = .ok (.iconst 2, 1) := dLb_103.2.2.1
theorem dL_law_1690 : decode cL_law 1690 = .ok (.iadd, 1) := dLb_103.2.2.2.1
theorem dL_law_1691 : decode cL_law 1691 = .ok (.iaload, 1) := dLb_103.2.2.2.2.1
theorem dL_law_1692 : decode cL_law 1692 = .ok (.aload_n 0, 1) := dLb_103.2.2.2.2.2.1
theorem dL_law_1693 : decode cL_law 1693 = .ok (.iload 5, 2) := dLb_103.2.2.2.2.2.2.1
theorem dL_law_1695 : decode cL_law 1695 = .ok (.iconst 3, 1) := dLb_103.2.2.2.2.2.2.2
set_option maxRecDepth 20000 in
theorem dLb_104 : decode cL_law 1696 = .ok (.iadd, 1) ∧ decode cL_law 1697 = .ok (.iaload, 1) ∧ decode cL_law 1698 = .ok (.aload_n 0, 1) ∧ decode cL_law 1699 = .ok (.iload 5, 2) ∧ decode cL_law 1701 = .ok (.iconst 4, 1) ∧ decode cL_law 1702 = .ok (.iadd, 1) ∧ decode cL_law 1703 = .ok (.iaload, 1) ∧ decode cL_law 1704 = .ok (.aload_n 0, 1) := by decide +kernel
theorem dL_law_1696 : decode cL_law 1696 = .ok (.iadd, 1) := dLb_104.1
theorem dL_law_1697 : decode cL_law 1697 = .ok (.iaload, 1) := dLb_104.2.1
theorem dL_law_1698 : decode cL_law 1698 = .ok (.aload_n 0, 1) := dLb_104.2.2.1
theorem dL_law_1699 : decode cL_law 1699 = .ok (.iload 5, 2) := dLb_104.2.2.2.1
theorem dL_law_1701 : decode cL_law 1701 = .ok (.iconst 4, 1) := dLb_104.2.2.2.2.1
theorem dL_law_1702 : decode cL_law 1702 = .ok (.iadd, 1) := dLb_104.2.2.2.2.2.1
theorem dL_law_1703 : decode cL_law 1703 = .ok (.iaload, 1) := dLb_104.2.2.2.2.2.2.1
theorem dL_law_1704 : decode cL_law 1704 = .ok (.aload_n 0, 1) := dLb_104.2.2.2.2.2.2.2
set_option maxRecDepth 20000 in
theorem dLb_105 : decode cL_law 1705 = .ok (.iload 5, 2) ∧ decode cL_law 1707 = .ok (.iconst 5, 1) ∧ decode cL_law 1708 = .ok (.iadd, 1) ∧ decode cL_law 1709 = .ok (.iaload, 1) ∧ decode cL_law 1710 = .ok (.invokevirtual 212, 3) ∧ decode cL_law 1713 = .ok (.istore 7, 2) ∧ decode cL_law 1715 = .ok (.aload_n 2, 1) ∧ decode cL_law 1716 = .ok (.invokevirtual 144, 3) := by decide +kernel
theorem dL_law_1705 : decode cL_law 1705 = .ok (.iload 5, 2) := dLb_105.1
theorem dL_law_1707 : decode cL_law 1707 = .ok (.iconst 5, 1) := dLb_105.2.1
theorem dL_law_1708 : decode cL_law 1708 = .ok (.iadd, 1) := dLb_105.2.2.1
theorem dL_law_1709 : decode cL_law 1709 = .ok (.iaload, 1) := dLb_105.2.2.2.1
theorem dL_law_1710 : decode cL_law 1710 = .ok (.invokevirtual 212, 3) := dLb_105.2.2.2.2.1
theorem dL_law_1713 : decode cL_law 1713 = .ok (.istore 7, 2) := dLb_105.2.2.2.2.2.1
theorem dL_law_1715 : decode cL_law 1715 = .ok (.aload_n 2, 1) := dLb_105.2.2.2.2.2.2.1
theorem dL_law_1716 : decode cL_law 1716 = .ok (.invokevirtual 144, 3) := dLb_105.2.2.2.2.2.2.2
set_option maxRecDepth 20000 in
theorem dLb_106 : decode cL_law 1719 = .ok (.iload 6, 2) ∧ decode cL_law 1721 = .ok (.if_icmp .eq 5, 3) ∧ decode cL_law 1726 = .ok (.iload 6, 2) ∧ decode cL_law 1728 = .ok (.ifCond .ne 15, 3) ∧ decode cL_law 1743 = .ok (.goto 647, 3) ∧ decode cL_law 1746 = .ok (.aload_n 1, 1) ∧ decode cL_law 1747 = .ok (.aload_n 3, 1) ∧ decode cL_law 1748 = .ok (.invokestatic 213, 3) := by decide +kernel
theorem dL_law_1719 : decode cL_law 1719 = .ok (.iload 6, 2) := dLb_106.1
theorem dL_law_1721 : decode cL_law 1721 = .ok (.if_icmp .eq 5, 3) := dLb_106.2.1
theorem dL_law_1726 : decode cL_law 1726 = .ok (.iload 6, 2) := dLb_106.2.2.1
theorem dL_law_1728 : decode cL_law 1728 = .ok (.ifCond .ne 15, 3) := dLb_106.2.2.2.1
theorem dL_law_1743 : decode cL_law 1743 = .ok (.goto 647, 3) := dLb_106.2.2.2.2.1
theorem dL_law_1746 : decode cL_law 1746 = .ok (.aload_n 1, 1) := dLb_106.2.2.2.2.2.1
theorem dL_law_1747 : decode cL_law 1747 = .ok (.aload_n 3, 1) := dLb_106.2.2.2.2.2.2.1
theorem dL_law_1748 : decode cL_law 1748 = .ok (.invokestatic 213, 3) := dLb_106.2.2.2.2.2.2.2
set_option maxRecDepth 20000 in
theorem dLb_107 : decode cL_law 1751 = .ok (.istore 6, 2) ∧ decode cL_law 1753 = .ok (.aload_n 2, 1) ∧ decode cL_law 1754 = .ok (.invokevirtual 215, 3) ∧ decode cL_law 1757 = .ok (.istore 7, 2) ∧ decode cL_law 1759 = .ok (.aload_n 2, 1) ∧ decode cL_law 1760 = .ok (.invokevirtual 144, 3) ∧ decode cL_law 1763 = .ok (.iload 6, 2) ∧ decode cL_law 1765 = .ok (.if_icmp .eq 5, 3) := by decide +kernel
theorem dL_law_1751 : decode cL_law 1751 = .ok (.istore 6, 2) := dLb_107.1
theorem dL_law_1753 : decode cL_law 1753 = .ok (.aload_n 2, 1) := dLb_107.2.1
theorem dL_law_1754 : decode cL_law 1754 = .ok (.invokevirtual 215, 3) := dLb_107.2.2.1
theorem dL_law_1757 : decode cL_law 1757 = .ok (.istore 7, 2) := dLb_107.2.2.2.1
theorem dL_law_1759 : decode cL_law 1759 = .ok (.aload_n 2, 1) := dLb_107.2.2.2.2.1
theorem dL_law_1760 : decode cL_law 1760 = .ok (.invokevirtual 144, 3) := dLb_107.2.2.2.2.2.1
theorem dL_law_1763 : decode cL_law 1763 = .ok (.iload 6, 2) := dLb_107.2.2.2.2.2.2.1
theorem dL_law_1765 : decode cL_law 1765 = .ok (.if_icmp .eq 5, 3) := dLb_107.2.2.2.2.2.2.2
set_option maxRecDepth 20000 in
theorem dLb_108 : decode cL_law 1770 = .ok (.iload 6, 2) ∧ decode cL_law 1772 = .ok (.ifCond .ne 15, 3) ∧ decode cL_law 1787 = .ok (.goto 603, 3) ∧ decode cL_law 1790 = .ok (.aload_n 1, 1) ∧ decode cL_law 1791 = .ok (.aload_n 0, 1) ∧ decode cL_law 1792 = .ok (.iload 5, 2) ∧ decode cL_law 1794 = .ok (.iconst 1, 1) ∧ decode cL_law 1795 = .ok (.iadd, 1) := by decide +kernel
theorem dL_law_1770 : decode cL_law 1770 = .ok (.iload 6, 2) := dLb_108.1
theorem dL_law_1772 : decode cL_law 1772 = .ok (.ifCond .ne 15, 3) := dLb_108.2.1
theorem dL_law_1787 : decode cL_law 1787 = .ok (.goto 603, 3) := dLb_108.2.2.1
theorem dL_law_1790 : decode cL_law 1790 = .ok (.aload_n 1, 1) := dLb_108.2.2.2.1
theorem dL_law_1791 : decode cL_law 1791 = .ok (.aload_n 0, 1) := dLb_108.2.2.2.2.1
theorem dL_law_1792 : decode cL_law 1792 = .ok (.iload 5, 2) := dLb_108.2.2.2.2.2.1
theorem dL_law_1794 : decode cL_law 1794 = .ok (.iconst 1, 1) := dLb_108.2.2.2.2.2.2.1
theorem dL_law_1795 : decode cL_law 1795 = .ok (.iadd, 1) := dLb_108.2.2.2.2.2.2.2
set_option maxRecDepth 20000 in
theorem dLb_109 : decode cL_law 1796 = .ok (.iaload, 1) ∧ decode cL_law 1797 = .ok (.aload_n 0, 1) ∧ decode cL_law 1798 = .ok (.iload 5, 2) ∧ decode cL_law 1800 = .ok (.iconst 2, 1) ∧ decode cL_law 1801 = .ok (.iadd, 1) ∧ decode cL_law 1802 = .ok (.iaload, 1) ∧ decode cL_law 1803 = .ok (.aload_n 3, 1) ∧ decode cL_law 1804 = .ok (.invokestatic 216, 3) := by decide +kernel
theorem dL_law_1796 : decode cL_law 1796 = .ok (.iaload, 1) := dLb_109.1
theorem dL_law_1797 : decode cL_law 1797 = .ok (.aload_n 0, 1) := dLb_109.2.1
theorem dL_law_1798 : decode cL_law 1798 = .ok (.iload 5, 2) := dLb_109.2.2.1
theorem dL_law_1800 : decode cL_law 1800 = .ok (.iconst 2, 1) := dLb_109.2.2.2.1
theorem dL_law_1801 : decode cL_law 1801 = .ok (.iadd, 1) := dLb_109.2.2.2.2.1
theorem dL_law_1802 : decode cL_law 1802 = .ok (.iaload, 1) := dLb_109.2.2.2.2.2.1
theorem dL_law_1803 : decode cL_law 1803 = .ok (.aload_n 3, 1) := dLb_109.2.2.2.2.2.2.1
theorem dL_law_1804 : decode cL_law 1804 = .ok (.invokestatic 216, 3) := dLb_109.2.2.2.2.2.2.2
set_option maxRecDepth 20000 in
theorem dLb_110 : decode cL_law 1807 = .ok (.istore 6, 2) ∧ decode cL_law 1809 = .ok (.aload_n 2, 1) ∧ decode cL_law 1810 = .ok (.aload_n 0, 1) ∧ decode cL_law 1811 = .ok (.iload 5, 2) ∧ decode cL_law 1813 = .ok (.iconst 1, 1) ∧ decode cL_law 1814 = .ok (.iadd, 1) ∧ decode cL_law 1815 = .ok (.iaload, 1) ∧ decode cL_law 1816 = .ok (.aload_n 0, 1) := by decide +kernel
theorem dL_law_1807 : decode cL_law 1807 = .ok (.istore 6, 2) := dLb_110.1
theorem dL_law_1809 : decode cL_law 1809 = .ok (.aload_n 2, 1) := dLb_110.2.1
theorem dL_law_1810 : decode cL_law 1810 = .ok (.aload_n 0, 1) := dLb_110.2.2.1
theorem dL_law_1811 : decode cL_law 1811 = .ok (.iload 5, 2) := dLb_110.2.2.2.1
theorem dL_law_1813 : decode cL_law 1813 = .ok (.iconst 1, 1) := dLb_110.2.2.2.2.1
theorem dL_law_1814 : decode cL_law 1814 = .ok (.iadd, 1) := dLb_110.2.2.2.2.2.1
theorem dL_law_1815 : decode cL_law 1815 = .ok (.iaload, 1) := dLb_110.2.2.2.2.2.2.1
theorem dL_law_1816 : decode cL_law 1816 = .ok (.aload_n 0, 1) := dLb_110.2.2.2.2.2.2.2
set_option maxRecDepth 20000 in
theorem dLb_111 : decode cL_law 1817 = .ok (.iload 5, 2) ∧ decode cL_law 1819 = .ok (.iconst 2, 1) ∧ decode cL_law 1820 = .ok (.iadd, 1) ∧ decode cL_law 1821 = .ok (.iaload, 1) ∧ decode cL_law 1822 = .ok (.invokevirtual 218, 3) ∧ decode cL_law 1825 = .ok (.istore 7, 2) ∧ decode cL_law 1827 = .ok (.aload_n 2, 1) ∧ decode cL_law 1828 = .ok (.invokevirtual 144, 3) := by decide +kernel
theorem dL_law_1817 : decode cL_law 1817 = .ok (.iload 5, 2) := dLb_111.1
theorem dL_law_1819 : decode cL_law 1819 = .ok (.iconst 2, 1) := dLb_111.2.1
theorem dL_law_1820 : decode cL_law 1820 = .ok (.iadd, 1) := dLb_111.2.2.1
theorem dL_law_1821 : decode cL_law 1821 = .ok (.iaload, 1) := dLb_111.2.2.2.1
theorem dL_law_1822 : decode cL_law 1822 = .ok (.invokevirtual 218, 3) := dLb_111.2.2.2.2.1
theorem dL_law_1825 : decode cL_law 1825 = .ok (.istore 7, 2) := dLb_111.2.2.2.2.2.1
theorem dL_law_1827 : decode cL_law 1827 = .ok (.aload_n 2, 1) := dLb_111.2.2.2.2.2.2.1
theorem dL_law_1828 : decode cL_law 1828 = .ok (.invokevirtual 144, 3) := dLb_111.2.2.2.2.2.2.2
set_option maxRecDepth 20000 in
theorem dLb_112 : decode cL_law 1831 = .ok (.iload 6, 2) ∧ decode cL_law 1833 = .ok (.if_icmp .eq 5, 3) ∧ decode cL_law 1838 = .ok (.iload 6, 2) ∧ decode cL_law 1840 = .ok (.ifCond .ne 15, 3) ∧ decode cL_law 1855 = .ok (.goto 535, 3) ∧ decode cL_law 1858 = .ok (.aload_n 1, 1) ∧ decode cL_law 1859 = .ok (.aload_n 0, 1) ∧ decode cL_law 1860 = .ok (.iload 5, 2) := by decide +kernel
theorem dL_law_1831 : decode cL_law 1831 = .ok (.iload 6, 2) := dLb_112.1
theorem dL_law_1833 : decode cL_law 1833 = .ok (.if_icmp .eq 5, 3) := dLb_112.2.1
theorem dL_law_1838 : decode cL_law 1838 = .ok (.iload 6, 2) := dLb_112.2.2.1
theorem dL_law_1840 : decode cL_law 1840 = .ok (.ifCond .ne 15, 3) := dLb_112.2.2.2.1
theorem dL_law_1855 : decode cL_law 1855 = .ok (.goto 535, 3) := dLb_112.2.2.2.2.1
theorem dL_law_1858 : decode cL_law 1858 = .ok (.aload_n 1, 1) := dLb_112.2.2.2.2.2.1
theorem dL_law_1859 : decode cL_law 1859 = .ok (.aload_n 0, 1) := dLb_112.2.2.2.2.2.2.1
theorem dL_law_1860 : decode cL_law 1860 = .ok (.iload 5, 2) := dLb_112.2.2.2.2.2.2.2
set_option maxRecDepth 20000 in
theorem dLb_113 : decode cL_law 1862 = .ok (.iconst 1, 1) ∧ decode cL_law 1863 = .ok (.iadd, 1) ∧ decode cL_law 1864 = .ok (.iaload, 1) ∧ decode cL_law 1865 = .ok (.aload_n 3, 1) ∧ decode cL_law 1866 = .ok (.invokestatic 219, 3) ∧ decode cL_law 1869 = .ok (.istore 6, 2) ∧ decode cL_law 1871 = .ok (.aload_n 2, 1) ∧ decode cL_law 1872 = .ok (.aload_n 0, 1) := by decide +kernel
theorem dL_law_1862 : decode cL_law 1862 = .ok (.iconst 1, 1) := dLb_113.1
theorem dL_law_1863 : decode cL_law 1863 = .ok (.iadd, 1) := dLb_113.2.1
theorem dL_law_1864 : decode cL_law 1864 = .ok (.iaload, 1) := dLb_113.2.2.1
theorem dL_law_1865 : decode cL_law 1865 = .ok (.aload_n 3, 1) := dLb_113.2.2.2.1
theorem dL_law_1866 : decode cL_law 1866 = .ok (.invokestatic 219, 3) := dLb_113.2.2.2.2.1
theorem dL_law_1869 : decode cL_law 1869 = .ok (.istore 6, 2) := dLb_113.2.2.2.2.2.1
theorem dL_law_1871 : decode cL_law 1871 = .ok (.aload_n 2, 1) := dLb_113.2.2.2.2.2.2.1
theorem dL_law_1872 : decode cL_law 1872 = .ok (.aload_n 0, 1) := dLb_113.2.2.2.2.2.2.2
set_option maxRecDepth 20000 in
theorem dLb_114 : decode cL_law 1873 = .ok (.iload 5, 2) ∧ decode cL_law 1875 = .ok (.iconst 1, 1) ∧ decode cL_law 1876 = .ok (.iadd, 1) ∧ decode cL_law 1877 = .ok (.iaload, 1) ∧ decode cL_law 1878 = .ok (.invokevirtual 221, 3) ∧ decode cL_law 1881 = .ok (.istore 7, 2) ∧ decode cL_law 1883 = .ok (.aload_n 2, 1) ∧ decode cL_law 1884 = .ok (.invokevirtual 144, 3) := by decide +kernel
theorem dL_law_1873 : decode cL_law 1873 = .ok (.iload 5, 2) := dLb_114.1
theorem dL_law_1875 : decode cL_law 1875 = .ok (.iconst 1, 1) := dLb_114.2.1
theorem dL_law_1876 : decode cL_law 1876 = .ok (.iadd, 1) := dLb_114.2.2.1
theorem dL_law_1877 : decode cL_law 1877 = .ok (.iaload, 1) := dLb_114.2.2.2.1
theorem dL_law_1878 : decode cL_law 1878 = .ok (.invokevirtual 221, 3) := dLb_114.2.2.2.2.1
theorem dL_law_1881 : decode cL_law 1881 = .ok (.istore 7, 2) := dLb_114.2.2.2.2.2.1
theorem dL_law_1883 : decode cL_law 1883 = .ok (.aload_n 2, 1) := dLb_114.2.2.2.2.2.2.1
theorem dL_law_1884 : decode cL_law 1884 = .ok (.invokevirtual 144, 3) := dLb_114.2.2.2.2.2.2.2
set_option maxRecDepth 20000 in
theorem dLb_115 : decode cL_law 1887 = .ok (.iload 6, 2) ∧ decode cL_law 1889 = .ok (.if_icmp .eq 5, 3) ∧ decode cL_law 1894 = .ok (.iload 6, 2) ∧ decode cL_law 1896 = .ok (.ifCond .ne 15, 3) ∧ decode cL_law 1911 = .ok (.goto 479, 3) ∧ decode cL_law 1914 = .ok (.aload_n 1, 1) ∧ decode cL_law 1915 = .ok (.aload_n 3, 1) ∧ decode cL_law 1916 = .ok (.invokestatic 222, 3) := by decide +kernel
theorem dL_law_1887 : decode cL_law 1887 = .ok (.iload 6, 2) := dLb_115.1
theorem dL_law_1889 : decode cL_law 1889 = .ok (.if_icmp .eq 5, 3) := dLb_115.2.1
theorem dL_law_1894 : decode cL_law 1894 = .ok (.iload 6, 2) := dLb_115.2.2.1
theorem dL_law_1896 : decode cL_law 1896 = .ok (.ifCond .ne 15, 3) := dLb_115.2.2.2.1
theorem dL_law_1911 : decode cL_law 1911 = .ok (.goto 479, 3) := dLb_115.2.2.2.2.1
theorem dL_law_1914 : decode cL_law 1914 = .ok (.aload_n 1, 1) := dLb_115.2.2.2.2.2.1
theorem dL_law_1915 : decode cL_law 1915 = .ok (.aload_n 3, 1) := dLb_115.2.2.2.2.2.2.1
theorem dL_law_1916 : decode cL_law 1916 = .ok (.invokestatic 222, 3) := dLb_115.2.2.2.2.2.2.2
set_option maxRecDepth 20000 in
theorem dLb_116 : decode cL_law 1919 = .ok (.istore 6, 2) ∧ decode cL_law 1921 = .ok (.aload_n 2, 1) ∧ decode cL_law 1922 = .ok (.invokevirtual 224, 3) ∧ decode cL_law 1925 = .ok (.istore 7, 2) ∧ decode cL_law 1927 = .ok (.aload_n 2, 1) ∧ decode cL_law 1928 = .ok (.invokevirtual 144, 3) ∧ decode cL_law 1931 = .ok (.iload 6, 2) ∧ decode cL_law 1933 = .ok (.if_icmp .eq 5, 3) := by decide +kernel
theorem dL_law_1919 : decode cL_law 1919 = .ok (.istore 6, 2) := dLb_116.1
theorem dL_law_1921 : decode cL_law 1921 = .ok (.aload_n 2, 1) := dLb_116.2.1
theorem dL_law_1922 : decode cL_law 1922 = .ok (.invokevirtual 224, 3) := dLb_116.2.2.1
theorem dL_law_1925 : decode cL_law 1925 = .ok (.istore 7, 2) := dLb_116.2.2.2.1
theorem dL_law_1927 : decode cL_law 1927 = .ok (.aload_n 2, 1) := dLb_116.2.2.2.2.1
theorem dL_law_1928 : decode cL_law 1928 = .ok (.invokevirtual 144, 3) := dLb_116.2.2.2.2.2.1
theorem dL_law_1931 : decode cL_law 1931 = .ok (.iload 6, 2) := dLb_116.2.2.2.2.2.2.1
theorem dL_law_1933 : decode cL_law 1933 = .ok (.if_icmp .eq 5, 3) := dLb_116.2.2.2.2.2.2.2
set_option maxRecDepth 20000 in
theorem dLb_117 : decode cL_law 1938 = .ok (.iload 6, 2) ∧ decode cL_law 1940 = .ok (.ifCond .ne 15, 3) ∧ decode cL_law 1955 = .ok (.goto 435, 3) ∧ decode cL_law 1958 = .ok (.aload_n 1, 1) ∧ decode cL_law 1959 = .ok (.aload_n 3, 1) ∧ decode cL_law 1960 = .ok (.invokestatic 225, 3) ∧ decode cL_law 1963 = .ok (.istore 6, 2) ∧ decode cL_law 1965 = .ok (.aload_n 2, 1) := by decide +kernel
theorem dL_law_1938 : decode cL_law 1938 = .ok (.iload 6, 2) := dLb_117.1
theorem dL_law_1940 : decode cL_law 1940 = .ok (.ifCond .ne 15, 3) := dLb_117.2.1
theorem dL_law_1955 : decode cL_law 1955 = .ok (.goto 435, 3) := dLb_117.2.2.1
theorem dL_law_1958 : decode cL_law 1958 = .ok (.aload_n 1, 1) := dLb_117.2.2.2.1
theorem dL_law_1959 : decode cL_law 1959 = .ok (.aload_n 3, 1) := dLb_117.2.2.2.2.1
theorem dL_law_1960 : decode cL_law 1960 = .ok (.invokestatic 225, 3) := dLb_117.2.2.2.2.2.1
theorem dL_law_1963 : decode cL_law 1963 = .ok (.istore 6, 2) := dLb_117.2.2.2.2.2.2.1
theorem dL_law_1965 : decode cL_law 1965 = .ok (.aload_n 2, 1) := dLb_117.2.2.2.2.2.2.2
set_option maxRecDepth 20000 in
theorem dLb_118 : decode cL_law 1966 = .ok (.invokevirtual 227, 3) ∧ decode cL_law 1969 = .ok (.istore 7, 2) ∧ decode cL_law 1971 = .ok (.aload_n 2, 1) ∧ decode cL_law 1972 = .ok (.invokevirtual 144, 3) ∧ decode cL_law 1975 = .ok (.iload 6, 2) ∧ decode cL_law 1977 = .ok (.if_icmp .eq 5, 3) ∧ decode cL_law 1982 = .ok (.iload 6, 2) ∧ decode cL_law 1984 = .ok (.ifCond .ne 15, 3) := by decide +kernel
theorem dL_law_1966 : decode cL_law 1966 = .ok (.invokevirtual 227, 3) := dLb_118.1
theorem dL_law_1969 : decode cL_law 1969 = .ok (.istore 7, 2) := dLb_118.2.1
theorem dL_law_1971 : decode cL_law 1971 = .ok (.aload_n 2, 1) := dLb_118.2.2.1
theorem dL_law_1972 : decode cL_law 1972 = .ok (.invokevirtual 144, 3) := dLb_118.2.2.2.1
theorem dL_law_1975 : decode cL_law 1975 = .ok (.iload 6, 2) := dLb_118.2.2.2.2.1
theorem dL_law_1977 : decode cL_law 1977 = .ok (.if_icmp .eq 5, 3) := dLb_118.2.2.2.2.2.1
theorem dL_law_1982 : decode cL_law 1982 = .ok (.iload 6, 2) := dLb_118.2.2.2.2.2.2.1
theorem dL_law_1984 : decode cL_law 1984 = .ok (.ifCond .ne 15, 3) := dLb_118.2.2.2.2.2.2.2
set_option maxRecDepth 20000 in
theorem dLb_119 : decode cL_law 1999 = .ok (.goto 391, 3) ∧ decode cL_law 2002 = .ok (.aload_n 1, 1) ∧ decode cL_law 2003 = .ok (.aload_n 3, 1) ∧ decode cL_law 2004 = .ok (.invokestatic 228, 3) ∧ decode cL_law 2007 = .ok (.istore 6, 2) ∧ decode cL_law 2009 = .ok (.aload_n 2, 1) ∧ decode cL_law 2010 = .ok (.invokevirtual 230, 3) ∧ decode cL_law 2013 = .ok (.istore 7, 2) := by decide +kernel
theorem dL_law_1999 : decode cL_law 1999 = .ok (.goto 391, 3) := dLb_119.1
theorem dL_law_2002 : decode cL_law 2002 = .ok (.aload_n 1, 1) := dLb_119.2.1
theorem dL_law_2003 : decode cL_law 2003 = .ok (.aload_n 3, 1) := dLb_119.2.2.1
theorem dL_law_2004 : decode cL_law 2004 = .ok (.invokestatic 228, 3) := dLb_119.2.2.2.1
theorem dL_law_2007 : decode cL_law 2007 = .ok (.istore 6, 2) := dLb_119.2.2.2.2.1
theorem dL_law_2009 : decode cL_law 2009 = .ok (.aload_n 2, 1) := dLb_119.2.2.2.2.2.1
theorem dL_law_2010 : decode cL_law 2010 = .ok (.invokevirtual 230, 3) := dLb_119.2.2.2.2.2.2.1
theorem dL_law_2013 : decode cL_law 2013 = .ok (.istore 7, 2) := dLb_119.2.2.2.2.2.2.2
set_option maxRecDepth 20000 in
theorem dLb_120 : decode cL_law 2015 = .ok (.aload_n 2, 1) ∧ decode cL_law 2016 = .ok (.invokevirtual 144, 3) ∧ decode cL_law 2019 = .ok (.iload 6, 2) ∧ decode cL_law 2021 = .ok (.if_icmp .eq 5, 3) ∧ decode cL_law 2026 = .ok (.iload 6, 2) ∧ decode cL_law 2028 = .ok (.ifCond .ne 15, 3) ∧ decode cL_law 2043 = .ok (.goto 347, 3) ∧ decode cL_law 2046 = .ok (.aload_n 1, 1) := by decide +kernel
theorem dL_law_2015 : decode cL_law 2015 = .ok (.aload_n 2, 1) := dLb_120.1
theorem dL_law_2016 : decode cL_law 2016 = .ok (.invokevirtual 144, 3) := dLb_120.2.1
theorem dL_law_2019 : decode cL_law 2019 = .ok (.iload 6, 2) := dLb_120.2.2.1
theorem dL_law_2021 : decode cL_law 2021 = .ok (.if_icmp .eq 5, 3) := dLb_120.2.2.2.1
theorem dL_law_2026 : decode cL_law 2026 = .ok (.iload 6, 2) := dLb_120.2.2.2.2.1
theorem dL_law_2028 : decode cL_law 2028 = .ok (.ifCond .ne 15, 3) := dLb_120.2.2.2.2.2.1
theorem dL_law_2043 : decode cL_law 2043 = .ok (.goto 347, 3) := dLb_120.2.2.2.2.2.2.1
theorem dL_law_2046 : decode cL_law 2046 = .ok (.aload_n 1, 1) := dLb_120.2.2.2.2.2.2.2
set_option maxRecDepth 20000 in
theorem dLb_121 : decode cL_law 2047 = .ok (.aload_n 3, 1) ∧ decode cL_law 2048 = .ok (.invokestatic 231, 3) ∧ decode cL_law 2051 = .ok (.istore 6, 2) ∧ decode cL_law 2053 = .ok (.aload_n 2, 1) ∧ decode cL_law 2054 = .ok (.invokevirtual 233, 3) ∧ decode cL_law 2057 = .ok (.istore 7, 2) ∧ decode cL_law 2059 = .ok (.aload_n 2, 1) ∧ decode cL_law 2060 = .ok (.invokevirtual 144, 3) := by decide +kernel
theorem dL_law_2047 : decode cL_law 2047 = .ok (.aload_n 3, 1) := dLb_121.1
theorem dL_law_2048 : decode cL_law 2048 = .ok (.invokestatic 231, 3) := dLb_121.2.1
theorem dL_law_2051 : decode cL_law 2051 = .ok (.istore 6, 2) := dLb_121.2.2.1
theorem dL_law_2053 : decode cL_law 2053 = .ok (.aload_n 2, 1) := dLb_121.2.2.2.1
theorem dL_law_2054 : decode cL_law 2054 = .ok (.invokevirtual 233, 3) := dLb_121.2.2.2.2.1
theorem dL_law_2057 : decode cL_law 2057 = .ok (.istore 7, 2) := dLb_121.2.2.2.2.2.1
theorem dL_law_2059 : decode cL_law 2059 = .ok (.aload_n 2, 1) := dLb_121.2.2.2.2.2.2.1
theorem dL_law_2060 : decode cL_law 2060 = .ok (.invokevirtual 144, 3) := dLb_121.2.2.2.2.2.2.2
set_option maxRecDepth 20000 in
theorem dLb_122 : decode cL_law 2063 = .ok (.iload 6, 2) ∧ decode cL_law 2065 = .ok (.if_icmp .eq 5, 3) ∧ decode cL_law 2070 = .ok (.iload 6, 2) ∧ decode cL_law 2072 = .ok (.ifCond .ne 15, 3) ∧ decode cL_law 2087 = .ok (.goto 303, 3) ∧ decode cL_law 2090 = .ok (.aload_n 1, 1) ∧ decode cL_law 2091 = .ok (.aload_n 3, 1) ∧ decode cL_law 2092 = .ok (.invokestatic 234, 3) := by decide +kernel
theorem dL_law_2063 : decode cL_law 2063 = .ok (.iload 6, 2) := dLb_122.1
theorem dL_law_2065 : decode cL_law 2065 = .ok (.if_icmp .eq 5, 3) := dLb_122.2.1
theorem dL_law_2070 : decode cL_law 2070 = .ok (.iload 6, 2) := dLb_122.2.2.1
theorem dL_law_2072 : decode cL_law 2072 = .ok (.ifCond .ne 15, 3) := dLb_122.2.2.2.1
theorem dL_law_2087 : decode cL_law 2087 = .ok (.goto 303, 3) := dLb_122.2.2.2.2.1
theorem dL_law_2090 : decode cL_law 2090 = .ok (.aload_n 1, 1) := dLb_122.2.2.2.2.2.1
theorem dL_law_2091 : decode cL_law 2091 = .ok (.aload_n 3, 1) := dLb_122.2.2.2.2.2.2.1
theorem dL_law_2092 : decode cL_law 2092 = .ok (.invokestatic 234, 3) := dLb_122.2.2.2.2.2.2.2
set_option maxRecDepth 20000 in
theorem dLb_123 : decode cL_law 2095 = .ok (.istore 6, 2) ∧ decode cL_law 2097 = .ok (.aload_n 2, 1) ∧ decode cL_law 2098 = .ok (.invokevirtual 236, 3) ∧ decode cL_law 2101 = .ok (.istore 7, 2) ∧ decode cL_law 2103 = .ok (.aload_n 2, 1) ∧ decode cL_law 2104 = .ok (.invokevirtual 144, 3) ∧ decode cL_law 2107 = .ok (.iload 6, 2) ∧ decode cL_law 2109 = .ok (.if_icmp .eq 5, 3) := by decide +kernel
theorem dL_law_2095 : decode cL_law 2095 = .ok (.istore 6, 2) := dLb_123.1
theorem dL_law_2097 : decode cL_law 2097 = .ok (.aload_n 2, 1) := dLb_123.2.1
theorem dL_law_2098 : decode cL_law 2098 = .ok (.invokevirtual 236, 3) := dLb_123.2.2.1
theorem dL_law_2101 : decode cL_law 2101 = .ok (.istore 7, 2) := dLb_123.2.2.2.1
theorem dL_law_2103 : decode cL_law 2103 = .ok (.aload_n 2, 1) := dLb_123.2.2.2.2.1
theorem dL_law_2104 : decode cL_law 2104 = .ok (.invokevirtual 144, 3) := dLb_123.2.2.2.2.2.1
theorem dL_law_2107 : decode cL_law 2107 = .ok (.iload 6, 2) := dLb_123.2.2.2.2.2.2.1
theorem dL_law_2109 : decode cL_law 2109 = .ok (.if_icmp .eq 5, 3) := dLb_123.2.2.2.2.2.2.2
set_option maxRecDepth 20000 in
theorem dLb_124 : decode cL_law 2114 = .ok (.iload 6, 2) ∧ decode cL_law 2116 = .ok (.ifCond .ne 15, 3) ∧ decode cL_law 2131 = .ok (.goto 259, 3) ∧ decode cL_law 2134 = .ok (.aload_n 1, 1) ∧ decode cL_law 2135 = .ok (.aload_n 0, 1) ∧ decode cL_law 2136 = .ok (.iload 5, 2) ∧ decode cL_law 2138 = .ok (.iconst 1, 1) ∧ decode cL_law 2139 = .ok (.iadd, 1) := by decide +kernel
theorem dL_law_2114 : decode cL_law 2114 = .ok (.iload 6, 2) := dLb_124.1
theorem dL_law_2116 : decode cL_law 2116 = .ok (.ifCond .ne 15, 3) := dLb_124.2.1
theorem dL_law_2131 : decode cL_law 2131 = .ok (.goto 259, 3) := dLb_124.2.2.1
theorem dL_law_2134 : decode cL_law 2134 = .ok (.aload_n 1, 1) := dLb_124.2.2.2.1
theorem dL_law_2135 : decode cL_law 2135 = .ok (.aload_n 0, 1) := dLb_124.2.2.2.2.1
theorem dL_law_2136 : decode cL_law 2136 = .ok (.iload 5, 2) := dLb_124.2.2.2.2.2.1
theorem dL_law_2138 : decode cL_law 2138 = .ok (.iconst 1, 1) := dLb_124.2.2.2.2.2.2.1
theorem dL_law_2139 : decode cL_law 2139 = .ok (.iadd, 1) := dLb_124.2.2.2.2.2.2.2
