theorem dL_law_1658 : decode cL_law 1658 = .ok (.lcmp, 1) := by decide +kernel
theorem dL_law_1659 : decode cL_law 1659 = .ok (.ifCond .eq 5, 3) := by decide +kernel
theorem dL_law_1662 : decode cL_law 1662 = .ok (.iconst 0, 1) := by decide +kernel
theorem dL_law_1663 : decode cL_law 1663 = .ok (.ireturn, 1) := by decide +kernel
theorem dL_law_1664 : decode cL_law 1664 = .ok (.goto 436, 3) := by decide +kernel
theorem dL_law_1667 : decode cL_law 1667 = .ok (.aload_n 1, 1) := by decide +kernel
theorem dL_law_1668 : decode cL_law 1668 = .ok (.invokevirtual 214, 3) := by decide +kernel
theorem dL_law_1671 : decode cL_law 1671 = .ok (.aload_n 2, 1) := by decide +kernel
theorem dL_law_1672 : decode cL_law 1672 = .ok (.invokevirtual 217, 3) := by decide +kernel
theorem dL_law_1675 : decode cL_law 1675 = .ok (.if_icmp .eq 425, 3) := by decide +kernel
theorem dL_law_1678 : decode cL_law 1678 = .ok (.iconst 0, 1) := by decide +kernel
theorem dL_law_1679 : decode cL_law 1679 = .ok (.ireturn, 1) := by decide +kernel
theorem dL_law_1680 : decode cL_law 1680 = .ok (.aload_n 1, 1) := by decide +kernel
theorem dL_law_1681 : decode cL_law 1681 = .ok (.aload_n 0, 1) := by decide +kernel
theorem dL_law_1682 : decode cL_law 1682 = .ok (.iload 5, 2) := by decide +kernel
theorem dL_law_1684 : decode cL_law 1684 = .ok (.iconst 1, 1) := by decide +kernel
theorem dL_law_1685 : decode cL_law 1685 = .ok (.iadd, 1) := by decide +kernel
theorem dL_law_1686 : decode cL_law 1686 = .ok (.iaload, 1) := by decide +kernel
theorem dL_law_1687 : decode cL_law 1687 = .ok (.aload_n 3, 1) := by decide +kernel
theorem dL_law_1688 : decode cL_law 1688 = .ok (.invokestatic 218, 3) := by decide +kernel
theorem dL_law_1691 : decode cL_law 1691 = .ok (.istore 6, 2) := by decide +kernel
theorem dL_law_1693 : decode cL_law 1693 = .ok (.aload_n 2, 1) := by decide +kernel
theorem dL_law_1694 : decode cL_law 1694 = .ok (.aload_n 0, 1) := by decide +kernel
theorem dL_law_1695 : decode cL_law 1695 = .ok (.iload 5, 2) := by decide +kernel
theorem dL_law_1697 : decode cL_law 1697 = .ok (.iconst 1, 1) := by decide +kernel
theorem dL_law_1698 : decode cL_law 1698 = .ok (.iadd, 1) := by decide +kernel
theorem dL_law_1699 : decode cL_law 1699 = .ok (.iaload, 1) := by decide +kernel
theorem dL_law_1700 : decode cL_law 1700 = .ok (.invokevirtual 220, 3) := by decide +kernel
theorem dL_law_1703 : decode cL_law 1703 = .ok (.istore 7, 2) := by decide +kernel
theorem dL_law_1705 : decode cL_law 1705 = .ok (.aload_n 2, 1) := by decide +kernel
theorem dL_law_1706 : decode cL_law 1706 = .ok (.invokevirtual 123, 3) := by decide +kernel
theorem dL_law_1709 : decode cL_law 1709 = .ok (.iload 6, 2) := by decide +kernel
theorem dL_law_1711 : decode cL_law 1711 = .ok (.if_icmp .eq 5, 3) := by decide +kernel
theorem dL_law_1714 : decode cL_law 1714 = .ok (.iconst 0, 1) := by decide +kernel
theorem dL_law_1715 : decode cL_law 1715 = .ok (.ireturn, 1) := by decide +kernel
theorem dL_law_1716 : decode cL_law 1716 = .ok (.iload 6, 2) := by decide +kernel
theorem dL_law_1718 : decode cL_law 1718 = .ok (.ifCond .ne 15, 3) := by decide +kernel
theorem dL_law_1721 : decode cL_law 1721 = .ok (.aload_n 3, 1) := by decide +kernel
theorem dL_law_1722 : decode cL_law 1722 = .ok (.iconst 0, 1) := by decide +kernel
theorem dL_law_1723 : decode cL_law 1723 = .ok (.laload, 1) := by decide +kernel
theorem dL_law_1724 : decode cL_law 1724 = .ok (.iload 7, 2) := by decide +kernel
theorem dL_law_1726 : decode cL_law 1726 = .ok (.i2l, 1) := by decide +kernel
theorem dL_law_1727 : decode cL_law 1727 = .ok (.lcmp, 1) := by decide +kernel
theorem dL_law_1728 : decode cL_law 1728 = .ok (.ifCond .eq 5, 3) := by decide +kernel
theorem dL_law_1731 : decode cL_law 1731 = .ok (.iconst 0, 1) := by decide +kernel
theorem dL_law_1732 : decode cL_law 1732 = .ok (.ireturn, 1) := by decide +kernel
theorem dL_law_1733 : decode cL_law 1733 = .ok (.goto 367, 3) := by decide +kernel
theorem dL_law_1736 : decode cL_law 1736 = .ok (.aload_n 1, 1) := by decide +kernel
theorem dL_law_1737 : decode cL_law 1737 = .ok (.aload_n 0, 1) := by decide +kernel
theorem dL_law_1738 : decode cL_law 1738 = .ok (.iload 5, 2) := by decide +kernel
theorem dL_law_1740 : decode cL_law 1740 = .ok (.iconst 1, 1) := by decide +kernel
theorem dL_law_1741 : decode cL_law 1741 = .ok (.iadd, 1) := by decide +kernel
theorem dL_law_1742 : decode cL_law 1742 = .ok (.iaload, 1) := by decide +kernel
theorem dL_law_1743 : decode cL_law 1743 = .ok (.aload_n 0, 1) := by decide +kernel
theorem dL_law_1744 : decode cL_law 1744 = .ok (.iload 5, 2) := by decide +kernel
theorem dL_law_1746 : decode cL_law 1746 = .ok (.iconst 2, 1) := by decide +kernel
theorem dL_law_1747 : decode cL_law 1747 = .ok (.iadd, 1) := by decide +kernel
theorem dL_law_1748 : decode cL_law 1748 = .ok (.iaload, 1) := by decide +kernel
theorem dL_law_1749 : decode cL_law 1749 = .ok (.aload_n 3, 1) := by decide +kernel
theorem dL_law_1750 : decode cL_law 1750 = .ok (.invokestatic 221, 3) := by decide +kernel
theorem dL_law_1753 : decode cL_law 1753 = .ok (.istore 6, 2) := by decide +kernel
theorem dL_law_1755 : decode cL_law 1755 = .ok (.aload_n 2, 1) := by decide +kernel
theorem dL_law_1756 : decode cL_law 1756 = .ok (.aload_n 0, 1) := by decide +kernel
theorem dL_law_1757 : decode cL_law 1757 = .ok (.iload 5, 2) := by decide +kernel
theorem dL_law_1759 : decode cL_law 1759 = .ok (.iconst 1, 1) := by decide +kernel
theorem dL_law_1760 : decode cL_law 1760 = .ok (.iadd, 1) := by decide +kernel
theorem dL_law_1761 : decode cL_law 1761 = .ok (.iaload, 1) := by decide +kernel
theorem dL_law_1762 : decode cL_law 1762 = .ok (.aload_n 0, 1) := by decide +kernel
theorem dL_law_1763 : decode cL_law 1763 = .ok (.iload 5, 2) := by decide +kernel
theorem dL_law_1765 : decode cL_law 1765 = .ok (.iconst 2, 1) := by decide +kernel
theorem dL_law_1766 : decode cL_law 1766 = .ok (.iadd, 1) := by decide +kernel
theorem dL_law_1767 : decode cL_law 1767 = .ok (.iaload, 1) := by decide +kernel
theorem dL_law_1768 : decode cL_law 1768 = .ok (.invokevirtual 223, 3) := by decide +kernel
theorem dL_law_1771 : decode cL_law 1771 = .ok (.istore 7, 2) := by decide +kernel
theorem dL_law_1773 : decode cL_law 1773 = .ok (.aload_n 2, 1) := by decide +kernel
theorem dL_law_1774 : decode cL_law 1774 = .ok (.invokevirtual 123, 3) := by decide +kernel
theorem dL_law_1777 : decode cL_law 1777 = .ok (.iload 6, 2) := by decide +kernel
theorem dL_law_1779 : decode cL_law 1779 = .ok (.if_icmp .eq 5, 3) := by decide +kernel
theorem dL_law_1782 : decode cL_law 1782 = .ok (.iconst 0, 1) := by decide +kernel
theorem dL_law_1783 : decode cL_law 1783 = .ok (.ireturn, 1) := by decide +kernel
theorem dL_law_1784 : decode cL_law 1784 = .ok (.iload 6, 2) := by decide +kernel
theorem dL_law_1786 : decode cL_law 1786 = .ok (.ifCond .ne 15, 3) := by decide +kernel
theorem dL_law_1789 : decode cL_law 1789 = .ok (.aload_n 3, 1) := by decide +kernel
theorem dL_law_1790 : decode cL_law 1790 = .ok (.iconst 0, 1) := by decide +kernel
theorem dL_law_1791 : decode cL_law 1791 = .ok (.laload, 1) := by decide +kernel
theorem dL_law_1792 : decode cL_law 1792 = .ok (.iload 7, 2) := by decide +kernel
theorem dL_law_1794 : decode cL_law 1794 = .ok (.i2l, 1) := by decide +kernel
theorem dL_law_1795 : decode cL_law 1795 = .ok (.lcmp, 1) := by decide +kernel
theorem dL_law_1796 : decode cL_law 1796 = .ok (.ifCond .eq 5, 3) := by decide +kernel
theorem dL_law_1799 : decode cL_law 1799 = .ok (.iconst 0, 1) := by decide +kernel
theorem dL_law_1800 : decode cL_law 1800 = .ok (.ireturn, 1) := by decide +kernel
theorem dL_law_1801 : decode cL_law 1801 = .ok (.goto 299, 3) := by decide +kernel
theorem dL_law_1804 : decode cL_law 1804 = .ok (.aload_n 1, 1) := by decide +kernel
theorem dL_law_1805 : decode cL_law 1805 = .ok (.aload_n 0, 1) := by decide +kernel
theorem dL_law_1806 : decode cL_law 1806 = .ok (.iload 5, 2) := by decide +kernel
theorem dL_law_1808 : decode cL_law 1808 = .ok (.iconst 1, 1) := by decide +kernel
theorem dL_law_1809 : decode cL_law 1809 = .ok (.iadd, 1) := by decide +kernel
theorem dL_law_1810 : decode cL_law 1810 = .ok (.iaload, 1) := by decide +kernel
theorem dL_law_1811 : decode cL_law 1811 = .ok (.aload_n 3, 1) := by decide +kernel
theorem dL_law_1812 : decode cL_law 1812 = .ok (.invokestatic 224, 3) := by decide +kernel
theorem dL_law_1815 : decode cL_law 1815 = .ok (.istore 6, 2) := by decide +kernel
theorem dL_law_1817 : decode cL_law 1817 = .ok (.aload_n 2, 1) := by decide +kernel
theorem dL_law_1818 : decode cL_law 1818 = .ok (.aload_n 0, 1) := by decide +kernel
theorem dL_law_1819 : decode cL_law 1819 = .ok (.iload 5, 2) := by decide +kernel
theorem dL_law_1821 : decode cL_law 1821 = .ok (.iconst 1, 1) := by decide +kernel
theorem dL_law_1822 : decode cL_law 1822 = .ok (.iadd, 1) := by decide +kernel
theorem dL_law_1823 : decode cL_law 1823 = .ok (.iaload, 1) := by decide +kernel
theorem dL_law_1824 : decode cL_law 1824 = .ok (.invokevirtual 226, 3) := by decide +kernel
theorem dL_law_1827 : decode cL_law 1827 = .ok (.istore 7, 2) := by decide +kernel
theorem dL_law_1829 : decode cL_law 1829 = .ok (.aload_n 2, 1) := by decide +kernel
theorem dL_law_1830 : decode cL_law 1830 = .ok (.invokevirtual 123, 3) := by decide +kernel
theorem dL_law_1833 : decode cL_law 1833 = .ok (.iload 6, 2) := by decide +kernel
theorem dL_law_1835 : decode cL_law 1835 = .ok (.if_icmp .eq 5, 3) := by decide +kernel
theorem dL_law_1838 : decode cL_law 1838 = .ok (.iconst 0, 1) := by decide +kernel
theorem dL_law_1839 : decode cL_law 1839 = .ok (.ireturn, 1) := by decide +kernel
theorem dL_law_1840 : decode cL_law 1840 = .ok (.iload 6, 2) := by decide +kernel
theorem dL_law_1842 : decode cL_law 1842 = .ok (.ifCond .ne 15, 3) := by decide +kernel
theorem dL_law_1845 : decode cL_law 1845 = .ok (.aload_n 3, 1) := by decide +kernel
theorem dL_law_1846 : decode cL_law 1846 = .ok (.iconst 0, 1) := by decide +kernel
theorem dL_law_1847 : decode cL_law 1847 = .ok (.laload, 1) := by decide +kernel
theorem dL_law_1848 : decode cL_law 1848 = .ok (.iload 7, 2) := by decide +kernel
theorem dL_law_1850 : decode cL_law 1850 = .ok (.i2l, 1) := by decide +kernel
theorem dL_law_1851 : decode cL_law 1851 = .ok (.lcmp, 1) := by decide +kernel
theorem dL_law_1852 : decode cL_law 1852 = .ok (.ifCond .eq 5, 3) := by decide +kernel
theorem dL_law_1855 : decode cL_law 1855 = .ok (.iconst 0, 1) := by decide +kernel
theorem dL_law_1856 : decode cL_law 1856 = .ok (.ireturn, 1) := by decide +kernel
theorem dL_law_1857 : decode cL_law 1857 = .ok (.goto 243, 3) := by decide +kernel
theorem dL_law_1860 : decode cL_law 1860 = .ok (.aload_n 1, 1) := by decide +kernel
theorem dL_law_1861 : decode cL_law 1861 = .ok (.aload_n 0, 1) := by decide +kernel
theorem dL_law_1862 : decode cL_law 1862 = .ok (.iload 5, 2) := by decide +kernel
theorem dL_law_1864 : decode cL_law 1864 = .ok (.iconst 1, 1) := by decide +kernel
theorem dL_law_1865 : decode cL_law 1865 = .ok (.iadd, 1) := by decide +kernel
theorem dL_law_1866 : decode cL_law 1866 = .ok (.iaload, 1) := by decide +kernel
theorem dL_law_1867 : decode cL_law 1867 = .ok (.aload_n 3, 1) := by decide +kernel
theorem dL_law_1868 : decode cL_law 1868 = .ok (.invokestatic 227, 3) := by decide +kernel
theorem dL_law_1871 : decode cL_law 1871 = .ok (.istore 6, 2) := by decide +kernel
theorem dL_law_1873 : decode cL_law 1873 = .ok (.aload_n 2, 1) := by decide +kernel
theorem dL_law_1874 : decode cL_law 1874 = .ok (.aload_n 0, 1) := by decide +kernel
theorem dL_law_1875 : decode cL_law 1875 = .ok (.iload 5, 2) := by decide +kernel
theorem dL_law_1877 : decode cL_law 1877 = .ok (.iconst 1, 1) := by decide +kernel
theorem dL_law_1878 : decode cL_law 1878 = .ok (.iadd, 1) := by decide +kernel
theorem dL_law_1879 : decode cL_law 1879 = .ok (.iaload, 1) := by decide +kernel
theorem dL_law_1880 : decode cL_law 1880 = .ok (.invokevirtual 229, 3) := by decide +kernel
theorem dL_law_1883 : decode cL_law 1883 = .ok (.istore 7, 2) := by decide +kernel
theorem dL_law_1885 : decode cL_law 1885 = .ok (.aload_n 2, 1) := by decide +kernel
theorem dL_law_1886 : decode cL_law 1886 = .ok (.invokevirtual 123, 3) := by decide +kernel
theorem dL_law_1889 : decode cL_law 1889 = .ok (.iload 6, 2) := by decide +kernel
theorem dL_law_1891 : decode cL_law 1891 = .ok (.if_icmp .eq 5, 3) := by decide +kernel
theorem dL_law_1894 : decode cL_law 1894 = .ok (.iconst 0, 1) := by decide +kernel
theorem dL_law_1895 : decode cL_law 1895 = .ok (.ireturn, 1) := by decide +kernel
theorem dL_law_1896 : decode cL_law 1896 = .ok (.iload 6, 2) := by decide +kernel
theorem dL_law_1898 : decode cL_law 1898 = .ok (.ifCond .ne 15, 3) := by decide +kernel
theorem dL_law_1901 : decode cL_law 1901 = .ok (.aload_n 3, 1) := by decide +kernel
theorem dL_law_1902 : decode cL_law 1902 = .ok (.iconst 0, 1) := by decide +kernel
theorem dL_law_1903 : decode cL_law 1903 = .ok (.laload, 1) := by decide +kernel
theorem dL_law_1904 : decode cL_law 1904 = .ok (.iload 7, 2) := by decide +kernel
theorem dL_law_1906 : decode cL_law 1906 = .ok (.i2l, 1) := by decide +kernel
theorem dL_law_1907 : decode cL_law 1907 = .ok (.lcmp, 1) := by decide +kernel
theorem dL_law_1908 : decode cL_law 1908 = .ok (.ifCond .eq 5, 3) := by decide +kernel
theorem dL_law_1911 : decode cL_law 1911 = .ok (.iconst 0, 1) := by decide +kernel
theorem dL_law_1912 : decode cL_law 1912 = .ok (.ireturn, 1) := by decide +kernel
theorem dL_law_1913 : decode cL_law 1913 = .ok (.goto 187, 3) := by decide +kernel
theorem dL_law_1916 : decode cL_law 1916 = .ok (.aload_n 1, 1) := by decide +kernel
theorem dL_law_1917 : decode cL_law 1917 = .ok (.invokevirtual 230, 3) := by decide +kernel
theorem dL_law_1920 : decode cL_law 1920 = .ok (.aload_n 2, 1) := by decide +kernel
theorem dL_law_1921 : decode cL_law 1921 = .ok (.invokevirtual 233, 3) := by decide +kernel
theorem dL_law_1924 : decode cL_law 1924 = .ok (.if_icmp .eq 176, 3) := by decide +kernel
theorem dL_law_1927 : decode cL_law 1927 = .ok (.iconst 0, 1) := by decide +kernel
theorem dL_law_1928 : decode cL_law 1928 = .ok (.ireturn, 1) := by decide +kernel
theorem dL_law_1929 : decode cL_law 1929 = .ok (.aload_n 1, 1) := by decide +kernel
theorem dL_law_1930 : decode cL_law 1930 = .ok (.invokevirtual 234, 3) := by decide +kernel
theorem dL_law_1933 : decode cL_law 1933 = .ok (.aload_n 2, 1) := by decide +kernel
theorem dL_law_1934 : decode cL_law 1934 = .ok (.invokevirtual 237, 3) := by decide +kernel
theorem dL_law_1937 : decode cL_law 1937 = .ok (.if_icmp .eq 163, 3) := by decide +kernel
theorem dL_law_1940 : decode cL_law 1940 = .ok (.iconst 0, 1) := by decide +kernel
theorem dL_law_1941 : decode cL_law 1941 = .ok (.ireturn, 1) := by decide +kernel
theorem dL_law_1942 : decode cL_law 1942 = .ok (.aload_n 1, 1) := by decide +kernel
theorem dL_law_1943 : decode cL_law 1943 = .ok (.invokevirtual 238, 3) := by decide +kernel
theorem dL_law_1946 : decode cL_law 1946 = .ok (.aload_n 2, 1) := by decide +kernel
theorem dL_law_1947 : decode cL_law 1947 = .ok (.invokevirtual 242, 3) := by decide +kernel
theorem dL_law_1950 : decode cL_law 1950 = .ok (.lcmp, 1) := by decide +kernel
theorem dL_law_1951 : decode cL_law 1951 = .ok (.ifCond .eq 149, 3) := by decide +kernel
theorem dL_law_1954 : decode cL_law 1954 = .ok (.iconst 0, 1) := by decide +kernel
theorem dL_law_1955 : decode cL_law 1955 = .ok (.ireturn, 1) := by decide +kernel
theorem dL_law_1956 : decode cL_law 1956 = .ok (.aload_n 1, 1) := by decide +kernel
theorem dL_law_1957 : decode cL_law 1957 = .ok (.aload 4, 2) := by decide +kernel
theorem dL_law_1959 : decode cL_law 1959 = .ok (.invokestatic 243, 3) := by decide +kernel
theorem dL_law_1962 : decode cL_law 1962 = .ok (.istore 6, 2) := by decide +kernel
theorem dL_law_1964 : decode cL_law 1964 = .ok (.aload_n 2, 1) := by decide +kernel
theorem dL_law_1965 : decode cL_law 1965 = .ok (.invokevirtual 246, 3) := by decide +kernel
theorem dL_law_1968 : decode cL_law 1968 = .ok (.dstore 7, 2) := by decide +kernel
theorem dL_law_1970 : decode cL_law 1970 = .ok (.aload_n 2, 1) := by decide +kernel
theorem dL_law_1971 : decode cL_law 1971 = .ok (.invokevirtual 123, 3) := by decide +kernel
theorem dL_law_1974 : decode cL_law 1974 = .ok (.iload 6, 2) := by decide +kernel
theorem dL_law_1976 : decode cL_law 1976 = .ok (.if_icmp .eq 5, 3) := by decide +kernel
theorem dL_law_1979 : decode cL_law 1979 = .ok (.iconst 0, 1) := by decide +kernel
theorem dL_law_1980 : decode cL_law 1980 = .ok (.ireturn, 1) := by decide +kernel
theorem dL_law_1981 : decode cL_law 1981 = .ok (.iload 6, 2) := by decide +kernel
theorem dL_law_1983 : decode cL_law 1983 = .ok (.ifCond .ne 35, 3) := by decide +kernel
theorem dL_law_1986 : decode cL_law 1986 = .ok (.aload 4, 2) := by decide +kernel
theorem dL_law_1988 : decode cL_law 1988 = .ok (.iconst 0, 1) := by decide +kernel
theorem dL_law_1989 : decode cL_law 1989 = .ok (.daload, 1) := by decide +kernel
theorem dL_law_1990 : decode cL_law 1990 = .ok (.dload 7, 2) := by decide +kernel
theorem dL_law_1992 : decode cL_law 1992 = .ok (.dcmp .l, 1) := by decide +kernel
theorem dL_law_1993 : decode cL_law 1993 = .ok (.ifCond .eq 25, 3) := by decide +kernel
theorem dL_law_1996 : decode cL_law 1996 = .ok (.aload 4, 2) := by decide +kernel
theorem dL_law_1998 : decode cL_law 1998 = .ok (.iconst 0, 1) := by decide +kernel
theorem dL_law_1999 : decode cL_law 1999 = .ok (.daload, 1) := by decide +kernel
theorem dL_law_2000 : decode cL_law 2000 = .ok (.aload 4, 2) := by decide +kernel
theorem dL_law_2002 : decode cL_law 2002 = .ok (.iconst 0, 1) := by decide +kernel
theorem dL_law_2003 : decode cL_law 2003 = .ok (.daload, 1) := by decide +kernel
theorem dL_law_2004 : decode cL_law 2004 = .ok (.dcmp .l, 1) := by decide +kernel
theorem dL_law_2005 : decode cL_law 2005 = .ok (.ifCond .eq 11, 3) := by decide +kernel
theorem dL_law_2008 : decode cL_law 2008 = .ok (.dload 7, 2) := by decide +kernel
theorem dL_law_2010 : decode cL_law 2010 = .ok (.dload 7, 2) := by decide +kernel
theorem dL_law_2012 : decode cL_law 2012 = .ok (.dcmp .l, 1) := by decide +kernel
theorem dL_law_2013 : decode cL_law 2013 = .ok (.ifCond .ne 5, 3) := by decide +kernel
theorem dL_law_2016 : decode cL_law 2016 = .ok (.iconst 0, 1) := by decide +kernel
theorem dL_law_2017 : decode cL_law 2017 = .ok (.ireturn, 1) := by decide +kernel
theorem dL_law_2018 : decode cL_law 2018 = .ok (.goto 82, 3) := by decide +kernel
theorem dL_law_2021 : decode cL_law 2021 = .ok (.aload_n 1, 1) := by decide +kernel
theorem dL_law_2022 : decode cL_law 2022 = .ok (.aload 4, 2) := by decide +kernel
theorem dL_law_2024 : decode cL_law 2024 = .ok (.invokestatic 247, 3) := by decide +kernel
theorem dL_law_2027 : decode cL_law 2027 = .ok (.istore 6, 2) := by decide +kernel
theorem dL_law_2029 : decode cL_law 2029 = .ok (.aload_n 2, 1) := by decide +kernel
theorem dL_law_2030 : decode cL_law 2030 = .ok (.invokevirtual 249, 3) := by decide +kernel
theorem dL_law_2033 : decode cL_law 2033 = .ok (.fstore 7, 2) := by decide +kernel
theorem dL_law_2035 : decode cL_law 2035 = .ok (.aload_n 2, 1) := by decide +kernel
theorem dL_law_2036 : decode cL_law 2036 = .ok (.invokevirtual 123, 3) := by decide +kernel
theorem dL_law_2039 : decode cL_law 2039 = .ok (.iload 6, 2) := by decide +kernel
theorem dL_law_2041 : decode cL_law 2041 = .ok (.if_icmp .eq 5, 3) := by decide +kernel
theorem dL_law_2044 : decode cL_law 2044 = .ok (.iconst 0, 1) := by decide +kernel
theorem dL_law_2045 : decode cL_law 2045 = .ok (.ireturn, 1) := by decide +kernel
theorem dL_law_2046 : decode cL_law 2046 = .ok (.iload 6, 2) := by decide +kernel
theorem dL_law_2048 : decode cL_law 2048 = .ok (.ifCond .ne 36, 3) := by decide +kernel
theorem dL_law_2051 : decode cL_law 2051 = .ok (.aload 4, 2) := by decide +kernel
theorem dL_law_2053 : decode cL_law 2053 = .ok (.iconst 0, 1) := by decide +kernel
theorem dL_law_2054 : decode cL_law 2054 = .ok (.daload, 1) := by decide +kernel
theorem dL_law_2055 : decode cL_law 2055 = .ok (.fload 7, 2) := by decide +kernel
theorem dL_law_2057 : decode cL_law 2057 = .ok (.f2d, 1) := by decide +kernel
theorem dL_law_2058 : decode cL_law 2058 = .ok (.dcmp .l, 1) := by decide +kernel
theorem dL_law_2059 : decode cL_law 2059 = .ok (.ifCond .eq 25, 3) := by decide +kernel
theorem dL_law_2062 : decode cL_law 2062 = .ok (.aload 4, 2) := by decide +kernel
theorem dL_law_2064 : decode cL_law 2064 = .ok (.iconst 0, 1) := by decide +kernel
theorem dL_law_2065 : decode cL_law 2065 = .ok (.daload, 1) := by decide +kernel
theorem dL_law_2066 : decode cL_law 2066 = .ok (.aload 4, 2) := by decide +kernel
theorem dL_law_2068 : decode cL_law 2068 = .ok (.iconst 0, 1) := by decide +kernel
theorem dL_law_2069 : decode cL_law 2069 = .ok (.daload, 1) := by decide +kernel
theorem dL_law_2070 : decode cL_law 2070 = .ok (.dcmp .l, 1) := by decide +kernel
theorem dL_law_2071 : decode cL_law 2071 = .ok (.ifCond .eq 11, 3) := by decide +kernel
theorem dL_law_2074 : decode cL_law 2074 = .ok (.fload 7, 2) := by decide +kernel
theorem dL_law_2076 : decode cL_law 2076 = .ok (.fload 7, 2) := by decide +kernel
theorem dL_law_2078 : decode cL_law 2078 = .ok (.fcmp .l, 1) := by decide +kernel
theorem dL_law_2079 : decode cL_law 2079 = .ok (.ifCond .ne 5, 3) := by decide +kernel
theorem dL_law_2082 : decode cL_law 2082 = .ok (.iconst 0, 1) := by decide +kernel
theorem dL_law_2083 : decode cL_law 2083 = .ok (.ireturn, 1) := by decide +kernel
theorem dL_law_2084 : decode cL_law 2084 = .ok (.goto 16, 3) := by decide +kernel
theorem dL_law_2087 : decode cL_law 2087 = .ok (.aload_n 1, 1) := by decide +kernel
theorem dL_law_2088 : decode cL_law 2088 = .ok (.invokevirtual 250, 3) := by decide +kernel
theorem dL_law_2091 : decode cL_law 2091 = .ok (.aload_n 2, 1) := by decide +kernel
theorem dL_law_2092 : decode cL_law 2092 = .ok (.invokevirtual 254, 3) := by decide +kernel
theorem dL_law_2095 : decode cL_law 2095 = .ok (.if_icmp .eq 5, 3) := by decide +kernel
theorem dL_law_2098 : decode cL_law 2098 = .ok (.iconst 0, 1) := by decide +kernel
theorem dL_law_2099 : decode cL_law 2099 = .ok (.ireturn, 1) := by decide +kernel
theorem dL_law_2100 : decode cL_law 2100 = .ok (.iinc 5 5, 3) := by decide +kernel
theorem dL_law_2103 : decode cL_law 2103 = .ok (.goto (-2075), 3) := by decide +kernel
theorem dL_law_2106 : decode cL_law 2106 = .ok (.iconst 1, 1) := by decide +kernel
theorem dL_law_2107 : decode cL_law 2107 = .ok (.ireturn, 1) := by decide +kernel
